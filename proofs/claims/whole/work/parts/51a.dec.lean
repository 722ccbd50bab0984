theorem dL_addTrack_0 : decode cL_addTrack 0 = .ok (.aload_n 3, 1) := by decide +kernel
theorem dL_addTrack_1 : decode cL_addTrack 1 = .ok (.iconst 0, 1) := by decide +kernel
theorem dL_addTrack_2 : decode cL_addTrack 2 = .ok (.aload_n 0, 1) := by decide +kernel
theorem dL_addTrack_3 : decode cL_addTrack 3 = .ok (.iload_n 1, 1) := by decide +kernel
theorem dL_addTrack_4 : decode cL_addTrack 4 = .ok (.iload_n 2, 1) := by decide +kernel
theorem dL_addTrack_5 : decode cL_addTrack 5 = .ok (.invokevirtual 7, 3) := by decide +kernel
theorem dL_addTrack_8 : decode cL_addTrack 8 = .ok (.i2l, 1) := by decide +kernel
theorem dL_addTrack_9 : decode cL_addTrack 9 = .ok (.lastore, 1) := by decide +kernel
theorem dL_addTrack_10 : decode cL_addTrack 10 = .ok (.goto 11, 3) := by decide +kernel
theorem dL_addTrack_13 : decode cL_addTrack 13 = .ok (.astore 4, 2) := by decide +kernel
theorem dL_addTrack_15 : decode cL_addTrack 15 = .ok (.iconst 1, 1) := by decide +kernel
theorem dL_addTrack_16 : decode cL_addTrack 16 = .ok (.ireturn, 1) := by decide +kernel
theorem dL_addTrack_17 : decode cL_addTrack 17 = .ok (.astore 4, 2) := by decide +kernel
theorem dL_addTrack_19 : decode cL_addTrack 19 = .ok (.iconst 2, 1) := by decide +kernel
theorem dL_addTrack_20 : decode cL_addTrack 20 = .ok (.ireturn, 1) := by decide +kernel
theorem dL_addTrack_21 : decode cL_addTrack 21 = .ok (.iconst 0, 1) := by decide +kernel
theorem dL_addTrack_22 : decode cL_addTrack 22 = .ok (.ireturn, 1) := by decide +kernel
theorem dL_set_0 : decode cL_set 0 = .ok (.aload 5, 2) := by decide +kernel
theorem dL_set_2 : decode cL_set 2 = .ok (.iconst 0, 1) := by decide +kernel
theorem dL_set_3 : decode cL_set 3 = .ok (.aload_n 0, 1) := by decide +kernel
theorem dL_set_4 : decode cL_set 4 = .ok (.iload_n 1, 1) := by decide +kernel
theorem dL_set_5 : decode cL_set 5 = .ok (.iload_n 2, 1) := by decide +kernel
theorem dL_set_6 : decode cL_set 6 = .ok (.iload_n 3, 1) := by decide +kernel
theorem dL_set_7 : decode cL_set 7 = .ok (.iload 4, 2) := by decide +kernel
theorem dL_set_9 : decode cL_set 9 = .ok (.invokevirtual 17, 3) := by decide +kernel
theorem dL_set_12 : decode cL_set 12 = .ok (.i2l, 1) := by decide +kernel
theorem dL_set_13 : decode cL_set 13 = .ok (.lastore, 1) := by decide +kernel
theorem dL_set_14 : decode cL_set 14 = .ok (.goto 11, 3) := by decide +kernel
theorem dL_set_17 : decode cL_set 17 = .ok (.astore 6, 2) := by decide +kernel
theorem dL_set_19 : decode cL_set 19 = .ok (.iconst 1, 1) := by decide +kernel
theorem dL_set_20 : decode cL_set 20 = .ok (.ireturn, 1) := by decide +kernel
theorem dL_set_21 : decode cL_set 21 = .ok (.astore 6, 2) := by decide +kernel
theorem dL_set_23 : decode cL_set 23 = .ok (.iconst 2, 1) := by decide +kernel
theorem dL_set_24 : decode cL_set 24 = .ok (.ireturn, 1) := by decide +kernel
theorem dL_set_25 : decode cL_set 25 = .ok (.iconst 0, 1) := by decide +kernel
theorem dL_set_26 : decode cL_set 26 = .ok (.ireturn, 1) := by decide +kernel
theorem dL_setTurn_0 : decode cL_setTurn 0 = .ok (.aload 5, 2) := by decide +kernel
theorem dL_setTurn_2 : decode cL_setTurn 2 = .ok (.iconst 0, 1) := by decide +kernel
theorem dL_setTurn_3 : decode cL_setTurn 3 = .ok (.aload_n 0, 1) := by decide +kernel
theorem dL_setTurn_4 : decode cL_setTurn 4 = .ok (.iload_n 1, 1) := by decide +kernel
theorem dL_setTurn_5 : decode cL_setTurn 5 = .ok (.iload_n 2, 1) := by decide +kernel
theorem dL_setTurn_6 : decode cL_setTurn 6 = .ok (.iload_n 3, 1) := by decide +kernel
theorem dL_setTurn_7 : decode cL_setTurn 7 = .ok (.iload 4, 2) := by decide +kernel
theorem dL_setTurn_9 : decode cL_setTurn 9 = .ok (.invokevirtual 23, 3) := by decide +kernel
theorem dL_setTurn_12 : decode cL_setTurn 12 = .ok (.i2l, 1) := by decide +kernel
theorem dL_setTurn_13 : decode cL_setTurn 13 = .ok (.lastore, 1) := by decide +kernel
theorem dL_setTurn_14 : decode cL_setTurn 14 = .ok (.goto 11, 3) := by decide +kernel
theorem dL_setTurn_17 : decode cL_setTurn 17 = .ok (.astore 6, 2) := by decide +kernel
theorem dL_setTurn_19 : decode cL_setTurn 19 = .ok (.iconst 1, 1) := by decide +kernel
theorem dL_setTurn_20 : decode cL_setTurn 20 = .ok (.ireturn, 1) := by decide +kernel
theorem dL_setTurn_21 : decode cL_setTurn 21 = .ok (.astore 6, 2) := by decide +kernel
theorem dL_setTurn_23 : decode cL_setTurn 23 = .ok (.iconst 2, 1) := by decide +kernel
theorem dL_setTurn_24 : decode cL_setTurn 24 = .ok (.ireturn, 1) := by decide +kernel
theorem dL_setTurn_25 : decode cL_setTurn 25 = .ok (.iconst 0, 1) := by decide +kernel
theorem dL_setTurn_26 : decode cL_setTurn 26 = .ok (.ireturn, 1) := by decide +kernel
theorem dL_step_0 : decode cL_step 0 = .ok (.aload 4, 2) := by decide +kernel
theorem dL_step_2 : decode cL_step 2 = .ok (.iconst 0, 1) := by decide +kernel
theorem dL_step_3 : decode cL_step 3 = .ok (.aload_n 0, 1) := by decide +kernel
theorem dL_step_4 : decode cL_step 4 = .ok (.iload_n 1, 1) := by decide +kernel
theorem dL_step_5 : decode cL_step 5 = .ok (.iload_n 2, 1) := by decide +kernel
theorem dL_step_6 : decode cL_step 6 = .ok (.iload_n 3, 1) := by decide +kernel
theorem dL_step_7 : decode cL_step 7 = .ok (.invokevirtual 26, 3) := by decide +kernel
theorem dL_step_10 : decode cL_step 10 = .ok (.i2l, 1) := by decide +kernel
theorem dL_step_11 : decode cL_step 11 = .ok (.lastore, 1) := by decide +kernel
theorem dL_step_12 : decode cL_step 12 = .ok (.goto 7, 3) := by decide +kernel
theorem dL_step_15 : decode cL_step 15 = .ok (.astore 5, 2) := by decide +kernel
theorem dL_step_17 : decode cL_step 17 = .ok (.iconst 1, 1) := by decide +kernel
theorem dL_step_18 : decode cL_step 18 = .ok (.ireturn, 1) := by decide +kernel
theorem dL_step_19 : decode cL_step 19 = .ok (.iconst 0, 1) := by decide +kernel
theorem dL_step_20 : decode cL_step 20 = .ok (.ireturn, 1) := by decide +kernel
theorem dL_track_0 : decode cL_track 0 = .ok (.aload_n 3, 1) := by decide +kernel
theorem dL_track_1 : decode cL_track 1 = .ok (.iconst 0, 1) := by decide +kernel
theorem dL_track_2 : decode cL_track 2 = .ok (.aload_n 0, 1) := by decide +kernel
theorem dL_track_3 : decode cL_track 3 = .ok (.iload_n 1, 1) := by decide +kernel
theorem dL_track_4 : decode cL_track 4 = .ok (.iload_n 2, 1) := by decide +kernel
theorem dL_track_5 : decode cL_track 5 = .ok (.invokevirtual 30, 3) := by decide +kernel
theorem dL_track_8 : decode cL_track 8 = .ok (.i2l, 1) := by decide +kernel
theorem dL_track_9 : decode cL_track 9 = .ok (.lastore, 1) := by decide +kernel
theorem dL_track_10 : decode cL_track 10 = .ok (.goto 7, 3) := by decide +kernel
theorem dL_track_13 : decode cL_track 13 = .ok (.astore 4, 2) := by decide +kernel
theorem dL_track_15 : decode cL_track 15 = .ok (.iconst 1, 1) := by decide +kernel
theorem dL_track_16 : decode cL_track 16 = .ok (.ireturn, 1) := by decide +kernel
theorem dL_track_17 : decode cL_track 17 = .ok (.iconst 0, 1) := by decide +kernel
theorem dL_track_18 : decode cL_track 18 = .ok (.ireturn, 1) := by decide +kernel
theorem dL_tune_0 : decode cL_tune 0 = .ok (.aload 5, 2) := by decide +kernel
theorem dL_tune_2 : decode cL_tune 2 = .ok (.iconst 0, 1) := by decide +kernel
theorem dL_tune_3 : decode cL_tune 3 = .ok (.aload_n 0, 1) := by decide +kernel
theorem dL_tune_4 : decode cL_tune 4 = .ok (.iload_n 1, 1) := by decide +kernel
theorem dL_tune_5 : decode cL_tune 5 = .ok (.iload_n 2, 1) := by decide +kernel
theorem dL_tune_6 : decode cL_tune 6 = .ok (.iload_n 3, 1) := by decide +kernel
theorem dL_tune_7 : decode cL_tune 7 = .ok (.iload 4, 2) := by decide +kernel
theorem dL_tune_9 : decode cL_tune 9 = .ok (.invokevirtual 33, 3) := by decide +kernel
theorem dL_tune_12 : decode cL_tune 12 = .ok (.i2l, 1) := by decide +kernel
theorem dL_tune_13 : decode cL_tune 13 = .ok (.lastore, 1) := by decide +kernel
theorem dL_tune_14 : decode cL_tune 14 = .ok (.goto 11, 3) := by decide +kernel
theorem dL_tune_17 : decode cL_tune 17 = .ok (.astore 6, 2) := by decide +kernel
theorem dL_tune_19 : decode cL_tune 19 = .ok (.iconst 1, 1) := by decide +kernel
theorem dL_tune_20 : decode cL_tune 20 = .ok (.ireturn, 1) := by decide +kernel
theorem dL_tune_21 : decode cL_tune 21 = .ok (.astore 6, 2) := by decide +kernel
theorem dL_tune_23 : decode cL_tune 23 = .ok (.iconst 2, 1) := by decide +kernel
theorem dL_tune_24 : decode cL_tune 24 = .ok (.ireturn, 1) := by decide +kernel
theorem dL_tune_25 : decode cL_tune 25 = .ok (.iconst 0, 1) := by decide +kernel
theorem dL_tune_26 : decode cL_tune 26 = .ok (.ireturn, 1) := by decide +kernel
theorem dL_turn_0 : decode cL_turn 0 = .ok (.aload 4, 2) := by decide +kernel
theorem dL_turn_2 : decode cL_turn 2 = .ok (.iconst 0, 1) := by decide +kernel
theorem dL_turn_3 : decode cL_turn 3 = .ok (.aload_n 0, 1) := by decide +kernel
theorem dL_turn_4 : decode cL_turn 4 = .ok (.iload_n 1, 1) := by decide +kernel
theorem dL_turn_5 : decode cL_turn 5 = .ok (.iload_n 2, 1) := by decide +kernel
theorem dL_turn_6 : decode cL_turn 6 = .ok (.iload_n 3, 1) := by decide +kernel
theorem dL_turn_7 : decode cL_turn 7 = .ok (.invokevirtual 36, 3) := by decide +kernel
theorem dL_turn_10 : decode cL_turn 10 = .ok (.ifCond .eq 7, 3) := by decide +kernel
theorem dL_turn_13 : decode cL_turn 13 = .ok (.lconst 1, 1) := by decide +kernel
theorem dL_turn_14 : decode cL_turn 14 = .ok (.goto 4, 3) := by decide +kernel
theorem dL_turn_17 : decode cL_turn 17 = .ok (.lconst 0, 1) := by decide +kernel
theorem dL_turn_18 : decode cL_turn 18 = .ok (.lastore, 1) := by decide +kernel
theorem dL_turn_19 : decode cL_turn 19 = .ok (.goto 7, 3) := by decide +kernel
theorem dL_turn_22 : decode cL_turn 22 = .ok (.astore 5, 2) := by decide +kernel
theorem dL_turn_24 : decode cL_turn 24 = .ok (.iconst 1, 1) := by decide +kernel
theorem dL_turn_25 : decode cL_turn 25 = .ok (.ireturn, 1) := by decide +kernel
theorem dL_turn_26 : decode cL_turn 26 = .ok (.iconst 0, 1) := by decide +kernel
theorem dL_turn_27 : decode cL_turn 27 = .ok (.ireturn, 1) := by decide +kernel
theorem dL_spread_0 : decode cL_spread 0 = .ok (.aload 4, 2) := by decide +kernel
theorem dL_spread_2 : decode cL_spread 2 = .ok (.iconst 0, 1) := by decide +kernel
theorem dL_spread_3 : decode cL_spread 3 = .ok (.aload_n 0, 1) := by decide +kernel
theorem dL_spread_4 : decode cL_spread 4 = .ok (.iload_n 1, 1) := by decide +kernel
theorem dL_spread_5 : decode cL_spread 5 = .ok (.iload_n 2, 1) := by decide +kernel
theorem dL_spread_6 : decode cL_spread 6 = .ok (.iload_n 3, 1) := by decide +kernel
theorem dL_spread_7 : decode cL_spread 7 = .ok (.invokevirtual 40, 3) := by decide +kernel
theorem dL_spread_10 : decode cL_spread 10 = .ok (.i2l, 1) := by decide +kernel
theorem dL_spread_11 : decode cL_spread 11 = .ok (.lastore, 1) := by decide +kernel
theorem dL_spread_12 : decode cL_spread 12 = .ok (.goto 11, 3) := by decide +kernel
theorem dL_spread_15 : decode cL_spread 15 = .ok (.astore 5, 2) := by decide +kernel
theorem dL_spread_17 : decode cL_spread 17 = .ok (.iconst 1, 1) := by decide +kernel
theorem dL_spread_18 : decode cL_spread 18 = .ok (.ireturn, 1) := by decide +kernel
theorem dL_spread_19 : decode cL_spread 19 = .ok (.astore 5, 2) := by decide +kernel
theorem dL_spread_21 : decode cL_spread 21 = .ok (.iconst 2, 1) := by decide +kernel
theorem dL_spread_22 : decode cL_spread 22 = .ok (.ireturn, 1) := by decide +kernel
theorem dL_spread_23 : decode cL_spread 23 = .ok (.iconst 0, 1) := by decide +kernel
theorem dL_spread_24 : decode cL_spread 24 = .ok (.ireturn, 1) := by decide +kernel
theorem dL_rotate_0 : decode cL_rotate 0 = .ok (.aload_n 3, 1) := by decide +kernel
theorem dL_rotate_1 : decode cL_rotate 1 = .ok (.iconst 0, 1) := by decide +kernel
theorem dL_rotate_2 : decode cL_rotate 2 = .ok (.aload_n 0, 1) := by decide +kernel
theorem dL_rotate_3 : decode cL_rotate 3 = .ok (.iload_n 1, 1) := by decide +kernel
theorem dL_rotate_4 : decode cL_rotate 4 = .ok (.iload_n 2, 1) := by decide +kernel
theorem dL_rotate_5 : decode cL_rotate 5 = .ok (.invokevirtual 43, 3) := by decide +kernel
theorem dL_rotate_8 : decode cL_rotate 8 = .ok (.i2l, 1) := by decide +kernel
theorem dL_rotate_9 : decode cL_rotate 9 = .ok (.lastore, 1) := by decide +kernel
theorem dL_rotate_10 : decode cL_rotate 10 = .ok (.goto 11, 3) := by decide +kernel
theorem dL_rotate_13 : decode cL_rotate 13 = .ok (.astore 4, 2) := by decide +kernel
theorem dL_rotate_15 : decode cL_rotate 15 = .ok (.iconst 1, 1) := by decide +kernel
theorem dL_rotate_16 : decode cL_rotate 16 = .ok (.ireturn, 1) := by decide +kernel
theorem dL_rotate_17 : decode cL_rotate 17 = .ok (.astore 4, 2) := by decide +kernel
theorem dL_rotate_19 : decode cL_rotate 19 = .ok (.iconst 2, 1) := by decide +kernel
theorem dL_rotate_20 : decode cL_rotate 20 = .ok (.ireturn, 1) := by decide +kernel
theorem dL_rotate_21 : decode cL_rotate 21 = .ok (.iconst 0, 1) := by decide +kernel
theorem dL_rotate_22 : decode cL_rotate 22 = .ok (.ireturn, 1) := by decide +kernel
theorem dL_stretch_0 : decode cL_stretch 0 = .ok (.aload_n 3, 1) := by decide +kernel
theorem dL_stretch_1 : decode cL_stretch 1 = .ok (.iconst 0, 1) := by decide +kernel
theorem dL_stretch_2 : decode cL_stretch 2 = .ok (.aload_n 0, 1) := by decide +kernel
theorem dL_stretch_3 : decode cL_stretch 3 = .ok (.iload_n 1, 1) := by decide +kernel
theorem dL_stretch_4 : decode cL_stretch 4 = .ok (.iload_n 2, 1) := by decide +kernel
theorem dL_stretch_5 : decode cL_stretch 5 = .ok (.invokevirtual 46, 3) := by decide +kernel
theorem dL_stretch_8 : decode cL_stretch 8 = .ok (.i2l, 1) := by decide +kernel
theorem dL_stretch_9 : decode cL_stretch 9 = .ok (.lastore, 1) := by decide +kernel
theorem dL_stretch_10 : decode cL_stretch 10 = .ok (.goto 11, 3) := by decide +kernel
theorem dL_stretch_13 : decode cL_stretch 13 = .ok (.astore 4, 2) := by decide +kernel
theorem dL_stretch_15 : decode cL_stretch 15 = .ok (.iconst 1, 1) := by decide +kernel
theorem dL_stretch_16 : decode cL_stretch 16 = .ok (.ireturn, 1) := by decide +kernel
theorem dL_stretch_17 : decode cL_stretch 17 = .ok (.astore 4, 2) := by decide +kernel
theorem dL_stretch_19 : decode cL_stretch 19 = .ok (.iconst 2, 1) := by decide +kernel
theorem dL_stretch_20 : decode cL_stretch 20 = .ok (.ireturn, 1) := by decide +kernel
theorem dL_stretch_21 : decode cL_stretch 21 = .ok (.iconst 0, 1) := by decide +kernel
theorem dL_stretch_22 : decode cL_stretch 22 = .ok (.ireturn, 1) := by decide +kernel
theorem dL_tap_0 : decode cL_tap 0 = .ok (.aload 4, 2) := by decide +kernel
theorem dL_tap_2 : decode cL_tap 2 = .ok (.iconst 0, 1) := by decide +kernel
theorem dL_tap_3 : decode cL_tap 3 = .ok (.aload_n 0, 1) := by decide +kernel
theorem dL_tap_4 : decode cL_tap 4 = .ok (.iload_n 1, 1) := by decide +kernel
theorem dL_tap_5 : decode cL_tap 5 = .ok (.iload_n 2, 1) := by decide +kernel
theorem dL_tap_6 : decode cL_tap 6 = .ok (.iload_n 3, 1) := by decide +kernel
theorem dL_tap_7 : decode cL_tap 7 = .ok (.invokevirtual 49, 3) := by decide +kernel
theorem dL_tap_10 : decode cL_tap 10 = .ok (.i2l, 1) := by decide +kernel
theorem dL_tap_11 : decode cL_tap 11 = .ok (.lastore, 1) := by decide +kernel
theorem dL_tap_12 : decode cL_tap 12 = .ok (.goto 11, 3) := by decide +kernel
theorem dL_tap_15 : decode cL_tap 15 = .ok (.astore 5, 2) := by decide +kernel
theorem dL_tap_17 : decode cL_tap 17 = .ok (.iconst 1, 1) := by decide +kernel
theorem dL_tap_18 : decode cL_tap 18 = .ok (.ireturn, 1) := by decide +kernel
theorem dL_tap_19 : decode cL_tap 19 = .ok (.astore 5, 2) := by decide +kernel
theorem dL_tap_21 : decode cL_tap 21 = .ok (.iconst 2, 1) := by decide +kernel
theorem dL_tap_22 : decode cL_tap 22 = .ok (.ireturn, 1) := by decide +kernel
theorem dL_tap_23 : decode cL_tap 23 = .ok (.iconst 0, 1) := by decide +kernel
theorem dL_tap_24 : decode cL_tap 24 = .ok (.ireturn, 1) := by decide +kernel
theorem dL_addSection_0 : decode cL_addSection 0 = .ok (.aload 4, 2) := by decide +kernel
theorem dL_addSection_2 : decode cL_addSection 2 = .ok (.iconst 0, 1) := by decide +kernel
theorem dL_addSection_3 : decode cL_addSection 3 = .ok (.aload_n 0, 1) := by decide +kernel
theorem dL_addSection_4 : decode cL_addSection 4 = .ok (.iload_n 1, 1) := by decide +kernel
theorem dL_addSection_5 : decode cL_addSection 5 = .ok (.iload_n 2, 1) := by decide +kernel
theorem dL_addSection_6 : decode cL_addSection 6 = .ok (.iload_n 3, 1) := by decide +kernel
theorem dL_addSection_7 : decode cL_addSection 7 = .ok (.invokevirtual 52, 3) := by decide +kernel
theorem dL_addSection_10 : decode cL_addSection 10 = .ok (.i2l, 1) := by decide +kernel
theorem dL_addSection_11 : decode cL_addSection 11 = .ok (.lastore, 1) := by decide +kernel
theorem dL_addSection_12 : decode cL_addSection 12 = .ok (.goto 11, 3) := by decide +kernel
theorem dL_addSection_15 : decode cL_addSection 15 = .ok (.astore 5, 2) := by decide +kernel
theorem dL_addSection_17 : decode cL_addSection 17 = .ok (.iconst 1, 1) := by decide +kernel
theorem dL_addSection_18 : decode cL_addSection 18 = .ok (.ireturn, 1) := by decide +kernel
theorem dL_addSection_19 : decode cL_addSection 19 = .ok (.astore 5, 2) := by decide +kernel
theorem dL_addSection_21 : decode cL_addSection 21 = .ok (.iconst 2, 1) := by decide +kernel
theorem dL_addSection_22 : decode cL_addSection 22 = .ok (.ireturn, 1) := by decide +kernel
theorem dL_addSection_23 : decode cL_addSection 23 = .ok (.iconst 0, 1) := by decide +kernel
theorem dL_addSection_24 : decode cL_addSection 24 = .ok (.ireturn, 1) := by decide +kernel
theorem dL_dropSection_0 : decode cL_dropSection 0 = .ok (.aload_n 1, 1) := by decide +kernel
theorem dL_dropSection_1 : decode cL_dropSection 1 = .ok (.iconst 0, 1) := by decide +kernel
theorem dL_dropSection_2 : decode cL_dropSection 2 = .ok (.aload_n 0, 1) := by decide +kernel
theorem dL_dropSection_3 : decode cL_dropSection 3 = .ok (.invokevirtual 56, 3) := by decide +kernel
theorem dL_dropSection_6 : decode cL_dropSection 6 = .ok (.i2l, 1) := by decide +kernel
theorem dL_dropSection_7 : decode cL_dropSection 7 = .ok (.lastore, 1) := by decide +kernel
theorem dL_dropSection_8 : decode cL_dropSection 8 = .ok (.goto 6, 3) := by decide +kernel
theorem dL_dropSection_11 : decode cL_dropSection 11 = .ok (.astore_n 2, 1) := by decide +kernel
theorem dL_dropSection_12 : decode cL_dropSection 12 = .ok (.iconst 1, 1) := by decide +kernel
theorem dL_dropSection_13 : decode cL_dropSection 13 = .ok (.ireturn, 1) := by decide +kernel
theorem dL_dropSection_14 : decode cL_dropSection 14 = .ok (.iconst 0, 1) := by decide +kernel
theorem dL_dropSection_15 : decode cL_dropSection 15 = .ok (.ireturn, 1) := by decide +kernel
theorem dL_sectionAt_0 : decode cL_sectionAt 0 = .ok (.aload_n 2, 1) := by decide +kernel
theorem dL_sectionAt_1 : decode cL_sectionAt 1 = .ok (.iconst 0, 1) := by decide +kernel
theorem dL_sectionAt_2 : decode cL_sectionAt 2 = .ok (.aload_n 0, 1) := by decide +kernel
theorem dL_sectionAt_3 : decode cL_sectionAt 3 = .ok (.iload_n 1, 1) := by decide +kernel
theorem dL_sectionAt_4 : decode cL_sectionAt 4 = .ok (.invokevirtual 60, 3) := by decide +kernel
theorem dL_sectionAt_7 : decode cL_sectionAt 7 = .ok (.i2l, 1) := by decide +kernel
theorem dL_sectionAt_8 : decode cL_sectionAt 8 = .ok (.lastore, 1) := by decide +kernel
theorem dL_sectionAt_9 : decode cL_sectionAt 9 = .ok (.goto 6, 3) := by decide +kernel
theorem dL_sectionAt_12 : decode cL_sectionAt 12 = .ok (.astore_n 3, 1) := by decide +kernel
theorem dL_sectionAt_13 : decode cL_sectionAt 13 = .ok (.iconst 1, 1) := by decide +kernel
theorem dL_sectionAt_14 : decode cL_sectionAt 14 = .ok (.ireturn, 1) := by decide +kernel
theorem dL_sectionAt_15 : decode cL_sectionAt 15 = .ok (.iconst 0, 1) := by decide +kernel
theorem dL_sectionAt_16 : decode cL_sectionAt 16 = .ok (.ireturn, 1) := by decide +kernel
theorem dL_loudness_0 : decode cL_loudness 0 = .ok (.aload_n 3, 1) := by decide +kernel
theorem dL_loudness_1 : decode cL_loudness 1 = .ok (.iconst 0, 1) := by decide +kernel
theorem dL_loudness_2 : decode cL_loudness 2 = .ok (.aload_n 0, 1) := by decide +kernel
theorem dL_loudness_3 : decode cL_loudness 3 = .ok (.iload_n 1, 1) := by decide +kernel
theorem dL_loudness_4 : decode cL_loudness 4 = .ok (.iload_n 2, 1) := by decide +kernel
theorem dL_loudness_5 : decode cL_loudness 5 = .ok (.invokevirtual 64, 3) := by decide +kernel
theorem dL_loudness_8 : decode cL_loudness 8 = .ok (.i2l, 1) := by decide +kernel
theorem dL_loudness_9 : decode cL_loudness 9 = .ok (.lastore, 1) := by decide +kernel
theorem dL_loudness_10 : decode cL_loudness 10 = .ok (.goto 11, 3) := by decide +kernel
theorem dL_loudness_13 : decode cL_loudness 13 = .ok (.astore 4, 2) := by decide +kernel
theorem dL_loudness_15 : decode cL_loudness 15 = .ok (.iconst 1, 1) := by decide +kernel
theorem dL_loudness_16 : decode cL_loudness 16 = .ok (.ireturn, 1) := by decide +kernel
theorem dL_loudness_17 : decode cL_loudness 17 = .ok (.astore 4, 2) := by decide +kernel
theorem dL_loudness_19 : decode cL_loudness 19 = .ok (.iconst 2, 1) := by decide +kernel
theorem dL_loudness_20 : decode cL_loudness 20 = .ok (.ireturn, 1) := by decide +kernel
theorem dL_loudness_21 : decode cL_loudness 21 = .ok (.iconst 0, 1) := by decide +kernel
theorem dL_loudness_22 : decode cL_loudness 22 = .ok (.ireturn, 1) := by decide +kernel
theorem dL_hits_0 : decode cL_hits 0 = .ok (.aload_n 2, 1) := by decide +kernel
theorem dL_hits_1 : decode cL_hits 1 = .ok (.iconst 0, 1) := by decide +kernel
theorem dL_hits_2 : decode cL_hits 2 = .ok (.aload_n 0, 1) := by decide +kernel
theorem dL_hits_3 : decode cL_hits 3 = .ok (.iload_n 1, 1) := by decide +kernel
theorem dL_hits_4 : decode cL_hits 4 = .ok (.invokevirtual 67, 3) := by decide +kernel
theorem dL_hits_7 : decode cL_hits 7 = .ok (.i2l, 1) := by decide +kernel
theorem dL_hits_8 : decode cL_hits 8 = .ok (.lastore, 1) := by decide +kernel
theorem dL_hits_9 : decode cL_hits 9 = .ok (.goto 6, 3) := by decide +kernel
theorem dL_hits_12 : decode cL_hits 12 = .ok (.astore_n 3, 1) := by decide +kernel
theorem dL_hits_13 : decode cL_hits 13 = .ok (.iconst 1, 1) := by decide +kernel
theorem dL_hits_14 : decode cL_hits 14 = .ok (.ireturn, 1) := by decide +kernel
theorem dL_hits_15 : decode cL_hits 15 = .ok (.iconst 0, 1) := by decide +kernel
theorem dL_hits_16 : decode cL_hits 16 = .ok (.ireturn, 1) := by decide +kernel
theorem dL_sounding_0 : decode cL_sounding 0 = .ok (.aload_n 2, 1) := by decide +kernel
theorem dL_sounding_1 : decode cL_sounding 1 = .ok (.iconst 0, 1) := by decide +kernel
theorem dL_sounding_2 : decode cL_sounding 2 = .ok (.aload_n 0, 1) := by decide +kernel
theorem dL_sounding_3 : decode cL_sounding 3 = .ok (.iload_n 1, 1) := by decide +kernel
theorem dL_sounding_4 : decode cL_sounding 4 = .ok (.invokevirtual 70, 3) := by decide +kernel
theorem dL_sounding_7 : decode cL_sounding 7 = .ok (.i2l, 1) := by decide +kernel
theorem dL_sounding_8 : decode cL_sounding 8 = .ok (.lastore, 1) := by decide +kernel
theorem dL_sounding_9 : decode cL_sounding 9 = .ok (.goto 6, 3) := by decide +kernel
theorem dL_sounding_12 : decode cL_sounding 12 = .ok (.astore_n 3, 1) := by decide +kernel
theorem dL_sounding_13 : decode cL_sounding 13 = .ok (.iconst 1, 1) := by decide +kernel
theorem dL_sounding_14 : decode cL_sounding 14 = .ok (.ireturn, 1) := by decide +kernel
theorem dL_sounding_15 : decode cL_sounding 15 = .ok (.iconst 0, 1) := by decide +kernel
theorem dL_sounding_16 : decode cL_sounding 16 = .ok (.ireturn, 1) := by decide +kernel
theorem dL_next_0 : decode cL_next 0 = .ok (.aload_n 3, 1) := by decide +kernel
theorem dL_next_1 : decode cL_next 1 = .ok (.iconst 0, 1) := by decide +kernel
theorem dL_next_2 : decode cL_next 2 = .ok (.aload_n 0, 1) := by decide +kernel
theorem dL_next_3 : decode cL_next 3 = .ok (.iload_n 1, 1) := by decide +kernel
theorem dL_next_4 : decode cL_next 4 = .ok (.iload_n 2, 1) := by decide +kernel
theorem dL_next_5 : decode cL_next 5 = .ok (.invokevirtual 73, 3) := by decide +kernel
theorem dL_next_8 : decode cL_next 8 = .ok (.i2l, 1) := by decide +kernel
theorem dL_next_9 : decode cL_next 9 = .ok (.lastore, 1) := by decide +kernel
theorem dL_next_10 : decode cL_next 10 = .ok (.goto 11, 3) := by decide +kernel
theorem dL_next_13 : decode cL_next 13 = .ok (.astore 4, 2) := by decide +kernel
theorem dL_next_15 : decode cL_next 15 = .ok (.iconst 1, 1) := by decide +kernel
theorem dL_next_16 : decode cL_next 16 = .ok (.ireturn, 1) := by decide +kernel
theorem dL_next_17 : decode cL_next 17 = .ok (.astore 4, 2) := by decide +kernel
theorem dL_next_19 : decode cL_next 19 = .ok (.iconst 2, 1) := by decide +kernel
theorem dL_next_20 : decode cL_next 20 = .ok (.ireturn, 1) := by decide +kernel
theorem dL_next_21 : decode cL_next 21 = .ok (.iconst 0, 1) := by decide +kernel
theorem dL_next_22 : decode cL_next 22 = .ok (.ireturn, 1) := by decide +kernel
theorem dL_count_0 : decode cL_count 0 = .ok (.aload 4, 2) := by decide +kernel
theorem dL_count_2 : decode cL_count 2 = .ok (.iconst 0, 1) := by decide +kernel
theorem dL_count_3 : decode cL_count 3 = .ok (.aload_n 0, 1) := by decide +kernel
theorem dL_count_4 : decode cL_count 4 = .ok (.iload_n 1, 1) := by decide +kernel
theorem dL_count_5 : decode cL_count 5 = .ok (.iload_n 2, 1) := by decide +kernel
theorem dL_count_6 : decode cL_count 6 = .ok (.iload_n 3, 1) := by decide +kernel
theorem dL_count_7 : decode cL_count 7 = .ok (.invokevirtual 76, 3) := by decide +kernel
theorem dL_count_10 : decode cL_count 10 = .ok (.i2l, 1) := by decide +kernel
theorem dL_count_11 : decode cL_count 11 = .ok (.lastore, 1) := by decide +kernel
theorem dL_count_12 : decode cL_count 12 = .ok (.goto 11, 3) := by decide +kernel
theorem dL_count_15 : decode cL_count 15 = .ok (.astore 5, 2) := by decide +kernel
theorem dL_count_17 : decode cL_count 17 = .ok (.iconst 1, 1) := by decide +kernel
theorem dL_count_18 : decode cL_count 18 = .ok (.ireturn, 1) := by decide +kernel
theorem dL_count_19 : decode cL_count 19 = .ok (.astore 5, 2) := by decide +kernel
theorem dL_count_21 : decode cL_count 21 = .ok (.iconst 2, 1) := by decide +kernel
theorem dL_count_22 : decode cL_count 22 = .ok (.ireturn, 1) := by decide +kernel
theorem dL_count_23 : decode cL_count 23 = .ok (.iconst 0, 1) := by decide +kernel
theorem dL_count_24 : decode cL_count 24 = .ok (.ireturn, 1) := by decide +kernel
theorem dL_together_0 : decode cL_together 0 = .ok (.aload 5, 2) := by decide +kernel
theorem dL_together_2 : decode cL_together 2 = .ok (.iconst 0, 1) := by decide +kernel
theorem dL_together_3 : decode cL_together 3 = .ok (.aload_n 0, 1) := by decide +kernel
theorem dL_together_4 : decode cL_together 4 = .ok (.iload_n 1, 1) := by decide +kernel
theorem dL_together_5 : decode cL_together 5 = .ok (.iload_n 2, 1) := by decide +kernel
theorem dL_together_6 : decode cL_together 6 = .ok (.iload_n 3, 1) := by decide +kernel
theorem dL_together_7 : decode cL_together 7 = .ok (.iload 4, 2) := by decide +kernel
theorem dL_together_9 : decode cL_together 9 = .ok (.invokevirtual 79, 3) := by decide +kernel
theorem dL_together_12 : decode cL_together 12 = .ok (.i2l, 1) := by decide +kernel
theorem dL_together_13 : decode cL_together 13 = .ok (.lastore, 1) := by decide +kernel
theorem dL_together_14 : decode cL_together 14 = .ok (.goto 11, 3) := by decide +kernel
theorem dL_together_17 : decode cL_together 17 = .ok (.astore 6, 2) := by decide +kernel
theorem dL_together_19 : decode cL_together 19 = .ok (.iconst 1, 1) := by decide +kernel
theorem dL_together_20 : decode cL_together 20 = .ok (.ireturn, 1) := by decide +kernel
theorem dL_together_21 : decode cL_together 21 = .ok (.astore 6, 2) := by decide +kernel
theorem dL_together_23 : decode cL_together 23 = .ok (.iconst 2, 1) := by decide +kernel
theorem dL_together_24 : decode cL_together 24 = .ok (.ireturn, 1) := by decide +kernel
theorem dL_together_25 : decode cL_together 25 = .ok (.iconst 0, 1) := by decide +kernel
theorem dL_together_26 : decode cL_together 26 = .ok (.ireturn, 1) := by decide +kernel
theorem dL_rounds_0 : decode cL_rounds 0 = .ok (.aload_n 2, 1) := by decide +kernel
theorem dL_rounds_1 : decode cL_rounds 1 = .ok (.iconst 0, 1) := by decide +kernel
theorem dL_rounds_2 : decode cL_rounds 2 = .ok (.aload_n 0, 1) := by decide +kernel
theorem dL_rounds_3 : decode cL_rounds 3 = .ok (.iload_n 1, 1) := by decide +kernel
theorem dL_rounds_4 : decode cL_rounds 4 = .ok (.invokevirtual 82, 3) := by decide +kernel
theorem dL_rounds_7 : decode cL_rounds 7 = .ok (.i2l, 1) := by decide +kernel
theorem dL_rounds_8 : decode cL_rounds 8 = .ok (.lastore, 1) := by decide +kernel
theorem dL_rounds_9 : decode cL_rounds 9 = .ok (.goto 6, 3) := by decide +kernel
theorem dL_rounds_12 : decode cL_rounds 12 = .ok (.astore_n 3, 1) := by decide +kernel
theorem dL_rounds_13 : decode cL_rounds 13 = .ok (.iconst 1, 1) := by decide +kernel
theorem dL_rounds_14 : decode cL_rounds 14 = .ok (.ireturn, 1) := by decide +kernel
theorem dL_rounds_15 : decode cL_rounds 15 = .ok (.iconst 0, 1) := by decide +kernel
theorem dL_rounds_16 : decode cL_rounds 16 = .ok (.ireturn, 1) := by decide +kernel
theorem dL_density_0 : decode cL_density 0 = .ok (.aload_n 2, 1) := by decide +kernel
theorem dL_density_1 : decode cL_density 1 = .ok (.iconst 0, 1) := by decide +kernel
theorem dL_density_2 : decode cL_density 2 = .ok (.aload_n 0, 1) := by decide +kernel
theorem dL_density_3 : decode cL_density 3 = .ok (.iload_n 1, 1) := by decide +kernel
theorem dL_density_4 : decode cL_density 4 = .ok (.invokevirtual 85, 3) := by decide +kernel
theorem dL_density_7 : decode cL_density 7 = .ok (.dastore, 1) := by decide +kernel
theorem dL_density_8 : decode cL_density 8 = .ok (.goto 6, 3) := by decide +kernel
theorem dL_density_11 : decode cL_density 11 = .ok (.astore_n 3, 1) := by decide +kernel
theorem dL_density_12 : decode cL_density 12 = .ok (.iconst 1, 1) := by decide +kernel
theorem dL_density_13 : decode cL_density 13 = .ok (.ireturn, 1) := by decide +kernel
theorem dL_density_14 : decode cL_density 14 = .ok (.iconst 0, 1) := by decide +kernel
theorem dL_density_15 : decode cL_density 15 = .ok (.ireturn, 1) := by decide +kernel
theorem dL_setSpeed_0 : decode cL_setSpeed 0 = .ok (.aload_n 2, 1) := by decide +kernel
theorem dL_setSpeed_1 : decode cL_setSpeed 1 = .ok (.iconst 0, 1) := by decide +kernel
theorem dL_setSpeed_2 : decode cL_setSpeed 2 = .ok (.aload_n 0, 1) := by decide +kernel
theorem dL_setSpeed_3 : decode cL_setSpeed 3 = .ok (.iload_n 1, 1) := by decide +kernel
theorem dL_setSpeed_4 : decode cL_setSpeed 4 = .ok (.invokevirtual 89, 3) := by decide +kernel
theorem dL_setSpeed_7 : decode cL_setSpeed 7 = .ok (.i2l, 1) := by decide +kernel
theorem dL_setSpeed_8 : decode cL_setSpeed 8 = .ok (.lastore, 1) := by decide +kernel
theorem dL_setSpeed_9 : decode cL_setSpeed 9 = .ok (.goto 6, 3) := by decide +kernel
theorem dL_setSpeed_12 : decode cL_setSpeed 12 = .ok (.astore_n 3, 1) := by decide +kernel
theorem dL_setSpeed_13 : decode cL_setSpeed 13 = .ok (.iconst 1, 1) := by decide +kernel
theorem dL_setSpeed_14 : decode cL_setSpeed 14 = .ok (.ireturn, 1) := by decide +kernel
theorem dL_setSpeed_15 : decode cL_setSpeed 15 = .ok (.iconst 0, 1) := by decide +kernel
theorem dL_setSpeed_16 : decode cL_setSpeed 16 = .ok (.ireturn, 1) := by decide +kernel
theorem dL_seconds_0 : decode cL_seconds 0 = .ok (.aload_n 2, 1) := by decide +kernel
theorem dL_seconds_1 : decode cL_seconds 1 = .ok (.iconst 0, 1) := by decide +kernel
theorem dL_seconds_2 : decode cL_seconds 2 = .ok (.aload_n 0, 1) := by decide +kernel
theorem dL_seconds_3 : decode cL_seconds 3 = .ok (.iload_n 1, 1) := by decide +kernel
theorem dL_seconds_4 : decode cL_seconds 4 = .ok (.invokevirtual 92, 3) := by decide +kernel
theorem dL_seconds_7 : decode cL_seconds 7 = .ok (.dastore, 1) := by decide +kernel
theorem dL_seconds_8 : decode cL_seconds 8 = .ok (.goto 6, 3) := by decide +kernel
theorem dL_seconds_11 : decode cL_seconds 11 = .ok (.astore_n 3, 1) := by decide +kernel
theorem dL_seconds_12 : decode cL_seconds 12 = .ok (.iconst 1, 1) := by decide +kernel
theorem dL_seconds_13 : decode cL_seconds 13 = .ok (.ireturn, 1) := by decide +kernel
theorem dL_seconds_14 : decode cL_seconds 14 = .ok (.iconst 0, 1) := by decide +kernel
theorem dL_seconds_15 : decode cL_seconds 15 = .ok (.ireturn, 1) := by decide +kernel
