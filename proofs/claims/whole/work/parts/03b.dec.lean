theorem dX2_init_0 : decode cX2_init 0 = .ok (.aload_n 0, 1) := by decide +kernel
theorem dX2_init_1 : decode cX2_init 1 = .ok (.invokespecial 1, 3) := by decide +kernel
theorem dX2_init_4 : decode cX2_init 4 = .ok (.aload_n 0, 1) := by decide +kernel
theorem dX2_init_5 : decode cX2_init 5 = .ok (.bipush 8, 2) := by decide +kernel
theorem dX2_init_7 : decode cX2_init 7 = .ok (.anewarray 9, 3) := by decide +kernel
theorem dX2_init_10 : decode cX2_init 10 = .ok (.putfield 11, 3) := by decide +kernel
theorem dX2_init_13 : decode cX2_init 13 = .ok (.aload_n 0, 1) := by decide +kernel
theorem dX2_init_14 : decode cX2_init 14 = .ok (.iconst 0, 1) := by decide +kernel
theorem dX2_init_15 : decode cX2_init 15 = .ok (.putfield 15, 3) := by decide +kernel
theorem dX2_init_18 : decode cX2_init 18 = .ok (.aload_n 0, 1) := by decide +kernel
theorem dX2_init_19 : decode cX2_init 19 = .ok (.bipush 12, 2) := by decide +kernel
theorem dX2_init_21 : decode cX2_init 21 = .ok (.anewarray 19, 3) := by decide +kernel
theorem dX2_init_24 : decode cX2_init 24 = .ok (.putfield 21, 3) := by decide +kernel
theorem dX2_init_27 : decode cX2_init 27 = .ok (.aload_n 0, 1) := by decide +kernel
theorem dX2_init_28 : decode cX2_init 28 = .ok (.iconst 0, 1) := by decide +kernel
theorem dX2_init_29 : decode cX2_init 29 = .ok (.putfield 25, 3) := by decide +kernel
theorem dX2_init_32 : decode cX2_init 32 = .ok (.aload_n 0, 1) := by decide +kernel
theorem dX2_init_33 : decode cX2_init 33 = .ok (.bipush 120, 2) := by decide +kernel
theorem dX2_init_35 : decode cX2_init 35 = .ok (.putfield 28, 3) := by decide +kernel
theorem dX2_init_38 : decode cX2_init 38 = .ok (.return_, 1) := by decide +kernel
theorem dX2_addTrack_0 : decode cX2_addTrack 0 = .ok (.iload_n 1, 1) := by decide +kernel
theorem dX2_addTrack_1 : decode cX2_addTrack 1 = .ok (.iconst 1, 1) := by decide +kernel
theorem dX2_addTrack_2 : decode cX2_addTrack 2 = .ok (.bipush 32, 2) := by decide +kernel
theorem dX2_addTrack_4 : decode cX2_addTrack 4 = .ok (.invokestatic 31, 3) := by decide +kernel
theorem dX2_addTrack_7 : decode cX2_addTrack 7 = .ok (.ifCond .eq 17, 3) := by decide +kernel
theorem dX2_addTrack_10 : decode cX2_addTrack 10 = .ok (.iload_n 2, 1) := by decide +kernel
theorem dX2_addTrack_11 : decode cX2_addTrack 11 = .ok (.iconst 1, 1) := by decide +kernel
theorem dX2_addTrack_12 : decode cX2_addTrack 12 = .ok (.bipush 48, 2) := by decide +kernel
theorem dX2_addTrack_14 : decode cX2_addTrack 14 = .ok (.invokestatic 31, 3) := by decide +kernel
theorem dX2_addTrack_17 : decode cX2_addTrack 17 = .ok (.ifCond .eq 7, 3) := by decide +kernel
theorem dX2_addTrack_20 : decode cX2_addTrack 20 = .ok (.iconst 1, 1) := by decide +kernel
theorem dX2_addTrack_21 : decode cX2_addTrack 21 = .ok (.goto 4, 3) := by decide +kernel
theorem dX2_addTrack_24 : decode cX2_addTrack 24 = .ok (.iconst 0, 1) := by decide +kernel
theorem dX2_addTrack_25 : decode cX2_addTrack 25 = .ok (.invokestatic 35, 3) := by decide +kernel
theorem dX2_addTrack_28 : decode cX2_addTrack 28 = .ok (.aload_n 0, 1) := by decide +kernel
theorem dX2_addTrack_29 : decode cX2_addTrack 29 = .ok (.getfield 15, 3) := by decide +kernel
theorem dX2_addTrack_32 : decode cX2_addTrack 32 = .ok (.istore_n 3, 1) := by decide +kernel
theorem dX2_addTrack_33 : decode cX2_addTrack 33 = .ok (.iload_n 3, 1) := by decide +kernel
theorem dX2_addTrack_34 : decode cX2_addTrack 34 = .ok (.ifCond .lt 12, 3) := by decide +kernel
theorem dX2_addTrack_37 : decode cX2_addTrack 37 = .ok (.iload_n 3, 1) := by decide +kernel
theorem dX2_addTrack_38 : decode cX2_addTrack 38 = .ok (.aload_n 0, 1) := by decide +kernel
theorem dX2_addTrack_39 : decode cX2_addTrack 39 = .ok (.getfield 11, 3) := by decide +kernel
theorem dX2_addTrack_42 : decode cX2_addTrack 42 = .ok (.arraylength, 1) := by decide +kernel
theorem dX2_addTrack_43 : decode cX2_addTrack 43 = .ok (.if_icmp .lt 13, 3) := by decide +kernel
theorem dX2_addTrack_46 : decode cX2_addTrack 46 = .ok (.new 39, 3) := by decide +kernel
theorem dX2_addTrack_49 : decode cX2_addTrack 49 = .ok (.dup, 1) := by decide +kernel
theorem dX2_addTrack_50 : decode cX2_addTrack 50 = .ok (.ldc 41, 2) := by decide +kernel
theorem dX2_addTrack_52 : decode cX2_addTrack 52 = .ok (.invokespecial 43, 3) := by decide +kernel
theorem dX2_addTrack_55 : decode cX2_addTrack 55 = .ok (.athrow, 1) := by decide +kernel
theorem dX2_addTrack_56 : decode cX2_addTrack 56 = .ok (.aload_n 0, 1) := by decide +kernel
theorem dX2_addTrack_57 : decode cX2_addTrack 57 = .ok (.getfield 11, 3) := by decide +kernel
theorem dX2_addTrack_60 : decode cX2_addTrack 60 = .ok (.iload_n 3, 1) := by decide +kernel
theorem dX2_addTrack_61 : decode cX2_addTrack 61 = .ok (.new 9, 3) := by decide +kernel
theorem dX2_addTrack_64 : decode cX2_addTrack 64 = .ok (.dup, 1) := by decide +kernel
theorem dX2_addTrack_65 : decode cX2_addTrack 65 = .ok (.iload_n 1, 1) := by decide +kernel
theorem dX2_addTrack_66 : decode cX2_addTrack 66 = .ok (.iload_n 2, 1) := by decide +kernel
theorem dX2_addTrack_67 : decode cX2_addTrack 67 = .ok (.invokespecial 46, 3) := by decide +kernel
theorem dX2_addTrack_70 : decode cX2_addTrack 70 = .ok (.aastore, 1) := by decide +kernel
theorem dX2_addTrack_71 : decode cX2_addTrack 71 = .ok (.aload_n 0, 1) := by decide +kernel
theorem dX2_addTrack_72 : decode cX2_addTrack 72 = .ok (.iload_n 3, 1) := by decide +kernel
theorem dX2_addTrack_73 : decode cX2_addTrack 73 = .ok (.iconst 1, 1) := by decide +kernel
theorem dX2_addTrack_74 : decode cX2_addTrack 74 = .ok (.iadd, 1) := by decide +kernel
theorem dX2_addTrack_75 : decode cX2_addTrack 75 = .ok (.putfield 15, 3) := by decide +kernel
theorem dX2_addTrack_78 : decode cX2_addTrack 78 = .ok (.iload_n 3, 1) := by decide +kernel
theorem dX2_addTrack_79 : decode cX2_addTrack 79 = .ok (.ireturn, 1) := by decide +kernel
theorem dX2_set_0 : decode cX2_set 0 = .ok (.aload_n 0, 1) := by decide +kernel
theorem dX2_set_1 : decode cX2_set 1 = .ok (.iload_n 1, 1) := by decide +kernel
theorem dX2_set_2 : decode cX2_set 2 = .ok (.iload_n 2, 1) := by decide +kernel
theorem dX2_set_3 : decode cX2_set 3 = .ok (.invokevirtual 49, 3) := by decide +kernel
theorem dX2_set_6 : decode cX2_set 6 = .ok (.astore 5, 2) := by decide +kernel
theorem dX2_set_8 : decode cX2_set 8 = .ok (.iload_n 3, 1) := by decide +kernel
theorem dX2_set_9 : decode cX2_set 9 = .ok (.iconst 0, 1) := by decide +kernel
theorem dX2_set_10 : decode cX2_set 10 = .ok (.bipush 127, 2) := by decide +kernel
theorem dX2_set_12 : decode cX2_set 12 = .ok (.invokestatic 31, 3) := by decide +kernel
theorem dX2_set_15 : decode cX2_set 15 = .ok (.ifCond .eq 17, 3) := by decide +kernel
theorem dX2_set_18 : decode cX2_set 18 = .ok (.iload 4, 2) := by decide +kernel
theorem dX2_set_20 : decode cX2_set 20 = .ok (.iconst 1, 1) := by decide +kernel
theorem dX2_set_21 : decode cX2_set 21 = .ok (.iconst 4, 1) := by decide +kernel
theorem dX2_set_22 : decode cX2_set 22 = .ok (.invokestatic 31, 3) := by decide +kernel
theorem dX2_set_25 : decode cX2_set 25 = .ok (.ifCond .eq 7, 3) := by decide +kernel
theorem dX2_set_28 : decode cX2_set 28 = .ok (.iconst 1, 1) := by decide +kernel
theorem dX2_set_29 : decode cX2_set 29 = .ok (.goto 4, 3) := by decide +kernel
theorem dX2_set_32 : decode cX2_set 32 = .ok (.iconst 0, 1) := by decide +kernel
theorem dX2_set_33 : decode cX2_set 33 = .ok (.invokestatic 35, 3) := by decide +kernel
theorem dX2_set_36 : decode cX2_set 36 = .ok (.aload 5, 2) := by decide +kernel
theorem dX2_set_38 : decode cX2_set 38 = .ok (.iload_n 2, 1) := by decide +kernel
theorem dX2_set_39 : decode cX2_set 39 = .ok (.iconst 0, 1) := by decide +kernel
theorem dX2_set_40 : decode cX2_set 40 = .ok (.invokevirtual 53, 3) := by decide +kernel
theorem dX2_set_43 : decode cX2_set 43 = .ok (.istore 6, 2) := by decide +kernel
theorem dX2_set_45 : decode cX2_set 45 = .ok (.aload 5, 2) := by decide +kernel
theorem dX2_set_47 : decode cX2_set 47 = .ok (.iload_n 2, 1) := by decide +kernel
theorem dX2_set_48 : decode cX2_set 48 = .ok (.iconst 0, 1) := by decide +kernel
theorem dX2_set_49 : decode cX2_set 49 = .ok (.iload_n 3, 1) := by decide +kernel
theorem dX2_set_50 : decode cX2_set 50 = .ok (.invokevirtual 57, 3) := by decide +kernel
theorem dX2_set_53 : decode cX2_set 53 = .ok (.aload 5, 2) := by decide +kernel
theorem dX2_set_55 : decode cX2_set 55 = .ok (.iload_n 2, 1) := by decide +kernel
theorem dX2_set_56 : decode cX2_set 56 = .ok (.iconst 1, 1) := by decide +kernel
theorem dX2_set_57 : decode cX2_set 57 = .ok (.iload 4, 2) := by decide +kernel
theorem dX2_set_59 : decode cX2_set 59 = .ok (.invokevirtual 57, 3) := by decide +kernel
theorem dX2_set_62 : decode cX2_set 62 = .ok (.iload 6, 2) := by decide +kernel
theorem dX2_set_64 : decode cX2_set 64 = .ok (.ireturn, 1) := by decide +kernel
theorem dX2_setTurn_0 : decode cX2_setTurn 0 = .ok (.aload_n 0, 1) := by decide +kernel
theorem dX2_setTurn_1 : decode cX2_setTurn 1 = .ok (.iload_n 1, 1) := by decide +kernel
theorem dX2_setTurn_2 : decode cX2_setTurn 2 = .ok (.iload_n 2, 1) := by decide +kernel
theorem dX2_setTurn_3 : decode cX2_setTurn 3 = .ok (.invokevirtual 49, 3) := by decide +kernel
theorem dX2_setTurn_6 : decode cX2_setTurn 6 = .ok (.astore 5, 2) := by decide +kernel
theorem dX2_setTurn_8 : decode cX2_setTurn 8 = .ok (.iload 4, 2) := by decide +kernel
theorem dX2_setTurn_10 : decode cX2_setTurn 10 = .ok (.iconst 1, 1) := by decide +kernel
theorem dX2_setTurn_11 : decode cX2_setTurn 11 = .ok (.bipush 8, 2) := by decide +kernel
theorem dX2_setTurn_13 : decode cX2_setTurn 13 = .ok (.invokestatic 31, 3) := by decide +kernel
theorem dX2_setTurn_16 : decode cX2_setTurn 16 = .ok (.ifCond .eq 19, 3) := by decide +kernel
theorem dX2_setTurn_19 : decode cX2_setTurn 19 = .ok (.iload_n 3, 1) := by decide +kernel
theorem dX2_setTurn_20 : decode cX2_setTurn 20 = .ok (.iconst 0, 1) := by decide +kernel
theorem dX2_setTurn_21 : decode cX2_setTurn 21 = .ok (.iload 4, 2) := by decide +kernel
theorem dX2_setTurn_23 : decode cX2_setTurn 23 = .ok (.iconst 1, 1) := by decide +kernel
theorem dX2_setTurn_24 : decode cX2_setTurn 24 = .ok (.isub, 1) := by decide +kernel
theorem dX2_setTurn_25 : decode cX2_setTurn 25 = .ok (.invokestatic 31, 3) := by decide +kernel
theorem dX2_setTurn_28 : decode cX2_setTurn 28 = .ok (.ifCond .eq 7, 3) := by decide +kernel
theorem dX2_setTurn_31 : decode cX2_setTurn 31 = .ok (.iconst 1, 1) := by decide +kernel
theorem dX2_setTurn_32 : decode cX2_setTurn 32 = .ok (.goto 4, 3) := by decide +kernel
theorem dX2_setTurn_35 : decode cX2_setTurn 35 = .ok (.iconst 0, 1) := by decide +kernel
theorem dX2_setTurn_36 : decode cX2_setTurn 36 = .ok (.invokestatic 35, 3) := by decide +kernel
theorem dX2_setTurn_39 : decode cX2_setTurn 39 = .ok (.aload 5, 2) := by decide +kernel
theorem dX2_setTurn_41 : decode cX2_setTurn 41 = .ok (.iload_n 2, 1) := by decide +kernel
theorem dX2_setTurn_42 : decode cX2_setTurn 42 = .ok (.iconst 3, 1) := by decide +kernel
theorem dX2_setTurn_43 : decode cX2_setTurn 43 = .ok (.invokevirtual 53, 3) := by decide +kernel
theorem dX2_setTurn_46 : decode cX2_setTurn 46 = .ok (.istore 6, 2) := by decide +kernel
theorem dX2_setTurn_48 : decode cX2_setTurn 48 = .ok (.aload 5, 2) := by decide +kernel
theorem dX2_setTurn_50 : decode cX2_setTurn 50 = .ok (.iload_n 2, 1) := by decide +kernel
theorem dX2_setTurn_51 : decode cX2_setTurn 51 = .ok (.iconst 2, 1) := by decide +kernel
theorem dX2_setTurn_52 : decode cX2_setTurn 52 = .ok (.iload_n 3, 1) := by decide +kernel
theorem dX2_setTurn_53 : decode cX2_setTurn 53 = .ok (.invokevirtual 57, 3) := by decide +kernel
theorem dX2_setTurn_56 : decode cX2_setTurn 56 = .ok (.aload 5, 2) := by decide +kernel
theorem dX2_setTurn_58 : decode cX2_setTurn 58 = .ok (.iload_n 2, 1) := by decide +kernel
theorem dX2_setTurn_59 : decode cX2_setTurn 59 = .ok (.iconst 3, 1) := by decide +kernel
theorem dX2_setTurn_60 : decode cX2_setTurn 60 = .ok (.iload 4, 2) := by decide +kernel
theorem dX2_setTurn_62 : decode cX2_setTurn 62 = .ok (.invokevirtual 57, 3) := by decide +kernel
theorem dX2_setTurn_65 : decode cX2_setTurn 65 = .ok (.iload 6, 2) := by decide +kernel
theorem dX2_setTurn_67 : decode cX2_setTurn 67 = .ok (.ireturn, 1) := by decide +kernel
theorem dX2_step_0 : decode cX2_step 0 = .ok (.aload_n 0, 1) := by decide +kernel
theorem dX2_step_1 : decode cX2_step 1 = .ok (.iload_n 1, 1) := by decide +kernel
theorem dX2_step_2 : decode cX2_step 2 = .ok (.iload_n 2, 1) := by decide +kernel
theorem dX2_step_3 : decode cX2_step 3 = .ok (.invokevirtual 49, 3) := by decide +kernel
theorem dX2_step_6 : decode cX2_step 6 = .ok (.astore 4, 2) := by decide +kernel
theorem dX2_step_8 : decode cX2_step 8 = .ok (.iload_n 3, 1) := by decide +kernel
theorem dX2_step_9 : decode cX2_step 9 = .ok (.iconst 0, 1) := by decide +kernel
theorem dX2_step_10 : decode cX2_step 10 = .ok (.iconst 4, 1) := by decide +kernel
theorem dX2_step_11 : decode cX2_step 11 = .ok (.invokestatic 31, 3) := by decide +kernel
theorem dX2_step_14 : decode cX2_step 14 = .ok (.invokestatic 61, 3) := by decide +kernel
theorem dX2_step_17 : decode cX2_step 17 = .ok (.iload_n 3, 1) := by decide +kernel
theorem dX2_step_18 : decode cX2_step 18 = .ok (.iconst 4, 1) := by decide +kernel
theorem dX2_step_19 : decode cX2_step 19 = .ok (.if_icmp .ne 12, 3) := by decide +kernel
theorem dX2_step_22 : decode cX2_step 22 = .ok (.aload 4, 2) := by decide +kernel
theorem dX2_step_24 : decode cX2_step 24 = .ok (.iload_n 2, 1) := by decide +kernel
theorem dX2_step_25 : decode cX2_step 25 = .ok (.invokevirtual 64, 3) := by decide +kernel
theorem dX2_step_28 : decode cX2_step 28 = .ok (.goto 10, 3) := by decide +kernel
theorem dX2_step_31 : decode cX2_step 31 = .ok (.aload 4, 2) := by decide +kernel
theorem dX2_step_33 : decode cX2_step 33 = .ok (.iload_n 2, 1) := by decide +kernel
theorem dX2_step_34 : decode cX2_step 34 = .ok (.iload_n 3, 1) := by decide +kernel
theorem dX2_step_35 : decode cX2_step 35 = .ok (.invokevirtual 53, 3) := by decide +kernel
theorem dX2_step_38 : decode cX2_step 38 = .ok (.ireturn, 1) := by decide +kernel
theorem dX2_track_0 : decode cX2_track 0 = .ok (.aload_n 0, 1) := by decide +kernel
theorem dX2_track_1 : decode cX2_track 1 = .ok (.iload_n 1, 1) := by decide +kernel
theorem dX2_track_2 : decode cX2_track 2 = .ok (.invokevirtual 68, 3) := by decide +kernel
theorem dX2_track_5 : decode cX2_track 5 = .ok (.astore_n 3, 1) := by decide +kernel
theorem dX2_track_6 : decode cX2_track 6 = .ok (.iload_n 2, 1) := by decide +kernel
theorem dX2_track_7 : decode cX2_track 7 = .ok (.iconst 0, 1) := by decide +kernel
theorem dX2_track_8 : decode cX2_track 8 = .ok (.bipush 7, 2) := by decide +kernel
theorem dX2_track_10 : decode cX2_track 10 = .ok (.invokestatic 31, 3) := by decide +kernel
theorem dX2_track_13 : decode cX2_track 13 = .ok (.invokestatic 61, 3) := by decide +kernel
theorem dX2_track_16 : decode cX2_track 16 = .ok (.aload_n 3, 1) := by decide +kernel
theorem dX2_track_17 : decode cX2_track 17 = .ok (.iload_n 2, 1) := by decide +kernel
theorem dX2_track_18 : decode cX2_track 18 = .ok (.invokevirtual 72, 3) := by decide +kernel
theorem dX2_track_21 : decode cX2_track 21 = .ok (.ireturn, 1) := by decide +kernel
theorem dX2_tune_0 : decode cX2_tune 0 = .ok (.aload_n 0, 1) := by decide +kernel
theorem dX2_tune_1 : decode cX2_tune 1 = .ok (.iload_n 1, 1) := by decide +kernel
theorem dX2_tune_2 : decode cX2_tune 2 = .ok (.invokevirtual 68, 3) := by decide +kernel
theorem dX2_tune_5 : decode cX2_tune 5 = .ok (.astore 5, 2) := by decide +kernel
theorem dX2_tune_7 : decode cX2_tune 7 = .ok (.iload_n 2, 1) := by decide +kernel
theorem dX2_tune_8 : decode cX2_tune 8 = .ok (.iconst 0, 1) := by decide +kernel
theorem dX2_tune_9 : decode cX2_tune 9 = .ok (.aload 5, 2) := by decide +kernel
theorem dX2_tune_11 : decode cX2_tune 11 = .ok (.getfield 75, 3) := by decide +kernel
theorem dX2_tune_14 : decode cX2_tune 14 = .ok (.iconst 1, 1) := by decide +kernel
theorem dX2_tune_15 : decode cX2_tune 15 = .ok (.isub, 1) := by decide +kernel
theorem dX2_tune_16 : decode cX2_tune 16 = .ok (.invokestatic 31, 3) := by decide +kernel
theorem dX2_tune_19 : decode cX2_tune 19 = .ok (.ifCond .eq 28, 3) := by decide +kernel
theorem dX2_tune_22 : decode cX2_tune 22 = .ok (.iload_n 3, 1) := by decide +kernel
theorem dX2_tune_23 : decode cX2_tune 23 = .ok (.iconst 1, 1) := by decide +kernel
theorem dX2_tune_24 : decode cX2_tune 24 = .ok (.sipush 200, 3) := by decide +kernel
theorem dX2_tune_27 : decode cX2_tune 27 = .ok (.invokestatic 31, 3) := by decide +kernel
theorem dX2_tune_30 : decode cX2_tune 30 = .ok (.ifCond .eq 17, 3) := by decide +kernel
theorem dX2_tune_33 : decode cX2_tune 33 = .ok (.iload 4, 2) := by decide +kernel
theorem dX2_tune_35 : decode cX2_tune 35 = .ok (.iconst 0, 1) := by decide +kernel
theorem dX2_tune_36 : decode cX2_tune 36 = .ok (.iconst 3, 1) := by decide +kernel
theorem dX2_tune_37 : decode cX2_tune 37 = .ok (.invokestatic 31, 3) := by decide +kernel
theorem dX2_tune_40 : decode cX2_tune 40 = .ok (.ifCond .eq 7, 3) := by decide +kernel
theorem dX2_tune_43 : decode cX2_tune 43 = .ok (.iconst 1, 1) := by decide +kernel
theorem dX2_tune_44 : decode cX2_tune 44 = .ok (.goto 4, 3) := by decide +kernel
theorem dX2_tune_47 : decode cX2_tune 47 = .ok (.iconst 0, 1) := by decide +kernel
theorem dX2_tune_48 : decode cX2_tune 48 = .ok (.invokestatic 35, 3) := by decide +kernel
theorem dX2_tune_51 : decode cX2_tune 51 = .ok (.aload 5, 2) := by decide +kernel
theorem dX2_tune_53 : decode cX2_tune 53 = .ok (.getfield 78, 3) := by decide +kernel
theorem dX2_tune_56 : decode cX2_tune 56 = .ok (.istore 6, 2) := by decide +kernel
theorem dX2_tune_58 : decode cX2_tune 58 = .ok (.aload 5, 2) := by decide +kernel
theorem dX2_tune_60 : decode cX2_tune 60 = .ok (.iload_n 2, 1) := by decide +kernel
theorem dX2_tune_61 : decode cX2_tune 61 = .ok (.putfield 78, 3) := by decide +kernel
theorem dX2_tune_64 : decode cX2_tune 64 = .ok (.aload 5, 2) := by decide +kernel
theorem dX2_tune_66 : decode cX2_tune 66 = .ok (.iload_n 3, 1) := by decide +kernel
theorem dX2_tune_67 : decode cX2_tune 67 = .ok (.putfield 81, 3) := by decide +kernel
theorem dX2_tune_70 : decode cX2_tune 70 = .ok (.aload 5, 2) := by decide +kernel
theorem dX2_tune_72 : decode cX2_tune 72 = .ok (.iload 4, 2) := by decide +kernel
theorem dX2_tune_74 : decode cX2_tune 74 = .ok (.putfield 84, 3) := by decide +kernel
theorem dX2_tune_77 : decode cX2_tune 77 = .ok (.iload 6, 2) := by decide +kernel
theorem dX2_tune_79 : decode cX2_tune 79 = .ok (.ireturn, 1) := by decide +kernel
theorem dX2_turn_0 : decode cX2_turn 0 = .ok (.aload_n 0, 1) := by decide +kernel
theorem dX2_turn_1 : decode cX2_turn 1 = .ok (.iload_n 1, 1) := by decide +kernel
theorem dX2_turn_2 : decode cX2_turn 2 = .ok (.invokevirtual 68, 3) := by decide +kernel
theorem dX2_turn_5 : decode cX2_turn 5 = .ok (.astore 4, 2) := by decide +kernel
theorem dX2_turn_7 : decode cX2_turn 7 = .ok (.iload_n 2, 1) := by decide +kernel
theorem dX2_turn_8 : decode cX2_turn 8 = .ok (.iconst 0, 1) := by decide +kernel
theorem dX2_turn_9 : decode cX2_turn 9 = .ok (.iconst 2, 1) := by decide +kernel
theorem dX2_turn_10 : decode cX2_turn 10 = .ok (.invokestatic 31, 3) := by decide +kernel
theorem dX2_turn_13 : decode cX2_turn 13 = .ok (.invokestatic 61, 3) := by decide +kernel
theorem dX2_turn_16 : decode cX2_turn 16 = .ok (.aload 4, 2) := by decide +kernel
theorem dX2_turn_18 : decode cX2_turn 18 = .ok (.iconst 5, 1) := by decide +kernel
theorem dX2_turn_19 : decode cX2_turn 19 = .ok (.iload_n 2, 1) := by decide +kernel
theorem dX2_turn_20 : decode cX2_turn 20 = .ok (.iadd, 1) := by decide +kernel
theorem dX2_turn_21 : decode cX2_turn 21 = .ok (.invokevirtual 72, 3) := by decide +kernel
theorem dX2_turn_24 : decode cX2_turn 24 = .ok (.iconst 1, 1) := by decide +kernel
theorem dX2_turn_25 : decode cX2_turn 25 = .ok (.if_icmp .ne 7, 3) := by decide +kernel
theorem dX2_turn_28 : decode cX2_turn 28 = .ok (.iconst 1, 1) := by decide +kernel
theorem dX2_turn_29 : decode cX2_turn 29 = .ok (.goto 4, 3) := by decide +kernel
theorem dX2_turn_32 : decode cX2_turn 32 = .ok (.iconst 0, 1) := by decide +kernel
theorem dX2_turn_33 : decode cX2_turn 33 = .ok (.istore 5, 2) := by decide +kernel
theorem dX2_turn_35 : decode cX2_turn 35 = .ok (.aload 4, 2) := by decide +kernel
theorem dX2_turn_37 : decode cX2_turn 37 = .ok (.iconst 5, 1) := by decide +kernel
theorem dX2_turn_38 : decode cX2_turn 38 = .ok (.iload_n 2, 1) := by decide +kernel
theorem dX2_turn_39 : decode cX2_turn 39 = .ok (.iadd, 1) := by decide +kernel
theorem dX2_turn_40 : decode cX2_turn 40 = .ok (.iload_n 3, 1) := by decide +kernel
theorem dX2_turn_41 : decode cX2_turn 41 = .ok (.invokevirtual 87, 3) := by decide +kernel
theorem dX2_turn_44 : decode cX2_turn 44 = .ok (.iload 5, 2) := by decide +kernel
theorem dX2_turn_46 : decode cX2_turn 46 = .ok (.ireturn, 1) := by decide +kernel
theorem dX2_spread_0 : decode cX2_spread 0 = .ok (.aload_n 0, 1) := by decide +kernel
theorem dX2_spread_1 : decode cX2_spread 1 = .ok (.iload_n 1, 1) := by decide +kernel
theorem dX2_spread_2 : decode cX2_spread 2 = .ok (.invokevirtual 68, 3) := by decide +kernel
theorem dX2_spread_5 : decode cX2_spread 5 = .ok (.astore 4, 2) := by decide +kernel
theorem dX2_spread_7 : decode cX2_spread 7 = .ok (.iload_n 2, 1) := by decide +kernel
theorem dX2_spread_8 : decode cX2_spread 8 = .ok (.iconst 0, 1) := by decide +kernel
theorem dX2_spread_9 : decode cX2_spread 9 = .ok (.aload 4, 2) := by decide +kernel
theorem dX2_spread_11 : decode cX2_spread 11 = .ok (.getfield 91, 3) := by decide +kernel
theorem dX2_spread_14 : decode cX2_spread 14 = .ok (.invokestatic 31, 3) := by decide +kernel
theorem dX2_spread_17 : decode cX2_spread 17 = .ok (.ifCond .eq 17, 3) := by decide +kernel
theorem dX2_spread_20 : decode cX2_spread 20 = .ok (.iload_n 3, 1) := by decide +kernel
theorem dX2_spread_21 : decode cX2_spread 21 = .ok (.iconst 1, 1) := by decide +kernel
theorem dX2_spread_22 : decode cX2_spread 22 = .ok (.bipush 127, 2) := by decide +kernel
theorem dX2_spread_24 : decode cX2_spread 24 = .ok (.invokestatic 31, 3) := by decide +kernel
theorem dX2_spread_27 : decode cX2_spread 27 = .ok (.ifCond .eq 7, 3) := by decide +kernel
theorem dX2_spread_30 : decode cX2_spread 30 = .ok (.iconst 1, 1) := by decide +kernel
theorem dX2_spread_31 : decode cX2_spread 31 = .ok (.goto 4, 3) := by decide +kernel
theorem dX2_spread_34 : decode cX2_spread 34 = .ok (.iconst 0, 1) := by decide +kernel
theorem dX2_spread_35 : decode cX2_spread 35 = .ok (.invokestatic 35, 3) := by decide +kernel
theorem dX2_spread_38 : decode cX2_spread 38 = .ok (.aload 4, 2) := by decide +kernel
theorem dX2_spread_40 : decode cX2_spread 40 = .ok (.iload_n 2, 1) := by decide +kernel
theorem dX2_spread_41 : decode cX2_spread 41 = .ok (.iload_n 3, 1) := by decide +kernel
theorem dX2_spread_42 : decode cX2_spread 42 = .ok (.invokevirtual 94, 3) := by decide +kernel
theorem dX2_spread_45 : decode cX2_spread 45 = .ok (.ireturn, 1) := by decide +kernel
theorem dX2_rotate_0 : decode cX2_rotate 0 = .ok (.aload_n 0, 1) := by decide +kernel
theorem dX2_rotate_1 : decode cX2_rotate 1 = .ok (.iload_n 1, 1) := by decide +kernel
theorem dX2_rotate_2 : decode cX2_rotate 2 = .ok (.invokevirtual 68, 3) := by decide +kernel
theorem dX2_rotate_5 : decode cX2_rotate 5 = .ok (.astore_n 3, 1) := by decide +kernel
theorem dX2_rotate_6 : decode cX2_rotate 6 = .ok (.iload_n 2, 1) := by decide +kernel
theorem dX2_rotate_7 : decode cX2_rotate 7 = .ok (.iconst 0, 1) := by decide +kernel
theorem dX2_rotate_8 : decode cX2_rotate 8 = .ok (.bipush 31, 2) := by decide +kernel
theorem dX2_rotate_10 : decode cX2_rotate 10 = .ok (.invokestatic 31, 3) := by decide +kernel
theorem dX2_rotate_13 : decode cX2_rotate 13 = .ok (.invokestatic 35, 3) := by decide +kernel
theorem dX2_rotate_16 : decode cX2_rotate 16 = .ok (.aload_n 3, 1) := by decide +kernel
theorem dX2_rotate_17 : decode cX2_rotate 17 = .ok (.iload_n 2, 1) := by decide +kernel
theorem dX2_rotate_18 : decode cX2_rotate 18 = .ok (.invokevirtual 97, 3) := by decide +kernel
theorem dX2_rotate_21 : decode cX2_rotate 21 = .ok (.aload_n 3, 1) := by decide +kernel
theorem dX2_rotate_22 : decode cX2_rotate 22 = .ok (.invokevirtual 101, 3) := by decide +kernel
theorem dX2_rotate_25 : decode cX2_rotate 25 = .ok (.ireturn, 1) := by decide +kernel
theorem dX2_stretch_0 : decode cX2_stretch 0 = .ok (.aload_n 0, 1) := by decide +kernel
theorem dX2_stretch_1 : decode cX2_stretch 1 = .ok (.iload_n 1, 1) := by decide +kernel
theorem dX2_stretch_2 : decode cX2_stretch 2 = .ok (.invokevirtual 68, 3) := by decide +kernel
theorem dX2_stretch_5 : decode cX2_stretch 5 = .ok (.astore_n 3, 1) := by decide +kernel
theorem dX2_stretch_6 : decode cX2_stretch 6 = .ok (.iload_n 2, 1) := by decide +kernel
theorem dX2_stretch_7 : decode cX2_stretch 7 = .ok (.iconst 1, 1) := by decide +kernel
theorem dX2_stretch_8 : decode cX2_stretch 8 = .ok (.bipush 32, 2) := by decide +kernel
theorem dX2_stretch_10 : decode cX2_stretch 10 = .ok (.invokestatic 31, 3) := by decide +kernel
theorem dX2_stretch_13 : decode cX2_stretch 13 = .ok (.invokestatic 35, 3) := by decide +kernel
theorem dX2_stretch_16 : decode cX2_stretch 16 = .ok (.aload_n 3, 1) := by decide +kernel
theorem dX2_stretch_17 : decode cX2_stretch 17 = .ok (.getfield 91, 3) := by decide +kernel
theorem dX2_stretch_20 : decode cX2_stretch 20 = .ok (.istore 4, 2) := by decide +kernel
theorem dX2_stretch_22 : decode cX2_stretch 22 = .ok (.aload_n 3, 1) := by decide +kernel
theorem dX2_stretch_23 : decode cX2_stretch 23 = .ok (.iload_n 2, 1) := by decide +kernel
theorem dX2_stretch_24 : decode cX2_stretch 24 = .ok (.invokevirtual 105, 3) := by decide +kernel
theorem dX2_stretch_27 : decode cX2_stretch 27 = .ok (.iload 4, 2) := by decide +kernel
theorem dX2_stretch_29 : decode cX2_stretch 29 = .ok (.ireturn, 1) := by decide +kernel
theorem dX2_tap_0 : decode cX2_tap 0 = .ok (.aload_n 0, 1) := by decide +kernel
theorem dX2_tap_1 : decode cX2_tap 1 = .ok (.iload_n 1, 1) := by decide +kernel
theorem dX2_tap_2 : decode cX2_tap 2 = .ok (.invokevirtual 68, 3) := by decide +kernel
theorem dX2_tap_5 : decode cX2_tap 5 = .ok (.astore 4, 2) := by decide +kernel
theorem dX2_tap_7 : decode cX2_tap 7 = .ok (.iload_n 2, 1) := by decide +kernel
theorem dX2_tap_8 : decode cX2_tap 8 = .ok (.invokestatic 108, 3) := by decide +kernel
theorem dX2_tap_11 : decode cX2_tap 11 = .ok (.ifCond .eq 17, 3) := by decide +kernel
theorem dX2_tap_14 : decode cX2_tap 14 = .ok (.iload_n 3, 1) := by decide +kernel
theorem dX2_tap_15 : decode cX2_tap 15 = .ok (.iconst 1, 1) := by decide +kernel
theorem dX2_tap_16 : decode cX2_tap 16 = .ok (.bipush 127, 2) := by decide +kernel
theorem dX2_tap_18 : decode cX2_tap 18 = .ok (.invokestatic 31, 3) := by decide +kernel
theorem dX2_tap_21 : decode cX2_tap 21 = .ok (.ifCond .eq 7, 3) := by decide +kernel
theorem dX2_tap_24 : decode cX2_tap 24 = .ok (.iconst 1, 1) := by decide +kernel
theorem dX2_tap_25 : decode cX2_tap 25 = .ok (.goto 4, 3) := by decide +kernel
theorem dX2_tap_28 : decode cX2_tap 28 = .ok (.iconst 0, 1) := by decide +kernel
theorem dX2_tap_29 : decode cX2_tap 29 = .ok (.invokestatic 35, 3) := by decide +kernel
theorem dX2_tap_32 : decode cX2_tap 32 = .ok (.aload 4, 2) := by decide +kernel
theorem dX2_tap_34 : decode cX2_tap 34 = .ok (.iload_n 2, 1) := by decide +kernel
theorem dX2_tap_35 : decode cX2_tap 35 = .ok (.invokevirtual 112, 3) := by decide +kernel
theorem dX2_tap_38 : decode cX2_tap 38 = .ok (.istore 5, 2) := by decide +kernel
theorem dX2_tap_40 : decode cX2_tap 40 = .ok (.aload 4, 2) := by decide +kernel
theorem dX2_tap_42 : decode cX2_tap 42 = .ok (.iload 5, 2) := by decide +kernel
theorem dX2_tap_44 : decode cX2_tap 44 = .ok (.iconst 0, 1) := by decide +kernel
theorem dX2_tap_45 : decode cX2_tap 45 = .ok (.iload_n 3, 1) := by decide +kernel
theorem dX2_tap_46 : decode cX2_tap 46 = .ok (.invokevirtual 57, 3) := by decide +kernel
theorem dX2_tap_49 : decode cX2_tap 49 = .ok (.iload 5, 2) := by decide +kernel
theorem dX2_tap_51 : decode cX2_tap 51 = .ok (.ireturn, 1) := by decide +kernel
theorem dX2_tracks_0 : decode cX2_tracks 0 = .ok (.aload_n 0, 1) := by decide +kernel
theorem dX2_tracks_1 : decode cX2_tracks 1 = .ok (.getfield 15, 3) := by decide +kernel
theorem dX2_tracks_4 : decode cX2_tracks 4 = .ok (.ireturn, 1) := by decide +kernel
theorem dX2_addSection_0 : decode cX2_addSection 0 = .ok (.iload_n 1, 1) := by decide +kernel
theorem dX2_addSection_1 : decode cX2_addSection 1 = .ok (.iconst 1, 1) := by decide +kernel
theorem dX2_addSection_2 : decode cX2_addSection 2 = .ok (.sipush 5000, 3) := by decide +kernel
theorem dX2_addSection_5 : decode cX2_addSection 5 = .ok (.invokestatic 31, 3) := by decide +kernel
theorem dX2_addSection_8 : decode cX2_addSection 8 = .ok (.ifCond .eq 18, 3) := by decide +kernel
theorem dX2_addSection_11 : decode cX2_addSection 11 = .ok (.iload_n 2, 1) := by decide +kernel
theorem dX2_addSection_12 : decode cX2_addSection 12 = .ok (.iconst 0, 1) := by decide +kernel
theorem dX2_addSection_13 : decode cX2_addSection 13 = .ok (.sipush 255, 3) := by decide +kernel
theorem dX2_addSection_16 : decode cX2_addSection 16 = .ok (.invokestatic 31, 3) := by decide +kernel
theorem dX2_addSection_19 : decode cX2_addSection 19 = .ok (.ifCond .eq 7, 3) := by decide +kernel
theorem dX2_addSection_22 : decode cX2_addSection 22 = .ok (.iconst 1, 1) := by decide +kernel
theorem dX2_addSection_23 : decode cX2_addSection 23 = .ok (.goto 4, 3) := by decide +kernel
theorem dX2_addSection_26 : decode cX2_addSection 26 = .ok (.iconst 0, 1) := by decide +kernel
theorem dX2_addSection_27 : decode cX2_addSection 27 = .ok (.invokestatic 35, 3) := by decide +kernel
theorem dX2_addSection_30 : decode cX2_addSection 30 = .ok (.aload_n 0, 1) := by decide +kernel
theorem dX2_addSection_31 : decode cX2_addSection 31 = .ok (.getfield 25, 3) := by decide +kernel
theorem dX2_addSection_34 : decode cX2_addSection 34 = .ok (.istore 4, 2) := by decide +kernel
theorem dX2_addSection_36 : decode cX2_addSection 36 = .ok (.iload 4, 2) := by decide +kernel
theorem dX2_addSection_38 : decode cX2_addSection 38 = .ok (.ifCond .lt 13, 3) := by decide +kernel
theorem dX2_addSection_41 : decode cX2_addSection 41 = .ok (.iload 4, 2) := by decide +kernel
theorem dX2_addSection_43 : decode cX2_addSection 43 = .ok (.aload_n 0, 1) := by decide +kernel
theorem dX2_addSection_44 : decode cX2_addSection 44 = .ok (.getfield 21, 3) := by decide +kernel
theorem dX2_addSection_47 : decode cX2_addSection 47 = .ok (.arraylength, 1) := by decide +kernel
theorem dX2_addSection_48 : decode cX2_addSection 48 = .ok (.if_icmp .lt 13, 3) := by decide +kernel
theorem dX2_addSection_51 : decode cX2_addSection 51 = .ok (.new 39, 3) := by decide +kernel
theorem dX2_addSection_54 : decode cX2_addSection 54 = .ok (.dup, 1) := by decide +kernel
theorem dX2_addSection_55 : decode cX2_addSection 55 = .ok (.ldc 115, 2) := by decide +kernel
theorem dX2_addSection_57 : decode cX2_addSection 57 = .ok (.invokespecial 43, 3) := by decide +kernel
theorem dX2_addSection_60 : decode cX2_addSection 60 = .ok (.athrow, 1) := by decide +kernel
theorem dX2_addSection_61 : decode cX2_addSection 61 = .ok (.aload_n 0, 1) := by decide +kernel
theorem dX2_addSection_62 : decode cX2_addSection 62 = .ok (.invokevirtual 117, 3) := by decide +kernel
theorem dX2_addSection_65 : decode cX2_addSection 65 = .ok (.istore 5, 2) := by decide +kernel
theorem dX2_addSection_67 : decode cX2_addSection 67 = .ok (.aload_n 0, 1) := by decide +kernel
theorem dX2_addSection_68 : decode cX2_addSection 68 = .ok (.getfield 21, 3) := by decide +kernel
theorem dX2_addSection_71 : decode cX2_addSection 71 = .ok (.iload 4, 2) := by decide +kernel
theorem dX2_addSection_73 : decode cX2_addSection 73 = .ok (.new 19, 3) := by decide +kernel
theorem dX2_addSection_76 : decode cX2_addSection 76 = .ok (.dup, 1) := by decide +kernel
theorem dX2_addSection_77 : decode cX2_addSection 77 = .ok (.iload 5, 2) := by decide +kernel
theorem dX2_addSection_79 : decode cX2_addSection 79 = .ok (.iload_n 1, 1) := by decide +kernel
theorem dX2_addSection_80 : decode cX2_addSection 80 = .ok (.iload_n 2, 1) := by decide +kernel
theorem dX2_addSection_81 : decode cX2_addSection 81 = .ok (.iload_n 3, 1) := by decide +kernel
theorem dX2_addSection_82 : decode cX2_addSection 82 = .ok (.invokespecial 120, 3) := by decide +kernel
theorem dX2_addSection_85 : decode cX2_addSection 85 = .ok (.aastore, 1) := by decide +kernel
theorem dX2_addSection_86 : decode cX2_addSection 86 = .ok (.aload_n 0, 1) := by decide +kernel
theorem dX2_addSection_87 : decode cX2_addSection 87 = .ok (.iload 4, 2) := by decide +kernel
theorem dX2_addSection_89 : decode cX2_addSection 89 = .ok (.iconst 1, 1) := by decide +kernel
theorem dX2_addSection_90 : decode cX2_addSection 90 = .ok (.iadd, 1) := by decide +kernel
theorem dX2_addSection_91 : decode cX2_addSection 91 = .ok (.putfield 25, 3) := by decide +kernel
theorem dX2_addSection_94 : decode cX2_addSection 94 = .ok (.iload 5, 2) := by decide +kernel
theorem dX2_addSection_96 : decode cX2_addSection 96 = .ok (.ireturn, 1) := by decide +kernel
theorem dX2_dropSection_0 : decode cX2_dropSection 0 = .ok (.aload_n 0, 1) := by decide +kernel
theorem dX2_dropSection_1 : decode cX2_dropSection 1 = .ok (.getfield 25, 3) := by decide +kernel
theorem dX2_dropSection_4 : decode cX2_dropSection 4 = .ok (.iconst 1, 1) := by decide +kernel
theorem dX2_dropSection_5 : decode cX2_dropSection 5 = .ok (.isub, 1) := by decide +kernel
theorem dX2_dropSection_6 : decode cX2_dropSection 6 = .ok (.istore_n 1, 1) := by decide +kernel
theorem dX2_dropSection_7 : decode cX2_dropSection 7 = .ok (.iload_n 1, 1) := by decide +kernel
theorem dX2_dropSection_8 : decode cX2_dropSection 8 = .ok (.ifCond .lt 12, 3) := by decide +kernel
theorem dX2_dropSection_11 : decode cX2_dropSection 11 = .ok (.iload_n 1, 1) := by decide +kernel
theorem dX2_dropSection_12 : decode cX2_dropSection 12 = .ok (.aload_n 0, 1) := by decide +kernel
theorem dX2_dropSection_13 : decode cX2_dropSection 13 = .ok (.getfield 21, 3) := by decide +kernel
theorem dX2_dropSection_16 : decode cX2_dropSection 16 = .ok (.arraylength, 1) := by decide +kernel
theorem dX2_dropSection_17 : decode cX2_dropSection 17 = .ok (.if_icmp .lt 13, 3) := by decide +kernel
theorem dX2_dropSection_20 : decode cX2_dropSection 20 = .ok (.new 39, 3) := by decide +kernel
theorem dX2_dropSection_23 : decode cX2_dropSection 23 = .ok (.dup, 1) := by decide +kernel
theorem dX2_dropSection_24 : decode cX2_dropSection 24 = .ok (.ldc 123, 2) := by decide +kernel
theorem dX2_dropSection_26 : decode cX2_dropSection 26 = .ok (.invokespecial 43, 3) := by decide +kernel
theorem dX2_dropSection_29 : decode cX2_dropSection 29 = .ok (.athrow, 1) := by decide +kernel
theorem dX2_dropSection_30 : decode cX2_dropSection 30 = .ok (.aload_n 0, 1) := by decide +kernel
theorem dX2_dropSection_31 : decode cX2_dropSection 31 = .ok (.getfield 21, 3) := by decide +kernel
theorem dX2_dropSection_34 : decode cX2_dropSection 34 = .ok (.iload_n 1, 1) := by decide +kernel
theorem dX2_dropSection_35 : decode cX2_dropSection 35 = .ok (.aconst_null, 1) := by decide +kernel
theorem dX2_dropSection_36 : decode cX2_dropSection 36 = .ok (.aastore, 1) := by decide +kernel
theorem dX2_dropSection_37 : decode cX2_dropSection 37 = .ok (.aload_n 0, 1) := by decide +kernel
theorem dX2_dropSection_38 : decode cX2_dropSection 38 = .ok (.iload_n 1, 1) := by decide +kernel
theorem dX2_dropSection_39 : decode cX2_dropSection 39 = .ok (.putfield 25, 3) := by decide +kernel
theorem dX2_dropSection_42 : decode cX2_dropSection 42 = .ok (.iload_n 1, 1) := by decide +kernel
theorem dX2_dropSection_43 : decode cX2_dropSection 43 = .ok (.ireturn, 1) := by decide +kernel
theorem dX2_sectionAt_0 : decode cX2_sectionAt 0 = .ok (.iload_n 1, 1) := by decide +kernel
theorem dX2_sectionAt_1 : decode cX2_sectionAt 1 = .ok (.invokestatic 108, 3) := by decide +kernel
theorem dX2_sectionAt_4 : decode cX2_sectionAt 4 = .ok (.invokestatic 35, 3) := by decide +kernel
theorem dX2_sectionAt_7 : decode cX2_sectionAt 7 = .ok (.aload_n 0, 1) := by decide +kernel
theorem dX2_sectionAt_8 : decode cX2_sectionAt 8 = .ok (.iload_n 1, 1) := by decide +kernel
theorem dX2_sectionAt_9 : decode cX2_sectionAt 9 = .ok (.invokevirtual 125, 3) := by decide +kernel
theorem dX2_sectionAt_12 : decode cX2_sectionAt 12 = .ok (.ireturn, 1) := by decide +kernel
theorem dX2_length_0 : decode cX2_length 0 = .ok (.aload_n 0, 1) := by decide +kernel
theorem dX2_length_1 : decode cX2_length 1 = .ok (.invokevirtual 117, 3) := by decide +kernel
theorem dX2_length_4 : decode cX2_length 4 = .ok (.ireturn, 1) := by decide +kernel
theorem dX2_loudness_0 : decode cX2_loudness 0 = .ok (.aload_n 0, 1) := by decide +kernel
theorem dX2_loudness_1 : decode cX2_loudness 1 = .ok (.iload_n 1, 1) := by decide +kernel
theorem dX2_loudness_2 : decode cX2_loudness 2 = .ok (.invokevirtual 68, 3) := by decide +kernel
theorem dX2_loudness_5 : decode cX2_loudness 5 = .ok (.pop, 1) := by decide +kernel
theorem dX2_loudness_6 : decode cX2_loudness 6 = .ok (.iload_n 2, 1) := by decide +kernel
theorem dX2_loudness_7 : decode cX2_loudness 7 = .ok (.invokestatic 108, 3) := by decide +kernel
theorem dX2_loudness_10 : decode cX2_loudness 10 = .ok (.invokestatic 35, 3) := by decide +kernel
theorem dX2_loudness_13 : decode cX2_loudness 13 = .ok (.aload_n 0, 1) := by decide +kernel
theorem dX2_loudness_14 : decode cX2_loudness 14 = .ok (.iload_n 1, 1) := by decide +kernel
theorem dX2_loudness_15 : decode cX2_loudness 15 = .ok (.iload_n 2, 1) := by decide +kernel
theorem dX2_loudness_16 : decode cX2_loudness 16 = .ok (.invokevirtual 128, 3) := by decide +kernel
theorem dX2_loudness_19 : decode cX2_loudness 19 = .ok (.ifCond .ne 5, 3) := by decide +kernel
theorem dX2_loudness_22 : decode cX2_loudness 22 = .ok (.iconst 0, 1) := by decide +kernel
theorem dX2_loudness_23 : decode cX2_loudness 23 = .ok (.ireturn, 1) := by decide +kernel
theorem dX2_loudness_24 : decode cX2_loudness 24 = .ok (.aload_n 0, 1) := by decide +kernel
theorem dX2_loudness_25 : decode cX2_loudness 25 = .ok (.iload_n 1, 1) := by decide +kernel
theorem dX2_loudness_26 : decode cX2_loudness 26 = .ok (.iload_n 2, 1) := by decide +kernel
theorem dX2_loudness_27 : decode cX2_loudness 27 = .ok (.invokevirtual 132, 3) := by decide +kernel
theorem dX2_loudness_30 : decode cX2_loudness 30 = .ok (.aload_n 0, 1) := by decide +kernel
theorem dX2_loudness_31 : decode cX2_loudness 31 = .ok (.iload_n 2, 1) := by decide +kernel
theorem dX2_loudness_32 : decode cX2_loudness 32 = .ok (.invokevirtual 135, 3) := by decide +kernel
theorem dX2_loudness_35 : decode cX2_loudness 35 = .ok (.iconst 4, 1) := by decide +kernel
theorem dX2_loudness_36 : decode cX2_loudness 36 = .ok (.idiv, 1) := by decide +kernel
theorem dX2_loudness_37 : decode cX2_loudness 37 = .ok (.iadd, 1) := by decide +kernel
theorem dX2_loudness_38 : decode cX2_loudness 38 = .ok (.bipush 127, 2) := by decide +kernel
theorem dX2_loudness_40 : decode cX2_loudness 40 = .ok (.invokestatic 138, 3) := by decide +kernel
theorem dX2_loudness_43 : decode cX2_loudness 43 = .ok (.ireturn, 1) := by decide +kernel
theorem dX2_hits_0 : decode cX2_hits 0 = .ok (.iload_n 1, 1) := by decide +kernel
theorem dX2_hits_1 : decode cX2_hits 1 = .ok (.invokestatic 108, 3) := by decide +kernel
theorem dX2_hits_4 : decode cX2_hits 4 = .ok (.invokestatic 35, 3) := by decide +kernel
theorem dX2_hits_7 : decode cX2_hits 7 = .ok (.aload_n 0, 1) := by decide +kernel
theorem dX2_hits_8 : decode cX2_hits 8 = .ok (.iload_n 1, 1) := by decide +kernel
theorem dX2_hits_9 : decode cX2_hits 9 = .ok (.invokevirtual 143, 3) := by decide +kernel
theorem dX2_hits_12 : decode cX2_hits 12 = .ok (.ireturn, 1) := by decide +kernel
theorem dX2_sounding_0 : decode cX2_sounding 0 = .ok (.iload_n 1, 1) := by decide +kernel
theorem dX2_sounding_1 : decode cX2_sounding 1 = .ok (.invokestatic 108, 3) := by decide +kernel
theorem dX2_sounding_4 : decode cX2_sounding 4 = .ok (.invokestatic 35, 3) := by decide +kernel
theorem dX2_sounding_7 : decode cX2_sounding 7 = .ok (.iconst 0, 1) := by decide +kernel
theorem dX2_sounding_8 : decode cX2_sounding 8 = .ok (.istore_n 2, 1) := by decide +kernel
theorem dX2_sounding_9 : decode cX2_sounding 9 = .ok (.iconst 1, 1) := by decide +kernel
theorem dX2_sounding_10 : decode cX2_sounding 10 = .ok (.aload_n 0, 1) := by decide +kernel
theorem dX2_sounding_11 : decode cX2_sounding 11 = .ok (.getfield 15, 3) := by decide +kernel
theorem dX2_sounding_14 : decode cX2_sounding 14 = .ok (.ishl, 1) := by decide +kernel
theorem dX2_sounding_15 : decode cX2_sounding 15 = .ok (.iconst 1, 1) := by decide +kernel
theorem dX2_sounding_16 : decode cX2_sounding 16 = .ok (.isub, 1) := by decide +kernel
theorem dX2_sounding_17 : decode cX2_sounding 17 = .ok (.istore_n 3, 1) := by decide +kernel
theorem dX2_sounding_18 : decode cX2_sounding 18 = .ok (.iconst 0, 1) := by decide +kernel
theorem dX2_sounding_19 : decode cX2_sounding 19 = .ok (.istore 4, 2) := by decide +kernel
theorem dX2_sounding_21 : decode cX2_sounding 21 = .ok (.iload 4, 2) := by decide +kernel
theorem dX2_sounding_23 : decode cX2_sounding 23 = .ok (.sipush 200, 3) := by decide +kernel
theorem dX2_sounding_26 : decode cX2_sounding 26 = .ok (.if_icmp .ge 112, 3) := by decide +kernel
theorem dX2_sounding_29 : decode cX2_sounding 29 = .ok (.iload 4, 2) := by decide +kernel
theorem dX2_sounding_31 : decode cX2_sounding 31 = .ok (.iload_n 1, 1) := by decide +kernel
theorem dX2_sounding_32 : decode cX2_sounding 32 = .ok (.if_icmp .gt 106, 3) := by decide +kernel
theorem dX2_sounding_35 : decode cX2_sounding 35 = .ok (.iload_n 3, 1) := by decide +kernel
theorem dX2_sounding_36 : decode cX2_sounding 36 = .ok (.ifCond .eq 102, 3) := by decide +kernel
theorem dX2_sounding_39 : decode cX2_sounding 39 = .ok (.aload_n 0, 1) := by decide +kernel
theorem dX2_sounding_40 : decode cX2_sounding 40 = .ok (.iload_n 1, 1) := by decide +kernel
theorem dX2_sounding_41 : decode cX2_sounding 41 = .ok (.iload 4, 2) := by decide +kernel
theorem dX2_sounding_43 : decode cX2_sounding 43 = .ok (.isub, 1) := by decide +kernel
theorem dX2_sounding_44 : decode cX2_sounding 44 = .ok (.invokevirtual 143, 3) := by decide +kernel
theorem dX2_sounding_47 : decode cX2_sounding 47 = .ok (.istore 5, 2) := by decide +kernel
theorem dX2_sounding_49 : decode cX2_sounding 49 = .ok (.aload_n 0, 1) := by decide +kernel
theorem dX2_sounding_50 : decode cX2_sounding 50 = .ok (.getfield 15, 3) := by decide +kernel
theorem dX2_sounding_53 : decode cX2_sounding 53 = .ok (.iconst 1, 1) := by decide +kernel
theorem dX2_sounding_54 : decode cX2_sounding 54 = .ok (.isub, 1) := by decide +kernel
theorem dX2_sounding_55 : decode cX2_sounding 55 = .ok (.istore 6, 2) := by decide +kernel
theorem dX2_sounding_57 : decode cX2_sounding 57 = .ok (.iload 6, 2) := by decide +kernel
theorem dX2_sounding_59 : decode cX2_sounding 59 = .ok (.ifCond .lt 73, 3) := by decide +kernel
theorem dX2_sounding_62 : decode cX2_sounding 62 = .ok (.aload_n 0, 1) := by decide +kernel
theorem dX2_sounding_63 : decode cX2_sounding 63 = .ok (.iload 6, 2) := by decide +kernel
theorem dX2_sounding_65 : decode cX2_sounding 65 = .ok (.invokevirtual 146, 3) := by decide +kernel
theorem dX2_sounding_68 : decode cX2_sounding 68 = .ok (.astore 7, 2) := by decide +kernel
theorem dX2_sounding_70 : decode cX2_sounding 70 = .ok (.aload 7, 2) := by decide +kernel
theorem dX2_sounding_72 : decode cX2_sounding 72 = .ok (.ifnull 54, 3) := by decide +kernel
theorem dX2_sounding_75 : decode cX2_sounding 75 = .ok (.iload 5, 2) := by decide +kernel
theorem dX2_sounding_77 : decode cX2_sounding 77 = .ok (.iload_n 3, 1) := by decide +kernel
theorem dX2_sounding_78 : decode cX2_sounding 78 = .ok (.iand, 1) := by decide +kernel
theorem dX2_sounding_79 : decode cX2_sounding 79 = .ok (.iload 6, 2) := by decide +kernel
theorem dX2_sounding_81 : decode cX2_sounding 81 = .ok (.invokestatic 149, 3) := by decide +kernel
theorem dX2_sounding_84 : decode cX2_sounding 84 = .ok (.ifCond .ne 6, 3) := by decide +kernel
theorem dX2_sounding_87 : decode cX2_sounding 87 = .ok (.goto 39, 3) := by decide +kernel
theorem dX2_sounding_90 : decode cX2_sounding 90 = .ok (.iload 4, 2) := by decide +kernel
theorem dX2_sounding_92 : decode cX2_sounding 92 = .ok (.aload 7, 2) := by decide +kernel
theorem dX2_sounding_94 : decode cX2_sounding 94 = .ok (.getfield 81, 3) := by decide +kernel
theorem dX2_sounding_97 : decode cX2_sounding 97 = .ok (.if_icmp .ge 10, 3) := by decide +kernel
theorem dX2_sounding_100 : decode cX2_sounding 100 = .ok (.iload_n 2, 1) := by decide +kernel
theorem dX2_sounding_101 : decode cX2_sounding 101 = .ok (.iconst 1, 1) := by decide +kernel
theorem dX2_sounding_102 : decode cX2_sounding 102 = .ok (.iload 6, 2) := by decide +kernel
theorem dX2_sounding_104 : decode cX2_sounding 104 = .ok (.ishl, 1) := by decide +kernel
theorem dX2_sounding_105 : decode cX2_sounding 105 = .ok (.ior, 1) := by decide +kernel
theorem dX2_sounding_106 : decode cX2_sounding 106 = .ok (.istore_n 2, 1) := by decide +kernel
theorem dX2_sounding_107 : decode cX2_sounding 107 = .ok (.iload_n 3, 1) := by decide +kernel
theorem dX2_sounding_108 : decode cX2_sounding 108 = .ok (.iconst 1, 1) := by decide +kernel
theorem dX2_sounding_109 : decode cX2_sounding 109 = .ok (.iload 6, 2) := by decide +kernel
theorem dX2_sounding_111 : decode cX2_sounding 111 = .ok (.ishl, 1) := by decide +kernel
theorem dX2_sounding_112 : decode cX2_sounding 112 = .ok (.aload_n 0, 1) := by decide +kernel
theorem dX2_sounding_113 : decode cX2_sounding 113 = .ok (.aload 7, 2) := by decide +kernel
theorem dX2_sounding_115 : decode cX2_sounding 115 = .ok (.getfield 84, 3) := by decide +kernel
theorem dX2_sounding_118 : decode cX2_sounding 118 = .ok (.invokevirtual 152, 3) := by decide +kernel
theorem dX2_sounding_121 : decode cX2_sounding 121 = .ok (.ior, 1) := by decide +kernel
theorem dX2_sounding_122 : decode cX2_sounding 122 = .ok (.iconst (-1), 1) := by decide +kernel
theorem dX2_sounding_123 : decode cX2_sounding 123 = .ok (.ixor, 1) := by decide +kernel
theorem dX2_sounding_124 : decode cX2_sounding 124 = .ok (.iand, 1) := by decide +kernel
theorem dX2_sounding_125 : decode cX2_sounding 125 = .ok (.istore_n 3, 1) := by decide +kernel
theorem dX2_sounding_126 : decode cX2_sounding 126 = .ok (.iinc 6 (-1), 3) := by decide +kernel
theorem dX2_sounding_129 : decode cX2_sounding 129 = .ok (.goto (-72), 3) := by decide +kernel
theorem dX2_sounding_132 : decode cX2_sounding 132 = .ok (.iinc 4 1, 3) := by decide +kernel
theorem dX2_sounding_135 : decode cX2_sounding 135 = .ok (.goto (-114), 3) := by decide +kernel
theorem dX2_sounding_138 : decode cX2_sounding 138 = .ok (.iload_n 2, 1) := by decide +kernel
theorem dX2_sounding_139 : decode cX2_sounding 139 = .ok (.ireturn, 1) := by decide +kernel
theorem dX2_next_0 : decode cX2_next 0 = .ok (.aload_n 0, 1) := by decide +kernel
theorem dX2_next_1 : decode cX2_next 1 = .ok (.iload_n 1, 1) := by decide +kernel
theorem dX2_next_2 : decode cX2_next 2 = .ok (.invokevirtual 68, 3) := by decide +kernel
theorem dX2_next_5 : decode cX2_next 5 = .ok (.pop, 1) := by decide +kernel
theorem dX2_next_6 : decode cX2_next 6 = .ok (.iload_n 2, 1) := by decide +kernel
theorem dX2_next_7 : decode cX2_next 7 = .ok (.invokestatic 108, 3) := by decide +kernel
theorem dX2_next_10 : decode cX2_next 10 = .ok (.invokestatic 35, 3) := by decide +kernel
theorem dX2_next_13 : decode cX2_next 13 = .ok (.iload_n 2, 1) := by decide +kernel
theorem dX2_next_14 : decode cX2_next 14 = .ok (.sipush 3000, 3) := by decide +kernel
theorem dX2_next_17 : decode cX2_next 17 = .ok (.iadd, 1) := by decide +kernel
theorem dX2_next_18 : decode cX2_next 18 = .ok (.ldc 155, 2) := by decide +kernel
theorem dX2_next_20 : decode cX2_next 20 = .ok (.invokestatic 138, 3) := by decide +kernel
theorem dX2_next_23 : decode cX2_next 23 = .ok (.istore_n 3, 1) := by decide +kernel
theorem dX2_next_24 : decode cX2_next 24 = .ok (.iload_n 2, 1) := by decide +kernel
theorem dX2_next_25 : decode cX2_next 25 = .ok (.istore 4, 2) := by decide +kernel
theorem dX2_next_27 : decode cX2_next 27 = .ok (.iload 4, 2) := by decide +kernel
theorem dX2_next_29 : decode cX2_next 29 = .ok (.iload_n 3, 1) := by decide +kernel
theorem dX2_next_30 : decode cX2_next 30 = .ok (.if_icmp .gt 22, 3) := by decide +kernel
theorem dX2_next_33 : decode cX2_next 33 = .ok (.aload_n 0, 1) := by decide +kernel
theorem dX2_next_34 : decode cX2_next 34 = .ok (.iload_n 1, 1) := by decide +kernel
theorem dX2_next_35 : decode cX2_next 35 = .ok (.iload 4, 2) := by decide +kernel
theorem dX2_next_37 : decode cX2_next 37 = .ok (.invokevirtual 128, 3) := by decide +kernel
theorem dX2_next_40 : decode cX2_next 40 = .ok (.ifCond .eq 6, 3) := by decide +kernel
theorem dX2_next_43 : decode cX2_next 43 = .ok (.iload 4, 2) := by decide +kernel
theorem dX2_next_45 : decode cX2_next 45 = .ok (.ireturn, 1) := by decide +kernel
theorem dX2_next_46 : decode cX2_next 46 = .ok (.iinc 4 1, 3) := by decide +kernel
theorem dX2_next_49 : decode cX2_next 49 = .ok (.goto (-22), 3) := by decide +kernel
theorem dX2_next_52 : decode cX2_next 52 = .ok (.iconst (-1), 1) := by decide +kernel
theorem dX2_next_53 : decode cX2_next 53 = .ok (.ireturn, 1) := by decide +kernel
theorem dX2_count_0 : decode cX2_count 0 = .ok (.aload_n 0, 1) := by decide +kernel
theorem dX2_count_1 : decode cX2_count 1 = .ok (.iload_n 1, 1) := by decide +kernel
theorem dX2_count_2 : decode cX2_count 2 = .ok (.invokevirtual 68, 3) := by decide +kernel
theorem dX2_count_5 : decode cX2_count 5 = .ok (.pop, 1) := by decide +kernel
theorem dX2_count_6 : decode cX2_count 6 = .ok (.iload_n 2, 1) := by decide +kernel
theorem dX2_count_7 : decode cX2_count 7 = .ok (.iload_n 3, 1) := by decide +kernel
theorem dX2_count_8 : decode cX2_count 8 = .ok (.invokestatic 156, 3) := by decide +kernel
theorem dX2_count_11 : decode cX2_count 11 = .ok (.invokestatic 35, 3) := by decide +kernel
theorem dX2_count_14 : decode cX2_count 14 = .ok (.aload_n 0, 1) := by decide +kernel
theorem dX2_count_15 : decode cX2_count 15 = .ok (.iload_n 1, 1) := by decide +kernel
theorem dX2_count_16 : decode cX2_count 16 = .ok (.iload_n 1, 1) := by decide +kernel
theorem dX2_count_17 : decode cX2_count 17 = .ok (.iload_n 2, 1) := by decide +kernel
theorem dX2_count_18 : decode cX2_count 18 = .ok (.iload_n 3, 1) := by decide +kernel
theorem dX2_count_19 : decode cX2_count 19 = .ok (.invokevirtual 159, 3) := by decide +kernel
theorem dX2_count_22 : decode cX2_count 22 = .ok (.ireturn, 1) := by decide +kernel
theorem dX2_together_0 : decode cX2_together 0 = .ok (.aload_n 0, 1) := by decide +kernel
theorem dX2_together_1 : decode cX2_together 1 = .ok (.iload_n 1, 1) := by decide +kernel
theorem dX2_together_2 : decode cX2_together 2 = .ok (.invokevirtual 68, 3) := by decide +kernel
theorem dX2_together_5 : decode cX2_together 5 = .ok (.pop, 1) := by decide +kernel
theorem dX2_together_6 : decode cX2_together 6 = .ok (.aload_n 0, 1) := by decide +kernel
theorem dX2_together_7 : decode cX2_together 7 = .ok (.iload_n 2, 1) := by decide +kernel
theorem dX2_together_8 : decode cX2_together 8 = .ok (.invokevirtual 68, 3) := by decide +kernel
theorem dX2_together_11 : decode cX2_together 11 = .ok (.pop, 1) := by decide +kernel
theorem dX2_together_12 : decode cX2_together 12 = .ok (.iload_n 3, 1) := by decide +kernel
theorem dX2_together_13 : decode cX2_together 13 = .ok (.iload 4, 2) := by decide +kernel
theorem dX2_together_15 : decode cX2_together 15 = .ok (.invokestatic 156, 3) := by decide +kernel
theorem dX2_together_18 : decode cX2_together 18 = .ok (.invokestatic 35, 3) := by decide +kernel
theorem dX2_together_21 : decode cX2_together 21 = .ok (.aload_n 0, 1) := by decide +kernel
theorem dX2_together_22 : decode cX2_together 22 = .ok (.iload_n 1, 1) := by decide +kernel
theorem dX2_together_23 : decode cX2_together 23 = .ok (.iload_n 2, 1) := by decide +kernel
theorem dX2_together_24 : decode cX2_together 24 = .ok (.iload_n 3, 1) := by decide +kernel
theorem dX2_together_25 : decode cX2_together 25 = .ok (.iload 4, 2) := by decide +kernel
theorem dX2_together_27 : decode cX2_together 27 = .ok (.invokevirtual 159, 3) := by decide +kernel
theorem dX2_together_30 : decode cX2_together 30 = .ok (.ireturn, 1) := by decide +kernel
theorem dX2_rounds_0 : decode cX2_rounds 0 = .ok (.aload_n 0, 1) := by decide +kernel
theorem dX2_rounds_1 : decode cX2_rounds 1 = .ok (.iload_n 1, 1) := by decide +kernel
theorem dX2_rounds_2 : decode cX2_rounds 2 = .ok (.invokevirtual 68, 3) := by decide +kernel
theorem dX2_rounds_5 : decode cX2_rounds 5 = .ok (.invokevirtual 163, 3) := by decide +kernel
theorem dX2_rounds_8 : decode cX2_rounds 8 = .ok (.ireturn, 1) := by decide +kernel
theorem dX2_period_0 : decode cX2_period 0 = .ok (.lconst 1, 1) := by decide +kernel
theorem dX2_period_1 : decode cX2_period 1 = .ok (.lstore_n 1, 1) := by decide +kernel
theorem dX2_period_2 : decode cX2_period 2 = .ok (.iconst 0, 1) := by decide +kernel
