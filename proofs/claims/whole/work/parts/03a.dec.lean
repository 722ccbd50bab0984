theorem dX0_init_0 : decode cX0_init 0 = .ok (.aload_n 0, 1) := by decide +kernel
theorem dX0_init_1 : decode cX0_init 1 = .ok (.invokespecial 1, 3) := by decide +kernel
theorem dX0_init_4 : decode cX0_init 4 = .ok (.aload_n 0, 1) := by decide +kernel
theorem dX0_init_5 : decode cX0_init 5 = .ok (.iload_n 1, 1) := by decide +kernel
theorem dX0_init_6 : decode cX0_init 6 = .ok (.putfield 7, 3) := by decide +kernel
theorem dX0_init_9 : decode cX0_init 9 = .ok (.aload_n 0, 1) := by decide +kernel
theorem dX0_init_10 : decode cX0_init 10 = .ok (.iload_n 2, 1) := by decide +kernel
theorem dX0_init_11 : decode cX0_init 11 = .ok (.putfield 13, 3) := by decide +kernel
theorem dX0_init_14 : decode cX0_init 14 = .ok (.aload_n 0, 1) := by decide +kernel
theorem dX0_init_15 : decode cX0_init 15 = .ok (.iload_n 3, 1) := by decide +kernel
theorem dX0_init_16 : decode cX0_init 16 = .ok (.putfield 16, 3) := by decide +kernel
theorem dX0_init_19 : decode cX0_init 19 = .ok (.aload_n 0, 1) := by decide +kernel
theorem dX0_init_20 : decode cX0_init 20 = .ok (.iload 4, 2) := by decide +kernel
theorem dX0_init_22 : decode cX0_init 22 = .ok (.putfield 19, 3) := by decide +kernel
theorem dX0_init_25 : decode cX0_init 25 = .ok (.return_, 1) := by decide +kernel
theorem dX1_init_0 : decode cX1_init 0 = .ok (.aload_n 0, 1) := by decide +kernel
theorem dX1_init_1 : decode cX1_init 1 = .ok (.invokespecial 3, 3) := by decide +kernel
theorem dX1_init_4 : decode cX1_init 4 = .ok (.aload_n 0, 1) := by decide +kernel
theorem dX1_init_5 : decode cX1_init 5 = .ok (.iconst 0, 1) := by decide +kernel
theorem dX1_init_6 : decode cX1_init 6 = .ok (.putfield 9, 3) := by decide +kernel
theorem dX1_init_9 : decode cX1_init 9 = .ok (.aload_n 0, 1) := by decide +kernel
theorem dX1_init_10 : decode cX1_init 10 = .ok (.bipush 10, 2) := by decide +kernel
theorem dX1_init_12 : decode cX1_init 12 = .ok (.putfield 15, 3) := by decide +kernel
theorem dX1_init_15 : decode cX1_init 15 = .ok (.aload_n 0, 1) := by decide +kernel
theorem dX1_init_16 : decode cX1_init 16 = .ok (.iconst 0, 1) := by decide +kernel
theorem dX1_init_17 : decode cX1_init 17 = .ok (.putfield 18, 3) := by decide +kernel
theorem dX1_init_20 : decode cX1_init 20 = .ok (.aload_n 0, 1) := by decide +kernel
theorem dX1_init_21 : decode cX1_init 21 = .ok (.iconst 0, 1) := by decide +kernel
theorem dX1_init_22 : decode cX1_init 22 = .ok (.putfield 21, 3) := by decide +kernel
theorem dX1_init_25 : decode cX1_init 25 = .ok (.aload_n 0, 1) := by decide +kernel
theorem dX1_init_26 : decode cX1_init 26 = .ok (.iconst 0, 1) := by decide +kernel
theorem dX1_init_27 : decode cX1_init 27 = .ok (.putfield 25, 3) := by decide +kernel
theorem dX1_init_30 : decode cX1_init 30 = .ok (.aload_n 0, 1) := by decide +kernel
theorem dX1_init_31 : decode cX1_init 31 = .ok (.iconst 0, 1) := by decide +kernel
theorem dX1_init_32 : decode cX1_init 32 = .ok (.putfield 28, 3) := by decide +kernel
theorem dX1_init_35 : decode cX1_init 35 = .ok (.aload_n 0, 1) := by decide +kernel
theorem dX1_init_36 : decode cX1_init 36 = .ok (.sipush 128, 3) := by decide +kernel
theorem dX1_init_39 : decode cX1_init 39 = .ok (.newarray .int, 2) := by decide +kernel
theorem dX1_init_41 : decode cX1_init 41 = .ok (.putfield 31, 3) := by decide +kernel
theorem dX1_init_44 : decode cX1_init 44 = .ok (.aload_n 0, 1) := by decide +kernel
theorem dX1_init_45 : decode cX1_init 45 = .ok (.sipush 128, 3) := by decide +kernel
theorem dX1_init_48 : decode cX1_init 48 = .ok (.newarray .int, 2) := by decide +kernel
theorem dX1_init_50 : decode cX1_init 50 = .ok (.putfield 35, 3) := by decide +kernel
theorem dX1_init_53 : decode cX1_init 53 = .ok (.aload_n 0, 1) := by decide +kernel
theorem dX1_init_54 : decode cX1_init 54 = .ok (.iload_n 1, 1) := by decide +kernel
theorem dX1_init_55 : decode cX1_init 55 = .ok (.putfield 38, 3) := by decide +kernel
theorem dX1_init_58 : decode cX1_init 58 = .ok (.aload_n 0, 1) := by decide +kernel
theorem dX1_init_59 : decode cX1_init 59 = .ok (.iload_n 2, 1) := by decide +kernel
theorem dX1_init_60 : decode cX1_init 60 = .ok (.putfield 41, 3) := by decide +kernel
theorem dX1_init_63 : decode cX1_init 63 = .ok (.iconst 0, 1) := by decide +kernel
theorem dX1_init_64 : decode cX1_init 64 = .ok (.istore_n 3, 1) := by decide +kernel
theorem dX1_init_65 : decode cX1_init 65 = .ok (.iload_n 3, 1) := by decide +kernel
theorem dX1_init_66 : decode cX1_init 66 = .ok (.bipush 32, 2) := by decide +kernel
theorem dX1_init_68 : decode cX1_init 68 = .ok (.if_icmp .ge 15, 3) := by decide +kernel
theorem dX1_init_71 : decode cX1_init 71 = .ok (.aload_n 0, 1) := by decide +kernel
theorem dX1_init_72 : decode cX1_init 72 = .ok (.iload_n 3, 1) := by decide +kernel
theorem dX1_init_73 : decode cX1_init 73 = .ok (.iconst 0, 1) := by decide +kernel
theorem dX1_init_74 : decode cX1_init 74 = .ok (.invokevirtual 44, 3) := by decide +kernel
theorem dX1_init_77 : decode cX1_init 77 = .ok (.iinc 3 1, 3) := by decide +kernel
theorem dX1_init_80 : decode cX1_init 80 = .ok (.goto (-15), 3) := by decide +kernel
theorem dX1_init_83 : decode cX1_init 83 = .ok (.return_, 1) := by decide +kernel
theorem dX1_cell_0 : decode cX1_cell 0 = .ok (.aload_n 0, 1) := by decide +kernel
theorem dX1_cell_1 : decode cX1_cell 1 = .ok (.getfield 31, 3) := by decide +kernel
theorem dX1_cell_4 : decode cX1_cell 4 = .ok (.iload_n 1, 1) := by decide +kernel
theorem dX1_cell_5 : decode cX1_cell 5 = .ok (.iconst 4, 1) := by decide +kernel
theorem dX1_cell_6 : decode cX1_cell 6 = .ok (.imul, 1) := by decide +kernel
theorem dX1_cell_7 : decode cX1_cell 7 = .ok (.iload_n 2, 1) := by decide +kernel
theorem dX1_cell_8 : decode cX1_cell 8 = .ok (.iadd, 1) := by decide +kernel
theorem dX1_cell_9 : decode cX1_cell 9 = .ok (.invokestatic 48, 3) := by decide +kernel
theorem dX1_cell_12 : decode cX1_cell 12 = .ok (.ireturn, 1) := by decide +kernel
theorem dX1_putCell_0 : decode cX1_putCell 0 = .ok (.aload_n 0, 1) := by decide +kernel
theorem dX1_putCell_1 : decode cX1_putCell 1 = .ok (.getfield 31, 3) := by decide +kernel
theorem dX1_putCell_4 : decode cX1_putCell 4 = .ok (.iload_n 1, 1) := by decide +kernel
theorem dX1_putCell_5 : decode cX1_putCell 5 = .ok (.iconst 4, 1) := by decide +kernel
theorem dX1_putCell_6 : decode cX1_putCell 6 = .ok (.imul, 1) := by decide +kernel
theorem dX1_putCell_7 : decode cX1_putCell 7 = .ok (.iload_n 2, 1) := by decide +kernel
theorem dX1_putCell_8 : decode cX1_putCell 8 = .ok (.iadd, 1) := by decide +kernel
theorem dX1_putCell_9 : decode cX1_putCell 9 = .ok (.iload_n 3, 1) := by decide +kernel
theorem dX1_putCell_10 : decode cX1_putCell 10 = .ok (.invokestatic 52, 3) := by decide +kernel
theorem dX1_putCell_13 : decode cX1_putCell 13 = .ok (.return_, 1) := by decide +kernel
theorem dX1_clearStep_0 : decode cX1_clearStep 0 = .ok (.aload_n 0, 1) := by decide +kernel
theorem dX1_clearStep_1 : decode cX1_clearStep 1 = .ok (.iload_n 1, 1) := by decide +kernel
theorem dX1_clearStep_2 : decode cX1_clearStep 2 = .ok (.iconst 0, 1) := by decide +kernel
theorem dX1_clearStep_3 : decode cX1_clearStep 3 = .ok (.iload_n 2, 1) := by decide +kernel
theorem dX1_clearStep_4 : decode cX1_clearStep 4 = .ok (.invokevirtual 56, 3) := by decide +kernel
theorem dX1_clearStep_7 : decode cX1_clearStep 7 = .ok (.aload_n 0, 1) := by decide +kernel
theorem dX1_clearStep_8 : decode cX1_clearStep 8 = .ok (.iload_n 1, 1) := by decide +kernel
theorem dX1_clearStep_9 : decode cX1_clearStep 9 = .ok (.iconst 1, 1) := by decide +kernel
theorem dX1_clearStep_10 : decode cX1_clearStep 10 = .ok (.iconst 1, 1) := by decide +kernel
theorem dX1_clearStep_11 : decode cX1_clearStep 11 = .ok (.invokevirtual 56, 3) := by decide +kernel
theorem dX1_clearStep_14 : decode cX1_clearStep 14 = .ok (.aload_n 0, 1) := by decide +kernel
theorem dX1_clearStep_15 : decode cX1_clearStep 15 = .ok (.iload_n 1, 1) := by decide +kernel
theorem dX1_clearStep_16 : decode cX1_clearStep 16 = .ok (.iconst 2, 1) := by decide +kernel
theorem dX1_clearStep_17 : decode cX1_clearStep 17 = .ok (.iconst 0, 1) := by decide +kernel
theorem dX1_clearStep_18 : decode cX1_clearStep 18 = .ok (.invokevirtual 56, 3) := by decide +kernel
theorem dX1_clearStep_21 : decode cX1_clearStep 21 = .ok (.aload_n 0, 1) := by decide +kernel
theorem dX1_clearStep_22 : decode cX1_clearStep 22 = .ok (.iload_n 1, 1) := by decide +kernel
theorem dX1_clearStep_23 : decode cX1_clearStep 23 = .ok (.iconst 3, 1) := by decide +kernel
theorem dX1_clearStep_24 : decode cX1_clearStep 24 = .ok (.iconst 1, 1) := by decide +kernel
theorem dX1_clearStep_25 : decode cX1_clearStep 25 = .ok (.invokevirtual 56, 3) := by decide +kernel
theorem dX1_clearStep_28 : decode cX1_clearStep 28 = .ok (.return_, 1) := by decide +kernel
theorem dX1_delay_0 : decode cX1_delay 0 = .ok (.iload_n 1, 1) := by decide +kernel
theorem dX1_delay_1 : decode cX1_delay 1 = .ok (.iconst 2, 1) := by decide +kernel
theorem dX1_delay_2 : decode cX1_delay 2 = .ok (.irem, 1) := by decide +kernel
theorem dX1_delay_3 : decode cX1_delay 3 = .ok (.iconst 1, 1) := by decide +kernel
theorem dX1_delay_4 : decode cX1_delay 4 = .ok (.if_icmp .ne 10, 3) := by decide +kernel
theorem dX1_delay_7 : decode cX1_delay 7 = .ok (.aload_n 0, 1) := by decide +kernel
theorem dX1_delay_8 : decode cX1_delay 8 = .ok (.getfield 9, 3) := by decide +kernel
theorem dX1_delay_11 : decode cX1_delay 11 = .ok (.goto 4, 3) := by decide +kernel
theorem dX1_delay_14 : decode cX1_delay 14 = .ok (.iconst 0, 1) := by decide +kernel
theorem dX1_delay_15 : decode cX1_delay 15 = .ok (.ireturn, 1) := by decide +kernel
theorem dX1_roundTicks_0 : decode cX1_roundTicks 0 = .ok (.aload_n 0, 1) := by decide +kernel
theorem dX1_roundTicks_1 : decode cX1_roundTicks 1 = .ok (.getfield 38, 3) := by decide +kernel
theorem dX1_roundTicks_4 : decode cX1_roundTicks 4 = .ok (.aload_n 0, 1) := by decide +kernel
theorem dX1_roundTicks_5 : decode cX1_roundTicks 5 = .ok (.getfield 41, 3) := by decide +kernel
theorem dX1_roundTicks_8 : decode cX1_roundTicks 8 = .ok (.imul, 1) := by decide +kernel
theorem dX1_roundTicks_9 : decode cX1_roundTicks 9 = .ok (.ireturn, 1) := by decide +kernel
theorem dX1_setting_0 : decode cX1_setting 0 = .ok (.iload_n 1, 1) := by decide +kernel
theorem dX1_setting_1 : decode cX1_setting 1 = .ok (.tableswitch 94 0 6 #[43, 48, 53, 58, 63, 68, 81], 43) := by decide +kernel
theorem dX1_setting_44 : decode cX1_setting 44 = .ok (.aload_n 0, 1) := by decide +kernel
theorem dX1_setting_45 : decode cX1_setting 45 = .ok (.getfield 38, 3) := by decide +kernel
theorem dX1_setting_48 : decode cX1_setting 48 = .ok (.ireturn, 1) := by decide +kernel
theorem dX1_setting_49 : decode cX1_setting 49 = .ok (.aload_n 0, 1) := by decide +kernel
theorem dX1_setting_50 : decode cX1_setting 50 = .ok (.getfield 41, 3) := by decide +kernel
theorem dX1_setting_53 : decode cX1_setting 53 = .ok (.ireturn, 1) := by decide +kernel
theorem dX1_setting_54 : decode cX1_setting 54 = .ok (.aload_n 0, 1) := by decide +kernel
theorem dX1_setting_55 : decode cX1_setting 55 = .ok (.getfield 9, 3) := by decide +kernel
theorem dX1_setting_58 : decode cX1_setting 58 = .ok (.ireturn, 1) := by decide +kernel
theorem dX1_setting_59 : decode cX1_setting 59 = .ok (.aload_n 0, 1) := by decide +kernel
theorem dX1_setting_60 : decode cX1_setting 60 = .ok (.getfield 15, 3) := by decide +kernel
theorem dX1_setting_63 : decode cX1_setting 63 = .ok (.ireturn, 1) := by decide +kernel
theorem dX1_setting_64 : decode cX1_setting 64 = .ok (.aload_n 0, 1) := by decide +kernel
theorem dX1_setting_65 : decode cX1_setting 65 = .ok (.getfield 18, 3) := by decide +kernel
theorem dX1_setting_68 : decode cX1_setting 68 = .ok (.ireturn, 1) := by decide +kernel
theorem dX1_setting_69 : decode cX1_setting 69 = .ok (.aload_n 0, 1) := by decide +kernel
theorem dX1_setting_70 : decode cX1_setting 70 = .ok (.getfield 21, 3) := by decide +kernel
theorem dX1_setting_73 : decode cX1_setting 73 = .ok (.ifCond .eq 7, 3) := by decide +kernel
theorem dX1_setting_76 : decode cX1_setting 76 = .ok (.iconst 1, 1) := by decide +kernel
theorem dX1_setting_77 : decode cX1_setting 77 = .ok (.goto 4, 3) := by decide +kernel
theorem dX1_setting_80 : decode cX1_setting 80 = .ok (.iconst 0, 1) := by decide +kernel
theorem dX1_setting_81 : decode cX1_setting 81 = .ok (.ireturn, 1) := by decide +kernel
theorem dX1_setting_82 : decode cX1_setting 82 = .ok (.aload_n 0, 1) := by decide +kernel
theorem dX1_setting_83 : decode cX1_setting 83 = .ok (.getfield 25, 3) := by decide +kernel
theorem dX1_setting_86 : decode cX1_setting 86 = .ok (.ifCond .eq 7, 3) := by decide +kernel
theorem dX1_setting_89 : decode cX1_setting 89 = .ok (.iconst 1, 1) := by decide +kernel
theorem dX1_setting_90 : decode cX1_setting 90 = .ok (.goto 4, 3) := by decide +kernel
theorem dX1_setting_93 : decode cX1_setting 93 = .ok (.iconst 0, 1) := by decide +kernel
theorem dX1_setting_94 : decode cX1_setting 94 = .ok (.ireturn, 1) := by decide +kernel
theorem dX1_setting_95 : decode cX1_setting 95 = .ok (.aload_n 0, 1) := by decide +kernel
theorem dX1_setting_96 : decode cX1_setting 96 = .ok (.getfield 28, 3) := by decide +kernel
theorem dX1_setting_99 : decode cX1_setting 99 = .ok (.ifCond .eq 7, 3) := by decide +kernel
theorem dX1_setting_102 : decode cX1_setting 102 = .ok (.iconst 1, 1) := by decide +kernel
theorem dX1_setting_103 : decode cX1_setting 103 = .ok (.goto 4, 3) := by decide +kernel
theorem dX1_setting_106 : decode cX1_setting 106 = .ok (.iconst 0, 1) := by decide +kernel
theorem dX1_setting_107 : decode cX1_setting 107 = .ok (.ireturn, 1) := by decide +kernel
theorem dX1_switchTo_0 : decode cX1_switchTo 0 = .ok (.iload_n 1, 1) := by decide +kernel
theorem dX1_switchTo_1 : decode cX1_switchTo 1 = .ok (.lookupswitch 43 #[(5, 27), (6, 35)], 27) := by decide +kernel
theorem dX1_switchTo_28 : decode cX1_switchTo 28 = .ok (.aload_n 0, 1) := by decide +kernel
theorem dX1_switchTo_29 : decode cX1_switchTo 29 = .ok (.iload_n 2, 1) := by decide +kernel
theorem dX1_switchTo_30 : decode cX1_switchTo 30 = .ok (.putfield 21, 3) := by decide +kernel
theorem dX1_switchTo_33 : decode cX1_switchTo 33 = .ok (.goto 16, 3) := by decide +kernel
theorem dX1_switchTo_36 : decode cX1_switchTo 36 = .ok (.aload_n 0, 1) := by decide +kernel
theorem dX1_switchTo_37 : decode cX1_switchTo 37 = .ok (.iload_n 2, 1) := by decide +kernel
theorem dX1_switchTo_38 : decode cX1_switchTo 38 = .ok (.putfield 25, 3) := by decide +kernel
theorem dX1_switchTo_41 : decode cX1_switchTo 41 = .ok (.goto 8, 3) := by decide +kernel
theorem dX1_switchTo_44 : decode cX1_switchTo 44 = .ok (.aload_n 0, 1) := by decide +kernel
theorem dX1_switchTo_45 : decode cX1_switchTo 45 = .ok (.iload_n 2, 1) := by decide +kernel
theorem dX1_switchTo_46 : decode cX1_switchTo 46 = .ok (.putfield 28, 3) := by decide +kernel
theorem dX1_switchTo_49 : decode cX1_switchTo 49 = .ok (.return_, 1) := by decide +kernel
theorem dX1_spreadHits_0 : decode cX1_spreadHits 0 = .ok (.iconst (-1), 1) := by decide +kernel
theorem dX1_spreadHits_1 : decode cX1_spreadHits 1 = .ok (.istore_n 3, 1) := by decide +kernel
theorem dX1_spreadHits_2 : decode cX1_spreadHits 2 = .ok (.iconst 0, 1) := by decide +kernel
theorem dX1_spreadHits_3 : decode cX1_spreadHits 3 = .ok (.istore 4, 2) := by decide +kernel
theorem dX1_spreadHits_5 : decode cX1_spreadHits 5 = .ok (.iload 4, 2) := by decide +kernel
theorem dX1_spreadHits_7 : decode cX1_spreadHits 7 = .ok (.aload_n 0, 1) := by decide +kernel
theorem dX1_spreadHits_8 : decode cX1_spreadHits 8 = .ok (.getfield 38, 3) := by decide +kernel
theorem dX1_spreadHits_11 : decode cX1_spreadHits 11 = .ok (.if_icmp .ge 55, 3) := by decide +kernel
theorem dX1_spreadHits_14 : decode cX1_spreadHits 14 = .ok (.iload 4, 2) := by decide +kernel
theorem dX1_spreadHits_16 : decode cX1_spreadHits 16 = .ok (.iload_n 1, 1) := by decide +kernel
theorem dX1_spreadHits_17 : decode cX1_spreadHits 17 = .ok (.imul, 1) := by decide +kernel
theorem dX1_spreadHits_18 : decode cX1_spreadHits 18 = .ok (.aload_n 0, 1) := by decide +kernel
theorem dX1_spreadHits_19 : decode cX1_spreadHits 19 = .ok (.getfield 38, 3) := by decide +kernel
theorem dX1_spreadHits_22 : decode cX1_spreadHits 22 = .ok (.invokestatic 60, 3) := by decide +kernel
theorem dX1_spreadHits_25 : decode cX1_spreadHits 25 = .ok (.iload_n 1, 1) := by decide +kernel
theorem dX1_spreadHits_26 : decode cX1_spreadHits 26 = .ok (.if_icmp .ge 7, 3) := by decide +kernel
theorem dX1_spreadHits_29 : decode cX1_spreadHits 29 = .ok (.iconst 1, 1) := by decide +kernel
theorem dX1_spreadHits_30 : decode cX1_spreadHits 30 = .ok (.goto 4, 3) := by decide +kernel
theorem dX1_spreadHits_33 : decode cX1_spreadHits 33 = .ok (.iconst 0, 1) := by decide +kernel
theorem dX1_spreadHits_34 : decode cX1_spreadHits 34 = .ok (.istore 5, 2) := by decide +kernel
theorem dX1_spreadHits_36 : decode cX1_spreadHits 36 = .ok (.aload_n 0, 1) := by decide +kernel
theorem dX1_spreadHits_37 : decode cX1_spreadHits 37 = .ok (.iload 4, 2) := by decide +kernel
theorem dX1_spreadHits_39 : decode cX1_spreadHits 39 = .ok (.iload 5, 2) := by decide +kernel
theorem dX1_spreadHits_41 : decode cX1_spreadHits 41 = .ok (.ifCond .eq 7, 3) := by decide +kernel
theorem dX1_spreadHits_44 : decode cX1_spreadHits 44 = .ok (.iload_n 2, 1) := by decide +kernel
theorem dX1_spreadHits_45 : decode cX1_spreadHits 45 = .ok (.goto 4, 3) := by decide +kernel
theorem dX1_spreadHits_48 : decode cX1_spreadHits 48 = .ok (.iconst 0, 1) := by decide +kernel
theorem dX1_spreadHits_49 : decode cX1_spreadHits 49 = .ok (.invokevirtual 44, 3) := by decide +kernel
theorem dX1_spreadHits_52 : decode cX1_spreadHits 52 = .ok (.iload 5, 2) := by decide +kernel
theorem dX1_spreadHits_54 : decode cX1_spreadHits 54 = .ok (.ifCond .eq 6, 3) := by decide +kernel
theorem dX1_spreadHits_57 : decode cX1_spreadHits 57 = .ok (.iload 4, 2) := by decide +kernel
theorem dX1_spreadHits_59 : decode cX1_spreadHits 59 = .ok (.istore_n 3, 1) := by decide +kernel
theorem dX1_spreadHits_60 : decode cX1_spreadHits 60 = .ok (.iinc 4 1, 3) := by decide +kernel
theorem dX1_spreadHits_63 : decode cX1_spreadHits 63 = .ok (.goto (-58), 3) := by decide +kernel
theorem dX1_spreadHits_66 : decode cX1_spreadHits 66 = .ok (.iload_n 3, 1) := by decide +kernel
theorem dX1_spreadHits_67 : decode cX1_spreadHits 67 = .ok (.ireturn, 1) := by decide +kernel
theorem dX1_moveSteps_0 : decode cX1_moveSteps 0 = .ok (.aload_n 0, 1) := by decide +kernel
theorem dX1_moveSteps_1 : decode cX1_moveSteps 1 = .ok (.getfield 31, 3) := by decide +kernel
theorem dX1_moveSteps_4 : decode cX1_moveSteps 4 = .ok (.iconst 0, 1) := by decide +kernel
theorem dX1_moveSteps_5 : decode cX1_moveSteps 5 = .ok (.aload_n 0, 1) := by decide +kernel
theorem dX1_moveSteps_6 : decode cX1_moveSteps 6 = .ok (.getfield 35, 3) := by decide +kernel
theorem dX1_moveSteps_9 : decode cX1_moveSteps 9 = .ok (.iconst 0, 1) := by decide +kernel
theorem dX1_moveSteps_10 : decode cX1_moveSteps 10 = .ok (.sipush 128, 3) := by decide +kernel
theorem dX1_moveSteps_13 : decode cX1_moveSteps 13 = .ok (.invokestatic 64, 3) := by decide +kernel
theorem dX1_moveSteps_16 : decode cX1_moveSteps 16 = .ok (.iconst 0, 1) := by decide +kernel
theorem dX1_moveSteps_17 : decode cX1_moveSteps 17 = .ok (.istore_n 2, 1) := by decide +kernel
theorem dX1_moveSteps_18 : decode cX1_moveSteps 18 = .ok (.iload_n 2, 1) := by decide +kernel
theorem dX1_moveSteps_19 : decode cX1_moveSteps 19 = .ok (.aload_n 0, 1) := by decide +kernel
theorem dX1_moveSteps_20 : decode cX1_moveSteps 20 = .ok (.getfield 38, 3) := by decide +kernel
theorem dX1_moveSteps_23 : decode cX1_moveSteps 23 = .ok (.if_icmp .ge 28, 3) := by decide +kernel
theorem dX1_moveSteps_26 : decode cX1_moveSteps 26 = .ok (.aload_n 0, 1) := by decide +kernel
theorem dX1_moveSteps_27 : decode cX1_moveSteps 27 = .ok (.aload_n 0, 1) := by decide +kernel
theorem dX1_moveSteps_28 : decode cX1_moveSteps 28 = .ok (.getfield 35, 3) := by decide +kernel
theorem dX1_moveSteps_31 : decode cX1_moveSteps 31 = .ok (.iload_n 2, 1) := by decide +kernel
theorem dX1_moveSteps_32 : decode cX1_moveSteps 32 = .ok (.iload_n 2, 1) := by decide +kernel
theorem dX1_moveSteps_33 : decode cX1_moveSteps 33 = .ok (.iload_n 1, 1) := by decide +kernel
theorem dX1_moveSteps_34 : decode cX1_moveSteps 34 = .ok (.iadd, 1) := by decide +kernel
theorem dX1_moveSteps_35 : decode cX1_moveSteps 35 = .ok (.aload_n 0, 1) := by decide +kernel
theorem dX1_moveSteps_36 : decode cX1_moveSteps 36 = .ok (.getfield 38, 3) := by decide +kernel
theorem dX1_moveSteps_39 : decode cX1_moveSteps 39 = .ok (.invokestatic 60, 3) := by decide +kernel
theorem dX1_moveSteps_42 : decode cX1_moveSteps 42 = .ok (.invokevirtual 70, 3) := by decide +kernel
theorem dX1_moveSteps_45 : decode cX1_moveSteps 45 = .ok (.iinc 2 1, 3) := by decide +kernel
theorem dX1_moveSteps_48 : decode cX1_moveSteps 48 = .ok (.goto (-30), 3) := by decide +kernel
theorem dX1_moveSteps_51 : decode cX1_moveSteps 51 = .ok (.return_, 1) := by decide +kernel
theorem dX1_resize_0 : decode cX1_resize 0 = .ok (.aload_n 0, 1) := by decide +kernel
theorem dX1_resize_1 : decode cX1_resize 1 = .ok (.getfield 38, 3) := by decide +kernel
theorem dX1_resize_4 : decode cX1_resize 4 = .ok (.istore_n 2, 1) := by decide +kernel
theorem dX1_resize_5 : decode cX1_resize 5 = .ok (.iload_n 2, 1) := by decide +kernel
theorem dX1_resize_6 : decode cX1_resize 6 = .ok (.iload_n 1, 1) := by decide +kernel
theorem dX1_resize_7 : decode cX1_resize 7 = .ok (.if_icmp .ge 24, 3) := by decide +kernel
theorem dX1_resize_10 : decode cX1_resize 10 = .ok (.aload_n 0, 1) := by decide +kernel
theorem dX1_resize_11 : decode cX1_resize 11 = .ok (.aload_n 0, 1) := by decide +kernel
theorem dX1_resize_12 : decode cX1_resize 12 = .ok (.getfield 31, 3) := by decide +kernel
theorem dX1_resize_15 : decode cX1_resize 15 = .ok (.iload_n 2, 1) := by decide +kernel
theorem dX1_resize_16 : decode cX1_resize 16 = .ok (.aload_n 0, 1) := by decide +kernel
theorem dX1_resize_17 : decode cX1_resize 17 = .ok (.getfield 38, 3) := by decide +kernel
theorem dX1_resize_20 : decode cX1_resize 20 = .ok (.isub, 1) := by decide +kernel
theorem dX1_resize_21 : decode cX1_resize 21 = .ok (.iload_n 2, 1) := by decide +kernel
theorem dX1_resize_22 : decode cX1_resize 22 = .ok (.invokevirtual 70, 3) := by decide +kernel
theorem dX1_resize_25 : decode cX1_resize 25 = .ok (.iinc 2 1, 3) := by decide +kernel
theorem dX1_resize_28 : decode cX1_resize 28 = .ok (.goto (-23), 3) := by decide +kernel
theorem dX1_resize_31 : decode cX1_resize 31 = .ok (.aload_n 0, 1) := by decide +kernel
theorem dX1_resize_32 : decode cX1_resize 32 = .ok (.iload_n 1, 1) := by decide +kernel
theorem dX1_resize_33 : decode cX1_resize 33 = .ok (.putfield 38, 3) := by decide +kernel
theorem dX1_resize_36 : decode cX1_resize 36 = .ok (.return_, 1) := by decide +kernel
theorem dX1_copyStep_0 : decode cX1_copyStep 0 = .ok (.iconst 0, 1) := by decide +kernel
theorem dX1_copyStep_1 : decode cX1_copyStep 1 = .ok (.istore 4, 2) := by decide +kernel
theorem dX1_copyStep_3 : decode cX1_copyStep 3 = .ok (.iload 4, 2) := by decide +kernel
theorem dX1_copyStep_5 : decode cX1_copyStep 5 = .ok (.iconst 4, 1) := by decide +kernel
theorem dX1_copyStep_6 : decode cX1_copyStep 6 = .ok (.if_icmp .ge 26, 3) := by decide +kernel
theorem dX1_copyStep_9 : decode cX1_copyStep 9 = .ok (.aload_n 0, 1) := by decide +kernel
theorem dX1_copyStep_10 : decode cX1_copyStep 10 = .ok (.iload_n 3, 1) := by decide +kernel
theorem dX1_copyStep_11 : decode cX1_copyStep 11 = .ok (.iload 4, 2) := by decide +kernel
theorem dX1_copyStep_13 : decode cX1_copyStep 13 = .ok (.aload_n 1, 1) := by decide +kernel
theorem dX1_copyStep_14 : decode cX1_copyStep 14 = .ok (.iload_n 2, 1) := by decide +kernel
theorem dX1_copyStep_15 : decode cX1_copyStep 15 = .ok (.iconst 4, 1) := by decide +kernel
theorem dX1_copyStep_16 : decode cX1_copyStep 16 = .ok (.imul, 1) := by decide +kernel
theorem dX1_copyStep_17 : decode cX1_copyStep 17 = .ok (.iload 4, 2) := by decide +kernel
theorem dX1_copyStep_19 : decode cX1_copyStep 19 = .ok (.iadd, 1) := by decide +kernel
theorem dX1_copyStep_20 : decode cX1_copyStep 20 = .ok (.invokestatic 48, 3) := by decide +kernel
theorem dX1_copyStep_23 : decode cX1_copyStep 23 = .ok (.invokevirtual 56, 3) := by decide +kernel
theorem dX1_copyStep_26 : decode cX1_copyStep 26 = .ok (.iinc 4 1, 3) := by decide +kernel
theorem dX1_copyStep_29 : decode cX1_copyStep 29 = .ok (.goto (-26), 3) := by decide +kernel
theorem dX1_copyStep_32 : decode cX1_copyStep 32 = .ok (.return_, 1) := by decide +kernel
theorem dX1_stepsWithForce_0 : decode cX1_stepsWithForce 0 = .ok (.iconst 0, 1) := by decide +kernel
theorem dX1_stepsWithForce_1 : decode cX1_stepsWithForce 1 = .ok (.istore_n 1, 1) := by decide +kernel
theorem dX1_stepsWithForce_2 : decode cX1_stepsWithForce 2 = .ok (.iconst 0, 1) := by decide +kernel
theorem dX1_stepsWithForce_3 : decode cX1_stepsWithForce 3 = .ok (.istore_n 2, 1) := by decide +kernel
theorem dX1_stepsWithForce_4 : decode cX1_stepsWithForce 4 = .ok (.iload_n 2, 1) := by decide +kernel
theorem dX1_stepsWithForce_5 : decode cX1_stepsWithForce 5 = .ok (.aload_n 0, 1) := by decide +kernel
theorem dX1_stepsWithForce_6 : decode cX1_stepsWithForce 6 = .ok (.getfield 38, 3) := by decide +kernel
theorem dX1_stepsWithForce_9 : decode cX1_stepsWithForce 9 = .ok (.if_icmp .ge 21, 3) := by decide +kernel
theorem dX1_stepsWithForce_12 : decode cX1_stepsWithForce 12 = .ok (.aload_n 0, 1) := by decide +kernel
theorem dX1_stepsWithForce_13 : decode cX1_stepsWithForce 13 = .ok (.iload_n 2, 1) := by decide +kernel
theorem dX1_stepsWithForce_14 : decode cX1_stepsWithForce 14 = .ok (.iconst 0, 1) := by decide +kernel
theorem dX1_stepsWithForce_15 : decode cX1_stepsWithForce 15 = .ok (.invokevirtual 73, 3) := by decide +kernel
theorem dX1_stepsWithForce_18 : decode cX1_stepsWithForce 18 = .ok (.ifCond .le 6, 3) := by decide +kernel
theorem dX1_stepsWithForce_21 : decode cX1_stepsWithForce 21 = .ok (.iinc 1 1, 3) := by decide +kernel
theorem dX1_stepsWithForce_24 : decode cX1_stepsWithForce 24 = .ok (.iinc 2 1, 3) := by decide +kernel
theorem dX1_stepsWithForce_27 : decode cX1_stepsWithForce 27 = .ok (.goto (-23), 3) := by decide +kernel
theorem dX1_stepsWithForce_30 : decode cX1_stepsWithForce 30 = .ok (.iload_n 1, 1) := by decide +kernel
theorem dX1_stepsWithForce_31 : decode cX1_stepsWithForce 31 = .ok (.ireturn, 1) := by decide +kernel
theorem dX1_nearestStep_0 : decode cX1_nearestStep 0 = .ok (.iload_n 1, 1) := by decide +kernel
theorem dX1_nearestStep_1 : decode cX1_nearestStep 1 = .ok (.aload_n 0, 1) := by decide +kernel
theorem dX1_nearestStep_2 : decode cX1_nearestStep 2 = .ok (.invokevirtual 76, 3) := by decide +kernel
theorem dX1_nearestStep_5 : decode cX1_nearestStep 5 = .ok (.invokestatic 60, 3) := by decide +kernel
theorem dX1_nearestStep_8 : decode cX1_nearestStep 8 = .ok (.istore_n 2, 1) := by decide +kernel
theorem dX1_nearestStep_9 : decode cX1_nearestStep 9 = .ok (.iconst 0, 1) := by decide +kernel
theorem dX1_nearestStep_10 : decode cX1_nearestStep 10 = .ok (.istore_n 3, 1) := by decide +kernel
theorem dX1_nearestStep_11 : decode cX1_nearestStep 11 = .ok (.iload_n 2, 1) := by decide +kernel
theorem dX1_nearestStep_12 : decode cX1_nearestStep 12 = .ok (.aload_n 0, 1) := by decide +kernel
theorem dX1_nearestStep_13 : decode cX1_nearestStep 13 = .ok (.invokevirtual 76, 3) := by decide +kernel
theorem dX1_nearestStep_16 : decode cX1_nearestStep 16 = .ok (.iload_n 2, 1) := by decide +kernel
theorem dX1_nearestStep_17 : decode cX1_nearestStep 17 = .ok (.isub, 1) := by decide +kernel
theorem dX1_nearestStep_18 : decode cX1_nearestStep 18 = .ok (.invokestatic 80, 3) := by decide +kernel
theorem dX1_nearestStep_21 : decode cX1_nearestStep 21 = .ok (.istore 4, 2) := by decide +kernel
theorem dX1_nearestStep_23 : decode cX1_nearestStep 23 = .ok (.iconst 1, 1) := by decide +kernel
theorem dX1_nearestStep_24 : decode cX1_nearestStep 24 = .ok (.istore 5, 2) := by decide +kernel
theorem dX1_nearestStep_26 : decode cX1_nearestStep 26 = .ok (.iload 5, 2) := by decide +kernel
theorem dX1_nearestStep_28 : decode cX1_nearestStep 28 = .ok (.aload_n 0, 1) := by decide +kernel
theorem dX1_nearestStep_29 : decode cX1_nearestStep 29 = .ok (.getfield 38, 3) := by decide +kernel
theorem dX1_nearestStep_32 : decode cX1_nearestStep 32 = .ok (.if_icmp .ge 44, 3) := by decide +kernel
theorem dX1_nearestStep_35 : decode cX1_nearestStep 35 = .ok (.iload_n 2, 1) := by decide +kernel
theorem dX1_nearestStep_36 : decode cX1_nearestStep 36 = .ok (.iload 5, 2) := by decide +kernel
theorem dX1_nearestStep_38 : decode cX1_nearestStep 38 = .ok (.aload_n 0, 1) := by decide +kernel
theorem dX1_nearestStep_39 : decode cX1_nearestStep 39 = .ok (.getfield 41, 3) := by decide +kernel
theorem dX1_nearestStep_42 : decode cX1_nearestStep 42 = .ok (.imul, 1) := by decide +kernel
theorem dX1_nearestStep_43 : decode cX1_nearestStep 43 = .ok (.aload_n 0, 1) := by decide +kernel
theorem dX1_nearestStep_44 : decode cX1_nearestStep 44 = .ok (.iload 5, 2) := by decide +kernel
theorem dX1_nearestStep_46 : decode cX1_nearestStep 46 = .ok (.invokevirtual 85, 3) := by decide +kernel
theorem dX1_nearestStep_49 : decode cX1_nearestStep 49 = .ok (.iadd, 1) := by decide +kernel
theorem dX1_nearestStep_50 : decode cX1_nearestStep 50 = .ok (.isub, 1) := by decide +kernel
theorem dX1_nearestStep_51 : decode cX1_nearestStep 51 = .ok (.invokestatic 89, 3) := by decide +kernel
theorem dX1_nearestStep_54 : decode cX1_nearestStep 54 = .ok (.istore 6, 2) := by decide +kernel
theorem dX1_nearestStep_56 : decode cX1_nearestStep 56 = .ok (.iload 6, 2) := by decide +kernel
theorem dX1_nearestStep_58 : decode cX1_nearestStep 58 = .ok (.iload 4, 2) := by decide +kernel
theorem dX1_nearestStep_60 : decode cX1_nearestStep 60 = .ok (.if_icmp .ge 10, 3) := by decide +kernel
theorem dX1_nearestStep_63 : decode cX1_nearestStep 63 = .ok (.iload 5, 2) := by decide +kernel
theorem dX1_nearestStep_65 : decode cX1_nearestStep 65 = .ok (.istore_n 3, 1) := by decide +kernel
theorem dX1_nearestStep_66 : decode cX1_nearestStep 66 = .ok (.iload 6, 2) := by decide +kernel
theorem dX1_nearestStep_68 : decode cX1_nearestStep 68 = .ok (.istore 4, 2) := by decide +kernel
theorem dX1_nearestStep_70 : decode cX1_nearestStep 70 = .ok (.iinc 5 1, 3) := by decide +kernel
theorem dX1_nearestStep_73 : decode cX1_nearestStep 73 = .ok (.goto (-47), 3) := by decide +kernel
theorem dX1_nearestStep_76 : decode cX1_nearestStep 76 = .ok (.iload_n 3, 1) := by decide +kernel
theorem dX1_nearestStep_77 : decode cX1_nearestStep 77 = .ok (.ireturn, 1) := by decide +kernel
theorem dX1_forceAt_0 : decode cX1_forceAt 0 = .ok (.iload_n 1, 1) := by decide +kernel
theorem dX1_forceAt_1 : decode cX1_forceAt 1 = .ok (.aload_n 0, 1) := by decide +kernel
theorem dX1_forceAt_2 : decode cX1_forceAt 2 = .ok (.invokevirtual 76, 3) := by decide +kernel
theorem dX1_forceAt_5 : decode cX1_forceAt 5 = .ok (.invokestatic 92, 3) := by decide +kernel
theorem dX1_forceAt_8 : decode cX1_forceAt 8 = .ok (.istore_n 2, 1) := by decide +kernel
theorem dX1_forceAt_9 : decode cX1_forceAt 9 = .ok (.iload_n 1, 1) := by decide +kernel
theorem dX1_forceAt_10 : decode cX1_forceAt 10 = .ok (.aload_n 0, 1) := by decide +kernel
theorem dX1_forceAt_11 : decode cX1_forceAt 11 = .ok (.invokevirtual 76, 3) := by decide +kernel
theorem dX1_forceAt_14 : decode cX1_forceAt 14 = .ok (.invokestatic 60, 3) := by decide +kernel
theorem dX1_forceAt_17 : decode cX1_forceAt 17 = .ok (.istore_n 3, 1) := by decide +kernel
theorem dX1_forceAt_18 : decode cX1_forceAt 18 = .ok (.iload_n 3, 1) := by decide +kernel
theorem dX1_forceAt_19 : decode cX1_forceAt 19 = .ok (.aload_n 0, 1) := by decide +kernel
theorem dX1_forceAt_20 : decode cX1_forceAt 20 = .ok (.getfield 41, 3) := by decide +kernel
theorem dX1_forceAt_23 : decode cX1_forceAt 23 = .ok (.invokestatic 92, 3) := by decide +kernel
theorem dX1_forceAt_26 : decode cX1_forceAt 26 = .ok (.istore 4, 2) := by decide +kernel
theorem dX1_forceAt_28 : decode cX1_forceAt 28 = .ok (.iload_n 2, 1) := by decide +kernel
theorem dX1_forceAt_29 : decode cX1_forceAt 29 = .ok (.aload_n 0, 1) := by decide +kernel
theorem dX1_forceAt_30 : decode cX1_forceAt 30 = .ok (.iload 4, 2) := by decide +kernel
theorem dX1_forceAt_32 : decode cX1_forceAt 32 = .ok (.iconst 3, 1) := by decide +kernel
theorem dX1_forceAt_33 : decode cX1_forceAt 33 = .ok (.invokevirtual 73, 3) := by decide +kernel
theorem dX1_forceAt_36 : decode cX1_forceAt 36 = .ok (.invokestatic 60, 3) := by decide +kernel
theorem dX1_forceAt_39 : decode cX1_forceAt 39 = .ok (.aload_n 0, 1) := by decide +kernel
theorem dX1_forceAt_40 : decode cX1_forceAt 40 = .ok (.iload 4, 2) := by decide +kernel
theorem dX1_forceAt_42 : decode cX1_forceAt 42 = .ok (.iconst 2, 1) := by decide +kernel
theorem dX1_forceAt_43 : decode cX1_forceAt 43 = .ok (.invokevirtual 73, 3) := by decide +kernel
theorem dX1_forceAt_46 : decode cX1_forceAt 46 = .ok (.if_icmp .eq 5, 3) := by decide +kernel
theorem dX1_forceAt_49 : decode cX1_forceAt 49 = .ok (.iconst 0, 1) := by decide +kernel
theorem dX1_forceAt_50 : decode cX1_forceAt 50 = .ok (.ireturn, 1) := by decide +kernel
theorem dX1_forceAt_51 : decode cX1_forceAt 51 = .ok (.aload_n 0, 1) := by decide +kernel
theorem dX1_forceAt_52 : decode cX1_forceAt 52 = .ok (.iload 4, 2) := by decide +kernel
theorem dX1_forceAt_54 : decode cX1_forceAt 54 = .ok (.invokevirtual 85, 3) := by decide +kernel
theorem dX1_forceAt_57 : decode cX1_forceAt 57 = .ok (.istore 5, 2) := by decide +kernel
theorem dX1_forceAt_59 : decode cX1_forceAt 59 = .ok (.iload_n 3, 1) := by decide +kernel
theorem dX1_forceAt_60 : decode cX1_forceAt 60 = .ok (.iload 4, 2) := by decide +kernel
theorem dX1_forceAt_62 : decode cX1_forceAt 62 = .ok (.aload_n 0, 1) := by decide +kernel
theorem dX1_forceAt_63 : decode cX1_forceAt 63 = .ok (.getfield 41, 3) := by decide +kernel
theorem dX1_forceAt_66 : decode cX1_forceAt 66 = .ok (.imul, 1) := by decide +kernel
theorem dX1_forceAt_67 : decode cX1_forceAt 67 = .ok (.isub, 1) := by decide +kernel
theorem dX1_forceAt_68 : decode cX1_forceAt 68 = .ok (.iload 5, 2) := by decide +kernel
theorem dX1_forceAt_70 : decode cX1_forceAt 70 = .ok (.isub, 1) := by decide +kernel
theorem dX1_forceAt_71 : decode cX1_forceAt 71 = .ok (.istore 6, 2) := by decide +kernel
theorem dX1_forceAt_73 : decode cX1_forceAt 73 = .ok (.iload 6, 2) := by decide +kernel
theorem dX1_forceAt_75 : decode cX1_forceAt 75 = .ok (.aload_n 0, 1) := by decide +kernel
theorem dX1_forceAt_76 : decode cX1_forceAt 76 = .ok (.getfield 41, 3) := by decide +kernel
theorem dX1_forceAt_79 : decode cX1_forceAt 79 = .ok (.iload 5, 2) := by decide +kernel
theorem dX1_forceAt_81 : decode cX1_forceAt 81 = .ok (.isub, 1) := by decide +kernel
theorem dX1_forceAt_82 : decode cX1_forceAt 82 = .ok (.aload_n 0, 1) := by decide +kernel
theorem dX1_forceAt_83 : decode cX1_forceAt 83 = .ok (.iload 4, 2) := by decide +kernel
theorem dX1_forceAt_85 : decode cX1_forceAt 85 = .ok (.iconst 1, 1) := by decide +kernel
theorem dX1_forceAt_86 : decode cX1_forceAt 86 = .ok (.invokevirtual 73, 3) := by decide +kernel
theorem dX1_forceAt_89 : decode cX1_forceAt 89 = .ok (.invokestatic 95, 3) := by decide +kernel
theorem dX1_forceAt_92 : decode cX1_forceAt 92 = .ok (.istore 7, 2) := by decide +kernel
theorem dX1_forceAt_94 : decode cX1_forceAt 94 = .ok (.iload 7, 2) := by decide +kernel
theorem dX1_forceAt_96 : decode cX1_forceAt 96 = .ok (.ifCond .eq 13, 3) := by decide +kernel
theorem dX1_forceAt_99 : decode cX1_forceAt 99 = .ok (.aload_n 0, 1) := by decide +kernel
theorem dX1_forceAt_100 : decode cX1_forceAt 100 = .ok (.iload 4, 2) := by decide +kernel
theorem dX1_forceAt_102 : decode cX1_forceAt 102 = .ok (.iconst 0, 1) := by decide +kernel
theorem dX1_forceAt_103 : decode cX1_forceAt 103 = .ok (.invokevirtual 73, 3) := by decide +kernel
theorem dX1_forceAt_106 : decode cX1_forceAt 106 = .ok (.goto 4, 3) := by decide +kernel
theorem dX1_forceAt_109 : decode cX1_forceAt 109 = .ok (.iconst 0, 1) := by decide +kernel
theorem dX1_forceAt_110 : decode cX1_forceAt 110 = .ok (.ireturn, 1) := by decide +kernel
theorem dX1_isStroke_0 : decode cX1_isStroke 0 = .ok (.iconst 0, 1) := by decide +kernel
theorem dX1_isStroke_1 : decode cX1_isStroke 1 = .ok (.istore_n 3, 1) := by decide +kernel
theorem dX1_isStroke_2 : decode cX1_isStroke 2 = .ok (.iload_n 3, 1) := by decide +kernel
theorem dX1_isStroke_3 : decode cX1_isStroke 3 = .ok (.iload_n 2, 1) := by decide +kernel
theorem dX1_isStroke_4 : decode cX1_isStroke 4 = .ok (.if_icmp .ge 22, 3) := by decide +kernel
theorem dX1_isStroke_7 : decode cX1_isStroke 7 = .ok (.iload_n 0, 1) := by decide +kernel
theorem dX1_isStroke_8 : decode cX1_isStroke 8 = .ok (.iload_n 3, 1) := by decide +kernel
theorem dX1_isStroke_9 : decode cX1_isStroke 9 = .ok (.iload_n 1, 1) := by decide +kernel
theorem dX1_isStroke_10 : decode cX1_isStroke 10 = .ok (.imul, 1) := by decide +kernel
theorem dX1_isStroke_11 : decode cX1_isStroke 11 = .ok (.iload_n 2, 1) := by decide +kernel
theorem dX1_isStroke_12 : decode cX1_isStroke 12 = .ok (.invokestatic 92, 3) := by decide +kernel
theorem dX1_isStroke_15 : decode cX1_isStroke 15 = .ok (.if_icmp .ne 5, 3) := by decide +kernel
theorem dX1_isStroke_18 : decode cX1_isStroke 18 = .ok (.iconst 1, 1) := by decide +kernel
theorem dX1_isStroke_19 : decode cX1_isStroke 19 = .ok (.ireturn, 1) := by decide +kernel
theorem dX1_isStroke_20 : decode cX1_isStroke 20 = .ok (.iinc 3 1, 3) := by decide +kernel
theorem dX1_isStroke_23 : decode cX1_isStroke 23 = .ok (.goto (-21), 3) := by decide +kernel
theorem dX1_isStroke_26 : decode cX1_isStroke 26 = .ok (.iconst 0, 1) := by decide +kernel
theorem dX1_isStroke_27 : decode cX1_isStroke 27 = .ok (.ireturn, 1) := by decide +kernel
theorem dX1_roundsOfTurns_0 : decode cX1_roundsOfTurns 0 = .ok (.lconst 1, 1) := by decide +kernel
theorem dX1_roundsOfTurns_1 : decode cX1_roundsOfTurns 1 = .ok (.lstore_n 1, 1) := by decide +kernel
theorem dX1_roundsOfTurns_2 : decode cX1_roundsOfTurns 2 = .ok (.iconst 0, 1) := by decide +kernel
theorem dX1_roundsOfTurns_3 : decode cX1_roundsOfTurns 3 = .ok (.istore_n 3, 1) := by decide +kernel
theorem dX1_roundsOfTurns_4 : decode cX1_roundsOfTurns 4 = .ok (.iload_n 3, 1) := by decide +kernel
theorem dX1_roundsOfTurns_5 : decode cX1_roundsOfTurns 5 = .ok (.aload_n 0, 1) := by decide +kernel
theorem dX1_roundsOfTurns_6 : decode cX1_roundsOfTurns 6 = .ok (.getfield 38, 3) := by decide +kernel
theorem dX1_roundsOfTurns_9 : decode cX1_roundsOfTurns 9 = .ok (.if_icmp .ge 30, 3) := by decide +kernel
theorem dX1_roundsOfTurns_12 : decode cX1_roundsOfTurns 12 = .ok (.aload_n 0, 1) := by decide +kernel
theorem dX1_roundsOfTurns_13 : decode cX1_roundsOfTurns 13 = .ok (.iload_n 3, 1) := by decide +kernel
theorem dX1_roundsOfTurns_14 : decode cX1_roundsOfTurns 14 = .ok (.iconst 0, 1) := by decide +kernel
theorem dX1_roundsOfTurns_15 : decode cX1_roundsOfTurns 15 = .ok (.invokevirtual 73, 3) := by decide +kernel
theorem dX1_roundsOfTurns_18 : decode cX1_roundsOfTurns 18 = .ok (.ifCond .le 15, 3) := by decide +kernel
theorem dX1_roundsOfTurns_21 : decode cX1_roundsOfTurns 21 = .ok (.lload_n 1, 1) := by decide +kernel
theorem dX1_roundsOfTurns_22 : decode cX1_roundsOfTurns 22 = .ok (.aload_n 0, 1) := by decide +kernel
theorem dX1_roundsOfTurns_23 : decode cX1_roundsOfTurns 23 = .ok (.iload_n 3, 1) := by decide +kernel
theorem dX1_roundsOfTurns_24 : decode cX1_roundsOfTurns 24 = .ok (.iconst 3, 1) := by decide +kernel
theorem dX1_roundsOfTurns_25 : decode cX1_roundsOfTurns 25 = .ok (.invokevirtual 73, 3) := by decide +kernel
theorem dX1_roundsOfTurns_28 : decode cX1_roundsOfTurns 28 = .ok (.i2l, 1) := by decide +kernel
theorem dX1_roundsOfTurns_29 : decode cX1_roundsOfTurns 29 = .ok (.invokestatic 99, 3) := by decide +kernel
theorem dX1_roundsOfTurns_32 : decode cX1_roundsOfTurns 32 = .ok (.lstore_n 1, 1) := by decide +kernel
theorem dX1_roundsOfTurns_33 : decode cX1_roundsOfTurns 33 = .ok (.iinc 3 1, 3) := by decide +kernel
theorem dX1_roundsOfTurns_36 : decode cX1_roundsOfTurns 36 = .ok (.goto (-32), 3) := by decide +kernel
theorem dX1_roundsOfTurns_39 : decode cX1_roundsOfTurns 39 = .ok (.lload_n 1, 1) := by decide +kernel
theorem dX1_roundsOfTurns_40 : decode cX1_roundsOfTurns 40 = .ok (.l2i, 1) := by decide +kernel
theorem dX1_roundsOfTurns_41 : decode cX1_roundsOfTurns 41 = .ok (.ireturn, 1) := by decide +kernel
theorem dX1_strokesPerRound_0 : decode cX1_strokesPerRound 0 = .ok (.dconst 0, 1) := by decide +kernel
theorem dX1_strokesPerRound_1 : decode cX1_strokesPerRound 1 = .ok (.dstore_n 1, 1) := by decide +kernel
theorem dX1_strokesPerRound_2 : decode cX1_strokesPerRound 2 = .ok (.iconst 0, 1) := by decide +kernel
theorem dX1_strokesPerRound_3 : decode cX1_strokesPerRound 3 = .ok (.istore_n 3, 1) := by decide +kernel
theorem dX1_strokesPerRound_4 : decode cX1_strokesPerRound 4 = .ok (.iload_n 3, 1) := by decide +kernel
theorem dX1_strokesPerRound_5 : decode cX1_strokesPerRound 5 = .ok (.aload_n 0, 1) := by decide +kernel
theorem dX1_strokesPerRound_6 : decode cX1_strokesPerRound 6 = .ok (.getfield 38, 3) := by decide +kernel
theorem dX1_strokesPerRound_9 : decode cX1_strokesPerRound 9 = .ok (.if_icmp .ge 45, 3) := by decide +kernel
theorem dX1_strokesPerRound_12 : decode cX1_strokesPerRound 12 = .ok (.aload_n 0, 1) := by decide +kernel
theorem dX1_strokesPerRound_13 : decode cX1_strokesPerRound 13 = .ok (.iload_n 3, 1) := by decide +kernel
theorem dX1_strokesPerRound_14 : decode cX1_strokesPerRound 14 = .ok (.iconst 3, 1) := by decide +kernel
theorem dX1_strokesPerRound_15 : decode cX1_strokesPerRound 15 = .ok (.invokevirtual 73, 3) := by decide +kernel
theorem dX1_strokesPerRound_18 : decode cX1_strokesPerRound 18 = .ok (.istore 4, 2) := by decide +kernel
theorem dX1_strokesPerRound_20 : decode cX1_strokesPerRound 20 = .ok (.aload_n 0, 1) := by decide +kernel
theorem dX1_strokesPerRound_21 : decode cX1_strokesPerRound 21 = .ok (.iload_n 3, 1) := by decide +kernel
theorem dX1_strokesPerRound_22 : decode cX1_strokesPerRound 22 = .ok (.iconst 0, 1) := by decide +kernel
theorem dX1_strokesPerRound_23 : decode cX1_strokesPerRound 23 = .ok (.invokevirtual 73, 3) := by decide +kernel
theorem dX1_strokesPerRound_26 : decode cX1_strokesPerRound 26 = .ok (.ifCond .le 22, 3) := by decide +kernel
theorem dX1_strokesPerRound_29 : decode cX1_strokesPerRound 29 = .ok (.iload 4, 2) := by decide +kernel
theorem dX1_strokesPerRound_31 : decode cX1_strokesPerRound 31 = .ok (.ifCond .le 17, 3) := by decide +kernel
theorem dX1_strokesPerRound_34 : decode cX1_strokesPerRound 34 = .ok (.dload_n 1, 1) := by decide +kernel
theorem dX1_strokesPerRound_35 : decode cX1_strokesPerRound 35 = .ok (.aload_n 0, 1) := by decide +kernel
theorem dX1_strokesPerRound_36 : decode cX1_strokesPerRound 36 = .ok (.iload_n 3, 1) := by decide +kernel
theorem dX1_strokesPerRound_37 : decode cX1_strokesPerRound 37 = .ok (.iconst 1, 1) := by decide +kernel
theorem dX1_strokesPerRound_38 : decode cX1_strokesPerRound 38 = .ok (.invokevirtual 73, 3) := by decide +kernel
theorem dX1_strokesPerRound_41 : decode cX1_strokesPerRound 41 = .ok (.i2d, 1) := by decide +kernel
theorem dX1_strokesPerRound_42 : decode cX1_strokesPerRound 42 = .ok (.iload 4, 2) := by decide +kernel
theorem dX1_strokesPerRound_44 : decode cX1_strokesPerRound 44 = .ok (.i2d, 1) := by decide +kernel
theorem dX1_strokesPerRound_45 : decode cX1_strokesPerRound 45 = .ok (.ddiv, 1) := by decide +kernel
theorem dX1_strokesPerRound_46 : decode cX1_strokesPerRound 46 = .ok (.dadd, 1) := by decide +kernel
theorem dX1_strokesPerRound_47 : decode cX1_strokesPerRound 47 = .ok (.dstore_n 1, 1) := by decide +kernel
theorem dX1_strokesPerRound_48 : decode cX1_strokesPerRound 48 = .ok (.iinc 3 1, 3) := by decide +kernel
theorem dX1_strokesPerRound_51 : decode cX1_strokesPerRound 51 = .ok (.goto (-47), 3) := by decide +kernel
theorem dX1_strokesPerRound_54 : decode cX1_strokesPerRound 54 = .ok (.dload_n 1, 1) := by decide +kernel
theorem dX1_strokesPerRound_55 : decode cX1_strokesPerRound 55 = .ok (.dreturn, 1) := by decide +kernel
theorem dX1_mixInto_0 : decode cX1_mixInto 0 = .ok (.lload_n 1, 1) := by decide +kernel
theorem dX1_mixInto_1 : decode cX1_mixInto 1 = .ok (.lstore_n 3, 1) := by decide +kernel
theorem dX1_mixInto_2 : decode cX1_mixInto 2 = .ok (.iconst 0, 1) := by decide +kernel
theorem dX1_mixInto_3 : decode cX1_mixInto 3 = .ok (.istore 5, 2) := by decide +kernel
theorem dX1_mixInto_5 : decode cX1_mixInto 5 = .ok (.iload 5, 2) := by decide +kernel
theorem dX1_mixInto_7 : decode cX1_mixInto 7 = .ok (.bipush 7, 2) := by decide +kernel
theorem dX1_mixInto_9 : decode cX1_mixInto 9 = .ok (.if_icmp .gt 21, 3) := by decide +kernel
theorem dX1_mixInto_12 : decode cX1_mixInto 12 = .ok (.lload_n 3, 1) := by decide +kernel
theorem dX1_mixInto_13 : decode cX1_mixInto 13 = .ok (.aload_n 0, 1) := by decide +kernel
theorem dX1_mixInto_14 : decode cX1_mixInto 14 = .ok (.iload 5, 2) := by decide +kernel
theorem dX1_mixInto_16 : decode cX1_mixInto 16 = .ok (.invokevirtual 103, 3) := by decide +kernel
theorem dX1_mixInto_19 : decode cX1_mixInto 19 = .ok (.i2l, 1) := by decide +kernel
theorem dX1_mixInto_20 : decode cX1_mixInto 20 = .ok (.invokestatic 106, 3) := by decide +kernel
theorem dX1_mixInto_23 : decode cX1_mixInto 23 = .ok (.lstore_n 3, 1) := by decide +kernel
theorem dX1_mixInto_24 : decode cX1_mixInto 24 = .ok (.iinc 5 1, 3) := by decide +kernel
theorem dX1_mixInto_27 : decode cX1_mixInto 27 = .ok (.goto (-22), 3) := by decide +kernel
theorem dX1_mixInto_30 : decode cX1_mixInto 30 = .ok (.iconst 0, 1) := by decide +kernel
theorem dX1_mixInto_31 : decode cX1_mixInto 31 = .ok (.istore 5, 2) := by decide +kernel
theorem dX1_mixInto_33 : decode cX1_mixInto 33 = .ok (.iload 5, 2) := by decide +kernel
theorem dX1_mixInto_35 : decode cX1_mixInto 35 = .ok (.aload_n 0, 1) := by decide +kernel
theorem dX1_mixInto_36 : decode cX1_mixInto 36 = .ok (.getfield 38, 3) := by decide +kernel
theorem dX1_mixInto_39 : decode cX1_mixInto 39 = .ok (.if_icmp .ge 38, 3) := by decide +kernel
theorem dX1_mixInto_42 : decode cX1_mixInto 42 = .ok (.iconst 0, 1) := by decide +kernel
theorem dX1_mixInto_43 : decode cX1_mixInto 43 = .ok (.istore 6, 2) := by decide +kernel
theorem dX1_mixInto_45 : decode cX1_mixInto 45 = .ok (.iload 6, 2) := by decide +kernel
theorem dX1_mixInto_47 : decode cX1_mixInto 47 = .ok (.iconst 4, 1) := by decide +kernel
theorem dX1_mixInto_48 : decode cX1_mixInto 48 = .ok (.if_icmp .ge 23, 3) := by decide +kernel
theorem dX1_mixInto_51 : decode cX1_mixInto 51 = .ok (.lload_n 3, 1) := by decide +kernel
theorem dX1_mixInto_52 : decode cX1_mixInto 52 = .ok (.aload_n 0, 1) := by decide +kernel
theorem dX1_mixInto_53 : decode cX1_mixInto 53 = .ok (.iload 5, 2) := by decide +kernel
theorem dX1_mixInto_55 : decode cX1_mixInto 55 = .ok (.iload 6, 2) := by decide +kernel
theorem dX1_mixInto_57 : decode cX1_mixInto 57 = .ok (.invokevirtual 73, 3) := by decide +kernel
theorem dX1_mixInto_60 : decode cX1_mixInto 60 = .ok (.i2l, 1) := by decide +kernel
theorem dX1_mixInto_61 : decode cX1_mixInto 61 = .ok (.invokestatic 106, 3) := by decide +kernel
theorem dX1_mixInto_64 : decode cX1_mixInto 64 = .ok (.lstore_n 3, 1) := by decide +kernel
theorem dX1_mixInto_65 : decode cX1_mixInto 65 = .ok (.iinc 6 1, 3) := by decide +kernel
theorem dX1_mixInto_68 : decode cX1_mixInto 68 = .ok (.goto (-23), 3) := by decide +kernel
theorem dX1_mixInto_71 : decode cX1_mixInto 71 = .ok (.iinc 5 1, 3) := by decide +kernel
theorem dX1_mixInto_74 : decode cX1_mixInto 74 = .ok (.goto (-41), 3) := by decide +kernel
theorem dX1_mixInto_77 : decode cX1_mixInto 77 = .ok (.lload_n 3, 1) := by decide +kernel
theorem dX1_mixInto_78 : decode cX1_mixInto 78 = .ok (.lreturn, 1) := by decide +kernel
