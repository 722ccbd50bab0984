theorem dX0_init_0 : decode cX0_init 0 = .ok (.aload_n 0, 1) := by decide +kernel
theorem dX0_init_1 : decode cX0_init 1 = .ok (.invokespecial 1, 3) := by decide +kernel
theorem dX0_init_4 : decode cX0_init 4 = .ok (.aload_n 0, 1) := by decide +kernel
theorem dX0_init_5 : decode cX0_init 5 = .ok (.iload_n 1, 1) := by decide +kernel
theorem dX0_init_6 : decode cX0_init 6 = .ok (.putfield 7, 3) := by decide +kernel
theorem dX0_init_9 : decode cX0_init 9 = .ok (.aload_n 0, 1) := by decide +kernel
theorem dX0_init_10 : decode cX0_init 10 = .ok (.iload_n 2, 1) := by decide +kernel
theorem dX0_init_11 : decode cX0_init 11 = .ok (.putfield 13, 3) := by decide +kernel
theorem dX0_init_14 : decode cX0_init 14 = .ok (.aload_n 0, 1) := by decide +kernel
theorem dX0_init_15 : decode cX0_init 15 = .ok (.iload_n 3, 1) := by decide +kernel
theorem dX0_init_16 : decode cX0_init 16 = .ok (.putfield 16, 3) := by decide +kernel
theorem dX0_init_19 : decode cX0_init 19 = .ok (.aload_n 0, 1) := by decide +kernel
theorem dX0_init_20 : decode cX0_init 20 = .ok (.iload 4, 2) := by decide +kernel
theorem dX0_init_22 : decode cX0_init 22 = .ok (.putfield 19, 3) := by decide +kernel
theorem dX0_init_25 : decode cX0_init 25 = .ok (.return_, 1) := by decide +kernel
theorem dX1_init_0 : decode cX1_init 0 = .ok (.aload_n 0, 1) := by decide +kernel
theorem dX1_init_1 : decode cX1_init 1 = .ok (.invokespecial 3, 3) := by decide +kernel
theorem dX1_init_4 : decode cX1_init 4 = .ok (.aload_n 0, 1) := by decide +kernel
theorem dX1_init_5 : decode cX1_init 5 = .ok (.iconst 0, 1) := by decide +kernel
theorem dX1_init_6 : decode cX1_init 6 = .ok (.putfield 9, 3) := by decide +kernel
theorem dX1_init_9 : decode cX1_init 9 = .ok (.aload_n 0, 1) := by decide +kernel
theorem dX1_init_10 : decode cX1_init 10 = .ok (.bipush 10, 2) := by decide +kernel
theorem dX1_init_12 : decode cX1_init 12 = .ok (.putfield 15, 3) := by decide +kernel
theorem dX1_init_15 : decode cX1_init 15 = .ok (.aload_n 0, 1) := by decide +kernel
theorem dX1_init_16 : decode cX1_init 16 = .ok (.iconst 0, 1) := by decide +kernel
theorem dX1_init_17 : decode cX1_init 17 = .ok (.putfield 18, 3) := by decide +kernel
theorem dX1_init_20 : decode cX1_init 20 = .ok (.aload_n 0, 1) := by decide +kernel
theorem dX1_init_21 : decode cX1_init 21 = .ok (.iconst 0, 1) := by decide +kernel
theorem dX1_init_22 : decode cX1_init 22 = .ok (.putfield 21, 3) := by decide +kernel
theorem dX1_init_25 : decode cX1_init 25 = .ok (.aload_n 0, 1) := by decide +kernel
theorem dX1_init_26 : decode cX1_init 26 = .ok (.iconst 0, 1) := by decide +kernel
theorem dX1_init_27 : decode cX1_init 27 = .ok (.putfield 25, 3) := by decide +kernel
theorem dX1_init_30 : decode cX1_init 30 = .ok (.aload_n 0, 1) := by decide +kernel
theorem dX1_init_31 : decode cX1_init 31 = .ok (.iconst 0, 1) := by decide +kernel
theorem dX1_init_32 : decode cX1_init 32 = .ok (.putfield 28, 3) := by decide +kernel
theorem dX1_init_35 : decode cX1_init 35 = .ok (.aload_n 0, 1) := by decide +kernel
theorem dX1_init_36 : decode cX1_init 36 = .ok (.sipush 128, 3) := by decide +kernel
theorem dX1_init_39 : decode cX1_init 39 = .ok (.newarray .int, 2) := by decide +kernel
theorem dX1_init_41 : decode cX1_init 41 = .ok (.putfield 31, 3) := by decide +kernel
theorem dX1_init_44 : decode cX1_init 44 = .ok (.aload_n 0, 1) := by decide +kernel
theorem dX1_init_45 : decode cX1_init 45 = .ok (.sipush 128, 3) := by decide +kernel
theorem dX1_init_48 : decode cX1_init 48 = .ok (.newarray .int, 2) := by decide +kernel
theorem dX1_init_50 : decode cX1_init 50 = .ok (.putfield 35, 3) := by decide +kernel
theorem dX1_init_53 : decode cX1_init 53 = .ok (.aload_n 0, 1) := by decide +kernel
theorem dX1_init_54 : decode cX1_init 54 = .ok (.iload_n 1, 1) := by decide +kernel
theorem dX1_init_55 : decode cX1_init 55 = .ok (.putfield 38, 3) := by decide +kernel
theorem dX1_init_58 : decode cX1_init 58 = .ok (.aload_n 0, 1) := by decide +kernel
theorem dX1_init_59 : decode cX1_init 59 = .ok (.iload_n 2, 1) := by decide +kernel
theorem dX1_init_60 : decode cX1_init 60 = .ok (.putfield 41, 3) := by decide +kernel
theorem dX1_init_63 : decode cX1_init 63 = .ok (.iconst 0, 1) := by decide +kernel
theorem dX1_init_64 : decode cX1_init 64 = .ok (.istore_n 3, 1) := by decide +kernel
theorem dX1_init_65 : decode cX1_init 65 = .ok (.iload_n 3, 1) := by decide +kernel
theorem dX1_init_66 : decode cX1_init 66 = .ok (.bipush 32, 2) := by decide +kernel
theorem dX1_init_68 : decode cX1_init 68 = .ok (.if_icmp .ge 15, 3) := by decide +kernel
theorem dX1_init_71 : decode cX1_init 71 = .ok (.aload_n 0, 1) := by decide +kernel
theorem dX1_init_72 : decode cX1_init 72 = .ok (.iload_n 3, 1) := by decide +kernel
theorem dX1_init_73 : decode cX1_init 73 = .ok (.iconst 0, 1) := by decide +kernel
theorem dX1_init_74 : decode cX1_init 74 = .ok (.invokevirtual 44, 3) := by decide +kernel
theorem dX1_init_77 : decode cX1_init 77 = .ok (.iinc 3 1, 3) := by decide +kernel
theorem dX1_init_80 : decode cX1_init 80 = .ok (.goto (-15), 3) := by decide +kernel
theorem dX1_init_83 : decode cX1_init 83 = .ok (.return_, 1) := by decide +kernel
theorem dX1_cell_0 : decode cX1_cell 0 = .ok (.aload_n 0, 1) := by decide +kernel
theorem dX1_cell_1 : decode cX1_cell 1 = .ok (.getfield 31, 3) := by decide +kernel
theorem dX1_cell_4 : decode cX1_cell 4 = .ok (.iload_n 1, 1) := by decide +kernel
theorem dX1_cell_5 : decode cX1_cell 5 = .ok (.iconst 4, 1) := by decide +kernel
theorem dX1_cell_6 : decode cX1_cell 6 = .ok (.imul, 1) := by decide +kernel
theorem dX1_cell_7 : decode cX1_cell 7 = .ok (.iload_n 2, 1) := by decide +kernel
theorem dX1_cell_8 : decode cX1_cell 8 = .ok (.iadd, 1) := by decide +kernel
theorem dX1_cell_9 : decode cX1_cell 9 = .ok (.invokestatic 48, 3) := by decide +kernel
theorem dX1_cell_12 : decode cX1_cell 12 = .ok (.ireturn, 1) := by decide +kernel
theorem dX1_putCell_0 : decode cX1_putCell 0 = .ok (.aload_n 0, 1) := by decide +kernel
theorem dX1_putCell_1 : decode cX1_putCell 1 = .ok (.getfield 31, 3) := by decide +kernel
theorem dX1_putCell_4 : decode cX1_putCell 4 = .ok (.iload_n 1, 1) := by decide +kernel
theorem dX1_putCell_5 : decode cX1_putCell 5 = .ok (.iconst 4, 1) := by decide +kernel
theorem dX1_putCell_6 : decode cX1_putCell 6 = .ok (.imul, 1) := by decide +kernel
theorem dX1_putCell_7 : decode cX1_putCell 7 = .ok (.iload_n 2, 1) := by decide +kernel
theorem dX1_putCell_8 : decode cX1_putCell 8 = .ok (.iadd, 1) := by decide +kernel
theorem dX1_putCell_9 : decode cX1_putCell 9 = .ok (.iload_n 3, 1) := by decide +kernel
theorem dX1_putCell_10 : decode cX1_putCell 10 = .ok (.invokestatic 52, 3) := by decide +kernel
theorem dX1_putCell_13 : decode cX1_putCell 13 = .ok (.return_, 1) := by decide +kernel
theorem dX1_clearStep_0 : decode cX1_clearStep 0 = .ok (.aload_n 0, 1) := by decide +kernel
theorem dX1_clearStep_1 : decode cX1_clearStep 1 = .ok (.iload_n 1, 1) := by decide +kernel
theorem dX1_clearStep_2 : decode cX1_clearStep 2 = .ok (.iconst 0, 1) := by decide +kernel
theorem dX1_clearStep_3 : decode cX1_clearStep 3 = .ok (.iload_n 2, 1) := by decide +kernel
theorem dX1_clearStep_4 : decode cX1_clearStep 4 = .ok (.invokevirtual 56, 3) := by decide +kernel
theorem dX1_clearStep_7 : decode cX1_clearStep 7 = .ok (.aload_n 0, 1) := by decide +kernel
theorem dX1_clearStep_8 : decode cX1_clearStep 8 = .ok (.iload_n 1, 1) := by decide +kernel
theorem dX1_clearStep_9 : decode cX1_clearStep 9 = .ok (.iconst 1, 1) := by decide +kernel
theorem dX1_clearStep_10 : decode cX1_clearStep 10 = .ok (.iconst 1, 1) := by decide +kernel
theorem dX1_clearStep_11 : decode cX1_clearStep 11 = .ok (.invokevirtual 56, 3) := by decide +kernel
theorem dX1_clearStep_14 : decode cX1_clearStep 14 = .ok (.aload_n 0, 1) := by decide +kernel
theorem dX1_clearStep_15 : decode cX1_clearStep 15 = .ok (.iload_n 1, 1) := by decide +kernel
theorem dX1_clearStep_16 : decode cX1_clearStep 16 = .ok (.iconst 2, 1) := by decide +kernel
theorem dX1_clearStep_17 : decode cX1_clearStep 17 = .ok (.iconst 0, 1) := by decide +kernel
theorem dX1_clearStep_18 : decode cX1_clearStep 18 = .ok (.invokevirtual 56, 3) := by decide +kernel
theorem dX1_clearStep_21 : decode cX1_clearStep 21 = .ok (.aload_n 0, 1) := by decide +kernel
theorem dX1_clearStep_22 : decode cX1_clearStep 22 = .ok (.iload_n 1, 1) := by decide +kernel
theorem dX1_clearStep_23 : decode cX1_clearStep 23 = .ok (.iconst 3, 1) := by decide +kernel
theorem dX1_clearStep_24 : decode cX1_clearStep 24 = .ok (.iconst 1, 1) := by decide +kernel
theorem dX1_clearStep_25 : decode cX1_clearStep 25 = .ok (.invokevirtual 56, 3) := by decide +kernel
theorem dX1_clearStep_28 : decode cX1_clearStep 28 = .ok (.return_, 1) := by decide +kernel
theorem dX1_delay_0 : decode cX1_delay 0 = .ok (.iload_n 1, 1) := by decide +kernel
theorem dX1_delay_1 : decode cX1_delay 1 = .ok (.iconst 2, 1) := by decide +kernel
theorem dX1_delay_2 : decode cX1_delay 2 = .ok (.irem, 1) := by decide +kernel
theorem dX1_delay_3 : decode cX1_delay 3 = .ok (.iconst 1, 1) := by decide +kernel
theorem dX1_delay_4 : decode cX1_delay 4 = .ok (.if_icmp .ne 10, 3) := by decide +kernel
theorem dX1_delay_7 : decode cX1_delay 7 = .ok (.aload_n 0, 1) := by decide +kernel
theorem dX1_delay_8 : decode cX1_delay 8 = .ok (.getfield 9, 3) := by decide +kernel
theorem dX1_delay_11 : decode cX1_delay 11 = .ok (.goto 4, 3) := by decide +kernel
theorem dX1_delay_14 : decode cX1_delay 14 = .ok (.iconst 0, 1) := by decide +kernel
theorem dX1_delay_15 : decode cX1_delay 15 = .ok (.ireturn, 1) := by decide +kernel
theorem dX1_roundTicks_0 : decode cX1_roundTicks 0 = .ok (.aload_n 0, 1) := by decide +kernel
theorem dX1_roundTicks_1 : decode cX1_roundTicks 1 = .ok (.getfield 38, 3) := by decide +kernel
theorem dX1_roundTicks_4 : decode cX1_roundTicks 4 = .ok (.aload_n 0, 1) := by decide +kernel
theorem dX1_roundTicks_5 : decode cX1_roundTicks 5 = .ok (.getfield 41, 3) := by decide +kernel
theorem dX1_roundTicks_8 : decode cX1_roundTicks 8 = .ok (.imul, 1) := by decide +kernel
theorem dX1_roundTicks_9 : decode cX1_roundTicks 9 = .ok (.ireturn, 1) := by decide +kernel
theorem dX1_setting_0 : decode cX1_setting 0 = .ok (.iload_n 1, 1) := by decide +kernel
theorem dX1_setting_1 : decode cX1_setting 1 = .ok (.tableswitch 94 0 6 #[43, 48, 53, 58, 63, 68, 81], 43) := by decide +kernel
theorem dX1_setting_44 : decode cX1_setting 44 = .ok (.aload_n 0, 1) := by decide +kernel
theorem dX1_setting_45 : decode cX1_setting 45 = .ok (.getfield 38, 3) := by decide +kernel
theorem dX1_setting_48 : decode cX1_setting 48 = .ok (.ireturn, 1) := by decide +kernel
theorem dX1_setting_49 : decode cX1_setting 49 = .ok (.aload_n 0, 1) := by decide +kernel
theorem dX1_setting_50 : decode cX1_setting 50 = .ok (.getfield 41, 3) := by decide +kernel
theorem dX1_setting_53 : decode cX1_setting 53 = .ok (.ireturn, 1) := by decide +kernel
theorem dX1_setting_54 : decode cX1_setting 54 = .ok (.aload_n 0, 1) := by decide +kernel
theorem dX1_setting_55 : decode cX1_setting 55 = .ok (.getfield 9, 3) := by decide +kernel
theorem dX1_setting_58 : decode cX1_setting 58 = .ok (.ireturn, 1) := by decide +kernel
theorem dX1_setting_59 : decode cX1_setting 59 = .ok (.aload_n 0, 1) := by decide +kernel
theorem dX1_setting_60 : decode cX1_setting 60 = .ok (.getfield 15, 3) := by decide +kernel
theorem dX1_setting_63 : decode cX1_setting 63 = .ok (.ireturn, 1) := by decide +kernel
theorem dX1_setting_64 : decode cX1_setting 64 = .ok (.aload_n 0, 1) := by decide +kernel
theorem dX1_setting_65 : decode cX1_setting 65 = .ok (.getfield 18, 3) := by decide +kernel
theorem dX1_setting_68 : decode cX1_setting 68 = .ok (.ireturn, 1) := by decide +kernel
theorem dX1_setting_69 : decode cX1_setting 69 = .ok (.aload_n 0, 1) := by decide +kernel
theorem dX1_setting_70 : decode cX1_setting 70 = .ok (.getfield 21, 3) := by decide +kernel
theorem dX1_setting_73 : decode cX1_setting 73 = .ok (.ifCond .eq 7, 3) := by decide +kernel
theorem dX1_setting_76 : decode cX1_setting 76 = .ok (.iconst 1, 1) := by decide +kernel
theorem dX1_setting_77 : decode cX1_setting 77 = .ok (.goto 4, 3) := by decide +kernel
theorem dX1_setting_80 : decode cX1_setting 80 = .ok (.iconst 0, 1) := by decide +kernel
theorem dX1_setting_81 : decode cX1_setting 81 = .ok (.ireturn, 1) := by decide +kernel
theorem dX1_setting_82 : decode cX1_setting 82 = .ok (.aload_n 0, 1) := by decide +kernel
theorem dX1_setting_83 : decode cX1_setting 83 = .ok (.getfield 25, 3) := by decide +kernel
theorem dX1_setting_86 : decode cX1_setting 86 = .ok (.ifCond .eq 7, 3) := by decide +kernel
theorem dX1_setting_89 : decode cX1_setting 89 = .ok (.iconst 1, 1) := by decide +kernel
theorem dX1_setting_90 : decode cX1_setting 90 = .ok (.goto 4, 3) := by decide +kernel
theorem dX1_setting_93 : decode cX1_setting 93 = .ok (.iconst 0, 1) := by decide +kernel
theorem dX1_setting_94 : decode cX1_setting 94 = .ok (.ireturn, 1) := by decide +kernel
theorem dX1_setting_95 : decode cX1_setting 95 = .ok (.aload_n 0, 1) := by decide +kernel
theorem dX1_setting_96 : decode cX1_setting 96 = .ok (.getfield 28, 3) := by decide +kernel
theorem dX1_setting_99 : decode cX1_setting 99 = .ok (.ifCond .eq 7, 3) := by decide +kernel
theorem dX1_setting_102 : decode cX1_setting 102 = .ok (.iconst 1, 1) := by decide +kernel
theorem dX1_setting_103 : decode cX1_setting 103 = .ok (.goto 4, 3) := by decide +kernel
theorem dX1_setting_106 : decode cX1_setting 106 = .ok (.iconst 0, 1) := by decide +kernel
theorem dX1_setting_107 : decode cX1_setting 107 = .ok (.ireturn, 1) := by decide +kernel
theorem dX1_switchTo_0 : decode cX1_switchTo 0 = .ok (.iload_n 1, 1) := by decide +kernel
theorem dX1_switchTo_1 : decode cX1_switchTo 1 = .ok (.lookupswitch 43 #[(5, 27), (6, 35)], 27) := by decide +kernel
theorem dX1_switchTo_28 : decode cX1_switchTo 28 = .ok (.aload_n 0, 1) := by decide +kernel
theorem dX1_switchTo_29 : decode cX1_switchTo 29 = .ok (.iload_n 2, 1) := by decide +kernel
theorem dX1_switchTo_30 : decode cX1_switchTo 30 = .ok (.putfield 21, 3) := by decide +kernel
theorem dX1_switchTo_33 : decode cX1_switchTo 33 = .ok (.goto 16, 3) := by decide +kernel
theorem dX1_switchTo_36 : decode cX1_switchTo 36 = .ok (.aload_n 0, 1) := by decide +kernel
theorem dX1_switchTo_37 : decode cX1_switchTo 37 = .ok (.iload_n 2, 1) := by decide +kernel
theorem dX1_switchTo_38 : decode cX1_switchTo 38 = .ok (.putfield 25, 3) := by decide +kernel
theorem dX1_switchTo_41 : decode cX1_switchTo 41 = .ok (.goto 8, 3) := by decide +kernel
theorem dX1_switchTo_44 : decode cX1_switchTo 44 = .ok (.aload_n 0, 1) := by decide +kernel
theorem dX1_switchTo_45 : decode cX1_switchTo 45 = .ok (.iload_n 2, 1) := by decide +kernel
theorem dX1_switchTo_46 : decode cX1_switchTo 46 = .ok (.putfield 28, 3) := by decide +kernel
theorem dX1_switchTo_49 : decode cX1_switchTo 49 = .ok (.return_, 1) := by decide +kernel
theorem dX1_moveSteps_0 : decode cX1_moveSteps 0 = .ok (.aload_n 0, 1) := by decide +kernel
theorem dX1_moveSteps_1 : decode cX1_moveSteps 1 = .ok (.getfield 31, 3) := by decide +kernel
theorem dX1_moveSteps_4 : decode cX1_moveSteps 4 = .ok (.iconst 0, 1) := by decide +kernel
theorem dX1_moveSteps_5 : decode cX1_moveSteps 5 = .ok (.aload_n 0, 1) := by decide +kernel
theorem dX1_moveSteps_6 : decode cX1_moveSteps 6 = .ok (.getfield 35, 3) := by decide +kernel
theorem dX1_moveSteps_9 : decode cX1_moveSteps 9 = .ok (.iconst 0, 1) := by decide +kernel
theorem dX1_moveSteps_10 : decode cX1_moveSteps 10 = .ok (.sipush 128, 3) := by decide +kernel
theorem dX1_moveSteps_13 : decode cX1_moveSteps 13 = .ok (.invokestatic 64, 3) := by decide +kernel
theorem dX1_moveSteps_16 : decode cX1_moveSteps 16 = .ok (.iconst 0, 1) := by decide +kernel
theorem dX1_moveSteps_17 : decode cX1_moveSteps 17 = .ok (.istore_n 2, 1) := by decide +kernel
theorem dX1_moveSteps_18 : decode cX1_moveSteps 18 = .ok (.iload_n 2, 1) := by decide +kernel
theorem dX1_moveSteps_19 : decode cX1_moveSteps 19 = .ok (.aload_n 0, 1) := by decide +kernel
theorem dX1_moveSteps_20 : decode cX1_moveSteps 20 = .ok (.getfield 38, 3) := by decide +kernel
theorem dX1_moveSteps_23 : decode cX1_moveSteps 23 = .ok (.if_icmp .ge 28, 3) := by decide +kernel
theorem dX1_moveSteps_26 : decode cX1_moveSteps 26 = .ok (.aload_n 0, 1) := by decide +kernel
theorem dX1_moveSteps_27 : decode cX1_moveSteps 27 = .ok (.aload_n 0, 1) := by decide +kernel
theorem dX1_moveSteps_28 : decode cX1_moveSteps 28 = .ok (.getfield 35, 3) := by decide +kernel
theorem dX1_moveSteps_31 : decode cX1_moveSteps 31 = .ok (.iload_n 2, 1) := by decide +kernel
theorem dX1_moveSteps_32 : decode cX1_moveSteps 32 = .ok (.iload_n 2, 1) := by decide +kernel
theorem dX1_moveSteps_33 : decode cX1_moveSteps 33 = .ok (.iload_n 1, 1) := by decide +kernel
theorem dX1_moveSteps_34 : decode cX1_moveSteps 34 = .ok (.iadd, 1) := by decide +kernel
theorem dX1_moveSteps_35 : decode cX1_moveSteps 35 = .ok (.aload_n 0, 1) := by decide +kernel
theorem dX1_moveSteps_36 : decode cX1_moveSteps 36 = .ok (.getfield 38, 3) := by decide +kernel
theorem dX1_moveSteps_39 : decode cX1_moveSteps 39 = .ok (.invokestatic 60, 3) := by decide +kernel
theorem dX1_moveSteps_42 : decode cX1_moveSteps 42 = .ok (.invokevirtual 70, 3) := by decide +kernel
theorem dX1_moveSteps_45 : decode cX1_moveSteps 45 = .ok (.iinc 2 1, 3) := by decide +kernel
theorem dX1_moveSteps_48 : decode cX1_moveSteps 48 = .ok (.goto (-30), 3) := by decide +kernel
theorem dX1_moveSteps_51 : decode cX1_moveSteps 51 = .ok (.return_, 1) := by decide +kernel
theorem dX1_copyStep_0 : decode cX1_copyStep 0 = .ok (.iconst 0, 1) := by decide +kernel
theorem dX1_copyStep_1 : decode cX1_copyStep 1 = .ok (.istore 4, 2) := by decide +kernel
theorem dX1_copyStep_3 : decode cX1_copyStep 3 = .ok (.iload 4, 2) := by decide +kernel
theorem dX1_copyStep_5 : decode cX1_copyStep 5 = .ok (.iconst 4, 1) := by decide +kernel
theorem dX1_copyStep_6 : decode cX1_copyStep 6 = .ok (.if_icmp .ge 26, 3) := by decide +kernel
theorem dX1_copyStep_9 : decode cX1_copyStep 9 = .ok (.aload_n 0, 1) := by decide +kernel
theorem dX1_copyStep_10 : decode cX1_copyStep 10 = .ok (.iload_n 3, 1) := by decide +kernel
theorem dX1_copyStep_11 : decode cX1_copyStep 11 = .ok (.iload 4, 2) := by decide +kernel
theorem dX1_copyStep_13 : decode cX1_copyStep 13 = .ok (.aload_n 1, 1) := by decide +kernel
theorem dX1_copyStep_14 : decode cX1_copyStep 14 = .ok (.iload_n 2, 1) := by decide +kernel
theorem dX1_copyStep_15 : decode cX1_copyStep 15 = .ok (.iconst 4, 1) := by decide +kernel
theorem dX1_copyStep_16 : decode cX1_copyStep 16 = .ok (.imul, 1) := by decide +kernel
theorem dX1_copyStep_17 : decode cX1_copyStep 17 = .ok (.iload 4, 2) := by decide +kernel
theorem dX1_copyStep_19 : decode cX1_copyStep 19 = .ok (.iadd, 1) := by decide +kernel
theorem dX1_copyStep_20 : decode cX1_copyStep 20 = .ok (.invokestatic 48, 3) := by decide +kernel
theorem dX1_copyStep_23 : decode cX1_copyStep 23 = .ok (.invokevirtual 56, 3) := by decide +kernel
theorem dX1_copyStep_26 : decode cX1_copyStep 26 = .ok (.iinc 4 1, 3) := by decide +kernel
theorem dX1_copyStep_29 : decode cX1_copyStep 29 = .ok (.goto (-26), 3) := by decide +kernel
theorem dX1_copyStep_32 : decode cX1_copyStep 32 = .ok (.return_, 1) := by decide +kernel
theorem dX1_stepsWithForce_0 : decode cX1_stepsWithForce 0 = .ok (.iconst 0, 1) := by decide +kernel
theorem dX1_stepsWithForce_1 : decode cX1_stepsWithForce 1 = .ok (.istore_n 1, 1) := by decide +kernel
theorem dX1_stepsWithForce_2 : decode cX1_stepsWithForce 2 = .ok (.iconst 0, 1) := by decide +kernel
theorem dX1_stepsWithForce_3 : decode cX1_stepsWithForce 3 = .ok (.istore_n 2, 1) := by decide +kernel
theorem dX1_stepsWithForce_4 : decode cX1_stepsWithForce 4 = .ok (.iload_n 2, 1) := by decide +kernel
theorem dX1_stepsWithForce_5 : decode cX1_stepsWithForce 5 = .ok (.aload_n 0, 1) := by decide +kernel
theorem dX1_stepsWithForce_6 : decode cX1_stepsWithForce 6 = .ok (.getfield 38, 3) := by decide +kernel
theorem dX1_stepsWithForce_9 : decode cX1_stepsWithForce 9 = .ok (.if_icmp .ge 21, 3) := by decide +kernel
theorem dX1_stepsWithForce_12 : decode cX1_stepsWithForce 12 = .ok (.aload_n 0, 1) := by decide +kernel
theorem dX1_stepsWithForce_13 : decode cX1_stepsWithForce 13 = .ok (.iload_n 2, 1) := by decide +kernel
theorem dX1_stepsWithForce_14 : decode cX1_stepsWithForce 14 = .ok (.iconst 0, 1) := by decide +kernel
theorem dX1_stepsWithForce_15 : decode cX1_stepsWithForce 15 = .ok (.invokevirtual 73, 3) := by decide +kernel
theorem dX1_stepsWithForce_18 : decode cX1_stepsWithForce 18 = .ok (.ifCond .le 6, 3) := by decide +kernel
theorem dX1_stepsWithForce_21 : decode cX1_stepsWithForce 21 = .ok (.iinc 1 1, 3) := by decide +kernel
theorem dX1_stepsWithForce_24 : decode cX1_stepsWithForce 24 = .ok (.iinc 2 1, 3) := by decide +kernel
theorem dX1_stepsWithForce_27 : decode cX1_stepsWithForce 27 = .ok (.goto (-23), 3) := by decide +kernel
theorem dX1_stepsWithForce_30 : decode cX1_stepsWithForce 30 = .ok (.iload_n 1, 1) := by decide +kernel
theorem dX1_stepsWithForce_31 : decode cX1_stepsWithForce 31 = .ok (.ireturn, 1) := by decide +kernel
theorem dX1_forceAt_0 : decode cX1_forceAt 0 = .ok (.iload_n 1, 1) := by decide +kernel
theorem dX1_forceAt_1 : decode cX1_forceAt 1 = .ok (.aload_n 0, 1) := by decide +kernel
theorem dX1_forceAt_2 : decode cX1_forceAt 2 = .ok (.invokevirtual 76, 3) := by decide +kernel
theorem dX1_forceAt_5 : decode cX1_forceAt 5 = .ok (.invokestatic 92, 3) := by decide +kernel
theorem dX1_forceAt_8 : decode cX1_forceAt 8 = .ok (.istore_n 2, 1) := by decide +kernel
theorem dX1_forceAt_9 : decode cX1_forceAt 9 = .ok (.iload_n 1, 1) := by decide +kernel
theorem dX1_forceAt_10 : decode cX1_forceAt 10 = .ok (.aload_n 0, 1) := by decide +kernel
theorem dX1_forceAt_11 : decode cX1_forceAt 11 = .ok (.invokevirtual 76, 3) := by decide +kernel
theorem dX1_forceAt_14 : decode cX1_forceAt 14 = .ok (.invokestatic 60, 3) := by decide +kernel
theorem dX1_forceAt_17 : decode cX1_forceAt 17 = .ok (.istore_n 3, 1) := by decide +kernel
theorem dX1_forceAt_18 : decode cX1_forceAt 18 = .ok (.iload_n 3, 1) := by decide +kernel
theorem dX1_forceAt_19 : decode cX1_forceAt 19 = .ok (.aload_n 0, 1) := by decide +kernel
theorem dX1_forceAt_20 : decode cX1_forceAt 20 = .ok (.getfield 41, 3) := by decide +kernel
theorem dX1_forceAt_23 : decode cX1_forceAt 23 = .ok (.invokestatic 92, 3) := by decide +kernel
theorem dX1_forceAt_26 : decode cX1_forceAt 26 = .ok (.istore 4, 2) := by decide +kernel
theorem dX1_forceAt_28 : decode cX1_forceAt 28 = .ok (.iload_n 2, 1) := by decide +kernel
theorem dX1_forceAt_29 : decode cX1_forceAt 29 = .ok (.aload_n 0, 1) := by decide +kernel
theorem dX1_forceAt_30 : decode cX1_forceAt 30 = .ok (.iload 4, 2) := by decide +kernel
theorem dX1_forceAt_32 : decode cX1_forceAt 32 = .ok (.iconst 3, 1) := by decide +kernel
theorem dX1_forceAt_33 : decode cX1_forceAt 33 = .ok (.invokevirtual 73, 3) := by decide +kernel
theorem dX1_forceAt_36 : decode cX1_forceAt 36 = .ok (.invokestatic 60, 3) := by decide +kernel
theorem dX1_forceAt_39 : decode cX1_forceAt 39 = .ok (.aload_n 0, 1) := by decide +kernel
theorem dX1_forceAt_40 : decode cX1_forceAt 40 = .ok (.iload 4, 2) := by decide +kernel
theorem dX1_forceAt_42 : decode cX1_forceAt 42 = .ok (.iconst 2, 1) := by decide +kernel
theorem dX1_forceAt_43 : decode cX1_forceAt 43 = .ok (.invokevirtual 73, 3) := by decide +kernel
theorem dX1_forceAt_46 : decode cX1_forceAt 46 = .ok (.if_icmp .eq 5, 3) := by decide +kernel
theorem dX1_forceAt_49 : decode cX1_forceAt 49 = .ok (.iconst 0, 1) := by decide +kernel
theorem dX1_forceAt_50 : decode cX1_forceAt 50 = .ok (.ireturn, 1) := by decide +kernel
theorem dX1_forceAt_51 : decode cX1_forceAt 51 = .ok (.aload_n 0, 1) := by decide +kernel
theorem dX1_forceAt_52 : decode cX1_forceAt 52 = .ok (.iload 4, 2) := by decide +kernel
theorem dX1_forceAt_54 : decode cX1_forceAt 54 = .ok (.invokevirtual 85, 3) := by decide +kernel
theorem dX1_forceAt_57 : decode cX1_forceAt 57 = .ok (.istore 5, 2) := by decide +kernel
theorem dX1_forceAt_59 : decode cX1_forceAt 59 = .ok (.iload_n 3, 1) := by decide +kernel
theorem dX1_forceAt_60 : decode cX1_forceAt 60 = .ok (.iload 4, 2) := by decide +kernel
theorem dX1_forceAt_62 : decode cX1_forceAt 62 = .ok (.aload_n 0, 1) := by decide +kernel
theorem dX1_forceAt_63 : decode cX1_forceAt 63 = .ok (.getfield 41, 3) := by decide +kernel
theorem dX1_forceAt_66 : decode cX1_forceAt 66 = .ok (.imul, 1) := by decide +kernel
theorem dX1_forceAt_67 : decode cX1_forceAt 67 = .ok (.isub, 1) := by decide +kernel
theorem dX1_forceAt_68 : decode cX1_forceAt 68 = .ok (.iload 5, 2) := by decide +kernel
theorem dX1_forceAt_70 : decode cX1_forceAt 70 = .ok (.isub, 1) := by decide +kernel
theorem dX1_forceAt_71 : decode cX1_forceAt 71 = .ok (.istore 6, 2) := by decide +kernel
theorem dX1_forceAt_73 : decode cX1_forceAt 73 = .ok (.iload 6, 2) := by decide +kernel
theorem dX1_forceAt_75 : decode cX1_forceAt 75 = .ok (.aload_n 0, 1) := by decide +kernel
theorem dX1_forceAt_76 : decode cX1_forceAt 76 = .ok (.getfield 41, 3) := by decide +kernel
theorem dX1_forceAt_79 : decode cX1_forceAt 79 = .ok (.iload 5, 2) := by decide +kernel
theorem dX1_forceAt_81 : decode cX1_forceAt 81 = .ok (.isub, 1) := by decide +kernel
theorem dX1_forceAt_82 : decode cX1_forceAt 82 = .ok (.aload_n 0, 1) := by decide +kernel
theorem dX1_forceAt_83 : decode cX1_forceAt 83 = .ok (.iload 4, 2) := by decide +kernel
theorem dX1_forceAt_85 : decode cX1_forceAt 85 = .ok (.iconst 1, 1) := by decide +kernel
theorem dX1_forceAt_86 : decode cX1_forceAt 86 = .ok (.invokevirtual 73, 3) := by decide +kernel
theorem dX1_forceAt_89 : decode cX1_forceAt 89 = .ok (.invokestatic 95, 3) := by decide +kernel
theorem dX1_forceAt_92 : decode cX1_forceAt 92 = .ok (.istore 7, 2) := by decide +kernel
theorem dX1_forceAt_94 : decode cX1_forceAt 94 = .ok (.iload 7, 2) := by decide +kernel
theorem dX1_forceAt_96 : decode cX1_forceAt 96 = .ok (.ifCond .eq 13, 3) := by decide +kernel
theorem dX1_forceAt_99 : decode cX1_forceAt 99 = .ok (.aload_n 0, 1) := by decide +kernel
theorem dX1_forceAt_100 : decode cX1_forceAt 100 = .ok (.iload 4, 2) := by decide +kernel
theorem dX1_forceAt_102 : decode cX1_forceAt 102 = .ok (.iconst 0, 1) := by decide +kernel
theorem dX1_forceAt_103 : decode cX1_forceAt 103 = .ok (.invokevirtual 73, 3) := by decide +kernel
theorem dX1_forceAt_106 : decode cX1_forceAt 106 = .ok (.goto 4, 3) := by decide +kernel
theorem dX1_forceAt_109 : decode cX1_forceAt 109 = .ok (.iconst 0, 1) := by decide +kernel
theorem dX1_forceAt_110 : decode cX1_forceAt 110 = .ok (.ireturn, 1) := by decide +kernel
theorem dX1_isStroke_0 : decode cX1_isStroke 0 = .ok (.iconst 0, 1) := by decide +kernel
theorem dX1_isStroke_1 : decode cX1_isStroke 1 = .ok (.istore_n 3, 1) := by decide +kernel
theorem dX1_isStroke_2 : decode cX1_isStroke 2 = .ok (.iload_n 3, 1) := by decide +kernel
theorem dX1_isStroke_3 : decode cX1_isStroke 3 = .ok (.iload_n 2, 1) := by decide +kernel
theorem dX1_isStroke_4 : decode cX1_isStroke 4 = .ok (.if_icmp .ge 22, 3) := by decide +kernel
theorem dX1_isStroke_7 : decode cX1_isStroke 7 = .ok (.iload_n 0, 1) := by decide +kernel
theorem dX1_isStroke_8 : decode cX1_isStroke 8 = .ok (.iload_n 3, 1) := by decide +kernel
theorem dX1_isStroke_9 : decode cX1_isStroke 9 = .ok (.iload_n 1, 1) := by decide +kernel
theorem dX1_isStroke_10 : decode cX1_isStroke 10 = .ok (.imul, 1) := by decide +kernel
theorem dX1_isStroke_11 : decode cX1_isStroke 11 = .ok (.iload_n 2, 1) := by decide +kernel
theorem dX1_isStroke_12 : decode cX1_isStroke 12 = .ok (.invokestatic 92, 3) := by decide +kernel
theorem dX1_isStroke_15 : decode cX1_isStroke 15 = .ok (.if_icmp .ne 5, 3) := by decide +kernel
theorem dX1_isStroke_18 : decode cX1_isStroke 18 = .ok (.iconst 1, 1) := by decide +kernel
theorem dX1_isStroke_19 : decode cX1_isStroke 19 = .ok (.ireturn, 1) := by decide +kernel
theorem dX1_isStroke_20 : decode cX1_isStroke 20 = .ok (.iinc 3 1, 3) := by decide +kernel
theorem dX1_isStroke_23 : decode cX1_isStroke 23 = .ok (.goto (-21), 3) := by decide +kernel
theorem dX1_isStroke_26 : decode cX1_isStroke 26 = .ok (.iconst 0, 1) := by decide +kernel
theorem dX1_isStroke_27 : decode cX1_isStroke 27 = .ok (.ireturn, 1) := by decide +kernel
theorem dX1_mixInto_0 : decode cX1_mixInto 0 = .ok (.lload_n 1, 1) := by decide +kernel
theorem dX1_mixInto_1 : decode cX1_mixInto 1 = .ok (.lstore_n 3, 1) := by decide +kernel
theorem dX1_mixInto_2 : decode cX1_mixInto 2 = .ok (.iconst 0, 1) := by decide +kernel
theorem dX1_mixInto_3 : decode cX1_mixInto 3 = .ok (.istore 5, 2) := by decide +kernel
theorem dX1_mixInto_5 : decode cX1_mixInto 5 = .ok (.iload 5, 2) := by decide +kernel
theorem dX1_mixInto_7 : decode cX1_mixInto 7 = .ok (.bipush 7, 2) := by decide +kernel
theorem dX1_mixInto_9 : decode cX1_mixInto 9 = .ok (.if_icmp .gt 21, 3) := by decide +kernel
theorem dX1_mixInto_12 : decode cX1_mixInto 12 = .ok (.lload_n 3, 1) := by decide +kernel
theorem dX1_mixInto_13 : decode cX1_mixInto 13 = .ok (.aload_n 0, 1) := by decide +kernel
theorem dX1_mixInto_14 : decode cX1_mixInto 14 = .ok (.iload 5, 2) := by decide +kernel
theorem dX1_mixInto_16 : decode cX1_mixInto 16 = .ok (.invokevirtual 103, 3) := by decide +kernel
theorem dX1_mixInto_19 : decode cX1_mixInto 19 = .ok (.i2l, 1) := by decide +kernel
theorem dX1_mixInto_20 : decode cX1_mixInto 20 = .ok (.invokestatic 106, 3) := by decide +kernel
theorem dX1_mixInto_23 : decode cX1_mixInto 23 = .ok (.lstore_n 3, 1) := by decide +kernel
theorem dX1_mixInto_24 : decode cX1_mixInto 24 = .ok (.iinc 5 1, 3) := by decide +kernel
theorem dX1_mixInto_27 : decode cX1_mixInto 27 = .ok (.goto (-22), 3) := by decide +kernel
theorem dX1_mixInto_30 : decode cX1_mixInto 30 = .ok (.iconst 0, 1) := by decide +kernel
theorem dX1_mixInto_31 : decode cX1_mixInto 31 = .ok (.istore 5, 2) := by decide +kernel
theorem dX1_mixInto_33 : decode cX1_mixInto 33 = .ok (.iload 5, 2) := by decide +kernel
theorem dX1_mixInto_35 : decode cX1_mixInto 35 = .ok (.aload_n 0, 1) := by decide +kernel
theorem dX1_mixInto_36 : decode cX1_mixInto 36 = .ok (.getfield 38, 3) := by decide +kernel
theorem dX1_mixInto_39 : decode cX1_mixInto 39 = .ok (.if_icmp .ge 38, 3) := by decide +kernel
theorem dX1_mixInto_42 : decode cX1_mixInto 42 = .ok (.iconst 0, 1) := by decide +kernel
theorem dX1_mixInto_43 : decode cX1_mixInto 43 = .ok (.istore 6, 2) := by decide +kernel
theorem dX1_mixInto_45 : decode cX1_mixInto 45 = .ok (.iload 6, 2) := by decide +kernel
theorem dX1_mixInto_47 : decode cX1_mixInto 47 = .ok (.iconst 4, 1) := by decide +kernel
theorem dX1_mixInto_48 : decode cX1_mixInto 48 = .ok (.if_icmp .ge 23, 3) := by decide +kernel
theorem dX1_mixInto_51 : decode cX1_mixInto 51 = .ok (.lload_n 3, 1) := by decide +kernel
theorem dX1_mixInto_52 : decode cX1_mixInto 52 = .ok (.aload_n 0, 1) := by decide +kernel
theorem dX1_mixInto_53 : decode cX1_mixInto 53 = .ok (.iload 5, 2) := by decide +kernel
theorem dX1_mixInto_55 : decode cX1_mixInto 55 = .ok (.iload 6, 2) := by decide +kernel
theorem dX1_mixInto_57 : decode cX1_mixInto 57 = .ok (.invokevirtual 73, 3) := by decide +kernel
theorem dX1_mixInto_60 : decode cX1_mixInto 60 = .ok (.i2l, 1) := by decide +kernel
theorem dX1_mixInto_61 : decode cX1_mixInto 61 = .ok (.invokestatic 106, 3) := by decide +kernel
theorem dX1_mixInto_64 : decode cX1_mixInto 64 = .ok (.lstore_n 3, 1) := by decide +kernel
theorem dX1_mixInto_65 : decode cX1_mixInto 65 = .ok (.iinc 6 1, 3) := by decide +kernel
theorem dX1_mixInto_68 : decode cX1_mixInto 68 = .ok (.goto (-23), 3) := by decide +kernel
theorem dX1_mixInto_71 : decode cX1_mixInto 71 = .ok (.iinc 5 1, 3) := by decide +kernel
theorem dX1_mixInto_74 : decode cX1_mixInto 74 = .ok (.goto (-41), 3) := by decide +kernel
theorem dX1_mixInto_77 : decode cX1_mixInto 77 = .ok (.lload_n 3, 1) := by decide +kernel
theorem dX1_mixInto_78 : decode cX1_mixInto 78 = .ok (.lreturn, 1) := by decide +kernel
theorem dX2_init_0 : decode cX2_init 0 = .ok (.aload_n 0, 1) := by decide +kernel
theorem dX2_init_1 : decode cX2_init 1 = .ok (.invokespecial 1, 3) := by decide +kernel
theorem dX2_init_4 : decode cX2_init 4 = .ok (.aload_n 0, 1) := by decide +kernel
theorem dX2_init_5 : decode cX2_init 5 = .ok (.bipush 8, 2) := by decide +kernel
theorem dX2_init_7 : decode cX2_init 7 = .ok (.anewarray 9, 3) := by decide +kernel
theorem dX2_init_10 : decode cX2_init 10 = .ok (.putfield 11, 3) := by decide +kernel
theorem dX2_init_13 : decode cX2_init 13 = .ok (.aload_n 0, 1) := by decide +kernel
theorem dX2_init_14 : decode cX2_init 14 = .ok (.iconst 0, 1) := by decide +kernel
theorem dX2_init_15 : decode cX2_init 15 = .ok (.putfield 15, 3) := by decide +kernel
theorem dX2_init_18 : decode cX2_init 18 = .ok (.aload_n 0, 1) := by decide +kernel
theorem dX2_init_19 : decode cX2_init 19 = .ok (.bipush 12, 2) := by decide +kernel
theorem dX2_init_21 : decode cX2_init 21 = .ok (.anewarray 19, 3) := by decide +kernel
theorem dX2_init_24 : decode cX2_init 24 = .ok (.putfield 21, 3) := by decide +kernel
theorem dX2_init_27 : decode cX2_init 27 = .ok (.aload_n 0, 1) := by decide +kernel
theorem dX2_init_28 : decode cX2_init 28 = .ok (.iconst 0, 1) := by decide +kernel
theorem dX2_init_29 : decode cX2_init 29 = .ok (.putfield 25, 3) := by decide +kernel
theorem dX2_init_32 : decode cX2_init 32 = .ok (.aload_n 0, 1) := by decide +kernel
theorem dX2_init_33 : decode cX2_init 33 = .ok (.bipush 120, 2) := by decide +kernel
theorem dX2_init_35 : decode cX2_init 35 = .ok (.putfield 28, 3) := by decide +kernel
theorem dX2_init_38 : decode cX2_init 38 = .ok (.return_, 1) := by decide +kernel
theorem dX2_addTrack_0 : decode cX2_addTrack 0 = .ok (.iload_n 1, 1) := by decide +kernel
theorem dX2_addTrack_1 : decode cX2_addTrack 1 = .ok (.iconst 1, 1) := by decide +kernel
theorem dX2_addTrack_2 : decode cX2_addTrack 2 = .ok (.bipush 32, 2) := by decide +kernel
theorem dX2_addTrack_4 : decode cX2_addTrack 4 = .ok (.invokestatic 31, 3) := by decide +kernel
theorem dX2_addTrack_7 : decode cX2_addTrack 7 = .ok (.ifCond .eq 17, 3) := by decide +kernel
theorem dX2_addTrack_10 : decode cX2_addTrack 10 = .ok (.iload_n 2, 1) := by decide +kernel
theorem dX2_addTrack_11 : decode cX2_addTrack 11 = .ok (.iconst 1, 1) := by decide +kernel
theorem dX2_addTrack_12 : decode cX2_addTrack 12 = .ok (.bipush 48, 2) := by decide +kernel
theorem dX2_addTrack_14 : decode cX2_addTrack 14 = .ok (.invokestatic 31, 3) := by decide +kernel
theorem dX2_addTrack_17 : decode cX2_addTrack 17 = .ok (.ifCond .eq 7, 3) := by decide +kernel
theorem dX2_addTrack_20 : decode cX2_addTrack 20 = .ok (.iconst 1, 1) := by decide +kernel
theorem dX2_addTrack_21 : decode cX2_addTrack 21 = .ok (.goto 4, 3) := by decide +kernel
theorem dX2_addTrack_24 : decode cX2_addTrack 24 = .ok (.iconst 0, 1) := by decide +kernel
theorem dX2_addTrack_25 : decode cX2_addTrack 25 = .ok (.invokestatic 35, 3) := by decide +kernel
theorem dX2_addTrack_28 : decode cX2_addTrack 28 = .ok (.aload_n 0, 1) := by decide +kernel
theorem dX2_addTrack_29 : decode cX2_addTrack 29 = .ok (.getfield 15, 3) := by decide +kernel
theorem dX2_addTrack_32 : decode cX2_addTrack 32 = .ok (.istore_n 3, 1) := by decide +kernel
theorem dX2_addTrack_33 : decode cX2_addTrack 33 = .ok (.iload_n 3, 1) := by decide +kernel
theorem dX2_addTrack_34 : decode cX2_addTrack 34 = .ok (.ifCond .lt 12, 3) := by decide +kernel
theorem dX2_addTrack_37 : decode cX2_addTrack 37 = .ok (.iload_n 3, 1) := by decide +kernel
theorem dX2_addTrack_38 : decode cX2_addTrack 38 = .ok (.aload_n 0, 1) := by decide +kernel
theorem dX2_addTrack_39 : decode cX2_addTrack 39 = .ok (.getfield 11, 3) := by decide +kernel
theorem dX2_addTrack_42 : decode cX2_addTrack 42 = .ok (.arraylength, 1) := by decide +kernel
theorem dX2_addTrack_43 : decode cX2_addTrack 43 = .ok (.if_icmp .lt 13, 3) := by decide +kernel
theorem dX2_addTrack_46 : decode cX2_addTrack 46 = .ok (.new 39, 3) := by decide +kernel
theorem dX2_addTrack_49 : decode cX2_addTrack 49 = .ok (.dup, 1) := by decide +kernel
theorem dX2_addTrack_50 : decode cX2_addTrack 50 = .ok (.ldc 41, 2) := by decide +kernel
theorem dX2_addTrack_52 : decode cX2_addTrack 52 = .ok (.invokespecial 43, 3) := by decide +kernel
theorem dX2_addTrack_55 : decode cX2_addTrack 55 = .ok (.athrow, 1) := by decide +kernel
theorem dX2_addTrack_56 : decode cX2_addTrack 56 = .ok (.aload_n 0, 1) := by decide +kernel
theorem dX2_addTrack_57 : decode cX2_addTrack 57 = .ok (.getfield 11, 3) := by decide +kernel
theorem dX2_addTrack_60 : decode cX2_addTrack 60 = .ok (.iload_n 3, 1) := by decide +kernel
theorem dX2_addTrack_61 : decode cX2_addTrack 61 = .ok (.new 9, 3) := by decide +kernel
theorem dX2_addTrack_64 : decode cX2_addTrack 64 = .ok (.dup, 1) := by decide +kernel
theorem dX2_addTrack_65 : decode cX2_addTrack 65 = .ok (.iload_n 1, 1) := by decide +kernel
theorem dX2_addTrack_66 : decode cX2_addTrack 66 = .ok (.iload_n 2, 1) := by decide +kernel
theorem dX2_addTrack_67 : decode cX2_addTrack 67 = .ok (.invokespecial 46, 3) := by decide +kernel
theorem dX2_addTrack_70 : decode cX2_addTrack 70 = .ok (.aastore, 1) := by decide +kernel
theorem dX2_addTrack_71 : decode cX2_addTrack 71 = .ok (.aload_n 0, 1) := by decide +kernel
theorem dX2_addTrack_72 : decode cX2_addTrack 72 = .ok (.iload_n 3, 1) := by decide +kernel
theorem dX2_addTrack_73 : decode cX2_addTrack 73 = .ok (.iconst 1, 1) := by decide +kernel
theorem dX2_addTrack_74 : decode cX2_addTrack 74 = .ok (.iadd, 1) := by decide +kernel
theorem dX2_addTrack_75 : decode cX2_addTrack 75 = .ok (.putfield 15, 3) := by decide +kernel
theorem dX2_addTrack_78 : decode cX2_addTrack 78 = .ok (.iload_n 3, 1) := by decide +kernel
theorem dX2_addTrack_79 : decode cX2_addTrack 79 = .ok (.ireturn, 1) := by decide +kernel
theorem dX2_set_0 : decode cX2_set 0 = .ok (.aload_n 0, 1) := by decide +kernel
theorem dX2_set_1 : decode cX2_set 1 = .ok (.iload_n 1, 1) := by decide +kernel
theorem dX2_set_2 : decode cX2_set 2 = .ok (.iload_n 2, 1) := by decide +kernel
theorem dX2_set_3 : decode cX2_set 3 = .ok (.invokevirtual 49, 3) := by decide +kernel
theorem dX2_set_6 : decode cX2_set 6 = .ok (.astore 5, 2) := by decide +kernel
theorem dX2_set_8 : decode cX2_set 8 = .ok (.iload_n 3, 1) := by decide +kernel
theorem dX2_set_9 : decode cX2_set 9 = .ok (.iconst 0, 1) := by decide +kernel
theorem dX2_set_10 : decode cX2_set 10 = .ok (.bipush 127, 2) := by decide +kernel
theorem dX2_set_12 : decode cX2_set 12 = .ok (.invokestatic 31, 3) := by decide +kernel
theorem dX2_set_15 : decode cX2_set 15 = .ok (.ifCond .eq 17, 3) := by decide +kernel
theorem dX2_set_18 : decode cX2_set 18 = .ok (.iload 4, 2) := by decide +kernel
theorem dX2_set_20 : decode cX2_set 20 = .ok (.iconst 1, 1) := by decide +kernel
theorem dX2_set_21 : decode cX2_set 21 = .ok (.iconst 4, 1) := by decide +kernel
theorem dX2_set_22 : decode cX2_set 22 = .ok (.invokestatic 31, 3) := by decide +kernel
theorem dX2_set_25 : decode cX2_set 25 = .ok (.ifCond .eq 7, 3) := by decide +kernel
theorem dX2_set_28 : decode cX2_set 28 = .ok (.iconst 1, 1) := by decide +kernel
theorem dX2_set_29 : decode cX2_set 29 = .ok (.goto 4, 3) := by decide +kernel
theorem dX2_set_32 : decode cX2_set 32 = .ok (.iconst 0, 1) := by decide +kernel
theorem dX2_set_33 : decode cX2_set 33 = .ok (.invokestatic 35, 3) := by decide +kernel
theorem dX2_set_36 : decode cX2_set 36 = .ok (.aload 5, 2) := by decide +kernel
theorem dX2_set_38 : decode cX2_set 38 = .ok (.iload_n 2, 1) := by decide +kernel
theorem dX2_set_39 : decode cX2_set 39 = .ok (.iconst 0, 1) := by decide +kernel
theorem dX2_set_40 : decode cX2_set 40 = .ok (.invokevirtual 53, 3) := by decide +kernel
theorem dX2_set_43 : decode cX2_set 43 = .ok (.istore 6, 2) := by decide +kernel
theorem dX2_set_45 : decode cX2_set 45 = .ok (.aload 5, 2) := by decide +kernel
theorem dX2_set_47 : decode cX2_set 47 = .ok (.iload_n 2, 1) := by decide +kernel
theorem dX2_set_48 : decode cX2_set 48 = .ok (.iconst 0, 1) := by decide +kernel
theorem dX2_set_49 : decode cX2_set 49 = .ok (.iload_n 3, 1) := by decide +kernel
theorem dX2_set_50 : decode cX2_set 50 = .ok (.invokevirtual 57, 3) := by decide +kernel
theorem dX2_set_53 : decode cX2_set 53 = .ok (.aload 5, 2) := by decide +kernel
theorem dX2_set_55 : decode cX2_set 55 = .ok (.iload_n 2, 1) := by decide +kernel
theorem dX2_set_56 : decode cX2_set 56 = .ok (.iconst 1, 1) := by decide +kernel
theorem dX2_set_57 : decode cX2_set 57 = .ok (.iload 4, 2) := by decide +kernel
theorem dX2_set_59 : decode cX2_set 59 = .ok (.invokevirtual 57, 3) := by decide +kernel
theorem dX2_set_62 : decode cX2_set 62 = .ok (.iload 6, 2) := by decide +kernel
theorem dX2_set_64 : decode cX2_set 64 = .ok (.ireturn, 1) := by decide +kernel
theorem dX2_setTurn_0 : decode cX2_setTurn 0 = .ok (.aload_n 0, 1) := by decide +kernel
theorem dX2_setTurn_1 : decode cX2_setTurn 1 = .ok (.iload_n 1, 1) := by decide +kernel
theorem dX2_setTurn_2 : decode cX2_setTurn 2 = .ok (.iload_n 2, 1) := by decide +kernel
theorem dX2_setTurn_3 : decode cX2_setTurn 3 = .ok (.invokevirtual 49, 3) := by decide +kernel
theorem dX2_setTurn_6 : decode cX2_setTurn 6 = .ok (.astore 5, 2) := by decide +kernel
theorem dX2_setTurn_8 : decode cX2_setTurn 8 = .ok (.iload 4, 2) := by decide +kernel
theorem dX2_setTurn_10 : decode cX2_setTurn 10 = .ok (.iconst 1, 1) := by decide +kernel
theorem dX2_setTurn_11 : decode cX2_setTurn 11 = .ok (.bipush 8, 2) := by decide +kernel
theorem dX2_setTurn_13 : decode cX2_setTurn 13 = .ok (.invokestatic 31, 3) := by decide +kernel
theorem dX2_setTurn_16 : decode cX2_setTurn 16 = .ok (.ifCond .eq 19, 3) := by decide +kernel
theorem dX2_setTurn_19 : decode cX2_setTurn 19 = .ok (.iload_n 3, 1) := by decide +kernel
theorem dX2_setTurn_20 : decode cX2_setTurn 20 = .ok (.iconst 0, 1) := by decide +kernel
theorem dX2_setTurn_21 : decode cX2_setTurn 21 = .ok (.iload 4, 2) := by decide +kernel
theorem dX2_setTurn_23 : decode cX2_setTurn 23 = .ok (.iconst 1, 1) := by decide +kernel
theorem dX2_setTurn_24 : decode cX2_setTurn 24 = .ok (.isub, 1) := by decide +kernel
theorem dX2_setTurn_25 : decode cX2_setTurn 25 = .ok (.invokestatic 31, 3) := by decide +kernel
theorem dX2_setTurn_28 : decode cX2_setTurn 28 = .ok (.ifCond .eq 7, 3) := by decide +kernel
theorem dX2_setTurn_31 : decode cX2_setTurn 31 = .ok (.iconst 1, 1) := by decide +kernel
theorem dX2_setTurn_32 : decode cX2_setTurn 32 = .ok (.goto 4, 3) := by decide +kernel
theorem dX2_setTurn_35 : decode cX2_setTurn 35 = .ok (.iconst 0, 1) := by decide +kernel
theorem dX2_setTurn_36 : decode cX2_setTurn 36 = .ok (.invokestatic 35, 3) := by decide +kernel
theorem dX2_setTurn_39 : decode cX2_setTurn 39 = .ok (.aload 5, 2) := by decide +kernel
theorem dX2_setTurn_41 : decode cX2_setTurn 41 = .ok (.iload_n 2, 1) := by decide +kernel
theorem dX2_setTurn_42 : decode cX2_setTurn 42 = .ok (.iconst 3, 1) := by decide +kernel
theorem dX2_setTurn_43 : decode cX2_setTurn 43 = .ok (.invokevirtual 53, 3) := by decide +kernel
theorem dX2_setTurn_46 : decode cX2_setTurn 46 = .ok (.istore 6, 2) := by decide +kernel
theorem dX2_setTurn_48 : decode cX2_setTurn 48 = .ok (.aload 5, 2) := by decide +kernel
theorem dX2_setTurn_50 : decode cX2_setTurn 50 = .ok (.iload_n 2, 1) := by decide +kernel
theorem dX2_setTurn_51 : decode cX2_setTurn 51 = .ok (.iconst 2, 1) := by decide +kernel
theorem dX2_setTurn_52 : decode cX2_setTurn 52 = .ok (.iload_n 3, 1) := by decide +kernel
theorem dX2_setTurn_53 : decode cX2_setTurn 53 = .ok (.invokevirtual 57, 3) := by decide +kernel
theorem dX2_setTurn_56 : decode cX2_setTurn 56 = .ok (.aload 5, 2) := by decide +kernel
theorem dX2_setTurn_58 : decode cX2_setTurn 58 = .ok (.iload_n 2, 1) := by decide +kernel
theorem dX2_setTurn_59 : decode cX2_setTurn 59 = .ok (.iconst 3, 1) := by decide +kernel
theorem dX2_setTurn_60 : decode cX2_setTurn 60 = .ok (.iload 4, 2) := by decide +kernel
theorem dX2_setTurn_62 : decode cX2_setTurn 62 = .ok (.invokevirtual 57, 3) := by decide +kernel
theorem dX2_setTurn_65 : decode cX2_setTurn 65 = .ok (.iload 6, 2) := by decide +kernel
theorem dX2_setTurn_67 : decode cX2_setTurn 67 = .ok (.ireturn, 1) := by decide +kernel
theorem dX2_track_0 : decode cX2_track 0 = .ok (.aload_n 0, 1) := by decide +kernel
theorem dX2_track_1 : decode cX2_track 1 = .ok (.iload_n 1, 1) := by decide +kernel
theorem dX2_track_2 : decode cX2_track 2 = .ok (.invokevirtual 68, 3) := by decide +kernel
theorem dX2_track_5 : decode cX2_track 5 = .ok (.astore_n 3, 1) := by decide +kernel
theorem dX2_track_6 : decode cX2_track 6 = .ok (.iload_n 2, 1) := by decide +kernel
theorem dX2_track_7 : decode cX2_track 7 = .ok (.iconst 0, 1) := by decide +kernel
theorem dX2_track_8 : decode cX2_track 8 = .ok (.bipush 7, 2) := by decide +kernel
theorem dX2_track_10 : decode cX2_track 10 = .ok (.invokestatic 31, 3) := by decide +kernel
theorem dX2_track_13 : decode cX2_track 13 = .ok (.invokestatic 61, 3) := by decide +kernel
theorem dX2_track_16 : decode cX2_track 16 = .ok (.aload_n 3, 1) := by decide +kernel
theorem dX2_track_17 : decode cX2_track 17 = .ok (.iload_n 2, 1) := by decide +kernel
theorem dX2_track_18 : decode cX2_track 18 = .ok (.invokevirtual 72, 3) := by decide +kernel
theorem dX2_track_21 : decode cX2_track 21 = .ok (.ireturn, 1) := by decide +kernel
theorem dX2_tune_0 : decode cX2_tune 0 = .ok (.aload_n 0, 1) := by decide +kernel
theorem dX2_tune_1 : decode cX2_tune 1 = .ok (.iload_n 1, 1) := by decide +kernel
theorem dX2_tune_2 : decode cX2_tune 2 = .ok (.invokevirtual 68, 3) := by decide +kernel
theorem dX2_tune_5 : decode cX2_tune 5 = .ok (.astore 5, 2) := by decide +kernel
theorem dX2_tune_7 : decode cX2_tune 7 = .ok (.iload_n 2, 1) := by decide +kernel
theorem dX2_tune_8 : decode cX2_tune 8 = .ok (.iconst 0, 1) := by decide +kernel
theorem dX2_tune_9 : decode cX2_tune 9 = .ok (.aload 5, 2) := by decide +kernel
theorem dX2_tune_11 : decode cX2_tune 11 = .ok (.getfield 75, 3) := by decide +kernel
theorem dX2_tune_14 : decode cX2_tune 14 = .ok (.iconst 1, 1) := by decide +kernel
theorem dX2_tune_15 : decode cX2_tune 15 = .ok (.isub, 1) := by decide +kernel
theorem dX2_tune_16 : decode cX2_tune 16 = .ok (.invokestatic 31, 3) := by decide +kernel
theorem dX2_tune_19 : decode cX2_tune 19 = .ok (.ifCond .eq 28, 3) := by decide +kernel
theorem dX2_tune_22 : decode cX2_tune 22 = .ok (.iload_n 3, 1) := by decide +kernel
theorem dX2_tune_23 : decode cX2_tune 23 = .ok (.iconst 1, 1) := by decide +kernel
theorem dX2_tune_24 : decode cX2_tune 24 = .ok (.sipush 200, 3) := by decide +kernel
theorem dX2_tune_27 : decode cX2_tune 27 = .ok (.invokestatic 31, 3) := by decide +kernel
theorem dX2_tune_30 : decode cX2_tune 30 = .ok (.ifCond .eq 17, 3) := by decide +kernel
theorem dX2_tune_33 : decode cX2_tune 33 = .ok (.iload 4, 2) := by decide +kernel
theorem dX2_tune_35 : decode cX2_tune 35 = .ok (.iconst 0, 1) := by decide +kernel
theorem dX2_tune_36 : decode cX2_tune 36 = .ok (.iconst 3, 1) := by decide +kernel
theorem dX2_tune_37 : decode cX2_tune 37 = .ok (.invokestatic 31, 3) := by decide +kernel
theorem dX2_tune_40 : decode cX2_tune 40 = .ok (.ifCond .eq 7, 3) := by decide +kernel
theorem dX2_tune_43 : decode cX2_tune 43 = .ok (.iconst 1, 1) := by decide +kernel
theorem dX2_tune_44 : decode cX2_tune 44 = .ok (.goto 4, 3) := by decide +kernel
theorem dX2_tune_47 : decode cX2_tune 47 = .ok (.iconst 0, 1) := by decide +kernel
theorem dX2_tune_48 : decode cX2_tune 48 = .ok (.invokestatic 35, 3) := by decide +kernel
theorem dX2_tune_51 : decode cX2_tune 51 = .ok (.aload 5, 2) := by decide +kernel
theorem dX2_tune_53 : decode cX2_tune 53 = .ok (.getfield 78, 3) := by decide +kernel
theorem dX2_tune_56 : decode cX2_tune 56 = .ok (.istore 6, 2) := by decide +kernel
theorem dX2_tune_58 : decode cX2_tune 58 = .ok (.aload 5, 2) := by decide +kernel
theorem dX2_tune_60 : decode cX2_tune 60 = .ok (.iload_n 2, 1) := by decide +kernel
theorem dX2_tune_61 : decode cX2_tune 61 = .ok (.putfield 78, 3) := by decide +kernel
theorem dX2_tune_64 : decode cX2_tune 64 = .ok (.aload 5, 2) := by decide +kernel
theorem dX2_tune_66 : decode cX2_tune 66 = .ok (.iload_n 3, 1) := by decide +kernel
theorem dX2_tune_67 : decode cX2_tune 67 = .ok (.putfield 81, 3) := by decide +kernel
theorem dX2_tune_70 : decode cX2_tune 70 = .ok (.aload 5, 2) := by decide +kernel
theorem dX2_tune_72 : decode cX2_tune 72 = .ok (.iload 4, 2) := by decide +kernel
theorem dX2_tune_74 : decode cX2_tune 74 = .ok (.putfield 84, 3) := by decide +kernel
theorem dX2_tune_77 : decode cX2_tune 77 = .ok (.iload 6, 2) := by decide +kernel
theorem dX2_tune_79 : decode cX2_tune 79 = .ok (.ireturn, 1) := by decide +kernel
theorem dX2_turn_0 : decode cX2_turn 0 = .ok (.aload_n 0, 1) := by decide +kernel
theorem dX2_turn_1 : decode cX2_turn 1 = .ok (.iload_n 1, 1) := by decide +kernel
theorem dX2_turn_2 : decode cX2_turn 2 = .ok (.invokevirtual 68, 3) := by decide +kernel
theorem dX2_turn_5 : decode cX2_turn 5 = .ok (.astore 4, 2) := by decide +kernel
theorem dX2_turn_7 : decode cX2_turn 7 = .ok (.iload_n 2, 1) := by decide +kernel
theorem dX2_turn_8 : decode cX2_turn 8 = .ok (.iconst 0, 1) := by decide +kernel
theorem dX2_turn_9 : decode cX2_turn 9 = .ok (.iconst 2, 1) := by decide +kernel
theorem dX2_turn_10 : decode cX2_turn 10 = .ok (.invokestatic 31, 3) := by decide +kernel
theorem dX2_turn_13 : decode cX2_turn 13 = .ok (.invokestatic 61, 3) := by decide +kernel
theorem dX2_turn_16 : decode cX2_turn 16 = .ok (.aload 4, 2) := by decide +kernel
theorem dX2_turn_18 : decode cX2_turn 18 = .ok (.iconst 5, 1) := by decide +kernel
theorem dX2_turn_19 : decode cX2_turn 19 = .ok (.iload_n 2, 1) := by decide +kernel
theorem dX2_turn_20 : decode cX2_turn 20 = .ok (.iadd, 1) := by decide +kernel
theorem dX2_turn_21 : decode cX2_turn 21 = .ok (.invokevirtual 72, 3) := by decide +kernel
theorem dX2_turn_24 : decode cX2_turn 24 = .ok (.iconst 1, 1) := by decide +kernel
theorem dX2_turn_25 : decode cX2_turn 25 = .ok (.if_icmp .ne 7, 3) := by decide +kernel
theorem dX2_turn_28 : decode cX2_turn 28 = .ok (.iconst 1, 1) := by decide +kernel
theorem dX2_turn_29 : decode cX2_turn 29 = .ok (.goto 4, 3) := by decide +kernel
theorem dX2_turn_32 : decode cX2_turn 32 = .ok (.iconst 0, 1) := by decide +kernel
theorem dX2_turn_33 : decode cX2_turn 33 = .ok (.istore 5, 2) := by decide +kernel
theorem dX2_turn_35 : decode cX2_turn 35 = .ok (.aload 4, 2) := by decide +kernel
theorem dX2_turn_37 : decode cX2_turn 37 = .ok (.iconst 5, 1) := by decide +kernel
theorem dX2_turn_38 : decode cX2_turn 38 = .ok (.iload_n 2, 1) := by decide +kernel
theorem dX2_turn_39 : decode cX2_turn 39 = .ok (.iadd, 1) := by decide +kernel
theorem dX2_turn_40 : decode cX2_turn 40 = .ok (.iload_n 3, 1) := by decide +kernel
theorem dX2_turn_41 : decode cX2_turn 41 = .ok (.invokevirtual 87, 3) := by decide +kernel
theorem dX2_turn_44 : decode cX2_turn 44 = .ok (.iload 5, 2) := by decide +kernel
theorem dX2_turn_46 : decode cX2_turn 46 = .ok (.ireturn, 1) := by decide +kernel
theorem dX2_rotate_0 : decode cX2_rotate 0 = .ok (.aload_n 0, 1) := by decide +kernel
theorem dX2_rotate_1 : decode cX2_rotate 1 = .ok (.iload_n 1, 1) := by decide +kernel
theorem dX2_rotate_2 : decode cX2_rotate 2 = .ok (.invokevirtual 68, 3) := by decide +kernel
theorem dX2_rotate_5 : decode cX2_rotate 5 = .ok (.astore_n 3, 1) := by decide +kernel
theorem dX2_rotate_6 : decode cX2_rotate 6 = .ok (.iload_n 2, 1) := by decide +kernel
theorem dX2_rotate_7 : decode cX2_rotate 7 = .ok (.iconst 0, 1) := by decide +kernel
theorem dX2_rotate_8 : decode cX2_rotate 8 = .ok (.bipush 31, 2) := by decide +kernel
theorem dX2_rotate_10 : decode cX2_rotate 10 = .ok (.invokestatic 31, 3) := by decide +kernel
theorem dX2_rotate_13 : decode cX2_rotate 13 = .ok (.invokestatic 35, 3) := by decide +kernel
theorem dX2_rotate_16 : decode cX2_rotate 16 = .ok (.aload_n 3, 1) := by decide +kernel
theorem dX2_rotate_17 : decode cX2_rotate 17 = .ok (.iload_n 2, 1) := by decide +kernel
theorem dX2_rotate_18 : decode cX2_rotate 18 = .ok (.invokevirtual 97, 3) := by decide +kernel
theorem dX2_rotate_21 : decode cX2_rotate 21 = .ok (.aload_n 3, 1) := by decide +kernel
theorem dX2_rotate_22 : decode cX2_rotate 22 = .ok (.invokevirtual 101, 3) := by decide +kernel
theorem dX2_rotate_25 : decode cX2_rotate 25 = .ok (.ireturn, 1) := by decide +kernel
theorem dX2_addSection_0 : decode cX2_addSection 0 = .ok (.iload_n 1, 1) := by decide +kernel
theorem dX2_addSection_1 : decode cX2_addSection 1 = .ok (.iconst 1, 1) := by decide +kernel
theorem dX2_addSection_2 : decode cX2_addSection 2 = .ok (.sipush 5000, 3) := by decide +kernel
theorem dX2_addSection_5 : decode cX2_addSection 5 = .ok (.invokestatic 31, 3) := by decide +kernel
theorem dX2_addSection_8 : decode cX2_addSection 8 = .ok (.ifCond .eq 18, 3) := by decide +kernel
theorem dX2_addSection_11 : decode cX2_addSection 11 = .ok (.iload_n 2, 1) := by decide +kernel
theorem dX2_addSection_12 : decode cX2_addSection 12 = .ok (.iconst 0, 1) := by decide +kernel
theorem dX2_addSection_13 : decode cX2_addSection 13 = .ok (.sipush 255, 3) := by decide +kernel
theorem dX2_addSection_16 : decode cX2_addSection 16 = .ok (.invokestatic 31, 3) := by decide +kernel
theorem dX2_addSection_19 : decode cX2_addSection 19 = .ok (.ifCond .eq 7, 3) := by decide +kernel
theorem dX2_addSection_22 : decode cX2_addSection 22 = .ok (.iconst 1, 1) := by decide +kernel
