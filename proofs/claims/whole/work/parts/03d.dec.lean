theorem dX3_init_0 : decode cX3_init 0 = .ok (.aload_n 0, 1) := by decide +kernel
theorem dX3_init_1 : decode cX3_init 1 = .ok (.invokespecial 1, 3) := by decide +kernel
theorem dX3_init_4 : decode cX3_init 4 = .ok (.aload_n 0, 1) := by decide +kernel
theorem dX3_init_5 : decode cX3_init 5 = .ok (.bipush 8, 2) := by decide +kernel
theorem dX3_init_7 : decode cX3_init 7 = .ok (.newarray .int, 2) := by decide +kernel
theorem dX3_init_9 : decode cX3_init 9 = .ok (.putfield 9, 3) := by decide +kernel
theorem dX3_init_12 : decode cX3_init 12 = .ok (.aload_n 0, 1) := by decide +kernel
theorem dX3_init_13 : decode cX3_init 13 = .ok (.bipush 8, 2) := by decide +kernel
theorem dX3_init_15 : decode cX3_init 15 = .ok (.newarray .int, 2) := by decide +kernel
theorem dX3_init_17 : decode cX3_init 17 = .ok (.putfield 13, 3) := by decide +kernel
theorem dX3_init_20 : decode cX3_init 20 = .ok (.aload_n 0, 1) := by decide +kernel
theorem dX3_init_21 : decode cX3_init 21 = .ok (.bipush 8, 2) := by decide +kernel
theorem dX3_init_23 : decode cX3_init 23 = .ok (.newarray .int, 2) := by decide +kernel
theorem dX3_init_25 : decode cX3_init 25 = .ok (.putfield 16, 3) := by decide +kernel
theorem dX3_init_28 : decode cX3_init 28 = .ok (.aload_n 0, 1) := by decide +kernel
theorem dX3_init_29 : decode cX3_init 29 = .ok (.bipush 8, 2) := by decide +kernel
theorem dX3_init_31 : decode cX3_init 31 = .ok (.newarray .int, 2) := by decide +kernel
theorem dX3_init_33 : decode cX3_init 33 = .ok (.putfield 19, 3) := by decide +kernel
theorem dX3_init_36 : decode cX3_init 36 = .ok (.aload_n 0, 1) := by decide +kernel
theorem dX3_init_37 : decode cX3_init 37 = .ok (.bipush 8, 2) := by decide +kernel
theorem dX3_init_39 : decode cX3_init 39 = .ok (.newarray .int, 2) := by decide +kernel
theorem dX3_init_41 : decode cX3_init 41 = .ok (.putfield 22, 3) := by decide +kernel
theorem dX3_init_44 : decode cX3_init 44 = .ok (.aload_n 0, 1) := by decide +kernel
theorem dX3_init_45 : decode cX3_init 45 = .ok (.bipush 24, 2) := by decide +kernel
theorem dX3_init_47 : decode cX3_init 47 = .ok (.newarray .boolean, 2) := by decide +kernel
theorem dX3_init_49 : decode cX3_init 49 = .ok (.putfield 25, 3) := by decide +kernel
theorem dX3_init_52 : decode cX3_init 52 = .ok (.aload_n 0, 1) := by decide +kernel
theorem dX3_init_53 : decode cX3_init 53 = .ok (.sipush 1024, 3) := by decide +kernel
theorem dX3_init_56 : decode cX3_init 56 = .ok (.newarray .int, 2) := by decide +kernel
theorem dX3_init_58 : decode cX3_init 58 = .ok (.putfield 29, 3) := by decide +kernel
theorem dX3_init_61 : decode cX3_init 61 = .ok (.aload_n 0, 1) := by decide +kernel
theorem dX3_init_62 : decode cX3_init 62 = .ok (.bipush 13, 2) := by decide +kernel
theorem dX3_init_64 : decode cX3_init 64 = .ok (.newarray .int, 2) := by decide +kernel
theorem dX3_init_66 : decode cX3_init 66 = .ok (.putfield 32, 3) := by decide +kernel
theorem dX3_init_69 : decode cX3_init 69 = .ok (.aload_n 0, 1) := by decide +kernel
theorem dX3_init_70 : decode cX3_init 70 = .ok (.bipush 12, 2) := by decide +kernel
theorem dX3_init_72 : decode cX3_init 72 = .ok (.newarray .int, 2) := by decide +kernel
theorem dX3_init_74 : decode cX3_init 74 = .ok (.putfield 35, 3) := by decide +kernel
theorem dX3_init_77 : decode cX3_init 77 = .ok (.aload_n 0, 1) := by decide +kernel
theorem dX3_init_78 : decode cX3_init 78 = .ok (.bipush 12, 2) := by decide +kernel
theorem dX3_init_80 : decode cX3_init 80 = .ok (.newarray .boolean, 2) := by decide +kernel
theorem dX3_init_82 : decode cX3_init 82 = .ok (.putfield 38, 3) := by decide +kernel
theorem dX3_init_85 : decode cX3_init 85 = .ok (.aload_n 0, 1) := by decide +kernel
theorem dX3_init_86 : decode cX3_init 86 = .ok (.bipush 120, 2) := by decide +kernel
theorem dX3_init_88 : decode cX3_init 88 = .ok (.putfield 41, 3) := by decide +kernel
theorem dX3_init_91 : decode cX3_init 91 = .ok (.return_, 1) := by decide +kernel
theorem dX3_thrown_0 : decode cX3_thrown 0 = .ok (.aload_n 0, 1) := by decide +kernel
theorem dX3_thrown_1 : decode cX3_thrown 1 = .ok (.getfield 45, 3) := by decide +kernel
theorem dX3_thrown_4 : decode cX3_thrown 4 = .ok (.ireturn, 1) := by decide +kernel
theorem dX3_no_0 : decode cX3_no 0 = .ok (.aload_n 0, 1) := by decide +kernel
theorem dX3_no_1 : decode cX3_no 1 = .ok (.iload_n 1, 1) := by decide +kernel
theorem dX3_no_2 : decode cX3_no 2 = .ok (.putfield 45, 3) := by decide +kernel
theorem dX3_no_5 : decode cX3_no 5 = .ok (.iconst 0, 1) := by decide +kernel
theorem dX3_no_6 : decode cX3_no 6 = .ok (.ireturn, 1) := by decide +kernel
theorem dX3_isIn_0 : decode cX3_isIn 0 = .ok (.iload_n 0, 1) := by decide +kernel
theorem dX3_isIn_1 : decode cX3_isIn 1 = .ok (.iload_n 1, 1) := by decide +kernel
theorem dX3_isIn_2 : decode cX3_isIn 2 = .ok (.if_icmp .lt 12, 3) := by decide +kernel
theorem dX3_isIn_5 : decode cX3_isIn 5 = .ok (.iload_n 0, 1) := by decide +kernel
theorem dX3_isIn_6 : decode cX3_isIn 6 = .ok (.iload_n 2, 1) := by decide +kernel
theorem dX3_isIn_7 : decode cX3_isIn 7 = .ok (.if_icmp .gt 7, 3) := by decide +kernel
theorem dX3_isIn_10 : decode cX3_isIn 10 = .ok (.iconst 1, 1) := by decide +kernel
theorem dX3_isIn_11 : decode cX3_isIn 11 = .ok (.goto 4, 3) := by decide +kernel
theorem dX3_isIn_14 : decode cX3_isIn 14 = .ok (.iconst 0, 1) := by decide +kernel
theorem dX3_isIn_15 : decode cX3_isIn 15 = .ok (.ireturn, 1) := by decide +kernel
theorem dX3_isTrack_0 : decode cX3_isTrack 0 = .ok (.iload_n 1, 1) := by decide +kernel
theorem dX3_isTrack_1 : decode cX3_isTrack 1 = .ok (.iconst 0, 1) := by decide +kernel
theorem dX3_isTrack_2 : decode cX3_isTrack 2 = .ok (.aload_n 0, 1) := by decide +kernel
theorem dX3_isTrack_3 : decode cX3_isTrack 3 = .ok (.getfield 48, 3) := by decide +kernel
theorem dX3_isTrack_6 : decode cX3_isTrack 6 = .ok (.iconst 1, 1) := by decide +kernel
theorem dX3_isTrack_7 : decode cX3_isTrack 7 = .ok (.isub, 1) := by decide +kernel
theorem dX3_isTrack_8 : decode cX3_isTrack 8 = .ok (.invokestatic 51, 3) := by decide +kernel
theorem dX3_isTrack_11 : decode cX3_isTrack 11 = .ok (.ireturn, 1) := by decide +kernel
theorem dX3_isStep_0 : decode cX3_isStep 0 = .ok (.aload_n 0, 1) := by decide +kernel
theorem dX3_isStep_1 : decode cX3_isStep 1 = .ok (.iload_n 1, 1) := by decide +kernel
theorem dX3_isStep_2 : decode cX3_isStep 2 = .ok (.invokevirtual 55, 3) := by decide +kernel
theorem dX3_isStep_5 : decode cX3_isStep 5 = .ok (.ifCond .eq 23, 3) := by decide +kernel
theorem dX3_isStep_8 : decode cX3_isStep 8 = .ok (.iload_n 2, 1) := by decide +kernel
theorem dX3_isStep_9 : decode cX3_isStep 9 = .ok (.iconst 0, 1) := by decide +kernel
theorem dX3_isStep_10 : decode cX3_isStep 10 = .ok (.aload_n 0, 1) := by decide +kernel
theorem dX3_isStep_11 : decode cX3_isStep 11 = .ok (.getfield 9, 3) := by decide +kernel
theorem dX3_isStep_14 : decode cX3_isStep 14 = .ok (.iload_n 1, 1) := by decide +kernel
theorem dX3_isStep_15 : decode cX3_isStep 15 = .ok (.iaload, 1) := by decide +kernel
theorem dX3_isStep_16 : decode cX3_isStep 16 = .ok (.iconst 1, 1) := by decide +kernel
theorem dX3_isStep_17 : decode cX3_isStep 17 = .ok (.isub, 1) := by decide +kernel
theorem dX3_isStep_18 : decode cX3_isStep 18 = .ok (.invokestatic 51, 3) := by decide +kernel
theorem dX3_isStep_21 : decode cX3_isStep 21 = .ok (.ifCond .eq 7, 3) := by decide +kernel
theorem dX3_isStep_24 : decode cX3_isStep 24 = .ok (.iconst 1, 1) := by decide +kernel
theorem dX3_isStep_25 : decode cX3_isStep 25 = .ok (.goto 4, 3) := by decide +kernel
theorem dX3_isStep_28 : decode cX3_isStep 28 = .ok (.iconst 0, 1) := by decide +kernel
theorem dX3_isStep_29 : decode cX3_isStep 29 = .ok (.ireturn, 1) := by decide +kernel
theorem dX3_at_0 : decode cX3_at 0 = .ok (.iconst 4, 1) := by decide +kernel
theorem dX3_at_1 : decode cX3_at 1 = .ok (.bipush 32, 2) := by decide +kernel
theorem dX3_at_3 : decode cX3_at 3 = .ok (.iload_n 0, 1) := by decide +kernel
theorem dX3_at_4 : decode cX3_at 4 = .ok (.imul, 1) := by decide +kernel
theorem dX3_at_5 : decode cX3_at 5 = .ok (.iload_n 1, 1) := by decide +kernel
theorem dX3_at_6 : decode cX3_at 6 = .ok (.iadd, 1) := by decide +kernel
theorem dX3_at_7 : decode cX3_at 7 = .ok (.imul, 1) := by decide +kernel
theorem dX3_at_8 : decode cX3_at 8 = .ok (.ireturn, 1) := by decide +kernel
theorem dX3_isTick_0 : decode cX3_isTick 0 = .ok (.iload_n 0, 1) := by decide +kernel
theorem dX3_isTick_1 : decode cX3_isTick 1 = .ok (.iconst 0, 1) := by decide +kernel
theorem dX3_isTick_2 : decode cX3_isTick 2 = .ok (.ldc 59, 2) := by decide +kernel
theorem dX3_isTick_4 : decode cX3_isTick 4 = .ok (.invokestatic 51, 3) := by decide +kernel
theorem dX3_isTick_7 : decode cX3_isTick 7 = .ok (.ireturn, 1) := by decide +kernel
theorem dX3_plain_0 : decode cX3_plain 0 = .ok (.aload_n 0, 1) := by decide +kernel
theorem dX3_plain_1 : decode cX3_plain 1 = .ok (.getfield 29, 3) := by decide +kernel
theorem dX3_plain_4 : decode cX3_plain 4 = .ok (.iload_n 1, 1) := by decide +kernel
theorem dX3_plain_5 : decode cX3_plain 5 = .ok (.iload_n 2, 1) := by decide +kernel
theorem dX3_plain_6 : decode cX3_plain 6 = .ok (.invokestatic 60, 3) := by decide +kernel
theorem dX3_plain_9 : decode cX3_plain 9 = .ok (.iconst 0, 1) := by decide +kernel
theorem dX3_plain_10 : decode cX3_plain 10 = .ok (.iadd, 1) := by decide +kernel
theorem dX3_plain_11 : decode cX3_plain 11 = .ok (.iload_n 3, 1) := by decide +kernel
theorem dX3_plain_12 : decode cX3_plain 12 = .ok (.iastore, 1) := by decide +kernel
theorem dX3_plain_13 : decode cX3_plain 13 = .ok (.aload_n 0, 1) := by decide +kernel
theorem dX3_plain_14 : decode cX3_plain 14 = .ok (.getfield 29, 3) := by decide +kernel
theorem dX3_plain_17 : decode cX3_plain 17 = .ok (.iload_n 1, 1) := by decide +kernel
theorem dX3_plain_18 : decode cX3_plain 18 = .ok (.iload_n 2, 1) := by decide +kernel
theorem dX3_plain_19 : decode cX3_plain 19 = .ok (.invokestatic 60, 3) := by decide +kernel
theorem dX3_plain_22 : decode cX3_plain 22 = .ok (.iconst 1, 1) := by decide +kernel
theorem dX3_plain_23 : decode cX3_plain 23 = .ok (.iadd, 1) := by decide +kernel
theorem dX3_plain_24 : decode cX3_plain 24 = .ok (.iconst 1, 1) := by decide +kernel
theorem dX3_plain_25 : decode cX3_plain 25 = .ok (.iastore, 1) := by decide +kernel
theorem dX3_plain_26 : decode cX3_plain 26 = .ok (.aload_n 0, 1) := by decide +kernel
theorem dX3_plain_27 : decode cX3_plain 27 = .ok (.getfield 29, 3) := by decide +kernel
theorem dX3_plain_30 : decode cX3_plain 30 = .ok (.iload_n 1, 1) := by decide +kernel
theorem dX3_plain_31 : decode cX3_plain 31 = .ok (.iload_n 2, 1) := by decide +kernel
theorem dX3_plain_32 : decode cX3_plain 32 = .ok (.invokestatic 60, 3) := by decide +kernel
theorem dX3_plain_35 : decode cX3_plain 35 = .ok (.iconst 2, 1) := by decide +kernel
theorem dX3_plain_36 : decode cX3_plain 36 = .ok (.iadd, 1) := by decide +kernel
theorem dX3_plain_37 : decode cX3_plain 37 = .ok (.iconst 0, 1) := by decide +kernel
theorem dX3_plain_38 : decode cX3_plain 38 = .ok (.iastore, 1) := by decide +kernel
theorem dX3_plain_39 : decode cX3_plain 39 = .ok (.aload_n 0, 1) := by decide +kernel
theorem dX3_plain_40 : decode cX3_plain 40 = .ok (.getfield 29, 3) := by decide +kernel
theorem dX3_plain_43 : decode cX3_plain 43 = .ok (.iload_n 1, 1) := by decide +kernel
theorem dX3_plain_44 : decode cX3_plain 44 = .ok (.iload_n 2, 1) := by decide +kernel
theorem dX3_plain_45 : decode cX3_plain 45 = .ok (.invokestatic 60, 3) := by decide +kernel
theorem dX3_plain_48 : decode cX3_plain 48 = .ok (.iconst 3, 1) := by decide +kernel
theorem dX3_plain_49 : decode cX3_plain 49 = .ok (.iadd, 1) := by decide +kernel
theorem dX3_plain_50 : decode cX3_plain 50 = .ok (.iconst 1, 1) := by decide +kernel
theorem dX3_plain_51 : decode cX3_plain 51 = .ok (.iastore, 1) := by decide +kernel
theorem dX3_plain_52 : decode cX3_plain 52 = .ok (.return_, 1) := by decide +kernel
theorem dX3_addTrack_0 : decode cX3_addTrack 0 = .ok (.aload_n 0, 1) := by decide +kernel
theorem dX3_addTrack_1 : decode cX3_addTrack 1 = .ok (.iconst 0, 1) := by decide +kernel
theorem dX3_addTrack_2 : decode cX3_addTrack 2 = .ok (.putfield 45, 3) := by decide +kernel
theorem dX3_addTrack_5 : decode cX3_addTrack 5 = .ok (.iload_n 1, 1) := by decide +kernel
theorem dX3_addTrack_6 : decode cX3_addTrack 6 = .ok (.iconst 1, 1) := by decide +kernel
theorem dX3_addTrack_7 : decode cX3_addTrack 7 = .ok (.bipush 32, 2) := by decide +kernel
theorem dX3_addTrack_9 : decode cX3_addTrack 9 = .ok (.invokestatic 51, 3) := by decide +kernel
theorem dX3_addTrack_12 : decode cX3_addTrack 12 = .ok (.ifCond .eq 13, 3) := by decide +kernel
theorem dX3_addTrack_15 : decode cX3_addTrack 15 = .ok (.iload_n 2, 1) := by decide +kernel
theorem dX3_addTrack_16 : decode cX3_addTrack 16 = .ok (.iconst 1, 1) := by decide +kernel
theorem dX3_addTrack_17 : decode cX3_addTrack 17 = .ok (.bipush 48, 2) := by decide +kernel
theorem dX3_addTrack_19 : decode cX3_addTrack 19 = .ok (.invokestatic 51, 3) := by decide +kernel
theorem dX3_addTrack_22 : decode cX3_addTrack 22 = .ok (.ifCond .ne 9, 3) := by decide +kernel
theorem dX3_addTrack_25 : decode cX3_addTrack 25 = .ok (.aload_n 0, 1) := by decide +kernel
theorem dX3_addTrack_26 : decode cX3_addTrack 26 = .ok (.iconst 1, 1) := by decide +kernel
theorem dX3_addTrack_27 : decode cX3_addTrack 27 = .ok (.invokevirtual 64, 3) := by decide +kernel
theorem dX3_addTrack_30 : decode cX3_addTrack 30 = .ok (.ireturn, 1) := by decide +kernel
theorem dX3_addTrack_31 : decode cX3_addTrack 31 = .ok (.aload_n 0, 1) := by decide +kernel
theorem dX3_addTrack_32 : decode cX3_addTrack 32 = .ok (.getfield 48, 3) := by decide +kernel
theorem dX3_addTrack_35 : decode cX3_addTrack 35 = .ok (.bipush 8, 2) := by decide +kernel
theorem dX3_addTrack_37 : decode cX3_addTrack 37 = .ok (.if_icmp .ne 9, 3) := by decide +kernel
theorem dX3_addTrack_40 : decode cX3_addTrack 40 = .ok (.aload_n 0, 1) := by decide +kernel
theorem dX3_addTrack_41 : decode cX3_addTrack 41 = .ok (.iconst 2, 1) := by decide +kernel
theorem dX3_addTrack_42 : decode cX3_addTrack 42 = .ok (.invokevirtual 64, 3) := by decide +kernel
theorem dX3_addTrack_45 : decode cX3_addTrack 45 = .ok (.ireturn, 1) := by decide +kernel
theorem dX3_addTrack_46 : decode cX3_addTrack 46 = .ok (.aload_n 0, 1) := by decide +kernel
theorem dX3_addTrack_47 : decode cX3_addTrack 47 = .ok (.getfield 9, 3) := by decide +kernel
theorem dX3_addTrack_50 : decode cX3_addTrack 50 = .ok (.aload_n 0, 1) := by decide +kernel
theorem dX3_addTrack_51 : decode cX3_addTrack 51 = .ok (.getfield 48, 3) := by decide +kernel
theorem dX3_addTrack_54 : decode cX3_addTrack 54 = .ok (.iload_n 1, 1) := by decide +kernel
theorem dX3_addTrack_55 : decode cX3_addTrack 55 = .ok (.iastore, 1) := by decide +kernel
theorem dX3_addTrack_56 : decode cX3_addTrack 56 = .ok (.aload_n 0, 1) := by decide +kernel
theorem dX3_addTrack_57 : decode cX3_addTrack 57 = .ok (.getfield 13, 3) := by decide +kernel
theorem dX3_addTrack_60 : decode cX3_addTrack 60 = .ok (.aload_n 0, 1) := by decide +kernel
theorem dX3_addTrack_61 : decode cX3_addTrack 61 = .ok (.getfield 48, 3) := by decide +kernel
theorem dX3_addTrack_64 : decode cX3_addTrack 64 = .ok (.iload_n 2, 1) := by decide +kernel
theorem dX3_addTrack_65 : decode cX3_addTrack 65 = .ok (.iastore, 1) := by decide +kernel
theorem dX3_addTrack_66 : decode cX3_addTrack 66 = .ok (.aload_n 0, 1) := by decide +kernel
theorem dX3_addTrack_67 : decode cX3_addTrack 67 = .ok (.getfield 19, 3) := by decide +kernel
theorem dX3_addTrack_70 : decode cX3_addTrack 70 = .ok (.aload_n 0, 1) := by decide +kernel
theorem dX3_addTrack_71 : decode cX3_addTrack 71 = .ok (.getfield 48, 3) := by decide +kernel
theorem dX3_addTrack_74 : decode cX3_addTrack 74 = .ok (.bipush 10, 2) := by decide +kernel
theorem dX3_addTrack_76 : decode cX3_addTrack 76 = .ok (.iastore, 1) := by decide +kernel
theorem dX3_addTrack_77 : decode cX3_addTrack 77 = .ok (.iconst 0, 1) := by decide +kernel
theorem dX3_addTrack_78 : decode cX3_addTrack 78 = .ok (.istore_n 3, 1) := by decide +kernel
theorem dX3_addTrack_79 : decode cX3_addTrack 79 = .ok (.iload_n 3, 1) := by decide +kernel
theorem dX3_addTrack_80 : decode cX3_addTrack 80 = .ok (.iload_n 1, 1) := by decide +kernel
theorem dX3_addTrack_81 : decode cX3_addTrack 81 = .ok (.if_icmp .ge 19, 3) := by decide +kernel
theorem dX3_addTrack_84 : decode cX3_addTrack 84 = .ok (.aload_n 0, 1) := by decide +kernel
theorem dX3_addTrack_85 : decode cX3_addTrack 85 = .ok (.aload_n 0, 1) := by decide +kernel
theorem dX3_addTrack_86 : decode cX3_addTrack 86 = .ok (.getfield 48, 3) := by decide +kernel
theorem dX3_addTrack_89 : decode cX3_addTrack 89 = .ok (.iload_n 3, 1) := by decide +kernel
theorem dX3_addTrack_90 : decode cX3_addTrack 90 = .ok (.iconst 0, 1) := by decide +kernel
theorem dX3_addTrack_91 : decode cX3_addTrack 91 = .ok (.invokevirtual 68, 3) := by decide +kernel
theorem dX3_addTrack_94 : decode cX3_addTrack 94 = .ok (.iinc 3 1, 3) := by decide +kernel
theorem dX3_addTrack_97 : decode cX3_addTrack 97 = .ok (.goto (-18), 3) := by decide +kernel
theorem dX3_addTrack_100 : decode cX3_addTrack 100 = .ok (.aload_n 0, 1) := by decide +kernel
theorem dX3_addTrack_101 : decode cX3_addTrack 101 = .ok (.dup, 1) := by decide +kernel
theorem dX3_addTrack_102 : decode cX3_addTrack 102 = .ok (.getfield 48, 3) := by decide +kernel
theorem dX3_addTrack_105 : decode cX3_addTrack 105 = .ok (.iconst 1, 1) := by decide +kernel
theorem dX3_addTrack_106 : decode cX3_addTrack 106 = .ok (.iadd, 1) := by decide +kernel
theorem dX3_addTrack_107 : decode cX3_addTrack 107 = .ok (.putfield 48, 3) := by decide +kernel
theorem dX3_addTrack_110 : decode cX3_addTrack 110 = .ok (.aload_n 0, 1) := by decide +kernel
theorem dX3_addTrack_111 : decode cX3_addTrack 111 = .ok (.getfield 48, 3) := by decide +kernel
theorem dX3_addTrack_114 : decode cX3_addTrack 114 = .ok (.iconst 1, 1) := by decide +kernel
theorem dX3_addTrack_115 : decode cX3_addTrack 115 = .ok (.isub, 1) := by decide +kernel
theorem dX3_addTrack_116 : decode cX3_addTrack 116 = .ok (.ireturn, 1) := by decide +kernel
theorem dX3_set_0 : decode cX3_set 0 = .ok (.aload_n 0, 1) := by decide +kernel
theorem dX3_set_1 : decode cX3_set 1 = .ok (.iconst 0, 1) := by decide +kernel
theorem dX3_set_2 : decode cX3_set 2 = .ok (.putfield 45, 3) := by decide +kernel
theorem dX3_set_5 : decode cX3_set 5 = .ok (.aload_n 0, 1) := by decide +kernel
theorem dX3_set_6 : decode cX3_set 6 = .ok (.iload_n 1, 1) := by decide +kernel
theorem dX3_set_7 : decode cX3_set 7 = .ok (.iload_n 2, 1) := by decide +kernel
theorem dX3_set_8 : decode cX3_set 8 = .ok (.invokevirtual 72, 3) := by decide +kernel
theorem dX3_set_11 : decode cX3_set 11 = .ok (.ifCond .ne 9, 3) := by decide +kernel
theorem dX3_set_14 : decode cX3_set 14 = .ok (.aload_n 0, 1) := by decide +kernel
theorem dX3_set_15 : decode cX3_set 15 = .ok (.iconst 1, 1) := by decide +kernel
theorem dX3_set_16 : decode cX3_set 16 = .ok (.invokevirtual 64, 3) := by decide +kernel
theorem dX3_set_19 : decode cX3_set 19 = .ok (.ireturn, 1) := by decide +kernel
theorem dX3_set_20 : decode cX3_set 20 = .ok (.iload_n 3, 1) := by decide +kernel
theorem dX3_set_21 : decode cX3_set 21 = .ok (.iconst 0, 1) := by decide +kernel
theorem dX3_set_22 : decode cX3_set 22 = .ok (.bipush 127, 2) := by decide +kernel
theorem dX3_set_24 : decode cX3_set 24 = .ok (.invokestatic 51, 3) := by decide +kernel
theorem dX3_set_27 : decode cX3_set 27 = .ok (.ifCond .eq 13, 3) := by decide +kernel
theorem dX3_set_30 : decode cX3_set 30 = .ok (.iload 4, 2) := by decide +kernel
theorem dX3_set_32 : decode cX3_set 32 = .ok (.iconst 1, 1) := by decide +kernel
theorem dX3_set_33 : decode cX3_set 33 = .ok (.iconst 4, 1) := by decide +kernel
theorem dX3_set_34 : decode cX3_set 34 = .ok (.invokestatic 51, 3) := by decide +kernel
theorem dX3_set_37 : decode cX3_set 37 = .ok (.ifCond .ne 9, 3) := by decide +kernel
theorem dX3_set_40 : decode cX3_set 40 = .ok (.aload_n 0, 1) := by decide +kernel
theorem dX3_set_41 : decode cX3_set 41 = .ok (.iconst 2, 1) := by decide +kernel
theorem dX3_set_42 : decode cX3_set 42 = .ok (.invokevirtual 64, 3) := by decide +kernel
theorem dX3_set_45 : decode cX3_set 45 = .ok (.ireturn, 1) := by decide +kernel
theorem dX3_set_46 : decode cX3_set 46 = .ok (.aload_n 0, 1) := by decide +kernel
theorem dX3_set_47 : decode cX3_set 47 = .ok (.getfield 29, 3) := by decide +kernel
theorem dX3_set_50 : decode cX3_set 50 = .ok (.iload_n 1, 1) := by decide +kernel
theorem dX3_set_51 : decode cX3_set 51 = .ok (.iload_n 2, 1) := by decide +kernel
theorem dX3_set_52 : decode cX3_set 52 = .ok (.invokestatic 60, 3) := by decide +kernel
theorem dX3_set_55 : decode cX3_set 55 = .ok (.iconst 0, 1) := by decide +kernel
theorem dX3_set_56 : decode cX3_set 56 = .ok (.iadd, 1) := by decide +kernel
theorem dX3_set_57 : decode cX3_set 57 = .ok (.iaload, 1) := by decide +kernel
theorem dX3_set_58 : decode cX3_set 58 = .ok (.istore 5, 2) := by decide +kernel
theorem dX3_set_60 : decode cX3_set 60 = .ok (.aload_n 0, 1) := by decide +kernel
theorem dX3_set_61 : decode cX3_set 61 = .ok (.getfield 29, 3) := by decide +kernel
theorem dX3_set_64 : decode cX3_set 64 = .ok (.iload_n 1, 1) := by decide +kernel
theorem dX3_set_65 : decode cX3_set 65 = .ok (.iload_n 2, 1) := by decide +kernel
theorem dX3_set_66 : decode cX3_set 66 = .ok (.invokestatic 60, 3) := by decide +kernel
theorem dX3_set_69 : decode cX3_set 69 = .ok (.iconst 0, 1) := by decide +kernel
theorem dX3_set_70 : decode cX3_set 70 = .ok (.iadd, 1) := by decide +kernel
theorem dX3_set_71 : decode cX3_set 71 = .ok (.iload_n 3, 1) := by decide +kernel
theorem dX3_set_72 : decode cX3_set 72 = .ok (.iastore, 1) := by decide +kernel
theorem dX3_set_73 : decode cX3_set 73 = .ok (.aload_n 0, 1) := by decide +kernel
theorem dX3_set_74 : decode cX3_set 74 = .ok (.getfield 29, 3) := by decide +kernel
theorem dX3_set_77 : decode cX3_set 77 = .ok (.iload_n 1, 1) := by decide +kernel
theorem dX3_set_78 : decode cX3_set 78 = .ok (.iload_n 2, 1) := by decide +kernel
theorem dX3_set_79 : decode cX3_set 79 = .ok (.invokestatic 60, 3) := by decide +kernel
theorem dX3_set_82 : decode cX3_set 82 = .ok (.iconst 1, 1) := by decide +kernel
theorem dX3_set_83 : decode cX3_set 83 = .ok (.iadd, 1) := by decide +kernel
theorem dX3_set_84 : decode cX3_set 84 = .ok (.iload 4, 2) := by decide +kernel
theorem dX3_set_86 : decode cX3_set 86 = .ok (.iastore, 1) := by decide +kernel
theorem dX3_set_87 : decode cX3_set 87 = .ok (.iload 5, 2) := by decide +kernel
theorem dX3_set_89 : decode cX3_set 89 = .ok (.ireturn, 1) := by decide +kernel
theorem dX3_setTurn_0 : decode cX3_setTurn 0 = .ok (.aload_n 0, 1) := by decide +kernel
theorem dX3_setTurn_1 : decode cX3_setTurn 1 = .ok (.iconst 0, 1) := by decide +kernel
theorem dX3_setTurn_2 : decode cX3_setTurn 2 = .ok (.putfield 45, 3) := by decide +kernel
theorem dX3_setTurn_5 : decode cX3_setTurn 5 = .ok (.aload_n 0, 1) := by decide +kernel
theorem dX3_setTurn_6 : decode cX3_setTurn 6 = .ok (.iload_n 1, 1) := by decide +kernel
theorem dX3_setTurn_7 : decode cX3_setTurn 7 = .ok (.iload_n 2, 1) := by decide +kernel
theorem dX3_setTurn_8 : decode cX3_setTurn 8 = .ok (.invokevirtual 72, 3) := by decide +kernel
theorem dX3_setTurn_11 : decode cX3_setTurn 11 = .ok (.ifCond .ne 9, 3) := by decide +kernel
theorem dX3_setTurn_14 : decode cX3_setTurn 14 = .ok (.aload_n 0, 1) := by decide +kernel
theorem dX3_setTurn_15 : decode cX3_setTurn 15 = .ok (.iconst 1, 1) := by decide +kernel
theorem dX3_setTurn_16 : decode cX3_setTurn 16 = .ok (.invokevirtual 64, 3) := by decide +kernel
theorem dX3_setTurn_19 : decode cX3_setTurn 19 = .ok (.ireturn, 1) := by decide +kernel
theorem dX3_setTurn_20 : decode cX3_setTurn 20 = .ok (.iload 4, 2) := by decide +kernel
theorem dX3_setTurn_22 : decode cX3_setTurn 22 = .ok (.iconst 1, 1) := by decide +kernel
theorem dX3_setTurn_23 : decode cX3_setTurn 23 = .ok (.bipush 8, 2) := by decide +kernel
theorem dX3_setTurn_25 : decode cX3_setTurn 25 = .ok (.invokestatic 51, 3) := by decide +kernel
theorem dX3_setTurn_28 : decode cX3_setTurn 28 = .ok (.ifCond .eq 15, 3) := by decide +kernel
theorem dX3_setTurn_31 : decode cX3_setTurn 31 = .ok (.iload_n 3, 1) := by decide +kernel
theorem dX3_setTurn_32 : decode cX3_setTurn 32 = .ok (.iconst 0, 1) := by decide +kernel
theorem dX3_setTurn_33 : decode cX3_setTurn 33 = .ok (.iload 4, 2) := by decide +kernel
theorem dX3_setTurn_35 : decode cX3_setTurn 35 = .ok (.iconst 1, 1) := by decide +kernel
theorem dX3_setTurn_36 : decode cX3_setTurn 36 = .ok (.isub, 1) := by decide +kernel
theorem dX3_setTurn_37 : decode cX3_setTurn 37 = .ok (.invokestatic 51, 3) := by decide +kernel
theorem dX3_setTurn_40 : decode cX3_setTurn 40 = .ok (.ifCond .ne 9, 3) := by decide +kernel
theorem dX3_setTurn_43 : decode cX3_setTurn 43 = .ok (.aload_n 0, 1) := by decide +kernel
theorem dX3_setTurn_44 : decode cX3_setTurn 44 = .ok (.iconst 2, 1) := by decide +kernel
theorem dX3_setTurn_45 : decode cX3_setTurn 45 = .ok (.invokevirtual 64, 3) := by decide +kernel
theorem dX3_setTurn_48 : decode cX3_setTurn 48 = .ok (.ireturn, 1) := by decide +kernel
theorem dX3_setTurn_49 : decode cX3_setTurn 49 = .ok (.aload_n 0, 1) := by decide +kernel
theorem dX3_setTurn_50 : decode cX3_setTurn 50 = .ok (.getfield 29, 3) := by decide +kernel
theorem dX3_setTurn_53 : decode cX3_setTurn 53 = .ok (.iload_n 1, 1) := by decide +kernel
theorem dX3_setTurn_54 : decode cX3_setTurn 54 = .ok (.iload_n 2, 1) := by decide +kernel
theorem dX3_setTurn_55 : decode cX3_setTurn 55 = .ok (.invokestatic 60, 3) := by decide +kernel
theorem dX3_setTurn_58 : decode cX3_setTurn 58 = .ok (.iconst 3, 1) := by decide +kernel
theorem dX3_setTurn_59 : decode cX3_setTurn 59 = .ok (.iadd, 1) := by decide +kernel
theorem dX3_setTurn_60 : decode cX3_setTurn 60 = .ok (.iaload, 1) := by decide +kernel
theorem dX3_setTurn_61 : decode cX3_setTurn 61 = .ok (.istore 5, 2) := by decide +kernel
theorem dX3_setTurn_63 : decode cX3_setTurn 63 = .ok (.aload_n 0, 1) := by decide +kernel
theorem dX3_setTurn_64 : decode cX3_setTurn 64 = .ok (.getfield 29, 3) := by decide +kernel
theorem dX3_setTurn_67 : decode cX3_setTurn 67 = .ok (.iload_n 1, 1) := by decide +kernel
theorem dX3_setTurn_68 : decode cX3_setTurn 68 = .ok (.iload_n 2, 1) := by decide +kernel
theorem dX3_setTurn_69 : decode cX3_setTurn 69 = .ok (.invokestatic 60, 3) := by decide +kernel
theorem dX3_setTurn_72 : decode cX3_setTurn 72 = .ok (.iconst 2, 1) := by decide +kernel
theorem dX3_setTurn_73 : decode cX3_setTurn 73 = .ok (.iadd, 1) := by decide +kernel
theorem dX3_setTurn_74 : decode cX3_setTurn 74 = .ok (.iload_n 3, 1) := by decide +kernel
theorem dX3_setTurn_75 : decode cX3_setTurn 75 = .ok (.iastore, 1) := by decide +kernel
theorem dX3_setTurn_76 : decode cX3_setTurn 76 = .ok (.aload_n 0, 1) := by decide +kernel
theorem dX3_setTurn_77 : decode cX3_setTurn 77 = .ok (.getfield 29, 3) := by decide +kernel
theorem dX3_setTurn_80 : decode cX3_setTurn 80 = .ok (.iload_n 1, 1) := by decide +kernel
theorem dX3_setTurn_81 : decode cX3_setTurn 81 = .ok (.iload_n 2, 1) := by decide +kernel
theorem dX3_setTurn_82 : decode cX3_setTurn 82 = .ok (.invokestatic 60, 3) := by decide +kernel
theorem dX3_setTurn_85 : decode cX3_setTurn 85 = .ok (.iconst 3, 1) := by decide +kernel
theorem dX3_setTurn_86 : decode cX3_setTurn 86 = .ok (.iadd, 1) := by decide +kernel
theorem dX3_setTurn_87 : decode cX3_setTurn 87 = .ok (.iload 4, 2) := by decide +kernel
theorem dX3_setTurn_89 : decode cX3_setTurn 89 = .ok (.iastore, 1) := by decide +kernel
theorem dX3_setTurn_90 : decode cX3_setTurn 90 = .ok (.iload 5, 2) := by decide +kernel
theorem dX3_setTurn_92 : decode cX3_setTurn 92 = .ok (.ireturn, 1) := by decide +kernel
theorem dX3_delay_0 : decode cX3_delay 0 = .ok (.iload_n 2, 1) := by decide +kernel
theorem dX3_delay_1 : decode cX3_delay 1 = .ok (.iconst 2, 1) := by decide +kernel
theorem dX3_delay_2 : decode cX3_delay 2 = .ok (.irem, 1) := by decide +kernel
theorem dX3_delay_3 : decode cX3_delay 3 = .ok (.iconst 1, 1) := by decide +kernel
theorem dX3_delay_4 : decode cX3_delay 4 = .ok (.if_icmp .ne 12, 3) := by decide +kernel
theorem dX3_delay_7 : decode cX3_delay 7 = .ok (.aload_n 0, 1) := by decide +kernel
theorem dX3_delay_8 : decode cX3_delay 8 = .ok (.getfield 16, 3) := by decide +kernel
theorem dX3_delay_11 : decode cX3_delay 11 = .ok (.iload_n 1, 1) := by decide +kernel
theorem dX3_delay_12 : decode cX3_delay 12 = .ok (.iaload, 1) := by decide +kernel
theorem dX3_delay_13 : decode cX3_delay 13 = .ok (.goto 4, 3) := by decide +kernel
theorem dX3_delay_16 : decode cX3_delay 16 = .ok (.iconst 0, 1) := by decide +kernel
theorem dX3_delay_17 : decode cX3_delay 17 = .ok (.ireturn, 1) := by decide +kernel
theorem dX3_step_0 : decode cX3_step 0 = .ok (.aload_n 0, 1) := by decide +kernel
theorem dX3_step_1 : decode cX3_step 1 = .ok (.iconst 0, 1) := by decide +kernel
theorem dX3_step_2 : decode cX3_step 2 = .ok (.putfield 45, 3) := by decide +kernel
theorem dX3_step_5 : decode cX3_step 5 = .ok (.aload_n 0, 1) := by decide +kernel
theorem dX3_step_6 : decode cX3_step 6 = .ok (.iload_n 1, 1) := by decide +kernel
theorem dX3_step_7 : decode cX3_step 7 = .ok (.iload_n 2, 1) := by decide +kernel
theorem dX3_step_8 : decode cX3_step 8 = .ok (.invokevirtual 72, 3) := by decide +kernel
theorem dX3_step_11 : decode cX3_step 11 = .ok (.ifCond .eq 12, 3) := by decide +kernel
theorem dX3_step_14 : decode cX3_step 14 = .ok (.iload_n 3, 1) := by decide +kernel
theorem dX3_step_15 : decode cX3_step 15 = .ok (.iconst 0, 1) := by decide +kernel
theorem dX3_step_16 : decode cX3_step 16 = .ok (.iconst 4, 1) := by decide +kernel
theorem dX3_step_17 : decode cX3_step 17 = .ok (.invokestatic 51, 3) := by decide +kernel
theorem dX3_step_20 : decode cX3_step 20 = .ok (.ifCond .ne 9, 3) := by decide +kernel
theorem dX3_step_23 : decode cX3_step 23 = .ok (.aload_n 0, 1) := by decide +kernel
theorem dX3_step_24 : decode cX3_step 24 = .ok (.iconst 1, 1) := by decide +kernel
theorem dX3_step_25 : decode cX3_step 25 = .ok (.invokevirtual 64, 3) := by decide +kernel
theorem dX3_step_28 : decode cX3_step 28 = .ok (.ireturn, 1) := by decide +kernel
theorem dX3_step_29 : decode cX3_step 29 = .ok (.iload_n 3, 1) := by decide +kernel
theorem dX3_step_30 : decode cX3_step 30 = .ok (.iconst 4, 1) := by decide +kernel
theorem dX3_step_31 : decode cX3_step 31 = .ok (.if_icmp .ne 12, 3) := by decide +kernel
theorem dX3_step_34 : decode cX3_step 34 = .ok (.aload_n 0, 1) := by decide +kernel
theorem dX3_step_35 : decode cX3_step 35 = .ok (.iload_n 1, 1) := by decide +kernel
theorem dX3_step_36 : decode cX3_step 36 = .ok (.iload_n 2, 1) := by decide +kernel
theorem dX3_step_37 : decode cX3_step 37 = .ok (.invokevirtual 76, 3) := by decide +kernel
theorem dX3_step_40 : decode cX3_step 40 = .ok (.goto 15, 3) := by decide +kernel
theorem dX3_step_43 : decode cX3_step 43 = .ok (.aload_n 0, 1) := by decide +kernel
theorem dX3_step_44 : decode cX3_step 44 = .ok (.getfield 29, 3) := by decide +kernel
theorem dX3_step_47 : decode cX3_step 47 = .ok (.iload_n 1, 1) := by decide +kernel
theorem dX3_step_48 : decode cX3_step 48 = .ok (.iload_n 2, 1) := by decide +kernel
theorem dX3_step_49 : decode cX3_step 49 = .ok (.invokestatic 60, 3) := by decide +kernel
theorem dX3_step_52 : decode cX3_step 52 = .ok (.iload_n 3, 1) := by decide +kernel
theorem dX3_step_53 : decode cX3_step 53 = .ok (.iadd, 1) := by decide +kernel
theorem dX3_step_54 : decode cX3_step 54 = .ok (.iaload, 1) := by decide +kernel
theorem dX3_step_55 : decode cX3_step 55 = .ok (.ireturn, 1) := by decide +kernel
theorem dX3_told_0 : decode cX3_told 0 = .ok (.iload_n 2, 1) := by decide +kernel
theorem dX3_told_1 : decode cX3_told 1 = .ok (.tableswitch 70 0 4 #[35, 42, 49, 56, 63], 35) := by decide +kernel
theorem dX3_told_36 : decode cX3_told 36 = .ok (.aload_n 0, 1) := by decide +kernel
theorem dX3_told_37 : decode cX3_told 37 = .ok (.getfield 9, 3) := by decide +kernel
theorem dX3_told_40 : decode cX3_told 40 = .ok (.iload_n 1, 1) := by decide +kernel
theorem dX3_told_41 : decode cX3_told 41 = .ok (.iaload, 1) := by decide +kernel
theorem dX3_told_42 : decode cX3_told 42 = .ok (.ireturn, 1) := by decide +kernel
theorem dX3_told_43 : decode cX3_told 43 = .ok (.aload_n 0, 1) := by decide +kernel
theorem dX3_told_44 : decode cX3_told 44 = .ok (.getfield 13, 3) := by decide +kernel
theorem dX3_told_47 : decode cX3_told 47 = .ok (.iload_n 1, 1) := by decide +kernel
theorem dX3_told_48 : decode cX3_told 48 = .ok (.iaload, 1) := by decide +kernel
theorem dX3_told_49 : decode cX3_told 49 = .ok (.ireturn, 1) := by decide +kernel
theorem dX3_told_50 : decode cX3_told 50 = .ok (.aload_n 0, 1) := by decide +kernel
theorem dX3_told_51 : decode cX3_told 51 = .ok (.getfield 16, 3) := by decide +kernel
theorem dX3_told_54 : decode cX3_told 54 = .ok (.iload_n 1, 1) := by decide +kernel
theorem dX3_told_55 : decode cX3_told 55 = .ok (.iaload, 1) := by decide +kernel
theorem dX3_told_56 : decode cX3_told 56 = .ok (.ireturn, 1) := by decide +kernel
theorem dX3_told_57 : decode cX3_told 57 = .ok (.aload_n 0, 1) := by decide +kernel
theorem dX3_told_58 : decode cX3_told 58 = .ok (.getfield 19, 3) := by decide +kernel
theorem dX3_told_61 : decode cX3_told 61 = .ok (.iload_n 1, 1) := by decide +kernel
theorem dX3_told_62 : decode cX3_told 62 = .ok (.iaload, 1) := by decide +kernel
theorem dX3_told_63 : decode cX3_told 63 = .ok (.ireturn, 1) := by decide +kernel
theorem dX3_told_64 : decode cX3_told 64 = .ok (.aload_n 0, 1) := by decide +kernel
theorem dX3_told_65 : decode cX3_told 65 = .ok (.getfield 22, 3) := by decide +kernel
theorem dX3_told_68 : decode cX3_told 68 = .ok (.iload_n 1, 1) := by decide +kernel
theorem dX3_told_69 : decode cX3_told 69 = .ok (.iaload, 1) := by decide +kernel
theorem dX3_told_70 : decode cX3_told 70 = .ok (.ireturn, 1) := by decide +kernel
theorem dX3_told_71 : decode cX3_told 71 = .ok (.aload_n 0, 1) := by decide +kernel
theorem dX3_told_72 : decode cX3_told 72 = .ok (.getfield 25, 3) := by decide +kernel
theorem dX3_told_75 : decode cX3_told 75 = .ok (.iconst 3, 1) := by decide +kernel
theorem dX3_told_76 : decode cX3_told 76 = .ok (.iload_n 1, 1) := by decide +kernel
theorem dX3_told_77 : decode cX3_told 77 = .ok (.imul, 1) := by decide +kernel
theorem dX3_told_78 : decode cX3_told 78 = .ok (.iload_n 2, 1) := by decide +kernel
theorem dX3_told_79 : decode cX3_told 79 = .ok (.iadd, 1) := by decide +kernel
theorem dX3_told_80 : decode cX3_told 80 = .ok (.iconst 5, 1) := by decide +kernel
theorem dX3_told_81 : decode cX3_told 81 = .ok (.isub, 1) := by decide +kernel
theorem dX3_told_82 : decode cX3_told 82 = .ok (.baload, 1) := by decide +kernel
theorem dX3_told_83 : decode cX3_told 83 = .ok (.ifCond .eq 7, 3) := by decide +kernel
theorem dX3_told_86 : decode cX3_told 86 = .ok (.iconst 1, 1) := by decide +kernel
theorem dX3_told_87 : decode cX3_told 87 = .ok (.goto 4, 3) := by decide +kernel
theorem dX3_told_90 : decode cX3_told 90 = .ok (.iconst 0, 1) := by decide +kernel
theorem dX3_told_91 : decode cX3_told 91 = .ok (.ireturn, 1) := by decide +kernel
theorem dX3_track_0 : decode cX3_track 0 = .ok (.aload_n 0, 1) := by decide +kernel
theorem dX3_track_1 : decode cX3_track 1 = .ok (.iconst 0, 1) := by decide +kernel
theorem dX3_track_2 : decode cX3_track 2 = .ok (.putfield 45, 3) := by decide +kernel
theorem dX3_track_5 : decode cX3_track 5 = .ok (.aload_n 0, 1) := by decide +kernel
theorem dX3_track_6 : decode cX3_track 6 = .ok (.iload_n 1, 1) := by decide +kernel
theorem dX3_track_7 : decode cX3_track 7 = .ok (.invokevirtual 55, 3) := by decide +kernel
theorem dX3_track_10 : decode cX3_track 10 = .ok (.ifCond .eq 22, 3) := by decide +kernel
theorem dX3_track_13 : decode cX3_track 13 = .ok (.iload_n 2, 1) := by decide +kernel
theorem dX3_track_14 : decode cX3_track 14 = .ok (.iconst 0, 1) := by decide +kernel
theorem dX3_track_15 : decode cX3_track 15 = .ok (.bipush 7, 2) := by decide +kernel
theorem dX3_track_17 : decode cX3_track 17 = .ok (.invokestatic 51, 3) := by decide +kernel
theorem dX3_track_20 : decode cX3_track 20 = .ok (.ifCond .eq 12, 3) := by decide +kernel
theorem dX3_track_23 : decode cX3_track 23 = .ok (.aload_n 0, 1) := by decide +kernel
theorem dX3_track_24 : decode cX3_track 24 = .ok (.iload_n 1, 1) := by decide +kernel
theorem dX3_track_25 : decode cX3_track 25 = .ok (.iload_n 2, 1) := by decide +kernel
theorem dX3_track_26 : decode cX3_track 26 = .ok (.invokevirtual 79, 3) := by decide +kernel
theorem dX3_track_29 : decode cX3_track 29 = .ok (.goto 8, 3) := by decide +kernel
theorem dX3_track_32 : decode cX3_track 32 = .ok (.aload_n 0, 1) := by decide +kernel
theorem dX3_track_33 : decode cX3_track 33 = .ok (.iconst 1, 1) := by decide +kernel
theorem dX3_track_34 : decode cX3_track 34 = .ok (.invokevirtual 64, 3) := by decide +kernel
theorem dX3_track_37 : decode cX3_track 37 = .ok (.ireturn, 1) := by decide +kernel
theorem dX3_tune_0 : decode cX3_tune 0 = .ok (.aload_n 0, 1) := by decide +kernel
theorem dX3_tune_1 : decode cX3_tune 1 = .ok (.iconst 0, 1) := by decide +kernel
theorem dX3_tune_2 : decode cX3_tune 2 = .ok (.putfield 45, 3) := by decide +kernel
theorem dX3_tune_5 : decode cX3_tune 5 = .ok (.aload_n 0, 1) := by decide +kernel
theorem dX3_tune_6 : decode cX3_tune 6 = .ok (.iload_n 1, 1) := by decide +kernel
theorem dX3_tune_7 : decode cX3_tune 7 = .ok (.invokevirtual 55, 3) := by decide +kernel
theorem dX3_tune_10 : decode cX3_tune 10 = .ok (.ifCond .ne 9, 3) := by decide +kernel
theorem dX3_tune_13 : decode cX3_tune 13 = .ok (.aload_n 0, 1) := by decide +kernel
theorem dX3_tune_14 : decode cX3_tune 14 = .ok (.iconst 1, 1) := by decide +kernel
theorem dX3_tune_15 : decode cX3_tune 15 = .ok (.invokevirtual 64, 3) := by decide +kernel
theorem dX3_tune_18 : decode cX3_tune 18 = .ok (.ireturn, 1) := by decide +kernel
theorem dX3_tune_19 : decode cX3_tune 19 = .ok (.iload_n 2, 1) := by decide +kernel
theorem dX3_tune_20 : decode cX3_tune 20 = .ok (.iconst 0, 1) := by decide +kernel
theorem dX3_tune_21 : decode cX3_tune 21 = .ok (.aload_n 0, 1) := by decide +kernel
theorem dX3_tune_22 : decode cX3_tune 22 = .ok (.getfield 13, 3) := by decide +kernel
theorem dX3_tune_25 : decode cX3_tune 25 = .ok (.iload_n 1, 1) := by decide +kernel
theorem dX3_tune_26 : decode cX3_tune 26 = .ok (.iaload, 1) := by decide +kernel
theorem dX3_tune_27 : decode cX3_tune 27 = .ok (.iconst 1, 1) := by decide +kernel
theorem dX3_tune_28 : decode cX3_tune 28 = .ok (.isub, 1) := by decide +kernel
theorem dX3_tune_29 : decode cX3_tune 29 = .ok (.invokestatic 51, 3) := by decide +kernel
theorem dX3_tune_32 : decode cX3_tune 32 = .ok (.ifCond .eq 24, 3) := by decide +kernel
theorem dX3_tune_35 : decode cX3_tune 35 = .ok (.iload_n 3, 1) := by decide +kernel
theorem dX3_tune_36 : decode cX3_tune 36 = .ok (.iconst 1, 1) := by decide +kernel
theorem dX3_tune_37 : decode cX3_tune 37 = .ok (.sipush 200, 3) := by decide +kernel
theorem dX3_tune_40 : decode cX3_tune 40 = .ok (.invokestatic 51, 3) := by decide +kernel
theorem dX3_tune_43 : decode cX3_tune 43 = .ok (.ifCond .eq 13, 3) := by decide +kernel
theorem dX3_tune_46 : decode cX3_tune 46 = .ok (.iload 4, 2) := by decide +kernel
theorem dX3_tune_48 : decode cX3_tune 48 = .ok (.iconst 0, 1) := by decide +kernel
theorem dX3_tune_49 : decode cX3_tune 49 = .ok (.iconst 3, 1) := by decide +kernel
theorem dX3_tune_50 : decode cX3_tune 50 = .ok (.invokestatic 51, 3) := by decide +kernel
theorem dX3_tune_53 : decode cX3_tune 53 = .ok (.ifCond .ne 9, 3) := by decide +kernel
theorem dX3_tune_56 : decode cX3_tune 56 = .ok (.aload_n 0, 1) := by decide +kernel
theorem dX3_tune_57 : decode cX3_tune 57 = .ok (.iconst 2, 1) := by decide +kernel
theorem dX3_tune_58 : decode cX3_tune 58 = .ok (.invokevirtual 64, 3) := by decide +kernel
theorem dX3_tune_61 : decode cX3_tune 61 = .ok (.ireturn, 1) := by decide +kernel
theorem dX3_tune_62 : decode cX3_tune 62 = .ok (.aload_n 0, 1) := by decide +kernel
theorem dX3_tune_63 : decode cX3_tune 63 = .ok (.getfield 16, 3) := by decide +kernel
theorem dX3_tune_66 : decode cX3_tune 66 = .ok (.iload_n 1, 1) := by decide +kernel
theorem dX3_tune_67 : decode cX3_tune 67 = .ok (.iaload, 1) := by decide +kernel
theorem dX3_tune_68 : decode cX3_tune 68 = .ok (.istore 5, 2) := by decide +kernel
theorem dX3_tune_70 : decode cX3_tune 70 = .ok (.aload_n 0, 1) := by decide +kernel
theorem dX3_tune_71 : decode cX3_tune 71 = .ok (.getfield 16, 3) := by decide +kernel
theorem dX3_tune_74 : decode cX3_tune 74 = .ok (.iload_n 1, 1) := by decide +kernel
theorem dX3_tune_75 : decode cX3_tune 75 = .ok (.iload_n 2, 1) := by decide +kernel
theorem dX3_tune_76 : decode cX3_tune 76 = .ok (.iastore, 1) := by decide +kernel
theorem dX3_tune_77 : decode cX3_tune 77 = .ok (.aload_n 0, 1) := by decide +kernel
theorem dX3_tune_78 : decode cX3_tune 78 = .ok (.getfield 19, 3) := by decide +kernel
theorem dX3_tune_81 : decode cX3_tune 81 = .ok (.iload_n 1, 1) := by decide +kernel
theorem dX3_tune_82 : decode cX3_tune 82 = .ok (.iload_n 3, 1) := by decide +kernel
theorem dX3_tune_83 : decode cX3_tune 83 = .ok (.iastore, 1) := by decide +kernel
theorem dX3_tune_84 : decode cX3_tune 84 = .ok (.aload_n 0, 1) := by decide +kernel
theorem dX3_tune_85 : decode cX3_tune 85 = .ok (.getfield 22, 3) := by decide +kernel
theorem dX3_tune_88 : decode cX3_tune 88 = .ok (.iload_n 1, 1) := by decide +kernel
theorem dX3_tune_89 : decode cX3_tune 89 = .ok (.iload 4, 2) := by decide +kernel
theorem dX3_tune_91 : decode cX3_tune 91 = .ok (.iastore, 1) := by decide +kernel
theorem dX3_tune_92 : decode cX3_tune 92 = .ok (.iload 5, 2) := by decide +kernel
theorem dX3_tune_94 : decode cX3_tune 94 = .ok (.ireturn, 1) := by decide +kernel
theorem dX3_turn_0 : decode cX3_turn 0 = .ok (.aload_n 0, 1) := by decide +kernel
theorem dX3_turn_1 : decode cX3_turn 1 = .ok (.aload_n 0, 1) := by decide +kernel
theorem dX3_turn_2 : decode cX3_turn 2 = .ok (.iload_n 1, 1) := by decide +kernel
theorem dX3_turn_3 : decode cX3_turn 3 = .ok (.invokevirtual 55, 3) := by decide +kernel
theorem dX3_turn_6 : decode cX3_turn 6 = .ok (.ifCond .eq 16, 3) := by decide +kernel
theorem dX3_turn_9 : decode cX3_turn 9 = .ok (.iload_n 2, 1) := by decide +kernel
theorem dX3_turn_10 : decode cX3_turn 10 = .ok (.iconst 0, 1) := by decide +kernel
theorem dX3_turn_11 : decode cX3_turn 11 = .ok (.iconst 2, 1) := by decide +kernel
theorem dX3_turn_12 : decode cX3_turn 12 = .ok (.invokestatic 51, 3) := by decide +kernel
theorem dX3_turn_15 : decode cX3_turn 15 = .ok (.ifCond .eq 7, 3) := by decide +kernel
theorem dX3_turn_18 : decode cX3_turn 18 = .ok (.iconst 0, 1) := by decide +kernel
theorem dX3_turn_19 : decode cX3_turn 19 = .ok (.goto 4, 3) := by decide +kernel
theorem dX3_turn_22 : decode cX3_turn 22 = .ok (.iconst 1, 1) := by decide +kernel
theorem dX3_turn_23 : decode cX3_turn 23 = .ok (.putfield 45, 3) := by decide +kernel
theorem dX3_turn_26 : decode cX3_turn 26 = .ok (.aload_n 0, 1) := by decide +kernel
theorem dX3_turn_27 : decode cX3_turn 27 = .ok (.getfield 45, 3) := by decide +kernel
theorem dX3_turn_30 : decode cX3_turn 30 = .ok (.ifCond .eq 5, 3) := by decide +kernel
theorem dX3_turn_33 : decode cX3_turn 33 = .ok (.iconst 0, 1) := by decide +kernel
theorem dX3_turn_34 : decode cX3_turn 34 = .ok (.ireturn, 1) := by decide +kernel
theorem dX3_turn_35 : decode cX3_turn 35 = .ok (.aload_n 0, 1) := by decide +kernel
theorem dX3_turn_36 : decode cX3_turn 36 = .ok (.getfield 25, 3) := by decide +kernel
theorem dX3_turn_39 : decode cX3_turn 39 = .ok (.iconst 3, 1) := by decide +kernel
theorem dX3_turn_40 : decode cX3_turn 40 = .ok (.iload_n 1, 1) := by decide +kernel
theorem dX3_turn_41 : decode cX3_turn 41 = .ok (.imul, 1) := by decide +kernel
theorem dX3_turn_42 : decode cX3_turn 42 = .ok (.iload_n 2, 1) := by decide +kernel
theorem dX3_turn_43 : decode cX3_turn 43 = .ok (.iadd, 1) := by decide +kernel
theorem dX3_turn_44 : decode cX3_turn 44 = .ok (.baload, 1) := by decide +kernel
theorem dX3_turn_45 : decode cX3_turn 45 = .ok (.istore 4, 2) := by decide +kernel
theorem dX3_turn_47 : decode cX3_turn 47 = .ok (.aload_n 0, 1) := by decide +kernel
theorem dX3_turn_48 : decode cX3_turn 48 = .ok (.getfield 25, 3) := by decide +kernel
theorem dX3_turn_51 : decode cX3_turn 51 = .ok (.iconst 3, 1) := by decide +kernel
theorem dX3_turn_52 : decode cX3_turn 52 = .ok (.iload_n 1, 1) := by decide +kernel
theorem dX3_turn_53 : decode cX3_turn 53 = .ok (.imul, 1) := by decide +kernel
theorem dX3_turn_54 : decode cX3_turn 54 = .ok (.iload_n 2, 1) := by decide +kernel
theorem dX3_turn_55 : decode cX3_turn 55 = .ok (.iadd, 1) := by decide +kernel
theorem dX3_turn_56 : decode cX3_turn 56 = .ok (.iload_n 3, 1) := by decide +kernel
theorem dX3_turn_57 : decode cX3_turn 57 = .ok (.bastore, 1) := by decide +kernel
theorem dX3_turn_58 : decode cX3_turn 58 = .ok (.iload 4, 2) := by decide +kernel
theorem dX3_turn_60 : decode cX3_turn 60 = .ok (.ireturn, 1) := by decide +kernel
theorem dX3_spread_0 : decode cX3_spread 0 = .ok (.aload_n 0, 1) := by decide +kernel
theorem dX3_spread_1 : decode cX3_spread 1 = .ok (.iconst 0, 1) := by decide +kernel
theorem dX3_spread_2 : decode cX3_spread 2 = .ok (.putfield 45, 3) := by decide +kernel
theorem dX3_spread_5 : decode cX3_spread 5 = .ok (.aload_n 0, 1) := by decide +kernel
theorem dX3_spread_6 : decode cX3_spread 6 = .ok (.iload_n 1, 1) := by decide +kernel
theorem dX3_spread_7 : decode cX3_spread 7 = .ok (.invokevirtual 55, 3) := by decide +kernel
theorem dX3_spread_10 : decode cX3_spread 10 = .ok (.ifCond .ne 9, 3) := by decide +kernel
theorem dX3_spread_13 : decode cX3_spread 13 = .ok (.aload_n 0, 1) := by decide +kernel
theorem dX3_spread_14 : decode cX3_spread 14 = .ok (.iconst 1, 1) := by decide +kernel
theorem dX3_spread_15 : decode cX3_spread 15 = .ok (.invokevirtual 64, 3) := by decide +kernel
theorem dX3_spread_18 : decode cX3_spread 18 = .ok (.ireturn, 1) := by decide +kernel
theorem dX3_spread_19 : decode cX3_spread 19 = .ok (.iload_n 2, 1) := by decide +kernel
theorem dX3_spread_20 : decode cX3_spread 20 = .ok (.iconst 0, 1) := by decide +kernel
theorem dX3_spread_21 : decode cX3_spread 21 = .ok (.aload_n 0, 1) := by decide +kernel
theorem dX3_spread_22 : decode cX3_spread 22 = .ok (.getfield 9, 3) := by decide +kernel
theorem dX3_spread_25 : decode cX3_spread 25 = .ok (.iload_n 1, 1) := by decide +kernel
theorem dX3_spread_26 : decode cX3_spread 26 = .ok (.iaload, 1) := by decide +kernel
theorem dX3_spread_27 : decode cX3_spread 27 = .ok (.invokestatic 51, 3) := by decide +kernel
theorem dX3_spread_30 : decode cX3_spread 30 = .ok (.ifCond .eq 13, 3) := by decide +kernel
theorem dX3_spread_33 : decode cX3_spread 33 = .ok (.iload_n 3, 1) := by decide +kernel
theorem dX3_spread_34 : decode cX3_spread 34 = .ok (.iconst 1, 1) := by decide +kernel
theorem dX3_spread_35 : decode cX3_spread 35 = .ok (.bipush 127, 2) := by decide +kernel
theorem dX3_spread_37 : decode cX3_spread 37 = .ok (.invokestatic 51, 3) := by decide +kernel
theorem dX3_spread_40 : decode cX3_spread 40 = .ok (.ifCond .ne 9, 3) := by decide +kernel
theorem dX3_spread_43 : decode cX3_spread 43 = .ok (.aload_n 0, 1) := by decide +kernel
theorem dX3_spread_44 : decode cX3_spread 44 = .ok (.iconst 2, 1) := by decide +kernel
theorem dX3_spread_45 : decode cX3_spread 45 = .ok (.invokevirtual 64, 3) := by decide +kernel
theorem dX3_spread_48 : decode cX3_spread 48 = .ok (.ireturn, 1) := by decide +kernel
theorem dX3_spread_49 : decode cX3_spread 49 = .ok (.iconst (-1), 1) := by decide +kernel
theorem dX3_spread_50 : decode cX3_spread 50 = .ok (.istore 4, 2) := by decide +kernel
theorem dX3_spread_52 : decode cX3_spread 52 = .ok (.iconst 0, 1) := by decide +kernel
theorem dX3_spread_53 : decode cX3_spread 53 = .ok (.istore 5, 2) := by decide +kernel
theorem dX3_spread_55 : decode cX3_spread 55 = .ok (.iload 5, 2) := by decide +kernel
theorem dX3_spread_57 : decode cX3_spread 57 = .ok (.aload_n 0, 1) := by decide +kernel
theorem dX3_spread_58 : decode cX3_spread 58 = .ok (.getfield 9, 3) := by decide +kernel
theorem dX3_spread_61 : decode cX3_spread 61 = .ok (.iload_n 1, 1) := by decide +kernel
theorem dX3_spread_62 : decode cX3_spread 62 = .ok (.iaload, 1) := by decide +kernel
theorem dX3_spread_63 : decode cX3_spread 63 = .ok (.if_icmp .ge 62, 3) := by decide +kernel
theorem dX3_spread_66 : decode cX3_spread 66 = .ok (.iload 5, 2) := by decide +kernel
theorem dX3_spread_68 : decode cX3_spread 68 = .ok (.iload_n 2, 1) := by decide +kernel
theorem dX3_spread_69 : decode cX3_spread 69 = .ok (.imul, 1) := by decide +kernel
theorem dX3_spread_70 : decode cX3_spread 70 = .ok (.aload_n 0, 1) := by decide +kernel
theorem dX3_spread_71 : decode cX3_spread 71 = .ok (.getfield 9, 3) := by decide +kernel
theorem dX3_spread_74 : decode cX3_spread 74 = .ok (.iload_n 1, 1) := by decide +kernel
theorem dX3_spread_75 : decode cX3_spread 75 = .ok (.iaload, 1) := by decide +kernel
theorem dX3_spread_76 : decode cX3_spread 76 = .ok (.irem, 1) := by decide +kernel
theorem dX3_spread_77 : decode cX3_spread 77 = .ok (.iload_n 2, 1) := by decide +kernel
theorem dX3_spread_78 : decode cX3_spread 78 = .ok (.if_icmp .ge 7, 3) := by decide +kernel
theorem dX3_spread_81 : decode cX3_spread 81 = .ok (.iconst 1, 1) := by decide +kernel
theorem dX3_spread_82 : decode cX3_spread 82 = .ok (.goto 4, 3) := by decide +kernel
theorem dX3_spread_85 : decode cX3_spread 85 = .ok (.iconst 0, 1) := by decide +kernel
theorem dX3_spread_86 : decode cX3_spread 86 = .ok (.istore 6, 2) := by decide +kernel
theorem dX3_spread_88 : decode cX3_spread 88 = .ok (.aload_n 0, 1) := by decide +kernel
theorem dX3_spread_89 : decode cX3_spread 89 = .ok (.iload_n 1, 1) := by decide +kernel
theorem dX3_spread_90 : decode cX3_spread 90 = .ok (.iload 5, 2) := by decide +kernel
theorem dX3_spread_92 : decode cX3_spread 92 = .ok (.iload 6, 2) := by decide +kernel
theorem dX3_spread_94 : decode cX3_spread 94 = .ok (.ifCond .eq 7, 3) := by decide +kernel
theorem dX3_spread_97 : decode cX3_spread 97 = .ok (.iload_n 3, 1) := by decide +kernel
theorem dX3_spread_98 : decode cX3_spread 98 = .ok (.goto 4, 3) := by decide +kernel
theorem dX3_spread_101 : decode cX3_spread 101 = .ok (.iconst 0, 1) := by decide +kernel
theorem dX3_spread_102 : decode cX3_spread 102 = .ok (.invokevirtual 68, 3) := by decide +kernel
theorem dX3_spread_105 : decode cX3_spread 105 = .ok (.iload 6, 2) := by decide +kernel
theorem dX3_spread_107 : decode cX3_spread 107 = .ok (.ifCond .eq 8, 3) := by decide +kernel
theorem dX3_spread_110 : decode cX3_spread 110 = .ok (.iload 5, 2) := by decide +kernel
theorem dX3_spread_112 : decode cX3_spread 112 = .ok (.goto 5, 3) := by decide +kernel
theorem dX3_spread_115 : decode cX3_spread 115 = .ok (.iload 4, 2) := by decide +kernel
theorem dX3_spread_117 : decode cX3_spread 117 = .ok (.istore 4, 2) := by decide +kernel
theorem dX3_spread_119 : decode cX3_spread 119 = .ok (.iinc 5 1, 3) := by decide +kernel
theorem dX3_spread_122 : decode cX3_spread 122 = .ok (.goto (-67), 3) := by decide +kernel
theorem dX3_spread_125 : decode cX3_spread 125 = .ok (.iload 4, 2) := by decide +kernel
theorem dX3_spread_127 : decode cX3_spread 127 = .ok (.ireturn, 1) := by decide +kernel
theorem dX3_take_0 : decode cX3_take 0 = .ok (.iconst 0, 1) := by decide +kernel
theorem dX3_take_1 : decode cX3_take 1 = .ok (.istore 5, 2) := by decide +kernel
theorem dX3_take_3 : decode cX3_take 3 = .ok (.iload 5, 2) := by decide +kernel
theorem dX3_take_5 : decode cX3_take 5 = .ok (.aload_n 0, 1) := by decide +kernel
theorem dX3_take_6 : decode cX3_take 6 = .ok (.getfield 9, 3) := by decide +kernel
theorem dX3_take_9 : decode cX3_take 9 = .ok (.iload_n 1, 1) := by decide +kernel
theorem dX3_take_10 : decode cX3_take 10 = .ok (.iaload, 1) := by decide +kernel
theorem dX3_take_11 : decode cX3_take 11 = .ok (.if_icmp .ge 35, 3) := by decide +kernel
theorem dX3_take_14 : decode cX3_take 14 = .ok (.aload_n 2, 1) := by decide +kernel
theorem dX3_take_15 : decode cX3_take 15 = .ok (.iload_n 1, 1) := by decide +kernel
theorem dX3_take_16 : decode cX3_take 16 = .ok (.iload_n 3, 1) := by decide +kernel
theorem dX3_take_17 : decode cX3_take 17 = .ok (.iload 5, 2) := by decide +kernel
theorem dX3_take_19 : decode cX3_take 19 = .ok (.iadd, 1) := by decide +kernel
theorem dX3_take_20 : decode cX3_take 20 = .ok (.iload 4, 2) := by decide +kernel
theorem dX3_take_22 : decode cX3_take 22 = .ok (.irem, 1) := by decide +kernel
theorem dX3_take_23 : decode cX3_take 23 = .ok (.invokestatic 60, 3) := by decide +kernel
theorem dX3_take_26 : decode cX3_take 26 = .ok (.aload_n 0, 1) := by decide +kernel
theorem dX3_take_27 : decode cX3_take 27 = .ok (.getfield 29, 3) := by decide +kernel
theorem dX3_take_30 : decode cX3_take 30 = .ok (.iload_n 1, 1) := by decide +kernel
theorem dX3_take_31 : decode cX3_take 31 = .ok (.iload 5, 2) := by decide +kernel
theorem dX3_take_33 : decode cX3_take 33 = .ok (.invokestatic 60, 3) := by decide +kernel
theorem dX3_take_36 : decode cX3_take 36 = .ok (.iconst 4, 1) := by decide +kernel
theorem dX3_take_37 : decode cX3_take 37 = .ok (.invokestatic 82, 3) := by decide +kernel
theorem dX3_take_40 : decode cX3_take 40 = .ok (.iinc 5 1, 3) := by decide +kernel
theorem dX3_take_43 : decode cX3_take 43 = .ok (.goto (-40), 3) := by decide +kernel
theorem dX3_take_46 : decode cX3_take 46 = .ok (.return_, 1) := by decide +kernel
theorem dX3_loud_0 : decode cX3_loud 0 = .ok (.iconst 0, 1) := by decide +kernel
theorem dX3_loud_1 : decode cX3_loud 1 = .ok (.istore_n 2, 1) := by decide +kernel
theorem dX3_loud_2 : decode cX3_loud 2 = .ok (.iconst 0, 1) := by decide +kernel
theorem dX3_loud_3 : decode cX3_loud 3 = .ok (.istore_n 3, 1) := by decide +kernel
theorem dX3_loud_4 : decode cX3_loud 4 = .ok (.iload_n 3, 1) := by decide +kernel
theorem dX3_loud_5 : decode cX3_loud 5 = .ok (.aload_n 0, 1) := by decide +kernel
theorem dX3_loud_6 : decode cX3_loud 6 = .ok (.getfield 9, 3) := by decide +kernel
theorem dX3_loud_9 : decode cX3_loud 9 = .ok (.iload_n 1, 1) := by decide +kernel
theorem dX3_loud_10 : decode cX3_loud 10 = .ok (.iaload, 1) := by decide +kernel
theorem dX3_loud_11 : decode cX3_loud 11 = .ok (.if_icmp .ge 32, 3) := by decide +kernel
theorem dX3_loud_14 : decode cX3_loud 14 = .ok (.iload_n 2, 1) := by decide +kernel
theorem dX3_loud_15 : decode cX3_loud 15 = .ok (.aload_n 0, 1) := by decide +kernel
theorem dX3_loud_16 : decode cX3_loud 16 = .ok (.getfield 29, 3) := by decide +kernel
theorem dX3_loud_19 : decode cX3_loud 19 = .ok (.iload_n 1, 1) := by decide +kernel
theorem dX3_loud_20 : decode cX3_loud 20 = .ok (.iload_n 3, 1) := by decide +kernel
theorem dX3_loud_21 : decode cX3_loud 21 = .ok (.invokestatic 60, 3) := by decide +kernel
theorem dX3_loud_24 : decode cX3_loud 24 = .ok (.iconst 0, 1) := by decide +kernel
theorem dX3_loud_25 : decode cX3_loud 25 = .ok (.iadd, 1) := by decide +kernel
theorem dX3_loud_26 : decode cX3_loud 26 = .ok (.iaload, 1) := by decide +kernel
