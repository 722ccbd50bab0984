theorem dX3_sounds_1 : decode cX3_sounds 1 = .ok (.istore_n 3, 1) := by decide +kernel
theorem dX3_sounds_2 : decode cX3_sounds 2 = .ok (.iload_n 3, 1) := by decide +kernel
theorem dX3_sounds_3 : decode cX3_sounds 3 = .ok (.ifCond .lt 120, 3) := by decide +kernel
theorem dX3_sounds_6 : decode cX3_sounds 6 = .ok (.iload_n 3, 1) := by decide +kernel
theorem dX3_sounds_7 : decode cX3_sounds 7 = .ok (.iload_n 2, 1) := by decide +kernel
theorem dX3_sounds_8 : decode cX3_sounds 8 = .ok (.aload_n 0, 1) := by decide +kernel
theorem dX3_sounds_9 : decode cX3_sounds 9 = .ok (.getfield 19, 3) := by decide +kernel
theorem dX3_sounds_12 : decode cX3_sounds 12 = .ok (.iload_n 1, 1) := by decide +kernel
theorem dX3_sounds_13 : decode cX3_sounds 13 = .ok (.iaload, 1) := by decide +kernel
theorem dX3_sounds_14 : decode cX3_sounds 14 = .ok (.isub, 1) := by decide +kernel
theorem dX3_sounds_15 : decode cX3_sounds 15 = .ok (.if_icmp .le 108, 3) := by decide +kernel
theorem dX3_sounds_18 : decode cX3_sounds 18 = .ok (.aload_n 0, 1) := by decide +kernel
theorem dX3_sounds_19 : decode cX3_sounds 19 = .ok (.iload_n 1, 1) := by decide +kernel
theorem dX3_sounds_20 : decode cX3_sounds 20 = .ok (.iload_n 3, 1) := by decide +kernel
theorem dX3_sounds_21 : decode cX3_sounds 21 = .ok (.invokevirtual 125, 3) := by decide +kernel
theorem dX3_sounds_24 : decode cX3_sounds 24 = .ok (.istore 4, 2) := by decide +kernel
theorem dX3_sounds_26 : decode cX3_sounds 26 = .ok (.iconst 0, 1) := by decide +kernel
theorem dX3_sounds_27 : decode cX3_sounds 27 = .ok (.istore 5, 2) := by decide +kernel
theorem dX3_sounds_29 : decode cX3_sounds 29 = .ok (.iload 5, 2) := by decide +kernel
theorem dX3_sounds_31 : decode cX3_sounds 31 = .ok (.aload_n 0, 1) := by decide +kernel
theorem dX3_sounds_32 : decode cX3_sounds 32 = .ok (.getfield 48, 3) := by decide +kernel
theorem dX3_sounds_35 : decode cX3_sounds 35 = .ok (.if_icmp .ge 75, 3) := by decide +kernel
theorem dX3_sounds_38 : decode cX3_sounds 38 = .ok (.aload_n 0, 1) := by decide +kernel
theorem dX3_sounds_39 : decode cX3_sounds 39 = .ok (.getfield 22, 3) := by decide +kernel
theorem dX3_sounds_42 : decode cX3_sounds 42 = .ok (.iload_n 1, 1) := by decide +kernel
theorem dX3_sounds_43 : decode cX3_sounds 43 = .ok (.iaload, 1) := by decide +kernel
theorem dX3_sounds_44 : decode cX3_sounds 44 = .ok (.ifCond .le 66, 3) := by decide +kernel
theorem dX3_sounds_47 : decode cX3_sounds 47 = .ok (.iload 5, 2) := by decide +kernel
theorem dX3_sounds_49 : decode cX3_sounds 49 = .ok (.iload_n 1, 1) := by decide +kernel
theorem dX3_sounds_50 : decode cX3_sounds 50 = .ok (.if_icmp .eq 34, 3) := by decide +kernel
theorem dX3_sounds_53 : decode cX3_sounds 53 = .ok (.aload_n 0, 1) := by decide +kernel
theorem dX3_sounds_54 : decode cX3_sounds 54 = .ok (.getfield 22, 3) := by decide +kernel
theorem dX3_sounds_57 : decode cX3_sounds 57 = .ok (.iload 5, 2) := by decide +kernel
theorem dX3_sounds_59 : decode cX3_sounds 59 = .ok (.iaload, 1) := by decide +kernel
theorem dX3_sounds_60 : decode cX3_sounds 60 = .ok (.aload_n 0, 1) := by decide +kernel
theorem dX3_sounds_61 : decode cX3_sounds 61 = .ok (.getfield 22, 3) := by decide +kernel
theorem dX3_sounds_64 : decode cX3_sounds 64 = .ok (.iload_n 1, 1) := by decide +kernel
theorem dX3_sounds_65 : decode cX3_sounds 65 = .ok (.iaload, 1) := by decide +kernel
theorem dX3_sounds_66 : decode cX3_sounds 66 = .ok (.if_icmp .ne 18, 3) := by decide +kernel
theorem dX3_sounds_69 : decode cX3_sounds 69 = .ok (.iload 4, 2) := by decide +kernel
theorem dX3_sounds_71 : decode cX3_sounds 71 = .ok (.ifCond .eq 9, 3) := by decide +kernel
theorem dX3_sounds_74 : decode cX3_sounds 74 = .ok (.iload 5, 2) := by decide +kernel
theorem dX3_sounds_76 : decode cX3_sounds 76 = .ok (.iload_n 1, 1) := by decide +kernel
theorem dX3_sounds_77 : decode cX3_sounds 77 = .ok (.if_icmp .le 7, 3) := by decide +kernel
theorem dX3_sounds_80 : decode cX3_sounds 80 = .ok (.iconst 1, 1) := by decide +kernel
theorem dX3_sounds_81 : decode cX3_sounds 81 = .ok (.goto 4, 3) := by decide +kernel
theorem dX3_sounds_84 : decode cX3_sounds 84 = .ok (.iconst 0, 1) := by decide +kernel
theorem dX3_sounds_85 : decode cX3_sounds 85 = .ok (.istore 6, 2) := by decide +kernel
theorem dX3_sounds_87 : decode cX3_sounds 87 = .ok (.iload 6, 2) := by decide +kernel
theorem dX3_sounds_89 : decode cX3_sounds 89 = .ok (.ifCond .eq 15, 3) := by decide +kernel
theorem dX3_sounds_92 : decode cX3_sounds 92 = .ok (.aload_n 0, 1) := by decide +kernel
theorem dX3_sounds_93 : decode cX3_sounds 93 = .ok (.iload 5, 2) := by decide +kernel
theorem dX3_sounds_95 : decode cX3_sounds 95 = .ok (.iload_n 3, 1) := by decide +kernel
theorem dX3_sounds_96 : decode cX3_sounds 96 = .ok (.invokevirtual 125, 3) := by decide +kernel
theorem dX3_sounds_99 : decode cX3_sounds 99 = .ok (.ifCond .eq 5, 3) := by decide +kernel
theorem dX3_sounds_102 : decode cX3_sounds 102 = .ok (.iconst 0, 1) := by decide +kernel
theorem dX3_sounds_103 : decode cX3_sounds 103 = .ok (.ireturn, 1) := by decide +kernel
theorem dX3_sounds_104 : decode cX3_sounds 104 = .ok (.iinc 5 1, 3) := by decide +kernel
theorem dX3_sounds_107 : decode cX3_sounds 107 = .ok (.goto (-78), 3) := by decide +kernel
theorem dX3_sounds_110 : decode cX3_sounds 110 = .ok (.iload 4, 2) := by decide +kernel
theorem dX3_sounds_112 : decode cX3_sounds 112 = .ok (.ifCond .eq 5, 3) := by decide +kernel
theorem dX3_sounds_115 : decode cX3_sounds 115 = .ok (.iconst 1, 1) := by decide +kernel
theorem dX3_sounds_116 : decode cX3_sounds 116 = .ok (.ireturn, 1) := by decide +kernel
theorem dX3_sounds_117 : decode cX3_sounds 117 = .ok (.iinc 3 (-1), 3) := by decide +kernel
theorem dX3_sounds_120 : decode cX3_sounds 120 = .ok (.goto (-118), 3) := by decide +kernel
theorem dX3_sounds_123 : decode cX3_sounds 123 = .ok (.iconst 0, 1) := by decide +kernel
theorem dX3_sounds_124 : decode cX3_sounds 124 = .ok (.ireturn, 1) := by decide +kernel
theorem dX3_sounding_0 : decode cX3_sounding 0 = .ok (.aload_n 0, 1) := by decide +kernel
theorem dX3_sounding_1 : decode cX3_sounding 1 = .ok (.iconst 0, 1) := by decide +kernel
theorem dX3_sounding_2 : decode cX3_sounding 2 = .ok (.putfield 45, 3) := by decide +kernel
theorem dX3_sounding_5 : decode cX3_sounding 5 = .ok (.iload_n 1, 1) := by decide +kernel
theorem dX3_sounding_6 : decode cX3_sounding 6 = .ok (.invokestatic 100, 3) := by decide +kernel
theorem dX3_sounding_9 : decode cX3_sounding 9 = .ok (.ifCond .ne 9, 3) := by decide +kernel
theorem dX3_sounding_12 : decode cX3_sounding 12 = .ok (.aload_n 0, 1) := by decide +kernel
theorem dX3_sounding_13 : decode cX3_sounding 13 = .ok (.iconst 1, 1) := by decide +kernel
theorem dX3_sounding_14 : decode cX3_sounding 14 = .ok (.invokevirtual 64, 3) := by decide +kernel
theorem dX3_sounding_17 : decode cX3_sounding 17 = .ok (.ireturn, 1) := by decide +kernel
theorem dX3_sounding_18 : decode cX3_sounding 18 = .ok (.iconst 0, 1) := by decide +kernel
theorem dX3_sounding_19 : decode cX3_sounding 19 = .ok (.istore_n 2, 1) := by decide +kernel
theorem dX3_sounding_20 : decode cX3_sounding 20 = .ok (.iconst 0, 1) := by decide +kernel
theorem dX3_sounding_21 : decode cX3_sounding 21 = .ok (.istore_n 3, 1) := by decide +kernel
theorem dX3_sounding_22 : decode cX3_sounding 22 = .ok (.iload_n 3, 1) := by decide +kernel
theorem dX3_sounding_23 : decode cX3_sounding 23 = .ok (.aload_n 0, 1) := by decide +kernel
theorem dX3_sounding_24 : decode cX3_sounding 24 = .ok (.getfield 48, 3) := by decide +kernel
theorem dX3_sounding_27 : decode cX3_sounding 27 = .ok (.if_icmp .ge 24, 3) := by decide +kernel
theorem dX3_sounding_30 : decode cX3_sounding 30 = .ok (.aload_n 0, 1) := by decide +kernel
theorem dX3_sounding_31 : decode cX3_sounding 31 = .ok (.iload_n 3, 1) := by decide +kernel
theorem dX3_sounding_32 : decode cX3_sounding 32 = .ok (.iload_n 1, 1) := by decide +kernel
theorem dX3_sounding_33 : decode cX3_sounding 33 = .ok (.invokevirtual 128, 3) := by decide +kernel
theorem dX3_sounding_36 : decode cX3_sounding 36 = .ok (.ifCond .eq 9, 3) := by decide +kernel
theorem dX3_sounding_39 : decode cX3_sounding 39 = .ok (.iload_n 2, 1) := by decide +kernel
theorem dX3_sounding_40 : decode cX3_sounding 40 = .ok (.iconst 1, 1) := by decide +kernel
theorem dX3_sounding_41 : decode cX3_sounding 41 = .ok (.iload_n 3, 1) := by decide +kernel
theorem dX3_sounding_42 : decode cX3_sounding 42 = .ok (.ishl, 1) := by decide +kernel
theorem dX3_sounding_43 : decode cX3_sounding 43 = .ok (.ior, 1) := by decide +kernel
theorem dX3_sounding_44 : decode cX3_sounding 44 = .ok (.istore_n 2, 1) := by decide +kernel
theorem dX3_sounding_45 : decode cX3_sounding 45 = .ok (.iinc 3 1, 3) := by decide +kernel
theorem dX3_sounding_48 : decode cX3_sounding 48 = .ok (.goto (-26), 3) := by decide +kernel
theorem dX3_sounding_51 : decode cX3_sounding 51 = .ok (.iload_n 2, 1) := by decide +kernel
theorem dX3_sounding_52 : decode cX3_sounding 52 = .ok (.ireturn, 1) := by decide +kernel
theorem dX3_next_0 : decode cX3_next 0 = .ok (.aload_n 0, 1) := by decide +kernel
theorem dX3_next_1 : decode cX3_next 1 = .ok (.iconst 0, 1) := by decide +kernel
theorem dX3_next_2 : decode cX3_next 2 = .ok (.putfield 45, 3) := by decide +kernel
theorem dX3_next_5 : decode cX3_next 5 = .ok (.aload_n 0, 1) := by decide +kernel
theorem dX3_next_6 : decode cX3_next 6 = .ok (.iload_n 1, 1) := by decide +kernel
theorem dX3_next_7 : decode cX3_next 7 = .ok (.invokevirtual 55, 3) := by decide +kernel
theorem dX3_next_10 : decode cX3_next 10 = .ok (.ifCond .ne 9, 3) := by decide +kernel
theorem dX3_next_13 : decode cX3_next 13 = .ok (.aload_n 0, 1) := by decide +kernel
theorem dX3_next_14 : decode cX3_next 14 = .ok (.iconst 1, 1) := by decide +kernel
theorem dX3_next_15 : decode cX3_next 15 = .ok (.invokevirtual 64, 3) := by decide +kernel
theorem dX3_next_18 : decode cX3_next 18 = .ok (.ireturn, 1) := by decide +kernel
theorem dX3_next_19 : decode cX3_next 19 = .ok (.iload_n 2, 1) := by decide +kernel
theorem dX3_next_20 : decode cX3_next 20 = .ok (.invokestatic 100, 3) := by decide +kernel
theorem dX3_next_23 : decode cX3_next 23 = .ok (.ifCond .ne 9, 3) := by decide +kernel
theorem dX3_next_26 : decode cX3_next 26 = .ok (.aload_n 0, 1) := by decide +kernel
theorem dX3_next_27 : decode cX3_next 27 = .ok (.iconst 2, 1) := by decide +kernel
theorem dX3_next_28 : decode cX3_next 28 = .ok (.invokevirtual 64, 3) := by decide +kernel
theorem dX3_next_31 : decode cX3_next 31 = .ok (.ireturn, 1) := by decide +kernel
theorem dX3_next_32 : decode cX3_next 32 = .ok (.iload_n 2, 1) := by decide +kernel
theorem dX3_next_33 : decode cX3_next 33 = .ok (.istore_n 3, 1) := by decide +kernel
theorem dX3_next_34 : decode cX3_next 34 = .ok (.iload_n 3, 1) := by decide +kernel
theorem dX3_next_35 : decode cX3_next 35 = .ok (.iload_n 2, 1) := by decide +kernel
theorem dX3_next_36 : decode cX3_next 36 = .ok (.sipush 3000, 3) := by decide +kernel
theorem dX3_next_39 : decode cX3_next 39 = .ok (.iadd, 1) := by decide +kernel
theorem dX3_next_40 : decode cX3_next 40 = .ok (.if_icmp .gt 26, 3) := by decide +kernel
theorem dX3_next_43 : decode cX3_next 43 = .ok (.iload_n 3, 1) := by decide +kernel
theorem dX3_next_44 : decode cX3_next 44 = .ok (.ldc 59, 2) := by decide +kernel
theorem dX3_next_46 : decode cX3_next 46 = .ok (.if_icmp .gt 20, 3) := by decide +kernel
theorem dX3_next_49 : decode cX3_next 49 = .ok (.aload_n 0, 1) := by decide +kernel
theorem dX3_next_50 : decode cX3_next 50 = .ok (.iload_n 1, 1) := by decide +kernel
theorem dX3_next_51 : decode cX3_next 51 = .ok (.iload_n 3, 1) := by decide +kernel
theorem dX3_next_52 : decode cX3_next 52 = .ok (.invokevirtual 125, 3) := by decide +kernel
theorem dX3_next_55 : decode cX3_next 55 = .ok (.ifCond .eq 5, 3) := by decide +kernel
theorem dX3_next_58 : decode cX3_next 58 = .ok (.iload_n 3, 1) := by decide +kernel
theorem dX3_next_59 : decode cX3_next 59 = .ok (.ireturn, 1) := by decide +kernel
theorem dX3_next_60 : decode cX3_next 60 = .ok (.iinc 3 1, 3) := by decide +kernel
theorem dX3_next_63 : decode cX3_next 63 = .ok (.goto (-29), 3) := by decide +kernel
theorem dX3_next_66 : decode cX3_next 66 = .ok (.iconst (-1), 1) := by decide +kernel
theorem dX3_next_67 : decode cX3_next 67 = .ok (.ireturn, 1) := by decide +kernel
theorem dX3_isSpan_0 : decode cX3_isSpan 0 = .ok (.iload_n 0, 1) := by decide +kernel
theorem dX3_isSpan_1 : decode cX3_isSpan 1 = .ok (.invokestatic 100, 3) := by decide +kernel
theorem dX3_isSpan_4 : decode cX3_isSpan 4 = .ok (.ifCond .eq 27, 3) := by decide +kernel
theorem dX3_isSpan_7 : decode cX3_isSpan 7 = .ok (.iload_n 1, 1) := by decide +kernel
theorem dX3_isSpan_8 : decode cX3_isSpan 8 = .ok (.invokestatic 100, 3) := by decide +kernel
theorem dX3_isSpan_11 : decode cX3_isSpan 11 = .ok (.ifCond .eq 20, 3) := by decide +kernel
theorem dX3_isSpan_14 : decode cX3_isSpan 14 = .ok (.iload_n 1, 1) := by decide +kernel
theorem dX3_isSpan_15 : decode cX3_isSpan 15 = .ok (.iload_n 0, 1) := by decide +kernel
theorem dX3_isSpan_16 : decode cX3_isSpan 16 = .ok (.isub, 1) := by decide +kernel
theorem dX3_isSpan_17 : decode cX3_isSpan 17 = .ok (.iconst 0, 1) := by decide +kernel
theorem dX3_isSpan_18 : decode cX3_isSpan 18 = .ok (.sipush 3000, 3) := by decide +kernel
theorem dX3_isSpan_21 : decode cX3_isSpan 21 = .ok (.invokestatic 51, 3) := by decide +kernel
theorem dX3_isSpan_24 : decode cX3_isSpan 24 = .ok (.ifCond .eq 7, 3) := by decide +kernel
theorem dX3_isSpan_27 : decode cX3_isSpan 27 = .ok (.iconst 1, 1) := by decide +kernel
theorem dX3_isSpan_28 : decode cX3_isSpan 28 = .ok (.goto 4, 3) := by decide +kernel
theorem dX3_isSpan_31 : decode cX3_isSpan 31 = .ok (.iconst 0, 1) := by decide +kernel
theorem dX3_isSpan_32 : decode cX3_isSpan 32 = .ok (.ireturn, 1) := by decide +kernel
theorem dX3_count_0 : decode cX3_count 0 = .ok (.aload_n 0, 1) := by decide +kernel
theorem dX3_count_1 : decode cX3_count 1 = .ok (.iconst 0, 1) := by decide +kernel
theorem dX3_count_2 : decode cX3_count 2 = .ok (.putfield 45, 3) := by decide +kernel
theorem dX3_count_5 : decode cX3_count 5 = .ok (.aload_n 0, 1) := by decide +kernel
theorem dX3_count_6 : decode cX3_count 6 = .ok (.iload_n 1, 1) := by decide +kernel
theorem dX3_count_7 : decode cX3_count 7 = .ok (.invokevirtual 55, 3) := by decide +kernel
theorem dX3_count_10 : decode cX3_count 10 = .ok (.ifCond .ne 9, 3) := by decide +kernel
theorem dX3_count_13 : decode cX3_count 13 = .ok (.aload_n 0, 1) := by decide +kernel
theorem dX3_count_14 : decode cX3_count 14 = .ok (.iconst 1, 1) := by decide +kernel
theorem dX3_count_15 : decode cX3_count 15 = .ok (.invokevirtual 64, 3) := by decide +kernel
theorem dX3_count_18 : decode cX3_count 18 = .ok (.ireturn, 1) := by decide +kernel
theorem dX3_count_19 : decode cX3_count 19 = .ok (.iload_n 2, 1) := by decide +kernel
theorem dX3_count_20 : decode cX3_count 20 = .ok (.iload_n 3, 1) := by decide +kernel
theorem dX3_count_21 : decode cX3_count 21 = .ok (.invokestatic 131, 3) := by decide +kernel
theorem dX3_count_24 : decode cX3_count 24 = .ok (.ifCond .ne 9, 3) := by decide +kernel
theorem dX3_count_27 : decode cX3_count 27 = .ok (.aload_n 0, 1) := by decide +kernel
theorem dX3_count_28 : decode cX3_count 28 = .ok (.iconst 2, 1) := by decide +kernel
theorem dX3_count_29 : decode cX3_count 29 = .ok (.invokevirtual 64, 3) := by decide +kernel
theorem dX3_count_32 : decode cX3_count 32 = .ok (.ireturn, 1) := by decide +kernel
theorem dX3_count_33 : decode cX3_count 33 = .ok (.iconst 0, 1) := by decide +kernel
theorem dX3_count_34 : decode cX3_count 34 = .ok (.istore 4, 2) := by decide +kernel
theorem dX3_count_36 : decode cX3_count 36 = .ok (.iload_n 2, 1) := by decide +kernel
theorem dX3_count_37 : decode cX3_count 37 = .ok (.istore 5, 2) := by decide +kernel
theorem dX3_count_39 : decode cX3_count 39 = .ok (.iload 5, 2) := by decide +kernel
theorem dX3_count_41 : decode cX3_count 41 = .ok (.iload_n 3, 1) := by decide +kernel
theorem dX3_count_42 : decode cX3_count 42 = .ok (.if_icmp .ge 29, 3) := by decide +kernel
theorem dX3_count_45 : decode cX3_count 45 = .ok (.iload 4, 2) := by decide +kernel
theorem dX3_count_47 : decode cX3_count 47 = .ok (.aload_n 0, 1) := by decide +kernel
theorem dX3_count_48 : decode cX3_count 48 = .ok (.iload_n 1, 1) := by decide +kernel
theorem dX3_count_49 : decode cX3_count 49 = .ok (.iload 5, 2) := by decide +kernel
theorem dX3_count_51 : decode cX3_count 51 = .ok (.invokevirtual 125, 3) := by decide +kernel
theorem dX3_count_54 : decode cX3_count 54 = .ok (.ifCond .eq 7, 3) := by decide +kernel
theorem dX3_count_57 : decode cX3_count 57 = .ok (.iconst 1, 1) := by decide +kernel
theorem dX3_count_58 : decode cX3_count 58 = .ok (.goto 4, 3) := by decide +kernel
theorem dX3_count_61 : decode cX3_count 61 = .ok (.iconst 0, 1) := by decide +kernel
theorem dX3_count_62 : decode cX3_count 62 = .ok (.iadd, 1) := by decide +kernel
theorem dX3_count_63 : decode cX3_count 63 = .ok (.istore 4, 2) := by decide +kernel
theorem dX3_count_65 : decode cX3_count 65 = .ok (.iinc 5 1, 3) := by decide +kernel
theorem dX3_count_68 : decode cX3_count 68 = .ok (.goto (-29), 3) := by decide +kernel
theorem dX3_count_71 : decode cX3_count 71 = .ok (.iload 4, 2) := by decide +kernel
theorem dX3_count_73 : decode cX3_count 73 = .ok (.ireturn, 1) := by decide +kernel
theorem dX3_together_0 : decode cX3_together 0 = .ok (.aload_n 0, 1) := by decide +kernel
theorem dX3_together_1 : decode cX3_together 1 = .ok (.iconst 0, 1) := by decide +kernel
theorem dX3_together_2 : decode cX3_together 2 = .ok (.putfield 45, 3) := by decide +kernel
theorem dX3_together_5 : decode cX3_together 5 = .ok (.aload_n 0, 1) := by decide +kernel
theorem dX3_together_6 : decode cX3_together 6 = .ok (.iload_n 1, 1) := by decide +kernel
theorem dX3_together_7 : decode cX3_together 7 = .ok (.invokevirtual 55, 3) := by decide +kernel
theorem dX3_together_10 : decode cX3_together 10 = .ok (.ifCond .eq 11, 3) := by decide +kernel
theorem dX3_together_13 : decode cX3_together 13 = .ok (.aload_n 0, 1) := by decide +kernel
theorem dX3_together_14 : decode cX3_together 14 = .ok (.iload_n 2, 1) := by decide +kernel
theorem dX3_together_15 : decode cX3_together 15 = .ok (.invokevirtual 55, 3) := by decide +kernel
theorem dX3_together_18 : decode cX3_together 18 = .ok (.ifCond .ne 9, 3) := by decide +kernel
theorem dX3_together_21 : decode cX3_together 21 = .ok (.aload_n 0, 1) := by decide +kernel
theorem dX3_together_22 : decode cX3_together 22 = .ok (.iconst 1, 1) := by decide +kernel
theorem dX3_together_23 : decode cX3_together 23 = .ok (.invokevirtual 64, 3) := by decide +kernel
theorem dX3_together_26 : decode cX3_together 26 = .ok (.ireturn, 1) := by decide +kernel
theorem dX3_together_27 : decode cX3_together 27 = .ok (.iload_n 3, 1) := by decide +kernel
theorem dX3_together_28 : decode cX3_together 28 = .ok (.iload 4, 2) := by decide +kernel
theorem dX3_together_30 : decode cX3_together 30 = .ok (.invokestatic 131, 3) := by decide +kernel
theorem dX3_together_33 : decode cX3_together 33 = .ok (.ifCond .ne 9, 3) := by decide +kernel
theorem dX3_together_36 : decode cX3_together 36 = .ok (.aload_n 0, 1) := by decide +kernel
theorem dX3_together_37 : decode cX3_together 37 = .ok (.iconst 2, 1) := by decide +kernel
theorem dX3_together_38 : decode cX3_together 38 = .ok (.invokevirtual 64, 3) := by decide +kernel
theorem dX3_together_41 : decode cX3_together 41 = .ok (.ireturn, 1) := by decide +kernel
theorem dX3_together_42 : decode cX3_together 42 = .ok (.iconst 0, 1) := by decide +kernel
theorem dX3_together_43 : decode cX3_together 43 = .ok (.istore 5, 2) := by decide +kernel
theorem dX3_together_45 : decode cX3_together 45 = .ok (.iload_n 3, 1) := by decide +kernel
theorem dX3_together_46 : decode cX3_together 46 = .ok (.istore 6, 2) := by decide +kernel
theorem dX3_together_48 : decode cX3_together 48 = .ok (.iload 6, 2) := by decide +kernel
theorem dX3_together_50 : decode cX3_together 50 = .ok (.iload 4, 2) := by decide +kernel
theorem dX3_together_52 : decode cX3_together 52 = .ok (.if_icmp .ge 39, 3) := by decide +kernel
theorem dX3_together_55 : decode cX3_together 55 = .ok (.iload 5, 2) := by decide +kernel
theorem dX3_together_57 : decode cX3_together 57 = .ok (.aload_n 0, 1) := by decide +kernel
theorem dX3_together_58 : decode cX3_together 58 = .ok (.iload_n 1, 1) := by decide +kernel
theorem dX3_together_59 : decode cX3_together 59 = .ok (.iload 6, 2) := by decide +kernel
theorem dX3_together_61 : decode cX3_together 61 = .ok (.invokevirtual 125, 3) := by decide +kernel
theorem dX3_together_64 : decode cX3_together 64 = .ok (.ifCond .eq 17, 3) := by decide +kernel
theorem dX3_together_67 : decode cX3_together 67 = .ok (.aload_n 0, 1) := by decide +kernel
theorem dX3_together_68 : decode cX3_together 68 = .ok (.iload_n 2, 1) := by decide +kernel
theorem dX3_together_69 : decode cX3_together 69 = .ok (.iload 6, 2) := by decide +kernel
theorem dX3_together_71 : decode cX3_together 71 = .ok (.invokevirtual 125, 3) := by decide +kernel
theorem dX3_together_74 : decode cX3_together 74 = .ok (.ifCond .eq 7, 3) := by decide +kernel
theorem dX3_together_77 : decode cX3_together 77 = .ok (.iconst 1, 1) := by decide +kernel
theorem dX3_together_78 : decode cX3_together 78 = .ok (.goto 4, 3) := by decide +kernel
theorem dX3_together_81 : decode cX3_together 81 = .ok (.iconst 0, 1) := by decide +kernel
theorem dX3_together_82 : decode cX3_together 82 = .ok (.iadd, 1) := by decide +kernel
theorem dX3_together_83 : decode cX3_together 83 = .ok (.istore 5, 2) := by decide +kernel
theorem dX3_together_85 : decode cX3_together 85 = .ok (.iinc 6 1, 3) := by decide +kernel
theorem dX3_together_88 : decode cX3_together 88 = .ok (.goto (-40), 3) := by decide +kernel
theorem dX3_together_91 : decode cX3_together 91 = .ok (.iload 5, 2) := by decide +kernel
theorem dX3_together_93 : decode cX3_together 93 = .ok (.ireturn, 1) := by decide +kernel
theorem dX3_divisor_0 : decode cX3_divisor 0 = .ok (.lload_n 0, 1) := by decide +kernel
theorem dX3_divisor_1 : decode cX3_divisor 1 = .ok (.lstore 4, 2) := by decide +kernel
theorem dX3_divisor_3 : decode cX3_divisor 3 = .ok (.lload_n 2, 1) := by decide +kernel
theorem dX3_divisor_4 : decode cX3_divisor 4 = .ok (.lstore 6, 2) := by decide +kernel
theorem dX3_divisor_6 : decode cX3_divisor 6 = .ok (.lload 6, 2) := by decide +kernel
theorem dX3_divisor_8 : decode cX3_divisor 8 = .ok (.lconst 0, 1) := by decide +kernel
theorem dX3_divisor_9 : decode cX3_divisor 9 = .ok (.lcmp, 1) := by decide +kernel
theorem dX3_divisor_10 : decode cX3_divisor 10 = .ok (.ifCond .eq 21, 3) := by decide +kernel
theorem dX3_divisor_13 : decode cX3_divisor 13 = .ok (.lload 4, 2) := by decide +kernel
theorem dX3_divisor_15 : decode cX3_divisor 15 = .ok (.lload 6, 2) := by decide +kernel
theorem dX3_divisor_17 : decode cX3_divisor 17 = .ok (.lrem, 1) := by decide +kernel
theorem dX3_divisor_18 : decode cX3_divisor 18 = .ok (.lstore 8, 2) := by decide +kernel
theorem dX3_divisor_20 : decode cX3_divisor 20 = .ok (.lload 6, 2) := by decide +kernel
theorem dX3_divisor_22 : decode cX3_divisor 22 = .ok (.lstore 4, 2) := by decide +kernel
theorem dX3_divisor_24 : decode cX3_divisor 24 = .ok (.lload 8, 2) := by decide +kernel
theorem dX3_divisor_26 : decode cX3_divisor 26 = .ok (.lstore 6, 2) := by decide +kernel
theorem dX3_divisor_28 : decode cX3_divisor 28 = .ok (.goto (-22), 3) := by decide +kernel
theorem dX3_divisor_31 : decode cX3_divisor 31 = .ok (.lload 4, 2) := by decide +kernel
theorem dX3_divisor_33 : decode cX3_divisor 33 = .ok (.lreturn, 1) := by decide +kernel
theorem dX3_roundsOf_0 : decode cX3_roundsOf 0 = .ok (.lconst 1, 1) := by decide +kernel
theorem dX3_roundsOf_1 : decode cX3_roundsOf 1 = .ok (.lstore_n 2, 1) := by decide +kernel
theorem dX3_roundsOf_2 : decode cX3_roundsOf 2 = .ok (.iconst 0, 1) := by decide +kernel
theorem dX3_roundsOf_3 : decode cX3_roundsOf 3 = .ok (.istore 4, 2) := by decide +kernel
theorem dX3_roundsOf_5 : decode cX3_roundsOf 5 = .ok (.iload 4, 2) := by decide +kernel
theorem dX3_roundsOf_7 : decode cX3_roundsOf 7 = .ok (.aload_n 0, 1) := by decide +kernel
theorem dX3_roundsOf_8 : decode cX3_roundsOf 8 = .ok (.getfield 9, 3) := by decide +kernel
theorem dX3_roundsOf_11 : decode cX3_roundsOf 11 = .ok (.iload_n 1, 1) := by decide +kernel
theorem dX3_roundsOf_12 : decode cX3_roundsOf 12 = .ok (.iaload, 1) := by decide +kernel
theorem dX3_roundsOf_13 : decode cX3_roundsOf 13 = .ok (.if_icmp .ge 57, 3) := by decide +kernel
theorem dX3_roundsOf_16 : decode cX3_roundsOf 16 = .ok (.aload_n 0, 1) := by decide +kernel
theorem dX3_roundsOf_17 : decode cX3_roundsOf 17 = .ok (.getfield 29, 3) := by decide +kernel
theorem dX3_roundsOf_20 : decode cX3_roundsOf 20 = .ok (.iload_n 1, 1) := by decide +kernel
theorem dX3_roundsOf_21 : decode cX3_roundsOf 21 = .ok (.iload 4, 2) := by decide +kernel
theorem dX3_roundsOf_23 : decode cX3_roundsOf 23 = .ok (.invokestatic 60, 3) := by decide +kernel
theorem dX3_roundsOf_26 : decode cX3_roundsOf 26 = .ok (.iconst 0, 1) := by decide +kernel
theorem dX3_roundsOf_27 : decode cX3_roundsOf 27 = .ok (.iadd, 1) := by decide +kernel
theorem dX3_roundsOf_28 : decode cX3_roundsOf 28 = .ok (.iaload, 1) := by decide +kernel
theorem dX3_roundsOf_29 : decode cX3_roundsOf 29 = .ok (.ifCond .le 20, 3) := by decide +kernel
theorem dX3_roundsOf_32 : decode cX3_roundsOf 32 = .ok (.aload_n 0, 1) := by decide +kernel
theorem dX3_roundsOf_33 : decode cX3_roundsOf 33 = .ok (.getfield 29, 3) := by decide +kernel
theorem dX3_roundsOf_36 : decode cX3_roundsOf 36 = .ok (.iload_n 1, 1) := by decide +kernel
theorem dX3_roundsOf_37 : decode cX3_roundsOf 37 = .ok (.iload 4, 2) := by decide +kernel
theorem dX3_roundsOf_39 : decode cX3_roundsOf 39 = .ok (.invokestatic 60, 3) := by decide +kernel
theorem dX3_roundsOf_42 : decode cX3_roundsOf 42 = .ok (.iconst 3, 1) := by decide +kernel
theorem dX3_roundsOf_43 : decode cX3_roundsOf 43 = .ok (.iadd, 1) := by decide +kernel
theorem dX3_roundsOf_44 : decode cX3_roundsOf 44 = .ok (.iaload, 1) := by decide +kernel
theorem dX3_roundsOf_45 : decode cX3_roundsOf 45 = .ok (.i2l, 1) := by decide +kernel
theorem dX3_roundsOf_46 : decode cX3_roundsOf 46 = .ok (.goto 4, 3) := by decide +kernel
theorem dX3_roundsOf_49 : decode cX3_roundsOf 49 = .ok (.lconst 1, 1) := by decide +kernel
theorem dX3_roundsOf_50 : decode cX3_roundsOf 50 = .ok (.lstore 5, 2) := by decide +kernel
theorem dX3_roundsOf_52 : decode cX3_roundsOf 52 = .ok (.lload_n 2, 1) := by decide +kernel
theorem dX3_roundsOf_53 : decode cX3_roundsOf 53 = .ok (.lload_n 2, 1) := by decide +kernel
theorem dX3_roundsOf_54 : decode cX3_roundsOf 54 = .ok (.lload 5, 2) := by decide +kernel
theorem dX3_roundsOf_56 : decode cX3_roundsOf 56 = .ok (.invokestatic 134, 3) := by decide +kernel
theorem dX3_roundsOf_59 : decode cX3_roundsOf 59 = .ok (.ldiv, 1) := by decide +kernel
theorem dX3_roundsOf_60 : decode cX3_roundsOf 60 = .ok (.lload 5, 2) := by decide +kernel
theorem dX3_roundsOf_62 : decode cX3_roundsOf 62 = .ok (.lmul, 1) := by decide +kernel
theorem dX3_roundsOf_63 : decode cX3_roundsOf 63 = .ok (.lstore_n 2, 1) := by decide +kernel
theorem dX3_roundsOf_64 : decode cX3_roundsOf 64 = .ok (.iinc 4 1, 3) := by decide +kernel
theorem dX3_roundsOf_67 : decode cX3_roundsOf 67 = .ok (.goto (-62), 3) := by decide +kernel
theorem dX3_roundsOf_70 : decode cX3_roundsOf 70 = .ok (.lload_n 2, 1) := by decide +kernel
theorem dX3_roundsOf_71 : decode cX3_roundsOf 71 = .ok (.l2i, 1) := by decide +kernel
theorem dX3_roundsOf_72 : decode cX3_roundsOf 72 = .ok (.ireturn, 1) := by decide +kernel
theorem dX3_rounds_0 : decode cX3_rounds 0 = .ok (.aload_n 0, 1) := by decide +kernel
theorem dX3_rounds_1 : decode cX3_rounds 1 = .ok (.iconst 0, 1) := by decide +kernel
theorem dX3_rounds_2 : decode cX3_rounds 2 = .ok (.putfield 45, 3) := by decide +kernel
theorem dX3_rounds_5 : decode cX3_rounds 5 = .ok (.aload_n 0, 1) := by decide +kernel
theorem dX3_rounds_6 : decode cX3_rounds 6 = .ok (.iload_n 1, 1) := by decide +kernel
theorem dX3_rounds_7 : decode cX3_rounds 7 = .ok (.invokevirtual 55, 3) := by decide +kernel
theorem dX3_rounds_10 : decode cX3_rounds 10 = .ok (.ifCond .eq 11, 3) := by decide +kernel
theorem dX3_rounds_13 : decode cX3_rounds 13 = .ok (.aload_n 0, 1) := by decide +kernel
theorem dX3_rounds_14 : decode cX3_rounds 14 = .ok (.iload_n 1, 1) := by decide +kernel
theorem dX3_rounds_15 : decode cX3_rounds 15 = .ok (.invokevirtual 138, 3) := by decide +kernel
theorem dX3_rounds_18 : decode cX3_rounds 18 = .ok (.goto 8, 3) := by decide +kernel
theorem dX3_rounds_21 : decode cX3_rounds 21 = .ok (.aload_n 0, 1) := by decide +kernel
theorem dX3_rounds_22 : decode cX3_rounds 22 = .ok (.iconst 1, 1) := by decide +kernel
theorem dX3_rounds_23 : decode cX3_rounds 23 = .ok (.invokevirtual 64, 3) := by decide +kernel
theorem dX3_rounds_26 : decode cX3_rounds 26 = .ok (.ireturn, 1) := by decide +kernel
theorem dX3_period_0 : decode cX3_period 0 = .ok (.aload_n 0, 1) := by decide +kernel
theorem dX3_period_1 : decode cX3_period 1 = .ok (.iconst 0, 1) := by decide +kernel
theorem dX3_period_2 : decode cX3_period 2 = .ok (.putfield 45, 3) := by decide +kernel
theorem dX3_period_5 : decode cX3_period 5 = .ok (.lconst 1, 1) := by decide +kernel
theorem dX3_period_6 : decode cX3_period 6 = .ok (.lstore_n 1, 1) := by decide +kernel
theorem dX3_period_7 : decode cX3_period 7 = .ok (.iconst 0, 1) := by decide +kernel
theorem dX3_period_8 : decode cX3_period 8 = .ok (.istore_n 3, 1) := by decide +kernel
theorem dX3_period_9 : decode cX3_period 9 = .ok (.iload_n 3, 1) := by decide +kernel
theorem dX3_period_10 : decode cX3_period 10 = .ok (.aload_n 0, 1) := by decide +kernel
theorem dX3_period_11 : decode cX3_period 11 = .ok (.getfield 48, 3) := by decide +kernel
theorem dX3_period_14 : decode cX3_period 14 = .ok (.if_icmp .ge 57, 3) := by decide +kernel
theorem dX3_period_17 : decode cX3_period 17 = .ok (.aload_n 0, 1) := by decide +kernel
theorem dX3_period_18 : decode cX3_period 18 = .ok (.getfield 9, 3) := by decide +kernel
theorem dX3_period_21 : decode cX3_period 21 = .ok (.iload_n 3, 1) := by decide +kernel
theorem dX3_period_22 : decode cX3_period 22 = .ok (.iaload, 1) := by decide +kernel
theorem dX3_period_23 : decode cX3_period 23 = .ok (.i2l, 1) := by decide +kernel
theorem dX3_period_24 : decode cX3_period 24 = .ok (.aload_n 0, 1) := by decide +kernel
theorem dX3_period_25 : decode cX3_period 25 = .ok (.getfield 13, 3) := by decide +kernel
theorem dX3_period_28 : decode cX3_period 28 = .ok (.iload_n 3, 1) := by decide +kernel
theorem dX3_period_29 : decode cX3_period 29 = .ok (.iaload, 1) := by decide +kernel
theorem dX3_period_30 : decode cX3_period 30 = .ok (.i2l, 1) := by decide +kernel
theorem dX3_period_31 : decode cX3_period 31 = .ok (.lmul, 1) := by decide +kernel
theorem dX3_period_32 : decode cX3_period 32 = .ok (.aload_n 0, 1) := by decide +kernel
theorem dX3_period_33 : decode cX3_period 33 = .ok (.iload_n 3, 1) := by decide +kernel
theorem dX3_period_34 : decode cX3_period 34 = .ok (.invokevirtual 138, 3) := by decide +kernel
theorem dX3_period_37 : decode cX3_period 37 = .ok (.i2l, 1) := by decide +kernel
theorem dX3_period_38 : decode cX3_period 38 = .ok (.lmul, 1) := by decide +kernel
theorem dX3_period_39 : decode cX3_period 39 = .ok (.lstore 4, 2) := by decide +kernel
theorem dX3_period_41 : decode cX3_period 41 = .ok (.lload_n 1, 1) := by decide +kernel
theorem dX3_period_42 : decode cX3_period 42 = .ok (.lload_n 1, 1) := by decide +kernel
theorem dX3_period_43 : decode cX3_period 43 = .ok (.lload 4, 2) := by decide +kernel
theorem dX3_period_45 : decode cX3_period 45 = .ok (.invokestatic 134, 3) := by decide +kernel
theorem dX3_period_48 : decode cX3_period 48 = .ok (.ldiv, 1) := by decide +kernel
theorem dX3_period_49 : decode cX3_period 49 = .ok (.lload 4, 2) := by decide +kernel
theorem dX3_period_51 : decode cX3_period 51 = .ok (.lmul, 1) := by decide +kernel
theorem dX3_period_52 : decode cX3_period 52 = .ok (.lstore_n 1, 1) := by decide +kernel
theorem dX3_period_53 : decode cX3_period 53 = .ok (.lload_n 1, 1) := by decide +kernel
theorem dX3_period_54 : decode cX3_period 54 = .ok (.ldc2_w 141, 3) := by decide +kernel
theorem dX3_period_57 : decode cX3_period 57 = .ok (.lcmp, 1) := by decide +kernel
theorem dX3_period_58 : decode cX3_period 58 = .ok (.ifCond .le 7, 3) := by decide +kernel
theorem dX3_period_61 : decode cX3_period 61 = .ok (.ldc2_w 143, 3) := by decide +kernel
theorem dX3_period_64 : decode cX3_period 64 = .ok (.lreturn, 1) := by decide +kernel
theorem dX3_period_65 : decode cX3_period 65 = .ok (.iinc 3 1, 3) := by decide +kernel
theorem dX3_period_68 : decode cX3_period 68 = .ok (.goto (-59), 3) := by decide +kernel
theorem dX3_period_71 : decode cX3_period 71 = .ok (.lload_n 1, 1) := by decide +kernel
theorem dX3_period_72 : decode cX3_period 72 = .ok (.lreturn, 1) := by decide +kernel
theorem dX3_density_0 : decode cX3_density 0 = .ok (.aload_n 0, 1) := by decide +kernel
theorem dX3_density_1 : decode cX3_density 1 = .ok (.aload_n 0, 1) := by decide +kernel
theorem dX3_density_2 : decode cX3_density 2 = .ok (.iload_n 1, 1) := by decide +kernel
theorem dX3_density_3 : decode cX3_density 3 = .ok (.invokevirtual 55, 3) := by decide +kernel
theorem dX3_density_6 : decode cX3_density 6 = .ok (.ifCond .eq 7, 3) := by decide +kernel
theorem dX3_density_9 : decode cX3_density 9 = .ok (.iconst 0, 1) := by decide +kernel
theorem dX3_density_10 : decode cX3_density 10 = .ok (.goto 4, 3) := by decide +kernel
theorem dX3_density_13 : decode cX3_density 13 = .ok (.iconst 1, 1) := by decide +kernel
theorem dX3_density_14 : decode cX3_density 14 = .ok (.putfield 45, 3) := by decide +kernel
theorem dX3_density_17 : decode cX3_density 17 = .ok (.dconst 0, 1) := by decide +kernel
theorem dX3_density_18 : decode cX3_density 18 = .ok (.dstore_n 2, 1) := by decide +kernel
theorem dX3_density_19 : decode cX3_density 19 = .ok (.iconst 0, 1) := by decide +kernel
theorem dX3_density_20 : decode cX3_density 20 = .ok (.istore 4, 2) := by decide +kernel
theorem dX3_density_22 : decode cX3_density 22 = .ok (.aload_n 0, 1) := by decide +kernel
theorem dX3_density_23 : decode cX3_density 23 = .ok (.getfield 45, 3) := by decide +kernel
theorem dX3_density_26 : decode cX3_density 26 = .ok (.ifCond .ne 68, 3) := by decide +kernel
theorem dX3_density_29 : decode cX3_density 29 = .ok (.iload 4, 2) := by decide +kernel
theorem dX3_density_31 : decode cX3_density 31 = .ok (.aload_n 0, 1) := by decide +kernel
theorem dX3_density_32 : decode cX3_density 32 = .ok (.getfield 9, 3) := by decide +kernel
theorem dX3_density_35 : decode cX3_density 35 = .ok (.iload_n 1, 1) := by decide +kernel
theorem dX3_density_36 : decode cX3_density 36 = .ok (.iaload, 1) := by decide +kernel
theorem dX3_density_37 : decode cX3_density 37 = .ok (.if_icmp .ge 57, 3) := by decide +kernel
theorem dX3_density_40 : decode cX3_density 40 = .ok (.aload_n 0, 1) := by decide +kernel
theorem dX3_density_41 : decode cX3_density 41 = .ok (.getfield 29, 3) := by decide +kernel
theorem dX3_density_44 : decode cX3_density 44 = .ok (.iload_n 1, 1) := by decide +kernel
theorem dX3_density_45 : decode cX3_density 45 = .ok (.iload 4, 2) := by decide +kernel
theorem dX3_density_47 : decode cX3_density 47 = .ok (.invokestatic 60, 3) := by decide +kernel
theorem dX3_density_50 : decode cX3_density 50 = .ok (.iconst 0, 1) := by decide +kernel
theorem dX3_density_51 : decode cX3_density 51 = .ok (.iadd, 1) := by decide +kernel
theorem dX3_density_52 : decode cX3_density 52 = .ok (.iaload, 1) := by decide +kernel
theorem dX3_density_53 : decode cX3_density 53 = .ok (.ifCond .le 35, 3) := by decide +kernel
theorem dX3_density_56 : decode cX3_density 56 = .ok (.dload_n 2, 1) := by decide +kernel
theorem dX3_density_57 : decode cX3_density 57 = .ok (.aload_n 0, 1) := by decide +kernel
theorem dX3_density_58 : decode cX3_density 58 = .ok (.getfield 29, 3) := by decide +kernel
theorem dX3_density_61 : decode cX3_density 61 = .ok (.iload_n 1, 1) := by decide +kernel
theorem dX3_density_62 : decode cX3_density 62 = .ok (.iload 4, 2) := by decide +kernel
theorem dX3_density_64 : decode cX3_density 64 = .ok (.invokestatic 60, 3) := by decide +kernel
theorem dX3_density_67 : decode cX3_density 67 = .ok (.iconst 1, 1) := by decide +kernel
theorem dX3_density_68 : decode cX3_density 68 = .ok (.iadd, 1) := by decide +kernel
theorem dX3_density_69 : decode cX3_density 69 = .ok (.iaload, 1) := by decide +kernel
theorem dX3_density_70 : decode cX3_density 70 = .ok (.i2d, 1) := by decide +kernel
theorem dX3_density_71 : decode cX3_density 71 = .ok (.aload_n 0, 1) := by decide +kernel
theorem dX3_density_72 : decode cX3_density 72 = .ok (.getfield 29, 3) := by decide +kernel
theorem dX3_density_75 : decode cX3_density 75 = .ok (.iload_n 1, 1) := by decide +kernel
theorem dX3_density_76 : decode cX3_density 76 = .ok (.iload 4, 2) := by decide +kernel
theorem dX3_density_78 : decode cX3_density 78 = .ok (.invokestatic 60, 3) := by decide +kernel
theorem dX3_density_81 : decode cX3_density 81 = .ok (.iconst 3, 1) := by decide +kernel
theorem dX3_density_82 : decode cX3_density 82 = .ok (.iadd, 1) := by decide +kernel
theorem dX3_density_83 : decode cX3_density 83 = .ok (.iaload, 1) := by decide +kernel
theorem dX3_density_84 : decode cX3_density 84 = .ok (.i2d, 1) := by decide +kernel
theorem dX3_density_85 : decode cX3_density 85 = .ok (.ddiv, 1) := by decide +kernel
theorem dX3_density_86 : decode cX3_density 86 = .ok (.dadd, 1) := by decide +kernel
theorem dX3_density_87 : decode cX3_density 87 = .ok (.dstore_n 2, 1) := by decide +kernel
theorem dX3_density_88 : decode cX3_density 88 = .ok (.iinc 4 1, 3) := by decide +kernel
theorem dX3_density_91 : decode cX3_density 91 = .ok (.goto (-69), 3) := by decide +kernel
theorem dX3_density_94 : decode cX3_density 94 = .ok (.dload_n 2, 1) := by decide +kernel
theorem dX3_density_95 : decode cX3_density 95 = .ok (.dreturn, 1) := by decide +kernel
theorem dX3_setSpeed_0 : decode cX3_setSpeed 0 = .ok (.aload_n 0, 1) := by decide +kernel
theorem dX3_setSpeed_1 : decode cX3_setSpeed 1 = .ok (.iconst 0, 1) := by decide +kernel
theorem dX3_setSpeed_2 : decode cX3_setSpeed 2 = .ok (.putfield 45, 3) := by decide +kernel
theorem dX3_setSpeed_5 : decode cX3_setSpeed 5 = .ok (.iload_n 1, 1) := by decide +kernel
theorem dX3_setSpeed_6 : decode cX3_setSpeed 6 = .ok (.bipush 30, 2) := by decide +kernel
theorem dX3_setSpeed_8 : decode cX3_setSpeed 8 = .ok (.sipush 300, 3) := by decide +kernel
theorem dX3_setSpeed_11 : decode cX3_setSpeed 11 = .ok (.invokestatic 51, 3) := by decide +kernel
theorem dX3_setSpeed_14 : decode cX3_setSpeed 14 = .ok (.ifCond .ne 9, 3) := by decide +kernel
theorem dX3_setSpeed_17 : decode cX3_setSpeed 17 = .ok (.aload_n 0, 1) := by decide +kernel
theorem dX3_setSpeed_18 : decode cX3_setSpeed 18 = .ok (.iconst 1, 1) := by decide +kernel
theorem dX3_setSpeed_19 : decode cX3_setSpeed 19 = .ok (.invokevirtual 64, 3) := by decide +kernel
theorem dX3_setSpeed_22 : decode cX3_setSpeed 22 = .ok (.ireturn, 1) := by decide +kernel
theorem dX3_setSpeed_23 : decode cX3_setSpeed 23 = .ok (.aload_n 0, 1) := by decide +kernel
theorem dX3_setSpeed_24 : decode cX3_setSpeed 24 = .ok (.getfield 41, 3) := by decide +kernel
theorem dX3_setSpeed_27 : decode cX3_setSpeed 27 = .ok (.istore_n 2, 1) := by decide +kernel
theorem dX3_setSpeed_28 : decode cX3_setSpeed 28 = .ok (.aload_n 0, 1) := by decide +kernel
theorem dX3_setSpeed_29 : decode cX3_setSpeed 29 = .ok (.iload_n 1, 1) := by decide +kernel
theorem dX3_setSpeed_30 : decode cX3_setSpeed 30 = .ok (.putfield 41, 3) := by decide +kernel
theorem dX3_setSpeed_33 : decode cX3_setSpeed 33 = .ok (.iload_n 2, 1) := by decide +kernel
theorem dX3_setSpeed_34 : decode cX3_setSpeed 34 = .ok (.ireturn, 1) := by decide +kernel
theorem dX3_seconds_0 : decode cX3_seconds 0 = .ok (.aload_n 0, 1) := by decide +kernel
theorem dX3_seconds_1 : decode cX3_seconds 1 = .ok (.iload_n 1, 1) := by decide +kernel
theorem dX3_seconds_2 : decode cX3_seconds 2 = .ok (.invokestatic 100, 3) := by decide +kernel
theorem dX3_seconds_5 : decode cX3_seconds 5 = .ok (.ifCond .eq 7, 3) := by decide +kernel
theorem dX3_seconds_8 : decode cX3_seconds 8 = .ok (.iconst 0, 1) := by decide +kernel
theorem dX3_seconds_9 : decode cX3_seconds 9 = .ok (.goto 4, 3) := by decide +kernel
theorem dX3_seconds_12 : decode cX3_seconds 12 = .ok (.iconst 1, 1) := by decide +kernel
theorem dX3_seconds_13 : decode cX3_seconds 13 = .ok (.putfield 45, 3) := by decide +kernel
theorem dX3_seconds_16 : decode cX3_seconds 16 = .ok (.aload_n 0, 1) := by decide +kernel
theorem dX3_seconds_17 : decode cX3_seconds 17 = .ok (.getfield 45, 3) := by decide +kernel
theorem dX3_seconds_20 : decode cX3_seconds 20 = .ok (.ifCond .ne 22, 3) := by decide +kernel
theorem dX3_seconds_23 : decode cX3_seconds 23 = .ok (.iload_n 1, 1) := by decide +kernel
theorem dX3_seconds_24 : decode cX3_seconds 24 = .ok (.i2d, 1) := by decide +kernel
theorem dX3_seconds_25 : decode cX3_seconds 25 = .ok (.ldc2_w 145, 3) := by decide +kernel
theorem dX3_seconds_28 : decode cX3_seconds 28 = .ok (.dmul, 1) := by decide +kernel
theorem dX3_seconds_29 : decode cX3_seconds 29 = .ok (.aload_n 0, 1) := by decide +kernel
theorem dX3_seconds_30 : decode cX3_seconds 30 = .ok (.getfield 41, 3) := by decide +kernel
theorem dX3_seconds_33 : decode cX3_seconds 33 = .ok (.i2d, 1) := by decide +kernel
theorem dX3_seconds_34 : decode cX3_seconds 34 = .ok (.ddiv, 1) := by decide +kernel
theorem dX3_seconds_35 : decode cX3_seconds 35 = .ok (.ldc2_w 147, 3) := by decide +kernel
theorem dX3_seconds_38 : decode cX3_seconds 38 = .ok (.ddiv, 1) := by decide +kernel
theorem dX3_seconds_39 : decode cX3_seconds 39 = .ok (.goto 4, 3) := by decide +kernel
theorem dX3_seconds_42 : decode cX3_seconds 42 = .ok (.dconst 0, 1) := by decide +kernel
theorem dX3_seconds_43 : decode cX3_seconds 43 = .ok (.dreturn, 1) := by decide +kernel
theorem dX3_digest_0 : decode cX3_digest 0 = .ok (.aload_n 0, 1) := by decide +kernel
theorem dX3_digest_1 : decode cX3_digest 1 = .ok (.iconst 0, 1) := by decide +kernel
theorem dX3_digest_2 : decode cX3_digest 2 = .ok (.putfield 45, 3) := by decide +kernel
theorem dX3_digest_5 : decode cX3_digest 5 = .ok (.ldc2_w 149, 3) := by decide +kernel
theorem dX3_digest_8 : decode cX3_digest 8 = .ok (.aload_n 0, 1) := by decide +kernel
theorem dX3_digest_9 : decode cX3_digest 9 = .ok (.getfield 41, 3) := by decide +kernel
theorem dX3_digest_12 : decode cX3_digest 12 = .ok (.i2l, 1) := by decide +kernel
theorem dX3_digest_13 : decode cX3_digest 13 = .ok (.ladd, 1) := by decide +kernel
theorem dX3_digest_14 : decode cX3_digest 14 = .ok (.ldc2_w 151, 3) := by decide +kernel
theorem dX3_digest_17 : decode cX3_digest 17 = .ok (.lmul, 1) := by decide +kernel
theorem dX3_digest_18 : decode cX3_digest 18 = .ok (.aload_n 0, 1) := by decide +kernel
theorem dX3_digest_19 : decode cX3_digest 19 = .ok (.getfield 48, 3) := by decide +kernel
theorem dX3_digest_22 : decode cX3_digest 22 = .ok (.i2l, 1) := by decide +kernel
theorem dX3_digest_23 : decode cX3_digest 23 = .ok (.ladd, 1) := by decide +kernel
theorem dX3_digest_24 : decode cX3_digest 24 = .ok (.lstore_n 1, 1) := by decide +kernel
theorem dX3_digest_25 : decode cX3_digest 25 = .ok (.iconst 0, 1) := by decide +kernel
theorem dX3_digest_26 : decode cX3_digest 26 = .ok (.istore_n 3, 1) := by decide +kernel
theorem dX3_digest_27 : decode cX3_digest 27 = .ok (.iload_n 3, 1) := by decide +kernel
theorem dX3_digest_28 : decode cX3_digest 28 = .ok (.aload_n 0, 1) := by decide +kernel
theorem dX3_digest_29 : decode cX3_digest 29 = .ok (.getfield 48, 3) := by decide +kernel
theorem dX3_digest_32 : decode cX3_digest 32 = .ok (.if_icmp .ge 83, 3) := by decide +kernel
theorem dX3_digest_35 : decode cX3_digest 35 = .ok (.iconst 0, 1) := by decide +kernel
theorem dX3_digest_36 : decode cX3_digest 36 = .ok (.istore 4, 2) := by decide +kernel
theorem dX3_digest_38 : decode cX3_digest 38 = .ok (.iload 4, 2) := by decide +kernel
theorem dX3_digest_40 : decode cX3_digest 40 = .ok (.bipush 8, 2) := by decide +kernel
theorem dX3_digest_42 : decode cX3_digest 42 = .ok (.if_icmp .ge 24, 3) := by decide +kernel
theorem dX3_digest_45 : decode cX3_digest 45 = .ok (.lload_n 1, 1) := by decide +kernel
theorem dX3_digest_46 : decode cX3_digest 46 = .ok (.ldc2_w 151, 3) := by decide +kernel
theorem dX3_digest_49 : decode cX3_digest 49 = .ok (.lmul, 1) := by decide +kernel
theorem dX3_digest_50 : decode cX3_digest 50 = .ok (.aload_n 0, 1) := by decide +kernel
theorem dX3_digest_51 : decode cX3_digest 51 = .ok (.iload_n 3, 1) := by decide +kernel
theorem dX3_digest_52 : decode cX3_digest 52 = .ok (.iload 4, 2) := by decide +kernel
theorem dX3_digest_54 : decode cX3_digest 54 = .ok (.invokevirtual 79, 3) := by decide +kernel
theorem dX3_digest_57 : decode cX3_digest 57 = .ok (.i2l, 1) := by decide +kernel
theorem dX3_digest_58 : decode cX3_digest 58 = .ok (.ladd, 1) := by decide +kernel
theorem dX3_digest_59 : decode cX3_digest 59 = .ok (.lstore_n 1, 1) := by decide +kernel
theorem dX3_digest_60 : decode cX3_digest 60 = .ok (.iinc 4 1, 3) := by decide +kernel
theorem dX3_digest_63 : decode cX3_digest 63 = .ok (.goto (-25), 3) := by decide +kernel
theorem dX3_digest_66 : decode cX3_digest 66 = .ok (.iconst 0, 1) := by decide +kernel
theorem dX3_digest_67 : decode cX3_digest 67 = .ok (.istore 4, 2) := by decide +kernel
theorem dX3_digest_69 : decode cX3_digest 69 = .ok (.iload 4, 2) := by decide +kernel
theorem dX3_digest_71 : decode cX3_digest 71 = .ok (.iconst 4, 1) := by decide +kernel
theorem dX3_digest_72 : decode cX3_digest 72 = .ok (.aload_n 0, 1) := by decide +kernel
theorem dX3_digest_73 : decode cX3_digest 73 = .ok (.getfield 9, 3) := by decide +kernel
theorem dX3_digest_76 : decode cX3_digest 76 = .ok (.iload_n 3, 1) := by decide +kernel
theorem dX3_digest_77 : decode cX3_digest 77 = .ok (.iaload, 1) := by decide +kernel
theorem dX3_digest_78 : decode cX3_digest 78 = .ok (.imul, 1) := by decide +kernel
theorem dX3_digest_79 : decode cX3_digest 79 = .ok (.if_icmp .ge 30, 3) := by decide +kernel
theorem dX3_digest_82 : decode cX3_digest 82 = .ok (.lload_n 1, 1) := by decide +kernel
theorem dX3_digest_83 : decode cX3_digest 83 = .ok (.ldc2_w 151, 3) := by decide +kernel
theorem dX3_digest_86 : decode cX3_digest 86 = .ok (.lmul, 1) := by decide +kernel
theorem dX3_digest_87 : decode cX3_digest 87 = .ok (.aload_n 0, 1) := by decide +kernel
theorem dX3_digest_88 : decode cX3_digest 88 = .ok (.getfield 29, 3) := by decide +kernel
theorem dX3_digest_91 : decode cX3_digest 91 = .ok (.iload_n 3, 1) := by decide +kernel
theorem dX3_digest_92 : decode cX3_digest 92 = .ok (.iconst 0, 1) := by decide +kernel
theorem dX3_digest_93 : decode cX3_digest 93 = .ok (.invokestatic 60, 3) := by decide +kernel
theorem dX3_digest_96 : decode cX3_digest 96 = .ok (.iload 4, 2) := by decide +kernel
theorem dX3_digest_98 : decode cX3_digest 98 = .ok (.iadd, 1) := by decide +kernel
theorem dX3_digest_99 : decode cX3_digest 99 = .ok (.iaload, 1) := by decide +kernel
theorem dX3_digest_100 : decode cX3_digest 100 = .ok (.i2l, 1) := by decide +kernel
theorem dX3_digest_101 : decode cX3_digest 101 = .ok (.ladd, 1) := by decide +kernel
theorem dX3_digest_102 : decode cX3_digest 102 = .ok (.lstore_n 1, 1) := by decide +kernel
theorem dX3_digest_103 : decode cX3_digest 103 = .ok (.iinc 4 1, 3) := by decide +kernel
theorem dX3_digest_106 : decode cX3_digest 106 = .ok (.goto (-37), 3) := by decide +kernel
theorem dX3_digest_109 : decode cX3_digest 109 = .ok (.iinc 3 1, 3) := by decide +kernel
theorem dX3_digest_112 : decode cX3_digest 112 = .ok (.goto (-85), 3) := by decide +kernel
theorem dX3_digest_115 : decode cX3_digest 115 = .ok (.lload_n 1, 1) := by decide +kernel
theorem dX3_digest_116 : decode cX3_digest 116 = .ok (.ldc2_w 151, 3) := by decide +kernel
theorem dX3_digest_119 : decode cX3_digest 119 = .ok (.lmul, 1) := by decide +kernel
theorem dX3_digest_120 : decode cX3_digest 120 = .ok (.aload_n 0, 1) := by decide +kernel
theorem dX3_digest_121 : decode cX3_digest 121 = .ok (.getfield 111, 3) := by decide +kernel
theorem dX3_digest_124 : decode cX3_digest 124 = .ok (.i2l, 1) := by decide +kernel
theorem dX3_digest_125 : decode cX3_digest 125 = .ok (.ladd, 1) := by decide +kernel
theorem dX3_digest_126 : decode cX3_digest 126 = .ok (.lstore_n 1, 1) := by decide +kernel
theorem dX3_digest_127 : decode cX3_digest 127 = .ok (.iconst 0, 1) := by decide +kernel
theorem dX3_digest_128 : decode cX3_digest 128 = .ok (.istore_n 3, 1) := by decide +kernel
theorem dX3_digest_129 : decode cX3_digest 129 = .ok (.iload_n 3, 1) := by decide +kernel
theorem dX3_digest_130 : decode cX3_digest 130 = .ok (.aload_n 0, 1) := by decide +kernel
theorem dX3_digest_131 : decode cX3_digest 131 = .ok (.getfield 111, 3) := by decide +kernel
theorem dX3_digest_134 : decode cX3_digest 134 = .ok (.if_icmp .ge 64, 3) := by decide +kernel
theorem dX3_digest_137 : decode cX3_digest 137 = .ok (.lload_n 1, 1) := by decide +kernel
theorem dX3_digest_138 : decode cX3_digest 138 = .ok (.ldc2_w 151, 3) := by decide +kernel
theorem dX3_digest_141 : decode cX3_digest 141 = .ok (.lmul, 1) := by decide +kernel
theorem dX3_digest_142 : decode cX3_digest 142 = .ok (.aload_n 0, 1) := by decide +kernel
theorem dX3_digest_143 : decode cX3_digest 143 = .ok (.getfield 32, 3) := by decide +kernel
theorem dX3_digest_146 : decode cX3_digest 146 = .ok (.iload_n 3, 1) := by decide +kernel
theorem dX3_digest_147 : decode cX3_digest 147 = .ok (.iconst 1, 1) := by decide +kernel
theorem dX3_digest_148 : decode cX3_digest 148 = .ok (.iadd, 1) := by decide +kernel
theorem dX3_digest_149 : decode cX3_digest 149 = .ok (.iaload, 1) := by decide +kernel
theorem dX3_digest_150 : decode cX3_digest 150 = .ok (.i2l, 1) := by decide +kernel
theorem dX3_digest_151 : decode cX3_digest 151 = .ok (.ladd, 1) := by decide +kernel
theorem dX3_digest_152 : decode cX3_digest 152 = .ok (.aload_n 0, 1) := by decide +kernel
theorem dX3_digest_153 : decode cX3_digest 153 = .ok (.getfield 32, 3) := by decide +kernel
theorem dX3_digest_156 : decode cX3_digest 156 = .ok (.iload_n 3, 1) := by decide +kernel
theorem dX3_digest_157 : decode cX3_digest 157 = .ok (.iaload, 1) := by decide +kernel
theorem dX3_digest_158 : decode cX3_digest 158 = .ok (.i2l, 1) := by decide +kernel
theorem dX3_digest_159 : decode cX3_digest 159 = .ok (.lsub, 1) := by decide +kernel
theorem dX3_digest_160 : decode cX3_digest 160 = .ok (.ldc2_w 151, 3) := by decide +kernel
theorem dX3_digest_163 : decode cX3_digest 163 = .ok (.lmul, 1) := by decide +kernel
theorem dX3_digest_164 : decode cX3_digest 164 = .ok (.aload_n 0, 1) := by decide +kernel
theorem dX3_digest_165 : decode cX3_digest 165 = .ok (.getfield 35, 3) := by decide +kernel
theorem dX3_digest_168 : decode cX3_digest 168 = .ok (.iload_n 3, 1) := by decide +kernel
theorem dX3_digest_169 : decode cX3_digest 169 = .ok (.iaload, 1) := by decide +kernel
theorem dX3_digest_170 : decode cX3_digest 170 = .ok (.i2l, 1) := by decide +kernel
theorem dX3_digest_171 : decode cX3_digest 171 = .ok (.ladd, 1) := by decide +kernel
theorem dX3_digest_172 : decode cX3_digest 172 = .ok (.ldc2_w 151, 3) := by decide +kernel
theorem dX3_digest_175 : decode cX3_digest 175 = .ok (.lmul, 1) := by decide +kernel
theorem dX3_digest_176 : decode cX3_digest 176 = .ok (.aload_n 0, 1) := by decide +kernel
theorem dX3_digest_177 : decode cX3_digest 177 = .ok (.getfield 38, 3) := by decide +kernel
theorem dX3_digest_180 : decode cX3_digest 180 = .ok (.iload_n 3, 1) := by decide +kernel
theorem dX3_digest_181 : decode cX3_digest 181 = .ok (.baload, 1) := by decide +kernel
theorem dX3_digest_182 : decode cX3_digest 182 = .ok (.ifCond .eq 7, 3) := by decide +kernel
theorem dX3_digest_185 : decode cX3_digest 185 = .ok (.lconst 1, 1) := by decide +kernel
theorem dX3_digest_186 : decode cX3_digest 186 = .ok (.goto 4, 3) := by decide +kernel
theorem dX3_digest_189 : decode cX3_digest 189 = .ok (.lconst 0, 1) := by decide +kernel
theorem dX3_digest_190 : decode cX3_digest 190 = .ok (.ladd, 1) := by decide +kernel
theorem dX3_digest_191 : decode cX3_digest 191 = .ok (.lstore_n 1, 1) := by decide +kernel
theorem dX3_digest_192 : decode cX3_digest 192 = .ok (.iinc 3 1, 3) := by decide +kernel
theorem dX3_digest_195 : decode cX3_digest 195 = .ok (.goto (-66), 3) := by decide +kernel
theorem dX3_digest_198 : decode cX3_digest 198 = .ok (.lload_n 1, 1) := by decide +kernel
theorem dX3_digest_199 : decode cX3_digest 199 = .ok (.lreturn, 1) := by decide +kernel
