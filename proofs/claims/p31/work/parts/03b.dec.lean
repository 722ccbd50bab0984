theorem dX2_addSection_23 : decode cX2_addSection 23 = .ok (.goto 4, 3) := by decide +kernel
theorem dX2_addSection_26 : decode cX2_addSection 26 = .ok (.iconst 0, 1) := by decide +kernel
theorem dX2_addSection_27 : decode cX2_addSection 27 = .ok (.invokestatic 35, 3) := by decide +kernel
theorem dX2_addSection_30 : decode cX2_addSection 30 = .ok (.aload_n 0, 1) := by decide +kernel
theorem dX2_addSection_31 : decode cX2_addSection 31 = .ok (.getfield 25, 3) := by decide +kernel
theorem dX2_addSection_34 : decode cX2_addSection 34 = .ok (.istore 4, 2) := by decide +kernel
theorem dX2_addSection_36 : decode cX2_addSection 36 = .ok (.iload 4, 2) := by decide +kernel
theorem dX2_addSection_38 : decode cX2_addSection 38 = .ok (.ifCond .lt 13, 3) := by decide +kernel
theorem dX2_addSection_41 : decode cX2_addSection 41 = .ok (.iload 4, 2) := by decide +kernel
theorem dX2_addSection_43 : decode cX2_addSection 43 = .ok (.aload_n 0, 1) := by decide +kernel
theorem dX2_addSection_44 : decode cX2_addSection 44 = .ok (.getfield 21, 3) := by decide +kernel
theorem dX2_addSection_47 : decode cX2_addSection 47 = .ok (.arraylength, 1) := by decide +kernel
theorem dX2_addSection_48 : decode cX2_addSection 48 = .ok (.if_icmp .lt 13, 3) := by decide +kernel
theorem dX2_addSection_51 : decode cX2_addSection 51 = .ok (.new 39, 3) := by decide +kernel
theorem dX2_addSection_54 : decode cX2_addSection 54 = .ok (.dup, 1) := by decide +kernel
theorem dX2_addSection_55 : decode cX2_addSection 55 = .ok (.ldc 115, 2) := by decide +kernel
theorem dX2_addSection_57 : decode cX2_addSection 57 = .ok (.invokespecial 43, 3) := by decide +kernel
theorem dX2_addSection_60 : decode cX2_addSection 60 = .ok (.athrow, 1) := by decide +kernel
theorem dX2_addSection_61 : decode cX2_addSection 61 = .ok (.aload_n 0, 1) := by decide +kernel
theorem dX2_addSection_62 : decode cX2_addSection 62 = .ok (.invokevirtual 117, 3) := by decide +kernel
theorem dX2_addSection_65 : decode cX2_addSection 65 = .ok (.istore 5, 2) := by decide +kernel
theorem dX2_addSection_67 : decode cX2_addSection 67 = .ok (.aload_n 0, 1) := by decide +kernel
theorem dX2_addSection_68 : decode cX2_addSection 68 = .ok (.getfield 21, 3) := by decide +kernel
theorem dX2_addSection_71 : decode cX2_addSection 71 = .ok (.iload 4, 2) := by decide +kernel
theorem dX2_addSection_73 : decode cX2_addSection 73 = .ok (.new 19, 3) := by decide +kernel
theorem dX2_addSection_76 : decode cX2_addSection 76 = .ok (.dup, 1) := by decide +kernel
theorem dX2_addSection_77 : decode cX2_addSection 77 = .ok (.iload 5, 2) := by decide +kernel
theorem dX2_addSection_79 : decode cX2_addSection 79 = .ok (.iload_n 1, 1) := by decide +kernel
theorem dX2_addSection_80 : decode cX2_addSection 80 = .ok (.iload_n 2, 1) := by decide +kernel
theorem dX2_addSection_81 : decode cX2_addSection 81 = .ok (.iload_n 3, 1) := by decide +kernel
theorem dX2_addSection_82 : decode cX2_addSection 82 = .ok (.invokespecial 120, 3) := by decide +kernel
theorem dX2_addSection_85 : decode cX2_addSection 85 = .ok (.aastore, 1) := by decide +kernel
theorem dX2_addSection_86 : decode cX2_addSection 86 = .ok (.aload_n 0, 1) := by decide +kernel
theorem dX2_addSection_87 : decode cX2_addSection 87 = .ok (.iload 4, 2) := by decide +kernel
theorem dX2_addSection_89 : decode cX2_addSection 89 = .ok (.iconst 1, 1) := by decide +kernel
theorem dX2_addSection_90 : decode cX2_addSection 90 = .ok (.iadd, 1) := by decide +kernel
theorem dX2_addSection_91 : decode cX2_addSection 91 = .ok (.putfield 25, 3) := by decide +kernel
theorem dX2_addSection_94 : decode cX2_addSection 94 = .ok (.iload 5, 2) := by decide +kernel
theorem dX2_addSection_96 : decode cX2_addSection 96 = .ok (.ireturn, 1) := by decide +kernel
theorem dX2_loudness_0 : decode cX2_loudness 0 = .ok (.aload_n 0, 1) := by decide +kernel
theorem dX2_loudness_1 : decode cX2_loudness 1 = .ok (.iload_n 1, 1) := by decide +kernel
theorem dX2_loudness_2 : decode cX2_loudness 2 = .ok (.invokevirtual 68, 3) := by decide +kernel
theorem dX2_loudness_5 : decode cX2_loudness 5 = .ok (.pop, 1) := by decide +kernel
theorem dX2_loudness_6 : decode cX2_loudness 6 = .ok (.iload_n 2, 1) := by decide +kernel
theorem dX2_loudness_7 : decode cX2_loudness 7 = .ok (.invokestatic 108, 3) := by decide +kernel
theorem dX2_loudness_10 : decode cX2_loudness 10 = .ok (.invokestatic 35, 3) := by decide +kernel
theorem dX2_loudness_13 : decode cX2_loudness 13 = .ok (.aload_n 0, 1) := by decide +kernel
theorem dX2_loudness_14 : decode cX2_loudness 14 = .ok (.iload_n 1, 1) := by decide +kernel
theorem dX2_loudness_15 : decode cX2_loudness 15 = .ok (.iload_n 2, 1) := by decide +kernel
theorem dX2_loudness_16 : decode cX2_loudness 16 = .ok (.invokevirtual 128, 3) := by decide +kernel
theorem dX2_loudness_19 : decode cX2_loudness 19 = .ok (.ifCond .ne 5, 3) := by decide +kernel
theorem dX2_loudness_22 : decode cX2_loudness 22 = .ok (.iconst 0, 1) := by decide +kernel
theorem dX2_loudness_23 : decode cX2_loudness 23 = .ok (.ireturn, 1) := by decide +kernel
theorem dX2_loudness_24 : decode cX2_loudness 24 = .ok (.aload_n 0, 1) := by decide +kernel
theorem dX2_loudness_25 : decode cX2_loudness 25 = .ok (.iload_n 1, 1) := by decide +kernel
theorem dX2_loudness_26 : decode cX2_loudness 26 = .ok (.iload_n 2, 1) := by decide +kernel
theorem dX2_loudness_27 : decode cX2_loudness 27 = .ok (.invokevirtual 132, 3) := by decide +kernel
theorem dX2_loudness_30 : decode cX2_loudness 30 = .ok (.aload_n 0, 1) := by decide +kernel
theorem dX2_loudness_31 : decode cX2_loudness 31 = .ok (.iload_n 2, 1) := by decide +kernel
theorem dX2_loudness_32 : decode cX2_loudness 32 = .ok (.invokevirtual 135, 3) := by decide +kernel
theorem dX2_loudness_35 : decode cX2_loudness 35 = .ok (.iconst 4, 1) := by decide +kernel
theorem dX2_loudness_36 : decode cX2_loudness 36 = .ok (.idiv, 1) := by decide +kernel
theorem dX2_loudness_37 : decode cX2_loudness 37 = .ok (.iadd, 1) := by decide +kernel
theorem dX2_loudness_38 : decode cX2_loudness 38 = .ok (.bipush 127, 2) := by decide +kernel
theorem dX2_loudness_40 : decode cX2_loudness 40 = .ok (.invokestatic 138, 3) := by decide +kernel
theorem dX2_loudness_43 : decode cX2_loudness 43 = .ok (.ireturn, 1) := by decide +kernel
theorem dX2_hits_0 : decode cX2_hits 0 = .ok (.iload_n 1, 1) := by decide +kernel
theorem dX2_hits_1 : decode cX2_hits 1 = .ok (.invokestatic 108, 3) := by decide +kernel
theorem dX2_hits_4 : decode cX2_hits 4 = .ok (.invokestatic 35, 3) := by decide +kernel
theorem dX2_hits_7 : decode cX2_hits 7 = .ok (.aload_n 0, 1) := by decide +kernel
theorem dX2_hits_8 : decode cX2_hits 8 = .ok (.iload_n 1, 1) := by decide +kernel
theorem dX2_hits_9 : decode cX2_hits 9 = .ok (.invokevirtual 143, 3) := by decide +kernel
theorem dX2_hits_12 : decode cX2_hits 12 = .ok (.ireturn, 1) := by decide +kernel
theorem dX2_sounding_0 : decode cX2_sounding 0 = .ok (.iload_n 1, 1) := by decide +kernel
theorem dX2_sounding_1 : decode cX2_sounding 1 = .ok (.invokestatic 108, 3) := by decide +kernel
theorem dX2_sounding_4 : decode cX2_sounding 4 = .ok (.invokestatic 35, 3) := by decide +kernel
theorem dX2_sounding_7 : decode cX2_sounding 7 = .ok (.iconst 0, 1) := by decide +kernel
theorem dX2_sounding_8 : decode cX2_sounding 8 = .ok (.istore_n 2, 1) := by decide +kernel
theorem dX2_sounding_9 : decode cX2_sounding 9 = .ok (.iconst 1, 1) := by decide +kernel
theorem dX2_sounding_10 : decode cX2_sounding 10 = .ok (.aload_n 0, 1) := by decide +kernel
theorem dX2_sounding_11 : decode cX2_sounding 11 = .ok (.getfield 15, 3) := by decide +kernel
theorem dX2_sounding_14 : decode cX2_sounding 14 = .ok (.ishl, 1) := by decide +kernel
theorem dX2_sounding_15 : decode cX2_sounding 15 = .ok (.iconst 1, 1) := by decide +kernel
theorem dX2_sounding_16 : decode cX2_sounding 16 = .ok (.isub, 1) := by decide +kernel
theorem dX2_sounding_17 : decode cX2_sounding 17 = .ok (.istore_n 3, 1) := by decide +kernel
theorem dX2_sounding_18 : decode cX2_sounding 18 = .ok (.iconst 0, 1) := by decide +kernel
theorem dX2_sounding_19 : decode cX2_sounding 19 = .ok (.istore 4, 2) := by decide +kernel
theorem dX2_sounding_21 : decode cX2_sounding 21 = .ok (.iload 4, 2) := by decide +kernel
theorem dX2_sounding_23 : decode cX2_sounding 23 = .ok (.sipush 200, 3) := by decide +kernel
theorem dX2_sounding_26 : decode cX2_sounding 26 = .ok (.if_icmp .ge 112, 3) := by decide +kernel
theorem dX2_sounding_29 : decode cX2_sounding 29 = .ok (.iload 4, 2) := by decide +kernel
theorem dX2_sounding_31 : decode cX2_sounding 31 = .ok (.iload_n 1, 1) := by decide +kernel
theorem dX2_sounding_32 : decode cX2_sounding 32 = .ok (.if_icmp .gt 106, 3) := by decide +kernel
theorem dX2_sounding_35 : decode cX2_sounding 35 = .ok (.iload_n 3, 1) := by decide +kernel
theorem dX2_sounding_36 : decode cX2_sounding 36 = .ok (.ifCond .eq 102, 3) := by decide +kernel
theorem dX2_sounding_39 : decode cX2_sounding 39 = .ok (.aload_n 0, 1) := by decide +kernel
theorem dX2_sounding_40 : decode cX2_sounding 40 = .ok (.iload_n 1, 1) := by decide +kernel
theorem dX2_sounding_41 : decode cX2_sounding 41 = .ok (.iload 4, 2) := by decide +kernel
theorem dX2_sounding_43 : decode cX2_sounding 43 = .ok (.isub, 1) := by decide +kernel
theorem dX2_sounding_44 : decode cX2_sounding 44 = .ok (.invokevirtual 143, 3) := by decide +kernel
theorem dX2_sounding_47 : decode cX2_sounding 47 = .ok (.istore 5, 2) := by decide +kernel
theorem dX2_sounding_49 : decode cX2_sounding 49 = .ok (.aload_n 0, 1) := by decide +kernel
theorem dX2_sounding_50 : decode cX2_sounding 50 = .ok (.getfield 15, 3) := by decide +kernel
theorem dX2_sounding_53 : decode cX2_sounding 53 = .ok (.iconst 1, 1) := by decide +kernel
theorem dX2_sounding_54 : decode cX2_sounding 54 = .ok (.isub, 1) := by decide +kernel
theorem dX2_sounding_55 : decode cX2_sounding 55 = .ok (.istore 6, 2) := by decide +kernel
theorem dX2_sounding_57 : decode cX2_sounding 57 = .ok (.iload 6, 2) := by decide +kernel
theorem dX2_sounding_59 : decode cX2_sounding 59 = .ok (.ifCond .lt 73, 3) := by decide +kernel
theorem dX2_sounding_62 : decode cX2_sounding 62 = .ok (.aload_n 0, 1) := by decide +kernel
theorem dX2_sounding_63 : decode cX2_sounding 63 = .ok (.iload 6, 2) := by decide +kernel
theorem dX2_sounding_65 : decode cX2_sounding 65 = .ok (.invokevirtual 146, 3) := by decide +kernel
theorem dX2_sounding_68 : decode cX2_sounding 68 = .ok (.astore 7, 2) := by decide +kernel
theorem dX2_sounding_70 : decode cX2_sounding 70 = .ok (.aload 7, 2) := by decide +kernel
theorem dX2_sounding_72 : decode cX2_sounding 72 = .ok (.ifnull 54, 3) := by decide +kernel
theorem dX2_sounding_75 : decode cX2_sounding 75 = .ok (.iload 5, 2) := by decide +kernel
theorem dX2_sounding_77 : decode cX2_sounding 77 = .ok (.iload_n 3, 1) := by decide +kernel
theorem dX2_sounding_78 : decode cX2_sounding 78 = .ok (.iand, 1) := by decide +kernel
theorem dX2_sounding_79 : decode cX2_sounding 79 = .ok (.iload 6, 2) := by decide +kernel
theorem dX2_sounding_81 : decode cX2_sounding 81 = .ok (.invokestatic 149, 3) := by decide +kernel
theorem dX2_sounding_84 : decode cX2_sounding 84 = .ok (.ifCond .ne 6, 3) := by decide +kernel
theorem dX2_sounding_87 : decode cX2_sounding 87 = .ok (.goto 39, 3) := by decide +kernel
theorem dX2_sounding_90 : decode cX2_sounding 90 = .ok (.iload 4, 2) := by decide +kernel
theorem dX2_sounding_92 : decode cX2_sounding 92 = .ok (.aload 7, 2) := by decide +kernel
theorem dX2_sounding_94 : decode cX2_sounding 94 = .ok (.getfield 81, 3) := by decide +kernel
theorem dX2_sounding_97 : decode cX2_sounding 97 = .ok (.if_icmp .ge 10, 3) := by decide +kernel
theorem dX2_sounding_100 : decode cX2_sounding 100 = .ok (.iload_n 2, 1) := by decide +kernel
theorem dX2_sounding_101 : decode cX2_sounding 101 = .ok (.iconst 1, 1) := by decide +kernel
theorem dX2_sounding_102 : decode cX2_sounding 102 = .ok (.iload 6, 2) := by decide +kernel
theorem dX2_sounding_104 : decode cX2_sounding 104 = .ok (.ishl, 1) := by decide +kernel
theorem dX2_sounding_105 : decode cX2_sounding 105 = .ok (.ior, 1) := by decide +kernel
theorem dX2_sounding_106 : decode cX2_sounding 106 = .ok (.istore_n 2, 1) := by decide +kernel
theorem dX2_sounding_107 : decode cX2_sounding 107 = .ok (.iload_n 3, 1) := by decide +kernel
theorem dX2_sounding_108 : decode cX2_sounding 108 = .ok (.iconst 1, 1) := by decide +kernel
theorem dX2_sounding_109 : decode cX2_sounding 109 = .ok (.iload 6, 2) := by decide +kernel
theorem dX2_sounding_111 : decode cX2_sounding 111 = .ok (.ishl, 1) := by decide +kernel
theorem dX2_sounding_112 : decode cX2_sounding 112 = .ok (.aload_n 0, 1) := by decide +kernel
theorem dX2_sounding_113 : decode cX2_sounding 113 = .ok (.aload 7, 2) := by decide +kernel
theorem dX2_sounding_115 : decode cX2_sounding 115 = .ok (.getfield 84, 3) := by decide +kernel
theorem dX2_sounding_118 : decode cX2_sounding 118 = .ok (.invokevirtual 152, 3) := by decide +kernel
theorem dX2_sounding_121 : decode cX2_sounding 121 = .ok (.ior, 1) := by decide +kernel
theorem dX2_sounding_122 : decode cX2_sounding 122 = .ok (.iconst (-1), 1) := by decide +kernel
theorem dX2_sounding_123 : decode cX2_sounding 123 = .ok (.ixor, 1) := by decide +kernel
theorem dX2_sounding_124 : decode cX2_sounding 124 = .ok (.iand, 1) := by decide +kernel
theorem dX2_sounding_125 : decode cX2_sounding 125 = .ok (.istore_n 3, 1) := by decide +kernel
theorem dX2_sounding_126 : decode cX2_sounding 126 = .ok (.iinc 6 (-1), 3) := by decide +kernel
theorem dX2_sounding_129 : decode cX2_sounding 129 = .ok (.goto (-72), 3) := by decide +kernel
theorem dX2_sounding_132 : decode cX2_sounding 132 = .ok (.iinc 4 1, 3) := by decide +kernel
theorem dX2_sounding_135 : decode cX2_sounding 135 = .ok (.goto (-114), 3) := by decide +kernel
theorem dX2_sounding_138 : decode cX2_sounding 138 = .ok (.iload_n 2, 1) := by decide +kernel
theorem dX2_sounding_139 : decode cX2_sounding 139 = .ok (.ireturn, 1) := by decide +kernel
theorem dX2_next_0 : decode cX2_next 0 = .ok (.aload_n 0, 1) := by decide +kernel
theorem dX2_next_1 : decode cX2_next 1 = .ok (.iload_n 1, 1) := by decide +kernel
theorem dX2_next_2 : decode cX2_next 2 = .ok (.invokevirtual 68, 3) := by decide +kernel
theorem dX2_next_5 : decode cX2_next 5 = .ok (.pop, 1) := by decide +kernel
theorem dX2_next_6 : decode cX2_next 6 = .ok (.iload_n 2, 1) := by decide +kernel
theorem dX2_next_7 : decode cX2_next 7 = .ok (.invokestatic 108, 3) := by decide +kernel
theorem dX2_next_10 : decode cX2_next 10 = .ok (.invokestatic 35, 3) := by decide +kernel
theorem dX2_next_13 : decode cX2_next 13 = .ok (.iload_n 2, 1) := by decide +kernel
theorem dX2_next_14 : decode cX2_next 14 = .ok (.sipush 3000, 3) := by decide +kernel
theorem dX2_next_17 : decode cX2_next 17 = .ok (.iadd, 1) := by decide +kernel
theorem dX2_next_18 : decode cX2_next 18 = .ok (.ldc 155, 2) := by decide +kernel
theorem dX2_next_20 : decode cX2_next 20 = .ok (.invokestatic 138, 3) := by decide +kernel
theorem dX2_next_23 : decode cX2_next 23 = .ok (.istore_n 3, 1) := by decide +kernel
theorem dX2_next_24 : decode cX2_next 24 = .ok (.iload_n 2, 1) := by decide +kernel
theorem dX2_next_25 : decode cX2_next 25 = .ok (.istore 4, 2) := by decide +kernel
theorem dX2_next_27 : decode cX2_next 27 = .ok (.iload 4, 2) := by decide +kernel
theorem dX2_next_29 : decode cX2_next 29 = .ok (.iload_n 3, 1) := by decide +kernel
theorem dX2_next_30 : decode cX2_next 30 = .ok (.if_icmp .gt 22, 3) := by decide +kernel
theorem dX2_next_33 : decode cX2_next 33 = .ok (.aload_n 0, 1) := by decide +kernel
theorem dX2_next_34 : decode cX2_next 34 = .ok (.iload_n 1, 1) := by decide +kernel
theorem dX2_next_35 : decode cX2_next 35 = .ok (.iload 4, 2) := by decide +kernel
theorem dX2_next_37 : decode cX2_next 37 = .ok (.invokevirtual 128, 3) := by decide +kernel
theorem dX2_next_40 : decode cX2_next 40 = .ok (.ifCond .eq 6, 3) := by decide +kernel
theorem dX2_next_43 : decode cX2_next 43 = .ok (.iload 4, 2) := by decide +kernel
theorem dX2_next_45 : decode cX2_next 45 = .ok (.ireturn, 1) := by decide +kernel
theorem dX2_next_46 : decode cX2_next 46 = .ok (.iinc 4 1, 3) := by decide +kernel
theorem dX2_next_49 : decode cX2_next 49 = .ok (.goto (-22), 3) := by decide +kernel
theorem dX2_next_52 : decode cX2_next 52 = .ok (.iconst (-1), 1) := by decide +kernel
theorem dX2_next_53 : decode cX2_next 53 = .ok (.ireturn, 1) := by decide +kernel
theorem dX2_count_0 : decode cX2_count 0 = .ok (.aload_n 0, 1) := by decide +kernel
theorem dX2_count_1 : decode cX2_count 1 = .ok (.iload_n 1, 1) := by decide +kernel
theorem dX2_count_2 : decode cX2_count 2 = .ok (.invokevirtual 68, 3) := by decide +kernel
theorem dX2_count_5 : decode cX2_count 5 = .ok (.pop, 1) := by decide +kernel
theorem dX2_count_6 : decode cX2_count 6 = .ok (.iload_n 2, 1) := by decide +kernel
theorem dX2_count_7 : decode cX2_count 7 = .ok (.iload_n 3, 1) := by decide +kernel
theorem dX2_count_8 : decode cX2_count 8 = .ok (.invokestatic 156, 3) := by decide +kernel
theorem dX2_count_11 : decode cX2_count 11 = .ok (.invokestatic 35, 3) := by decide +kernel
theorem dX2_count_14 : decode cX2_count 14 = .ok (.aload_n 0, 1) := by decide +kernel
theorem dX2_count_15 : decode cX2_count 15 = .ok (.iload_n 1, 1) := by decide +kernel
theorem dX2_count_16 : decode cX2_count 16 = .ok (.iload_n 1, 1) := by decide +kernel
theorem dX2_count_17 : decode cX2_count 17 = .ok (.iload_n 2, 1) := by decide +kernel
theorem dX2_count_18 : decode cX2_count 18 = .ok (.iload_n 3, 1) := by decide +kernel
theorem dX2_count_19 : decode cX2_count 19 = .ok (.invokevirtual 159, 3) := by decide +kernel
theorem dX2_count_22 : decode cX2_count 22 = .ok (.ireturn, 1) := by decide +kernel
theorem dX2_seconds_0 : decode cX2_seconds 0 = .ok (.iload_n 1, 1) := by decide +kernel
theorem dX2_seconds_1 : decode cX2_seconds 1 = .ok (.invokestatic 108, 3) := by decide +kernel
theorem dX2_seconds_4 : decode cX2_seconds 4 = .ok (.invokestatic 35, 3) := by decide +kernel
theorem dX2_seconds_7 : decode cX2_seconds 7 = .ok (.iload_n 1, 1) := by decide +kernel
theorem dX2_seconds_8 : decode cX2_seconds 8 = .ok (.i2d, 1) := by decide +kernel
theorem dX2_seconds_9 : decode cX2_seconds 9 = .ok (.ldc2_w 181, 3) := by decide +kernel
theorem dX2_seconds_12 : decode cX2_seconds 12 = .ok (.dmul, 1) := by decide +kernel
theorem dX2_seconds_13 : decode cX2_seconds 13 = .ok (.aload_n 0, 1) := by decide +kernel
theorem dX2_seconds_14 : decode cX2_seconds 14 = .ok (.getfield 28, 3) := by decide +kernel
theorem dX2_seconds_17 : decode cX2_seconds 17 = .ok (.i2d, 1) := by decide +kernel
theorem dX2_seconds_18 : decode cX2_seconds 18 = .ok (.ddiv, 1) := by decide +kernel
theorem dX2_seconds_19 : decode cX2_seconds 19 = .ok (.ldc2_w 183, 3) := by decide +kernel
theorem dX2_seconds_22 : decode cX2_seconds 22 = .ok (.ddiv, 1) := by decide +kernel
theorem dX2_seconds_23 : decode cX2_seconds 23 = .ok (.dreturn, 1) := by decide +kernel
theorem dX2_digest_0 : decode cX2_digest 0 = .ok (.ldc2_w 185, 3) := by decide +kernel
theorem dX2_digest_3 : decode cX2_digest 3 = .ok (.aload_n 0, 1) := by decide +kernel
theorem dX2_digest_4 : decode cX2_digest 4 = .ok (.getfield 28, 3) := by decide +kernel
theorem dX2_digest_7 : decode cX2_digest 7 = .ok (.i2l, 1) := by decide +kernel
theorem dX2_digest_8 : decode cX2_digest 8 = .ok (.invokestatic 187, 3) := by decide +kernel
theorem dX2_digest_11 : decode cX2_digest 11 = .ok (.aload_n 0, 1) := by decide +kernel
theorem dX2_digest_12 : decode cX2_digest 12 = .ok (.getfield 15, 3) := by decide +kernel
theorem dX2_digest_15 : decode cX2_digest 15 = .ok (.i2l, 1) := by decide +kernel
theorem dX2_digest_16 : decode cX2_digest 16 = .ok (.invokestatic 187, 3) := by decide +kernel
theorem dX2_digest_19 : decode cX2_digest 19 = .ok (.lstore_n 1, 1) := by decide +kernel
theorem dX2_digest_20 : decode cX2_digest 20 = .ok (.iconst 0, 1) := by decide +kernel
theorem dX2_digest_21 : decode cX2_digest 21 = .ok (.istore_n 3, 1) := by decide +kernel
theorem dX2_digest_22 : decode cX2_digest 22 = .ok (.iload_n 3, 1) := by decide +kernel
theorem dX2_digest_23 : decode cX2_digest 23 = .ok (.aload_n 0, 1) := by decide +kernel
theorem dX2_digest_24 : decode cX2_digest 24 = .ok (.getfield 15, 3) := by decide +kernel
theorem dX2_digest_27 : decode cX2_digest 27 = .ok (.if_icmp .ge 28, 3) := by decide +kernel
theorem dX2_digest_30 : decode cX2_digest 30 = .ok (.aload_n 0, 1) := by decide +kernel
theorem dX2_digest_31 : decode cX2_digest 31 = .ok (.iload_n 3, 1) := by decide +kernel
theorem dX2_digest_32 : decode cX2_digest 32 = .ok (.invokevirtual 146, 3) := by decide +kernel
theorem dX2_digest_35 : decode cX2_digest 35 = .ok (.astore 4, 2) := by decide +kernel
theorem dX2_digest_37 : decode cX2_digest 37 = .ok (.aload 4, 2) := by decide +kernel
theorem dX2_digest_39 : decode cX2_digest 39 = .ok (.ifnull 10, 3) := by decide +kernel
theorem dX2_digest_42 : decode cX2_digest 42 = .ok (.aload 4, 2) := by decide +kernel
theorem dX2_digest_44 : decode cX2_digest 44 = .ok (.lload_n 1, 1) := by decide +kernel
theorem dX2_digest_45 : decode cX2_digest 45 = .ok (.invokevirtual 190, 3) := by decide +kernel
theorem dX2_digest_48 : decode cX2_digest 48 = .ok (.lstore_n 1, 1) := by decide +kernel
theorem dX2_digest_49 : decode cX2_digest 49 = .ok (.iinc 3 1, 3) := by decide +kernel
theorem dX2_digest_52 : decode cX2_digest 52 = .ok (.goto (-30), 3) := by decide +kernel
theorem dX2_digest_55 : decode cX2_digest 55 = .ok (.lload_n 1, 1) := by decide +kernel
theorem dX2_digest_56 : decode cX2_digest 56 = .ok (.aload_n 0, 1) := by decide +kernel
theorem dX2_digest_57 : decode cX2_digest 57 = .ok (.getfield 25, 3) := by decide +kernel
theorem dX2_digest_60 : decode cX2_digest 60 = .ok (.i2l, 1) := by decide +kernel
theorem dX2_digest_61 : decode cX2_digest 61 = .ok (.invokestatic 187, 3) := by decide +kernel
theorem dX2_digest_64 : decode cX2_digest 64 = .ok (.lstore_n 1, 1) := by decide +kernel
theorem dX2_digest_65 : decode cX2_digest 65 = .ok (.iconst 0, 1) := by decide +kernel
theorem dX2_digest_66 : decode cX2_digest 66 = .ok (.istore_n 3, 1) := by decide +kernel
theorem dX2_digest_67 : decode cX2_digest 67 = .ok (.iload_n 3, 1) := by decide +kernel
theorem dX2_digest_68 : decode cX2_digest 68 = .ok (.aload_n 0, 1) := by decide +kernel
theorem dX2_digest_69 : decode cX2_digest 69 = .ok (.getfield 25, 3) := by decide +kernel
theorem dX2_digest_72 : decode cX2_digest 72 = .ok (.if_icmp .ge 57, 3) := by decide +kernel
theorem dX2_digest_75 : decode cX2_digest 75 = .ok (.aload_n 0, 1) := by decide +kernel
theorem dX2_digest_76 : decode cX2_digest 76 = .ok (.iload_n 3, 1) := by decide +kernel
theorem dX2_digest_77 : decode cX2_digest 77 = .ok (.invokevirtual 194, 3) := by decide +kernel
theorem dX2_digest_80 : decode cX2_digest 80 = .ok (.astore 4, 2) := by decide +kernel
theorem dX2_digest_82 : decode cX2_digest 82 = .ok (.aload 4, 2) := by decide +kernel
theorem dX2_digest_84 : decode cX2_digest 84 = .ok (.ifnull 39, 3) := by decide +kernel
theorem dX2_digest_87 : decode cX2_digest 87 = .ok (.lload_n 1, 1) := by decide +kernel
theorem dX2_digest_88 : decode cX2_digest 88 = .ok (.aload 4, 2) := by decide +kernel
theorem dX2_digest_90 : decode cX2_digest 90 = .ok (.getfield 198, 3) := by decide +kernel
theorem dX2_digest_93 : decode cX2_digest 93 = .ok (.i2l, 1) := by decide +kernel
theorem dX2_digest_94 : decode cX2_digest 94 = .ok (.invokestatic 187, 3) := by decide +kernel
theorem dX2_digest_97 : decode cX2_digest 97 = .ok (.aload 4, 2) := by decide +kernel
theorem dX2_digest_99 : decode cX2_digest 99 = .ok (.getfield 201, 3) := by decide +kernel
theorem dX2_digest_102 : decode cX2_digest 102 = .ok (.i2l, 1) := by decide +kernel
theorem dX2_digest_103 : decode cX2_digest 103 = .ok (.invokestatic 187, 3) := by decide +kernel
theorem dX2_digest_106 : decode cX2_digest 106 = .ok (.aload 4, 2) := by decide +kernel
theorem dX2_digest_108 : decode cX2_digest 108 = .ok (.getfield 204, 3) := by decide +kernel
theorem dX2_digest_111 : decode cX2_digest 111 = .ok (.ifCond .eq 7, 3) := by decide +kernel
theorem dX2_digest_114 : decode cX2_digest 114 = .ok (.lconst 1, 1) := by decide +kernel
theorem dX2_digest_115 : decode cX2_digest 115 = .ok (.goto 4, 3) := by decide +kernel
theorem dX2_digest_118 : decode cX2_digest 118 = .ok (.lconst 0, 1) := by decide +kernel
theorem dX2_digest_119 : decode cX2_digest 119 = .ok (.invokestatic 187, 3) := by decide +kernel
theorem dX2_digest_122 : decode cX2_digest 122 = .ok (.lstore_n 1, 1) := by decide +kernel
theorem dX2_digest_123 : decode cX2_digest 123 = .ok (.iinc 3 1, 3) := by decide +kernel
theorem dX2_digest_126 : decode cX2_digest 126 = .ok (.goto (-59), 3) := by decide +kernel
theorem dX2_digest_129 : decode cX2_digest 129 = .ok (.lload_n 1, 1) := by decide +kernel
theorem dX2_digest_130 : decode cX2_digest 130 = .ok (.lreturn, 1) := by decide +kernel
theorem dX2_isWithin_0 : decode cX2_isWithin 0 = .ok (.iload_n 0, 1) := by decide +kernel
theorem dX2_isWithin_1 : decode cX2_isWithin 1 = .ok (.iload_n 1, 1) := by decide +kernel
theorem dX2_isWithin_2 : decode cX2_isWithin 2 = .ok (.if_icmp .lt 12, 3) := by decide +kernel
theorem dX2_isWithin_5 : decode cX2_isWithin 5 = .ok (.iload_n 0, 1) := by decide +kernel
theorem dX2_isWithin_6 : decode cX2_isWithin 6 = .ok (.iload_n 2, 1) := by decide +kernel
theorem dX2_isWithin_7 : decode cX2_isWithin 7 = .ok (.if_icmp .gt 7, 3) := by decide +kernel
theorem dX2_isWithin_10 : decode cX2_isWithin 10 = .ok (.iconst 1, 1) := by decide +kernel
theorem dX2_isWithin_11 : decode cX2_isWithin 11 = .ok (.goto 4, 3) := by decide +kernel
theorem dX2_isWithin_14 : decode cX2_isWithin 14 = .ok (.iconst 0, 1) := by decide +kernel
theorem dX2_isWithin_15 : decode cX2_isWithin 15 = .ok (.ireturn, 1) := by decide +kernel
theorem dX2_isTick_0 : decode cX2_isTick 0 = .ok (.iload_n 0, 1) := by decide +kernel
theorem dX2_isTick_1 : decode cX2_isTick 1 = .ok (.iconst 0, 1) := by decide +kernel
theorem dX2_isTick_2 : decode cX2_isTick 2 = .ok (.ldc 155, 2) := by decide +kernel
theorem dX2_isTick_4 : decode cX2_isTick 4 = .ok (.invokestatic 31, 3) := by decide +kernel
theorem dX2_isTick_7 : decode cX2_isTick 7 = .ok (.ireturn, 1) := by decide +kernel
theorem dX2_isSpan_0 : decode cX2_isSpan 0 = .ok (.iload_n 0, 1) := by decide +kernel
theorem dX2_isSpan_1 : decode cX2_isSpan 1 = .ok (.invokestatic 108, 3) := by decide +kernel
theorem dX2_isSpan_4 : decode cX2_isSpan 4 = .ok (.ifCond .eq 28, 3) := by decide +kernel
theorem dX2_isSpan_7 : decode cX2_isSpan 7 = .ok (.iload_n 1, 1) := by decide +kernel
theorem dX2_isSpan_8 : decode cX2_isSpan 8 = .ok (.invokestatic 108, 3) := by decide +kernel
theorem dX2_isSpan_11 : decode cX2_isSpan 11 = .ok (.ifCond .eq 21, 3) := by decide +kernel
theorem dX2_isSpan_14 : decode cX2_isSpan 14 = .ok (.iload_n 1, 1) := by decide +kernel
theorem dX2_isSpan_15 : decode cX2_isSpan 15 = .ok (.iload_n 0, 1) := by decide +kernel
theorem dX2_isSpan_16 : decode cX2_isSpan 16 = .ok (.if_icmp .lt 16, 3) := by decide +kernel
theorem dX2_isSpan_19 : decode cX2_isSpan 19 = .ok (.iload_n 1, 1) := by decide +kernel
theorem dX2_isSpan_20 : decode cX2_isSpan 20 = .ok (.iload_n 0, 1) := by decide +kernel
theorem dX2_isSpan_21 : decode cX2_isSpan 21 = .ok (.isub, 1) := by decide +kernel
theorem dX2_isSpan_22 : decode cX2_isSpan 22 = .ok (.sipush 3000, 3) := by decide +kernel
theorem dX2_isSpan_25 : decode cX2_isSpan 25 = .ok (.if_icmp .gt 7, 3) := by decide +kernel
theorem dX2_isSpan_28 : decode cX2_isSpan 28 = .ok (.iconst 1, 1) := by decide +kernel
theorem dX2_isSpan_29 : decode cX2_isSpan 29 = .ok (.goto 4, 3) := by decide +kernel
theorem dX2_isSpan_32 : decode cX2_isSpan 32 = .ok (.iconst 0, 1) := by decide +kernel
theorem dX2_isSpan_33 : decode cX2_isSpan 33 = .ok (.ireturn, 1) := by decide +kernel
theorem dX2_checkArgument_0 : decode cX2_checkArgument 0 = .ok (.iload_n 0, 1) := by decide +kernel
theorem dX2_checkArgument_1 : decode cX2_checkArgument 1 = .ok (.ifCond .ne 13, 3) := by decide +kernel
theorem dX2_checkArgument_4 : decode cX2_checkArgument 4 = .ok (.new 208, 3) := by decide +kernel
theorem dX2_checkArgument_7 : decode cX2_checkArgument 7 = .ok (.dup, 1) := by decide +kernel
theorem dX2_checkArgument_8 : decode cX2_checkArgument 8 = .ok (.ldc 210, 2) := by decide +kernel
theorem dX2_checkArgument_10 : decode cX2_checkArgument 10 = .ok (.invokespecial 212, 3) := by decide +kernel
theorem dX2_checkArgument_13 : decode cX2_checkArgument 13 = .ok (.athrow, 1) := by decide +kernel
theorem dX2_checkArgument_14 : decode cX2_checkArgument 14 = .ok (.return_, 1) := by decide +kernel
theorem dX2_checkIndex_0 : decode cX2_checkIndex 0 = .ok (.iload_n 0, 1) := by decide +kernel
theorem dX2_checkIndex_1 : decode cX2_checkIndex 1 = .ok (.ifCond .ne 13, 3) := by decide +kernel
theorem dX2_checkIndex_4 : decode cX2_checkIndex 4 = .ok (.new 213, 3) := by decide +kernel
theorem dX2_checkIndex_7 : decode cX2_checkIndex 7 = .ok (.dup, 1) := by decide +kernel
theorem dX2_checkIndex_8 : decode cX2_checkIndex 8 = .ok (.ldc 215, 2) := by decide +kernel
theorem dX2_checkIndex_10 : decode cX2_checkIndex 10 = .ok (.invokespecial 217, 3) := by decide +kernel
theorem dX2_checkIndex_13 : decode cX2_checkIndex 13 = .ok (.athrow, 1) := by decide +kernel
theorem dX2_checkIndex_14 : decode cX2_checkIndex 14 = .ok (.return_, 1) := by decide +kernel
theorem dX2_trackOrNull_0 : decode cX2_trackOrNull 0 = .ok (.iload_n 1, 1) := by decide +kernel
theorem dX2_trackOrNull_1 : decode cX2_trackOrNull 1 = .ok (.ifCond .lt 21, 3) := by decide +kernel
theorem dX2_trackOrNull_4 : decode cX2_trackOrNull 4 = .ok (.iload_n 1, 1) := by decide +kernel
theorem dX2_trackOrNull_5 : decode cX2_trackOrNull 5 = .ok (.aload_n 0, 1) := by decide +kernel
theorem dX2_trackOrNull_6 : decode cX2_trackOrNull 6 = .ok (.getfield 11, 3) := by decide +kernel
theorem dX2_trackOrNull_9 : decode cX2_trackOrNull 9 = .ok (.arraylength, 1) := by decide +kernel
theorem dX2_trackOrNull_10 : decode cX2_trackOrNull 10 = .ok (.if_icmp .ge 12, 3) := by decide +kernel
theorem dX2_trackOrNull_13 : decode cX2_trackOrNull 13 = .ok (.aload_n 0, 1) := by decide +kernel
theorem dX2_trackOrNull_14 : decode cX2_trackOrNull 14 = .ok (.getfield 11, 3) := by decide +kernel
theorem dX2_trackOrNull_17 : decode cX2_trackOrNull 17 = .ok (.iload_n 1, 1) := by decide +kernel
theorem dX2_trackOrNull_18 : decode cX2_trackOrNull 18 = .ok (.aaload, 1) := by decide +kernel
theorem dX2_trackOrNull_19 : decode cX2_trackOrNull 19 = .ok (.goto 4, 3) := by decide +kernel
theorem dX2_trackOrNull_22 : decode cX2_trackOrNull 22 = .ok (.aconst_null, 1) := by decide +kernel
theorem dX2_trackOrNull_23 : decode cX2_trackOrNull 23 = .ok (.areturn, 1) := by decide +kernel
theorem dX2_sectionOrNull_0 : decode cX2_sectionOrNull 0 = .ok (.iload_n 1, 1) := by decide +kernel
theorem dX2_sectionOrNull_1 : decode cX2_sectionOrNull 1 = .ok (.ifCond .lt 21, 3) := by decide +kernel
theorem dX2_sectionOrNull_4 : decode cX2_sectionOrNull 4 = .ok (.iload_n 1, 1) := by decide +kernel
theorem dX2_sectionOrNull_5 : decode cX2_sectionOrNull 5 = .ok (.aload_n 0, 1) := by decide +kernel
theorem dX2_sectionOrNull_6 : decode cX2_sectionOrNull 6 = .ok (.getfield 21, 3) := by decide +kernel
theorem dX2_sectionOrNull_9 : decode cX2_sectionOrNull 9 = .ok (.arraylength, 1) := by decide +kernel
theorem dX2_sectionOrNull_10 : decode cX2_sectionOrNull 10 = .ok (.if_icmp .ge 12, 3) := by decide +kernel
theorem dX2_sectionOrNull_13 : decode cX2_sectionOrNull 13 = .ok (.aload_n 0, 1) := by decide +kernel
theorem dX2_sectionOrNull_14 : decode cX2_sectionOrNull 14 = .ok (.getfield 21, 3) := by decide +kernel
theorem dX2_sectionOrNull_17 : decode cX2_sectionOrNull 17 = .ok (.iload_n 1, 1) := by decide +kernel
theorem dX2_sectionOrNull_18 : decode cX2_sectionOrNull 18 = .ok (.aaload, 1) := by decide +kernel
theorem dX2_sectionOrNull_19 : decode cX2_sectionOrNull 19 = .ok (.goto 4, 3) := by decide +kernel
theorem dX2_sectionOrNull_22 : decode cX2_sectionOrNull 22 = .ok (.aconst_null, 1) := by decide +kernel
theorem dX2_sectionOrNull_23 : decode cX2_sectionOrNull 23 = .ok (.areturn, 1) := by decide +kernel
theorem dX2_existingTrack_0 : decode cX2_existingTrack 0 = .ok (.aload_n 0, 1) := by decide +kernel
theorem dX2_existingTrack_1 : decode cX2_existingTrack 1 = .ok (.iload_n 1, 1) := by decide +kernel
theorem dX2_existingTrack_2 : decode cX2_existingTrack 2 = .ok (.invokevirtual 146, 3) := by decide +kernel
theorem dX2_existingTrack_5 : decode cX2_existingTrack 5 = .ok (.astore_n 2, 1) := by decide +kernel
theorem dX2_existingTrack_6 : decode cX2_existingTrack 6 = .ok (.aload_n 2, 1) := by decide +kernel
theorem dX2_existingTrack_7 : decode cX2_existingTrack 7 = .ok (.ifnonnull 13, 3) := by decide +kernel
theorem dX2_existingTrack_10 : decode cX2_existingTrack 10 = .ok (.new 213, 3) := by decide +kernel
theorem dX2_existingTrack_13 : decode cX2_existingTrack 13 = .ok (.dup, 1) := by decide +kernel
theorem dX2_existingTrack_14 : decode cX2_existingTrack 14 = .ok (.ldc 218, 2) := by decide +kernel
theorem dX2_existingTrack_16 : decode cX2_existingTrack 16 = .ok (.invokespecial 217, 3) := by decide +kernel
theorem dX2_existingTrack_19 : decode cX2_existingTrack 19 = .ok (.athrow, 1) := by decide +kernel
theorem dX2_existingTrack_20 : decode cX2_existingTrack 20 = .ok (.aload_n 2, 1) := by decide +kernel
theorem dX2_existingTrack_21 : decode cX2_existingTrack 21 = .ok (.areturn, 1) := by decide +kernel
theorem dX2_trackWithStep_0 : decode cX2_trackWithStep 0 = .ok (.aload_n 0, 1) := by decide +kernel
theorem dX2_trackWithStep_1 : decode cX2_trackWithStep 1 = .ok (.iload_n 1, 1) := by decide +kernel
theorem dX2_trackWithStep_2 : decode cX2_trackWithStep 2 = .ok (.invokevirtual 68, 3) := by decide +kernel
theorem dX2_trackWithStep_5 : decode cX2_trackWithStep 5 = .ok (.astore_n 3, 1) := by decide +kernel
theorem dX2_trackWithStep_6 : decode cX2_trackWithStep 6 = .ok (.iload_n 2, 1) := by decide +kernel
theorem dX2_trackWithStep_7 : decode cX2_trackWithStep 7 = .ok (.iconst 0, 1) := by decide +kernel
theorem dX2_trackWithStep_8 : decode cX2_trackWithStep 8 = .ok (.aload_n 3, 1) := by decide +kernel
theorem dX2_trackWithStep_9 : decode cX2_trackWithStep 9 = .ok (.getfield 91, 3) := by decide +kernel
theorem dX2_trackWithStep_12 : decode cX2_trackWithStep 12 = .ok (.iconst 1, 1) := by decide +kernel
theorem dX2_trackWithStep_13 : decode cX2_trackWithStep 13 = .ok (.isub, 1) := by decide +kernel
theorem dX2_trackWithStep_14 : decode cX2_trackWithStep 14 = .ok (.invokestatic 31, 3) := by decide +kernel
theorem dX2_trackWithStep_17 : decode cX2_trackWithStep 17 = .ok (.invokestatic 61, 3) := by decide +kernel
theorem dX2_trackWithStep_20 : decode cX2_trackWithStep 20 = .ok (.aload_n 3, 1) := by decide +kernel
theorem dX2_trackWithStep_21 : decode cX2_trackWithStep 21 = .ok (.areturn, 1) := by decide +kernel
theorem dX2_songTicks_0 : decode cX2_songTicks 0 = .ok (.aload_n 0, 1) := by decide +kernel
theorem dX2_songTicks_1 : decode cX2_songTicks 1 = .ok (.aload_n 0, 1) := by decide +kernel
theorem dX2_songTicks_2 : decode cX2_songTicks 2 = .ok (.getfield 25, 3) := by decide +kernel
theorem dX2_songTicks_5 : decode cX2_songTicks 5 = .ok (.iconst 1, 1) := by decide +kernel
theorem dX2_songTicks_6 : decode cX2_songTicks 6 = .ok (.isub, 1) := by decide +kernel
theorem dX2_songTicks_7 : decode cX2_songTicks 7 = .ok (.invokevirtual 194, 3) := by decide +kernel
theorem dX2_songTicks_10 : decode cX2_songTicks 10 = .ok (.astore_n 1, 1) := by decide +kernel
theorem dX2_songTicks_11 : decode cX2_songTicks 11 = .ok (.aload_n 1, 1) := by decide +kernel
theorem dX2_songTicks_12 : decode cX2_songTicks 12 = .ok (.ifnonnull 7, 3) := by decide +kernel
theorem dX2_songTicks_15 : decode cX2_songTicks 15 = .ok (.iconst 0, 1) := by decide +kernel
theorem dX2_songTicks_16 : decode cX2_songTicks 16 = .ok (.goto 12, 3) := by decide +kernel
theorem dX2_songTicks_19 : decode cX2_songTicks 19 = .ok (.aload_n 1, 1) := by decide +kernel
theorem dX2_songTicks_20 : decode cX2_songTicks 20 = .ok (.getfield 220, 3) := by decide +kernel
theorem dX2_songTicks_23 : decode cX2_songTicks 23 = .ok (.aload_n 1, 1) := by decide +kernel
theorem dX2_songTicks_24 : decode cX2_songTicks 24 = .ok (.getfield 198, 3) := by decide +kernel
theorem dX2_songTicks_27 : decode cX2_songTicks 27 = .ok (.iadd, 1) := by decide +kernel
theorem dX2_songTicks_28 : decode cX2_songTicks 28 = .ok (.ireturn, 1) := by decide +kernel
theorem dX2_sectionNumber_0 : decode cX2_sectionNumber 0 = .ok (.iconst 0, 1) := by decide +kernel
theorem dX2_sectionNumber_1 : decode cX2_sectionNumber 1 = .ok (.istore_n 2, 1) := by decide +kernel
theorem dX2_sectionNumber_2 : decode cX2_sectionNumber 2 = .ok (.iload_n 2, 1) := by decide +kernel
theorem dX2_sectionNumber_3 : decode cX2_sectionNumber 3 = .ok (.aload_n 0, 1) := by decide +kernel
theorem dX2_sectionNumber_4 : decode cX2_sectionNumber 4 = .ok (.getfield 25, 3) := by decide +kernel
theorem dX2_sectionNumber_7 : decode cX2_sectionNumber 7 = .ok (.if_icmp .ge 34, 3) := by decide +kernel
theorem dX2_sectionNumber_10 : decode cX2_sectionNumber 10 = .ok (.aload_n 0, 1) := by decide +kernel
theorem dX2_sectionNumber_11 : decode cX2_sectionNumber 11 = .ok (.iload_n 2, 1) := by decide +kernel
theorem dX2_sectionNumber_12 : decode cX2_sectionNumber 12 = .ok (.invokevirtual 194, 3) := by decide +kernel
theorem dX2_sectionNumber_15 : decode cX2_sectionNumber 15 = .ok (.astore_n 3, 1) := by decide +kernel
theorem dX2_sectionNumber_16 : decode cX2_sectionNumber 16 = .ok (.aload_n 3, 1) := by decide +kernel
theorem dX2_sectionNumber_17 : decode cX2_sectionNumber 17 = .ok (.ifnull 18, 3) := by decide +kernel
theorem dX2_sectionNumber_20 : decode cX2_sectionNumber 20 = .ok (.iload_n 1, 1) := by decide +kernel
theorem dX2_sectionNumber_21 : decode cX2_sectionNumber 21 = .ok (.aload_n 3, 1) := by decide +kernel
theorem dX2_sectionNumber_22 : decode cX2_sectionNumber 22 = .ok (.getfield 220, 3) := by decide +kernel
theorem dX2_sectionNumber_25 : decode cX2_sectionNumber 25 = .ok (.aload_n 3, 1) := by decide +kernel
theorem dX2_sectionNumber_26 : decode cX2_sectionNumber 26 = .ok (.getfield 198, 3) := by decide +kernel
theorem dX2_sectionNumber_29 : decode cX2_sectionNumber 29 = .ok (.iadd, 1) := by decide +kernel
theorem dX2_sectionNumber_30 : decode cX2_sectionNumber 30 = .ok (.if_icmp .ge 5, 3) := by decide +kernel
theorem dX2_sectionNumber_33 : decode cX2_sectionNumber 33 = .ok (.iload_n 2, 1) := by decide +kernel
theorem dX2_sectionNumber_34 : decode cX2_sectionNumber 34 = .ok (.ireturn, 1) := by decide +kernel
theorem dX2_sectionNumber_35 : decode cX2_sectionNumber 35 = .ok (.iinc 2 1, 3) := by decide +kernel
theorem dX2_sectionNumber_38 : decode cX2_sectionNumber 38 = .ok (.goto (-36), 3) := by decide +kernel
theorem dX2_sectionNumber_41 : decode cX2_sectionNumber 41 = .ok (.iconst (-1), 1) := by decide +kernel
theorem dX2_sectionNumber_42 : decode cX2_sectionNumber 42 = .ok (.ireturn, 1) := by decide +kernel
theorem dX2_localTime_0 : decode cX2_localTime 0 = .ok (.aload_n 0, 1) := by decide +kernel
theorem dX2_localTime_1 : decode cX2_localTime 1 = .ok (.getfield 25, 3) := by decide +kernel
theorem dX2_localTime_4 : decode cX2_localTime 4 = .ok (.ifCond .ne 5, 3) := by decide +kernel
theorem dX2_localTime_7 : decode cX2_localTime 7 = .ok (.iload_n 2, 1) := by decide +kernel
theorem dX2_localTime_8 : decode cX2_localTime 8 = .ok (.ireturn, 1) := by decide +kernel
theorem dX2_localTime_9 : decode cX2_localTime 9 = .ok (.aload_n 0, 1) := by decide +kernel
theorem dX2_localTime_10 : decode cX2_localTime 10 = .ok (.aload_n 0, 1) := by decide +kernel
theorem dX2_localTime_11 : decode cX2_localTime 11 = .ok (.iload_n 2, 1) := by decide +kernel
theorem dX2_localTime_12 : decode cX2_localTime 12 = .ok (.invokevirtual 125, 3) := by decide +kernel
theorem dX2_localTime_15 : decode cX2_localTime 15 = .ok (.invokevirtual 194, 3) := by decide +kernel
theorem dX2_localTime_18 : decode cX2_localTime 18 = .ok (.astore_n 3, 1) := by decide +kernel
theorem dX2_localTime_19 : decode cX2_localTime 19 = .ok (.aload_n 3, 1) := by decide +kernel
theorem dX2_localTime_20 : decode cX2_localTime 20 = .ok (.ifnull 14, 3) := by decide +kernel
theorem dX2_localTime_23 : decode cX2_localTime 23 = .ok (.aload_n 3, 1) := by decide +kernel
theorem dX2_localTime_24 : decode cX2_localTime 24 = .ok (.getfield 201, 3) := by decide +kernel
theorem dX2_localTime_27 : decode cX2_localTime 27 = .ok (.iload_n 1, 1) := by decide +kernel
theorem dX2_localTime_28 : decode cX2_localTime 28 = .ok (.invokestatic 149, 3) := by decide +kernel
theorem dX2_localTime_31 : decode cX2_localTime 31 = .ok (.ifCond .ne 5, 3) := by decide +kernel
theorem dX2_localTime_34 : decode cX2_localTime 34 = .ok (.iconst (-1), 1) := by decide +kernel
theorem dX2_localTime_35 : decode cX2_localTime 35 = .ok (.ireturn, 1) := by decide +kernel
theorem dX2_localTime_36 : decode cX2_localTime 36 = .ok (.aload_n 3, 1) := by decide +kernel
theorem dX2_localTime_37 : decode cX2_localTime 37 = .ok (.getfield 204, 3) := by decide +kernel
theorem dX2_localTime_40 : decode cX2_localTime 40 = .ok (.ifCond .eq 12, 3) := by decide +kernel
theorem dX2_localTime_43 : decode cX2_localTime 43 = .ok (.iload_n 2, 1) := by decide +kernel
theorem dX2_localTime_44 : decode cX2_localTime 44 = .ok (.aload_n 3, 1) := by decide +kernel
theorem dX2_localTime_45 : decode cX2_localTime 45 = .ok (.getfield 220, 3) := by decide +kernel
theorem dX2_localTime_48 : decode cX2_localTime 48 = .ok (.isub, 1) := by decide +kernel
theorem dX2_localTime_49 : decode cX2_localTime 49 = .ok (.goto 4, 3) := by decide +kernel
theorem dX2_localTime_52 : decode cX2_localTime 52 = .ok (.iload_n 2, 1) := by decide +kernel
theorem dX2_localTime_53 : decode cX2_localTime 53 = .ok (.ireturn, 1) := by decide +kernel
theorem dX2_isAnySolo_0 : decode cX2_isAnySolo 0 = .ok (.iconst 0, 1) := by decide +kernel
theorem dX2_isAnySolo_1 : decode cX2_isAnySolo 1 = .ok (.istore_n 1, 1) := by decide +kernel
theorem dX2_isAnySolo_2 : decode cX2_isAnySolo 2 = .ok (.iload_n 1, 1) := by decide +kernel
theorem dX2_isAnySolo_3 : decode cX2_isAnySolo 3 = .ok (.aload_n 0, 1) := by decide +kernel
theorem dX2_isAnySolo_4 : decode cX2_isAnySolo 4 = .ok (.getfield 15, 3) := by decide +kernel
theorem dX2_isAnySolo_7 : decode cX2_isAnySolo 7 = .ok (.if_icmp .ge 28, 3) := by decide +kernel
theorem dX2_isAnySolo_10 : decode cX2_isAnySolo 10 = .ok (.aload_n 0, 1) := by decide +kernel
theorem dX2_isAnySolo_11 : decode cX2_isAnySolo 11 = .ok (.iload_n 1, 1) := by decide +kernel
theorem dX2_isAnySolo_12 : decode cX2_isAnySolo 12 = .ok (.invokevirtual 146, 3) := by decide +kernel
theorem dX2_isAnySolo_15 : decode cX2_isAnySolo 15 = .ok (.astore_n 2, 1) := by decide +kernel
theorem dX2_isAnySolo_16 : decode cX2_isAnySolo 16 = .ok (.aload_n 2, 1) := by decide +kernel
theorem dX2_isAnySolo_17 : decode cX2_isAnySolo 17 = .ok (.ifnull 12, 3) := by decide +kernel
theorem dX2_isAnySolo_20 : decode cX2_isAnySolo 20 = .ok (.aload_n 2, 1) := by decide +kernel
theorem dX2_isAnySolo_21 : decode cX2_isAnySolo 21 = .ok (.getfield 223, 3) := by decide +kernel
theorem dX2_isAnySolo_24 : decode cX2_isAnySolo 24 = .ok (.ifCond .eq 5, 3) := by decide +kernel
theorem dX2_isAnySolo_27 : decode cX2_isAnySolo 27 = .ok (.iconst 1, 1) := by decide +kernel
theorem dX2_isAnySolo_28 : decode cX2_isAnySolo 28 = .ok (.ireturn, 1) := by decide +kernel
theorem dX2_isAnySolo_29 : decode cX2_isAnySolo 29 = .ok (.iinc 1 1, 3) := by decide +kernel
theorem dX2_isAnySolo_32 : decode cX2_isAnySolo 32 = .ok (.goto (-30), 3) := by decide +kernel
theorem dX2_isAnySolo_35 : decode cX2_isAnySolo 35 = .ok (.iconst 0, 1) := by decide +kernel
theorem dX2_isAnySolo_36 : decode cX2_isAnySolo 36 = .ok (.ireturn, 1) := by decide +kernel
theorem dX2_isSilenced_0 : decode cX2_isSilenced 0 = .ok (.aload_n 1, 1) := by decide +kernel
theorem dX2_isSilenced_1 : decode cX2_isSilenced 1 = .ok (.getfield 226, 3) := by decide +kernel
theorem dX2_isSilenced_4 : decode cX2_isSilenced 4 = .ok (.ifCond .ne 17, 3) := by decide +kernel
theorem dX2_isSilenced_7 : decode cX2_isSilenced 7 = .ok (.aload_n 1, 1) := by decide +kernel
theorem dX2_isSilenced_8 : decode cX2_isSilenced 8 = .ok (.getfield 223, 3) := by decide +kernel
theorem dX2_isSilenced_11 : decode cX2_isSilenced 11 = .ok (.ifCond .ne 14, 3) := by decide +kernel
theorem dX2_isSilenced_14 : decode cX2_isSilenced 14 = .ok (.aload_n 0, 1) := by decide +kernel
theorem dX2_isSilenced_15 : decode cX2_isSilenced 15 = .ok (.invokevirtual 229, 3) := by decide +kernel
theorem dX2_isSilenced_18 : decode cX2_isSilenced 18 = .ok (.ifCond .eq 7, 3) := by decide +kernel
theorem dX2_isSilenced_21 : decode cX2_isSilenced 21 = .ok (.iconst 1, 1) := by decide +kernel
theorem dX2_isSilenced_22 : decode cX2_isSilenced 22 = .ok (.goto 4, 3) := by decide +kernel
theorem dX2_isSilenced_25 : decode cX2_isSilenced 25 = .ok (.iconst 0, 1) := by decide +kernel
theorem dX2_isSilenced_26 : decode cX2_isSilenced 26 = .ok (.ireturn, 1) := by decide +kernel
theorem dX2_struckForce_0 : decode cX2_struckForce 0 = .ok (.aload_n 0, 1) := by decide +kernel
theorem dX2_struckForce_1 : decode cX2_struckForce 1 = .ok (.iload_n 1, 1) := by decide +kernel
theorem dX2_struckForce_2 : decode cX2_struckForce 2 = .ok (.invokevirtual 146, 3) := by decide +kernel
theorem dX2_struckForce_5 : decode cX2_struckForce 5 = .ok (.astore_n 3, 1) := by decide +kernel
theorem dX2_struckForce_6 : decode cX2_struckForce 6 = .ok (.aload_n 3, 1) := by decide +kernel
theorem dX2_struckForce_7 : decode cX2_struckForce 7 = .ok (.ifnull 11, 3) := by decide +kernel
theorem dX2_struckForce_10 : decode cX2_struckForce 10 = .ok (.aload_n 0, 1) := by decide +kernel
theorem dX2_struckForce_11 : decode cX2_struckForce 11 = .ok (.aload_n 3, 1) := by decide +kernel
theorem dX2_struckForce_12 : decode cX2_struckForce 12 = .ok (.invokevirtual 233, 3) := by decide +kernel
theorem dX2_struckForce_15 : decode cX2_struckForce 15 = .ok (.ifCond .eq 5, 3) := by decide +kernel
theorem dX2_struckForce_18 : decode cX2_struckForce 18 = .ok (.iconst 0, 1) := by decide +kernel
theorem dX2_struckForce_19 : decode cX2_struckForce 19 = .ok (.ireturn, 1) := by decide +kernel
theorem dX2_struckForce_20 : decode cX2_struckForce 20 = .ok (.aload_n 0, 1) := by decide +kernel
theorem dX2_struckForce_21 : decode cX2_struckForce 21 = .ok (.iload_n 1, 1) := by decide +kernel
theorem dX2_struckForce_22 : decode cX2_struckForce 22 = .ok (.iload_n 2, 1) := by decide +kernel
theorem dX2_struckForce_23 : decode cX2_struckForce 23 = .ok (.invokevirtual 237, 3) := by decide +kernel
theorem dX2_struckForce_26 : decode cX2_struckForce 26 = .ok (.istore 4, 2) := by decide +kernel
theorem dX2_struckForce_28 : decode cX2_struckForce 28 = .ok (.iload 4, 2) := by decide +kernel
theorem dX2_struckForce_30 : decode cX2_struckForce 30 = .ok (.iconst (-1), 1) := by decide +kernel
theorem dX2_struckForce_31 : decode cX2_struckForce 31 = .ok (.if_icmp .ne 7, 3) := by decide +kernel
theorem dX2_struckForce_34 : decode cX2_struckForce 34 = .ok (.iconst 0, 1) := by decide +kernel
theorem dX2_struckForce_35 : decode cX2_struckForce 35 = .ok (.goto 9, 3) := by decide +kernel
theorem dX2_struckForce_38 : decode cX2_struckForce 38 = .ok (.aload_n 3, 1) := by decide +kernel
theorem dX2_struckForce_39 : decode cX2_struckForce 39 = .ok (.iload 4, 2) := by decide +kernel
theorem dX2_struckForce_41 : decode cX2_struckForce 41 = .ok (.invokevirtual 240, 3) := by decide +kernel
theorem dX2_struckForce_44 : decode cX2_struckForce 44 = .ok (.ireturn, 1) := by decide +kernel
theorem dX2_makesHit_0 : decode cX2_makesHit 0 = .ok (.aload_n 0, 1) := by decide +kernel
theorem dX2_makesHit_1 : decode cX2_makesHit 1 = .ok (.iload_n 1, 1) := by decide +kernel
theorem dX2_makesHit_2 : decode cX2_makesHit 2 = .ok (.invokevirtual 146, 3) := by decide +kernel
theorem dX2_makesHit_5 : decode cX2_makesHit 5 = .ok (.astore_n 3, 1) := by decide +kernel
theorem dX2_makesHit_6 : decode cX2_makesHit 6 = .ok (.aload_n 3, 1) := by decide +kernel
theorem dX2_makesHit_7 : decode cX2_makesHit 7 = .ok (.ifnull 23, 3) := by decide +kernel
theorem dX2_makesHit_10 : decode cX2_makesHit 10 = .ok (.aload_n 3, 1) := by decide +kernel
theorem dX2_makesHit_11 : decode cX2_makesHit 11 = .ok (.getfield 243, 3) := by decide +kernel
theorem dX2_makesHit_14 : decode cX2_makesHit 14 = .ok (.ifCond .ne 16, 3) := by decide +kernel
theorem dX2_makesHit_17 : decode cX2_makesHit 17 = .ok (.aload_n 0, 1) := by decide +kernel
theorem dX2_makesHit_18 : decode cX2_makesHit 18 = .ok (.iload_n 1, 1) := by decide +kernel
theorem dX2_makesHit_19 : decode cX2_makesHit 19 = .ok (.iload_n 2, 1) := by decide +kernel
theorem dX2_makesHit_20 : decode cX2_makesHit 20 = .ok (.invokevirtual 132, 3) := by decide +kernel
theorem dX2_makesHit_23 : decode cX2_makesHit 23 = .ok (.ifCond .le 7, 3) := by decide +kernel
theorem dX2_makesHit_26 : decode cX2_makesHit 26 = .ok (.iconst 1, 1) := by decide +kernel
theorem dX2_makesHit_27 : decode cX2_makesHit 27 = .ok (.goto 4, 3) := by decide +kernel
theorem dX2_makesHit_30 : decode cX2_makesHit 30 = .ok (.iconst 0, 1) := by decide +kernel
theorem dX2_makesHit_31 : decode cX2_makesHit 31 = .ok (.ireturn, 1) := by decide +kernel
theorem dX2_accentForce_0 : decode cX2_accentForce 0 = .ok (.iconst 0, 1) := by decide +kernel
theorem dX2_accentForce_1 : decode cX2_accentForce 1 = .ok (.istore_n 2, 1) := by decide +kernel
theorem dX2_accentForce_2 : decode cX2_accentForce 2 = .ok (.iconst 0, 1) := by decide +kernel
theorem dX2_accentForce_3 : decode cX2_accentForce 3 = .ok (.istore_n 3, 1) := by decide +kernel
theorem dX2_accentForce_4 : decode cX2_accentForce 4 = .ok (.iload_n 3, 1) := by decide +kernel
theorem dX2_accentForce_5 : decode cX2_accentForce 5 = .ok (.aload_n 0, 1) := by decide +kernel
theorem dX2_accentForce_6 : decode cX2_accentForce 6 = .ok (.getfield 15, 3) := by decide +kernel
theorem dX2_accentForce_9 : decode cX2_accentForce 9 = .ok (.if_icmp .ge 38, 3) := by decide +kernel
theorem dX2_accentForce_12 : decode cX2_accentForce 12 = .ok (.aload_n 0, 1) := by decide +kernel
theorem dX2_accentForce_13 : decode cX2_accentForce 13 = .ok (.iload_n 3, 1) := by decide +kernel
theorem dX2_accentForce_14 : decode cX2_accentForce 14 = .ok (.invokevirtual 146, 3) := by decide +kernel
theorem dX2_accentForce_17 : decode cX2_accentForce 17 = .ok (.astore 4, 2) := by decide +kernel
theorem dX2_accentForce_19 : decode cX2_accentForce 19 = .ok (.aload 4, 2) := by decide +kernel
theorem dX2_accentForce_21 : decode cX2_accentForce 21 = .ok (.ifnull 20, 3) := by decide +kernel
theorem dX2_accentForce_24 : decode cX2_accentForce 24 = .ok (.aload 4, 2) := by decide +kernel
theorem dX2_accentForce_26 : decode cX2_accentForce 26 = .ok (.getfield 243, 3) := by decide +kernel
theorem dX2_accentForce_29 : decode cX2_accentForce 29 = .ok (.ifCond .eq 12, 3) := by decide +kernel
theorem dX2_accentForce_32 : decode cX2_accentForce 32 = .ok (.iload_n 2, 1) := by decide +kernel
theorem dX2_accentForce_33 : decode cX2_accentForce 33 = .ok (.aload_n 0, 1) := by decide +kernel
theorem dX2_accentForce_34 : decode cX2_accentForce 34 = .ok (.iload_n 3, 1) := by decide +kernel
theorem dX2_accentForce_35 : decode cX2_accentForce 35 = .ok (.iload_n 1, 1) := by decide +kernel
theorem dX2_accentForce_36 : decode cX2_accentForce 36 = .ok (.invokevirtual 132, 3) := by decide +kernel
theorem dX2_accentForce_39 : decode cX2_accentForce 39 = .ok (.iadd, 1) := by decide +kernel
theorem dX2_accentForce_40 : decode cX2_accentForce 40 = .ok (.istore_n 2, 1) := by decide +kernel
theorem dX2_accentForce_41 : decode cX2_accentForce 41 = .ok (.iinc 3 1, 3) := by decide +kernel
theorem dX2_accentForce_44 : decode cX2_accentForce 44 = .ok (.goto (-40), 3) := by decide +kernel
theorem dX2_accentForce_47 : decode cX2_accentForce 47 = .ok (.iload_n 2, 1) := by decide +kernel
theorem dX2_accentForce_48 : decode cX2_accentForce 48 = .ok (.ireturn, 1) := by decide +kernel
theorem dX2_hitSet_0 : decode cX2_hitSet 0 = .ok (.iconst 0, 1) := by decide +kernel
theorem dX2_hitSet_1 : decode cX2_hitSet 1 = .ok (.istore_n 2, 1) := by decide +kernel
theorem dX2_hitSet_2 : decode cX2_hitSet 2 = .ok (.iconst 0, 1) := by decide +kernel
theorem dX2_hitSet_3 : decode cX2_hitSet 3 = .ok (.istore_n 3, 1) := by decide +kernel
theorem dX2_hitSet_4 : decode cX2_hitSet 4 = .ok (.iload_n 3, 1) := by decide +kernel
theorem dX2_hitSet_5 : decode cX2_hitSet 5 = .ok (.aload_n 0, 1) := by decide +kernel
theorem dX2_hitSet_6 : decode cX2_hitSet 6 = .ok (.getfield 15, 3) := by decide +kernel
theorem dX2_hitSet_9 : decode cX2_hitSet 9 = .ok (.if_icmp .ge 24, 3) := by decide +kernel
theorem dX2_hitSet_12 : decode cX2_hitSet 12 = .ok (.aload_n 0, 1) := by decide +kernel
theorem dX2_hitSet_13 : decode cX2_hitSet 13 = .ok (.iload_n 3, 1) := by decide +kernel
theorem dX2_hitSet_14 : decode cX2_hitSet 14 = .ok (.iload_n 1, 1) := by decide +kernel
theorem dX2_hitSet_15 : decode cX2_hitSet 15 = .ok (.invokevirtual 128, 3) := by decide +kernel
theorem dX2_hitSet_18 : decode cX2_hitSet 18 = .ok (.ifCond .eq 9, 3) := by decide +kernel
theorem dX2_hitSet_21 : decode cX2_hitSet 21 = .ok (.iload_n 2, 1) := by decide +kernel
theorem dX2_hitSet_22 : decode cX2_hitSet 22 = .ok (.iconst 1, 1) := by decide +kernel
theorem dX2_hitSet_23 : decode cX2_hitSet 23 = .ok (.iload_n 3, 1) := by decide +kernel
theorem dX2_hitSet_24 : decode cX2_hitSet 24 = .ok (.ishl, 1) := by decide +kernel
theorem dX2_hitSet_25 : decode cX2_hitSet 25 = .ok (.ior, 1) := by decide +kernel
theorem dX2_hitSet_26 : decode cX2_hitSet 26 = .ok (.istore_n 2, 1) := by decide +kernel
theorem dX2_hitSet_27 : decode cX2_hitSet 27 = .ok (.iinc 3 1, 3) := by decide +kernel
theorem dX2_hitSet_30 : decode cX2_hitSet 30 = .ok (.goto (-26), 3) := by decide +kernel
theorem dX2_hitSet_33 : decode cX2_hitSet 33 = .ok (.iload_n 2, 1) := by decide +kernel
theorem dX2_hitSet_34 : decode cX2_hitSet 34 = .ok (.ireturn, 1) := by decide +kernel
theorem dX2_commonHits_0 : decode cX2_commonHits 0 = .ok (.iconst 0, 1) := by decide +kernel
theorem dX2_commonHits_1 : decode cX2_commonHits 1 = .ok (.istore 5, 2) := by decide +kernel
theorem dX2_commonHits_3 : decode cX2_commonHits 3 = .ok (.iload_n 3, 1) := by decide +kernel
theorem dX2_commonHits_4 : decode cX2_commonHits 4 = .ok (.istore 6, 2) := by decide +kernel
theorem dX2_commonHits_6 : decode cX2_commonHits 6 = .ok (.iload 6, 2) := by decide +kernel
theorem dX2_commonHits_8 : decode cX2_commonHits 8 = .ok (.iload 4, 2) := by decide +kernel
theorem dX2_commonHits_10 : decode cX2_commonHits 10 = .ok (.if_icmp .ge 32, 3) := by decide +kernel
theorem dX2_commonHits_13 : decode cX2_commonHits 13 = .ok (.aload_n 0, 1) := by decide +kernel
theorem dX2_commonHits_14 : decode cX2_commonHits 14 = .ok (.iload_n 1, 1) := by decide +kernel
theorem dX2_commonHits_15 : decode cX2_commonHits 15 = .ok (.iload 6, 2) := by decide +kernel
theorem dX2_commonHits_17 : decode cX2_commonHits 17 = .ok (.invokevirtual 128, 3) := by decide +kernel
theorem dX2_commonHits_20 : decode cX2_commonHits 20 = .ok (.ifCond .eq 16, 3) := by decide +kernel
theorem dX2_commonHits_23 : decode cX2_commonHits 23 = .ok (.aload_n 0, 1) := by decide +kernel
theorem dX2_commonHits_24 : decode cX2_commonHits 24 = .ok (.iload_n 2, 1) := by decide +kernel
theorem dX2_commonHits_25 : decode cX2_commonHits 25 = .ok (.iload 6, 2) := by decide +kernel
theorem dX2_commonHits_27 : decode cX2_commonHits 27 = .ok (.invokevirtual 128, 3) := by decide +kernel
theorem dX2_commonHits_30 : decode cX2_commonHits 30 = .ok (.ifCond .eq 6, 3) := by decide +kernel
theorem dX2_commonHits_33 : decode cX2_commonHits 33 = .ok (.iinc 5 1, 3) := by decide +kernel
theorem dX2_commonHits_36 : decode cX2_commonHits 36 = .ok (.iinc 6 1, 3) := by decide +kernel
theorem dX2_commonHits_39 : decode cX2_commonHits 39 = .ok (.goto (-33), 3) := by decide +kernel
