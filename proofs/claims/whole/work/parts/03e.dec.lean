theorem dX3_loud_27 : decode cX3_loud 27 = .ok (.ifCond .le 7, 3) := by decide +kernel
theorem dX3_loud_30 : decode cX3_loud 30 = .ok (.iconst 1, 1) := by decide +kernel
theorem dX3_loud_31 : decode cX3_loud 31 = .ok (.goto 4, 3) := by decide +kernel
theorem dX3_loud_34 : decode cX3_loud 34 = .ok (.iconst 0, 1) := by decide +kernel
theorem dX3_loud_35 : decode cX3_loud 35 = .ok (.iadd, 1) := by decide +kernel
theorem dX3_loud_36 : decode cX3_loud 36 = .ok (.istore_n 2, 1) := by decide +kernel
theorem dX3_loud_37 : decode cX3_loud 37 = .ok (.iinc 3 1, 3) := by decide +kernel
theorem dX3_loud_40 : decode cX3_loud 40 = .ok (.goto (-36), 3) := by decide +kernel
theorem dX3_loud_43 : decode cX3_loud 43 = .ok (.iload_n 2, 1) := by decide +kernel
theorem dX3_loud_44 : decode cX3_loud 44 = .ok (.ireturn, 1) := by decide +kernel
theorem dX3_rotate_0 : decode cX3_rotate 0 = .ok (.aload_n 0, 1) := by decide +kernel
theorem dX3_rotate_1 : decode cX3_rotate 1 = .ok (.iconst 0, 1) := by decide +kernel
theorem dX3_rotate_2 : decode cX3_rotate 2 = .ok (.putfield 45, 3) := by decide +kernel
theorem dX3_rotate_5 : decode cX3_rotate 5 = .ok (.aload_n 0, 1) := by decide +kernel
theorem dX3_rotate_6 : decode cX3_rotate 6 = .ok (.iload_n 1, 1) := by decide +kernel
theorem dX3_rotate_7 : decode cX3_rotate 7 = .ok (.invokevirtual 55, 3) := by decide +kernel
theorem dX3_rotate_10 : decode cX3_rotate 10 = .ok (.ifCond .ne 9, 3) := by decide +kernel
theorem dX3_rotate_13 : decode cX3_rotate 13 = .ok (.aload_n 0, 1) := by decide +kernel
theorem dX3_rotate_14 : decode cX3_rotate 14 = .ok (.iconst 1, 1) := by decide +kernel
theorem dX3_rotate_15 : decode cX3_rotate 15 = .ok (.invokevirtual 64, 3) := by decide +kernel
theorem dX3_rotate_18 : decode cX3_rotate 18 = .ok (.ireturn, 1) := by decide +kernel
theorem dX3_rotate_19 : decode cX3_rotate 19 = .ok (.iload_n 2, 1) := by decide +kernel
theorem dX3_rotate_20 : decode cX3_rotate 20 = .ok (.iconst 0, 1) := by decide +kernel
theorem dX3_rotate_21 : decode cX3_rotate 21 = .ok (.bipush 31, 2) := by decide +kernel
theorem dX3_rotate_23 : decode cX3_rotate 23 = .ok (.invokestatic 51, 3) := by decide +kernel
theorem dX3_rotate_26 : decode cX3_rotate 26 = .ok (.ifCond .ne 9, 3) := by decide +kernel
theorem dX3_rotate_29 : decode cX3_rotate 29 = .ok (.aload_n 0, 1) := by decide +kernel
theorem dX3_rotate_30 : decode cX3_rotate 30 = .ok (.iconst 2, 1) := by decide +kernel
theorem dX3_rotate_31 : decode cX3_rotate 31 = .ok (.invokevirtual 64, 3) := by decide +kernel
theorem dX3_rotate_34 : decode cX3_rotate 34 = .ok (.ireturn, 1) := by decide +kernel
theorem dX3_rotate_35 : decode cX3_rotate 35 = .ok (.aload_n 0, 1) := by decide +kernel
theorem dX3_rotate_36 : decode cX3_rotate 36 = .ok (.getfield 9, 3) := by decide +kernel
theorem dX3_rotate_39 : decode cX3_rotate 39 = .ok (.iload_n 1, 1) := by decide +kernel
theorem dX3_rotate_40 : decode cX3_rotate 40 = .ok (.iaload, 1) := by decide +kernel
theorem dX3_rotate_41 : decode cX3_rotate 41 = .ok (.istore_n 3, 1) := by decide +kernel
theorem dX3_rotate_42 : decode cX3_rotate 42 = .ok (.aload_n 0, 1) := by decide +kernel
theorem dX3_rotate_43 : decode cX3_rotate 43 = .ok (.iload_n 1, 1) := by decide +kernel
theorem dX3_rotate_44 : decode cX3_rotate 44 = .ok (.aload_n 0, 1) := by decide +kernel
theorem dX3_rotate_45 : decode cX3_rotate 45 = .ok (.getfield 29, 3) := by decide +kernel
theorem dX3_rotate_48 : decode cX3_rotate 48 = .ok (.invokevirtual 88, 3) := by decide +kernel
theorem dX3_rotate_51 : decode cX3_rotate 51 = .ok (.checkcast 89, 3) := by decide +kernel
theorem dX3_rotate_54 : decode cX3_rotate 54 = .ok (.iload_n 3, 1) := by decide +kernel
theorem dX3_rotate_55 : decode cX3_rotate 55 = .ok (.iload_n 2, 1) := by decide +kernel
theorem dX3_rotate_56 : decode cX3_rotate 56 = .ok (.iload_n 3, 1) := by decide +kernel
theorem dX3_rotate_57 : decode cX3_rotate 57 = .ok (.irem, 1) := by decide +kernel
theorem dX3_rotate_58 : decode cX3_rotate 58 = .ok (.isub, 1) := by decide +kernel
theorem dX3_rotate_59 : decode cX3_rotate 59 = .ok (.iload_n 3, 1) := by decide +kernel
theorem dX3_rotate_60 : decode cX3_rotate 60 = .ok (.invokevirtual 93, 3) := by decide +kernel
theorem dX3_rotate_63 : decode cX3_rotate 63 = .ok (.aload_n 0, 1) := by decide +kernel
theorem dX3_rotate_64 : decode cX3_rotate 64 = .ok (.iload_n 1, 1) := by decide +kernel
theorem dX3_rotate_65 : decode cX3_rotate 65 = .ok (.invokevirtual 97, 3) := by decide +kernel
theorem dX3_rotate_68 : decode cX3_rotate 68 = .ok (.ireturn, 1) := by decide +kernel
theorem dX3_stretch_0 : decode cX3_stretch 0 = .ok (.aload_n 0, 1) := by decide +kernel
theorem dX3_stretch_1 : decode cX3_stretch 1 = .ok (.iconst 0, 1) := by decide +kernel
theorem dX3_stretch_2 : decode cX3_stretch 2 = .ok (.putfield 45, 3) := by decide +kernel
theorem dX3_stretch_5 : decode cX3_stretch 5 = .ok (.aload_n 0, 1) := by decide +kernel
theorem dX3_stretch_6 : decode cX3_stretch 6 = .ok (.iload_n 1, 1) := by decide +kernel
theorem dX3_stretch_7 : decode cX3_stretch 7 = .ok (.invokevirtual 55, 3) := by decide +kernel
theorem dX3_stretch_10 : decode cX3_stretch 10 = .ok (.ifCond .ne 9, 3) := by decide +kernel
theorem dX3_stretch_13 : decode cX3_stretch 13 = .ok (.aload_n 0, 1) := by decide +kernel
theorem dX3_stretch_14 : decode cX3_stretch 14 = .ok (.iconst 1, 1) := by decide +kernel
theorem dX3_stretch_15 : decode cX3_stretch 15 = .ok (.invokevirtual 64, 3) := by decide +kernel
theorem dX3_stretch_18 : decode cX3_stretch 18 = .ok (.ireturn, 1) := by decide +kernel
theorem dX3_stretch_19 : decode cX3_stretch 19 = .ok (.iload_n 2, 1) := by decide +kernel
theorem dX3_stretch_20 : decode cX3_stretch 20 = .ok (.iconst 1, 1) := by decide +kernel
theorem dX3_stretch_21 : decode cX3_stretch 21 = .ok (.bipush 32, 2) := by decide +kernel
theorem dX3_stretch_23 : decode cX3_stretch 23 = .ok (.invokestatic 51, 3) := by decide +kernel
theorem dX3_stretch_26 : decode cX3_stretch 26 = .ok (.ifCond .ne 9, 3) := by decide +kernel
theorem dX3_stretch_29 : decode cX3_stretch 29 = .ok (.aload_n 0, 1) := by decide +kernel
theorem dX3_stretch_30 : decode cX3_stretch 30 = .ok (.iconst 2, 1) := by decide +kernel
theorem dX3_stretch_31 : decode cX3_stretch 31 = .ok (.invokevirtual 64, 3) := by decide +kernel
theorem dX3_stretch_34 : decode cX3_stretch 34 = .ok (.ireturn, 1) := by decide +kernel
theorem dX3_stretch_35 : decode cX3_stretch 35 = .ok (.aload_n 0, 1) := by decide +kernel
theorem dX3_stretch_36 : decode cX3_stretch 36 = .ok (.getfield 9, 3) := by decide +kernel
theorem dX3_stretch_39 : decode cX3_stretch 39 = .ok (.iload_n 1, 1) := by decide +kernel
theorem dX3_stretch_40 : decode cX3_stretch 40 = .ok (.iaload, 1) := by decide +kernel
theorem dX3_stretch_41 : decode cX3_stretch 41 = .ok (.istore_n 3, 1) := by decide +kernel
theorem dX3_stretch_42 : decode cX3_stretch 42 = .ok (.aload_n 0, 1) := by decide +kernel
theorem dX3_stretch_43 : decode cX3_stretch 43 = .ok (.getfield 9, 3) := by decide +kernel
theorem dX3_stretch_46 : decode cX3_stretch 46 = .ok (.iload_n 1, 1) := by decide +kernel
theorem dX3_stretch_47 : decode cX3_stretch 47 = .ok (.iload_n 2, 1) := by decide +kernel
theorem dX3_stretch_48 : decode cX3_stretch 48 = .ok (.iastore, 1) := by decide +kernel
theorem dX3_stretch_49 : decode cX3_stretch 49 = .ok (.aload_n 0, 1) := by decide +kernel
theorem dX3_stretch_50 : decode cX3_stretch 50 = .ok (.iload_n 1, 1) := by decide +kernel
theorem dX3_stretch_51 : decode cX3_stretch 51 = .ok (.aload_n 0, 1) := by decide +kernel
theorem dX3_stretch_52 : decode cX3_stretch 52 = .ok (.getfield 29, 3) := by decide +kernel
theorem dX3_stretch_55 : decode cX3_stretch 55 = .ok (.invokevirtual 88, 3) := by decide +kernel
theorem dX3_stretch_58 : decode cX3_stretch 58 = .ok (.checkcast 89, 3) := by decide +kernel
theorem dX3_stretch_61 : decode cX3_stretch 61 = .ok (.iconst 0, 1) := by decide +kernel
theorem dX3_stretch_62 : decode cX3_stretch 62 = .ok (.iload_n 3, 1) := by decide +kernel
theorem dX3_stretch_63 : decode cX3_stretch 63 = .ok (.invokevirtual 93, 3) := by decide +kernel
theorem dX3_stretch_66 : decode cX3_stretch 66 = .ok (.iload_n 3, 1) := by decide +kernel
theorem dX3_stretch_67 : decode cX3_stretch 67 = .ok (.ireturn, 1) := by decide +kernel
theorem dX3_tap_0 : decode cX3_tap 0 = .ok (.aload_n 0, 1) := by decide +kernel
theorem dX3_tap_1 : decode cX3_tap 1 = .ok (.iconst 0, 1) := by decide +kernel
theorem dX3_tap_2 : decode cX3_tap 2 = .ok (.putfield 45, 3) := by decide +kernel
theorem dX3_tap_5 : decode cX3_tap 5 = .ok (.aload_n 0, 1) := by decide +kernel
theorem dX3_tap_6 : decode cX3_tap 6 = .ok (.iload_n 1, 1) := by decide +kernel
theorem dX3_tap_7 : decode cX3_tap 7 = .ok (.invokevirtual 55, 3) := by decide +kernel
theorem dX3_tap_10 : decode cX3_tap 10 = .ok (.ifCond .ne 9, 3) := by decide +kernel
theorem dX3_tap_13 : decode cX3_tap 13 = .ok (.aload_n 0, 1) := by decide +kernel
theorem dX3_tap_14 : decode cX3_tap 14 = .ok (.iconst 1, 1) := by decide +kernel
theorem dX3_tap_15 : decode cX3_tap 15 = .ok (.invokevirtual 64, 3) := by decide +kernel
theorem dX3_tap_18 : decode cX3_tap 18 = .ok (.ireturn, 1) := by decide +kernel
theorem dX3_tap_19 : decode cX3_tap 19 = .ok (.iload_n 2, 1) := by decide +kernel
theorem dX3_tap_20 : decode cX3_tap 20 = .ok (.invokestatic 100, 3) := by decide +kernel
theorem dX3_tap_23 : decode cX3_tap 23 = .ok (.ifCond .eq 13, 3) := by decide +kernel
theorem dX3_tap_26 : decode cX3_tap 26 = .ok (.iload_n 3, 1) := by decide +kernel
theorem dX3_tap_27 : decode cX3_tap 27 = .ok (.iconst 1, 1) := by decide +kernel
theorem dX3_tap_28 : decode cX3_tap 28 = .ok (.bipush 127, 2) := by decide +kernel
theorem dX3_tap_30 : decode cX3_tap 30 = .ok (.invokestatic 51, 3) := by decide +kernel
theorem dX3_tap_33 : decode cX3_tap 33 = .ok (.ifCond .ne 9, 3) := by decide +kernel
theorem dX3_tap_36 : decode cX3_tap 36 = .ok (.aload_n 0, 1) := by decide +kernel
theorem dX3_tap_37 : decode cX3_tap 37 = .ok (.iconst 2, 1) := by decide +kernel
theorem dX3_tap_38 : decode cX3_tap 38 = .ok (.invokevirtual 64, 3) := by decide +kernel
theorem dX3_tap_41 : decode cX3_tap 41 = .ok (.ireturn, 1) := by decide +kernel
theorem dX3_tap_42 : decode cX3_tap 42 = .ok (.aload_n 0, 1) := by decide +kernel
theorem dX3_tap_43 : decode cX3_tap 43 = .ok (.getfield 9, 3) := by decide +kernel
theorem dX3_tap_46 : decode cX3_tap 46 = .ok (.iload_n 1, 1) := by decide +kernel
theorem dX3_tap_47 : decode cX3_tap 47 = .ok (.iaload, 1) := by decide +kernel
theorem dX3_tap_48 : decode cX3_tap 48 = .ok (.aload_n 0, 1) := by decide +kernel
theorem dX3_tap_49 : decode cX3_tap 49 = .ok (.getfield 13, 3) := by decide +kernel
theorem dX3_tap_52 : decode cX3_tap 52 = .ok (.iload_n 1, 1) := by decide +kernel
theorem dX3_tap_53 : decode cX3_tap 53 = .ok (.iaload, 1) := by decide +kernel
theorem dX3_tap_54 : decode cX3_tap 54 = .ok (.imul, 1) := by decide +kernel
theorem dX3_tap_55 : decode cX3_tap 55 = .ok (.istore 4, 2) := by decide +kernel
theorem dX3_tap_57 : decode cX3_tap 57 = .ok (.iload_n 2, 1) := by decide +kernel
theorem dX3_tap_58 : decode cX3_tap 58 = .ok (.iload 4, 2) := by decide +kernel
theorem dX3_tap_60 : decode cX3_tap 60 = .ok (.irem, 1) := by decide +kernel
theorem dX3_tap_61 : decode cX3_tap 61 = .ok (.istore 5, 2) := by decide +kernel
theorem dX3_tap_63 : decode cX3_tap 63 = .ok (.iconst 0, 1) := by decide +kernel
theorem dX3_tap_64 : decode cX3_tap 64 = .ok (.istore 6, 2) := by decide +kernel
theorem dX3_tap_66 : decode cX3_tap 66 = .ok (.iload 5, 2) := by decide +kernel
theorem dX3_tap_68 : decode cX3_tap 68 = .ok (.iload 4, 2) := by decide +kernel
theorem dX3_tap_70 : decode cX3_tap 70 = .ok (.iload 5, 2) := by decide +kernel
theorem dX3_tap_72 : decode cX3_tap 72 = .ok (.isub, 1) := by decide +kernel
theorem dX3_tap_73 : decode cX3_tap 73 = .ok (.invokestatic 103, 3) := by decide +kernel
theorem dX3_tap_76 : decode cX3_tap 76 = .ok (.istore 7, 2) := by decide +kernel
theorem dX3_tap_78 : decode cX3_tap 78 = .ok (.iconst 1, 1) := by decide +kernel
theorem dX3_tap_79 : decode cX3_tap 79 = .ok (.istore 8, 2) := by decide +kernel
theorem dX3_tap_81 : decode cX3_tap 81 = .ok (.iload 8, 2) := by decide +kernel
theorem dX3_tap_83 : decode cX3_tap 83 = .ok (.aload_n 0, 1) := by decide +kernel
theorem dX3_tap_84 : decode cX3_tap 84 = .ok (.getfield 9, 3) := by decide +kernel
theorem dX3_tap_87 : decode cX3_tap 87 = .ok (.iload_n 1, 1) := by decide +kernel
theorem dX3_tap_88 : decode cX3_tap 88 = .ok (.iaload, 1) := by decide +kernel
theorem dX3_tap_89 : decode cX3_tap 89 = .ok (.if_icmp .ge 52, 3) := by decide +kernel
theorem dX3_tap_92 : decode cX3_tap 92 = .ok (.iload 5, 2) := by decide +kernel
theorem dX3_tap_94 : decode cX3_tap 94 = .ok (.iload 8, 2) := by decide +kernel
theorem dX3_tap_96 : decode cX3_tap 96 = .ok (.aload_n 0, 1) := by decide +kernel
theorem dX3_tap_97 : decode cX3_tap 97 = .ok (.getfield 13, 3) := by decide +kernel
theorem dX3_tap_100 : decode cX3_tap 100 = .ok (.iload_n 1, 1) := by decide +kernel
theorem dX3_tap_101 : decode cX3_tap 101 = .ok (.iaload, 1) := by decide +kernel
theorem dX3_tap_102 : decode cX3_tap 102 = .ok (.imul, 1) := by decide +kernel
theorem dX3_tap_103 : decode cX3_tap 103 = .ok (.isub, 1) := by decide +kernel
theorem dX3_tap_104 : decode cX3_tap 104 = .ok (.aload_n 0, 1) := by decide +kernel
theorem dX3_tap_105 : decode cX3_tap 105 = .ok (.iload_n 1, 1) := by decide +kernel
theorem dX3_tap_106 : decode cX3_tap 106 = .ok (.iload 8, 2) := by decide +kernel
theorem dX3_tap_108 : decode cX3_tap 108 = .ok (.invokevirtual 76, 3) := by decide +kernel
theorem dX3_tap_111 : decode cX3_tap 111 = .ok (.isub, 1) := by decide +kernel
theorem dX3_tap_112 : decode cX3_tap 112 = .ok (.invokestatic 108, 3) := by decide +kernel
theorem dX3_tap_115 : decode cX3_tap 115 = .ok (.istore 9, 2) := by decide +kernel
theorem dX3_tap_117 : decode cX3_tap 117 = .ok (.iload 9, 2) := by decide +kernel
theorem dX3_tap_119 : decode cX3_tap 119 = .ok (.iload 7, 2) := by decide +kernel
theorem dX3_tap_121 : decode cX3_tap 121 = .ok (.if_icmp .lt 6, 3) := by decide +kernel
theorem dX3_tap_124 : decode cX3_tap 124 = .ok (.goto 11, 3) := by decide +kernel
theorem dX3_tap_127 : decode cX3_tap 127 = .ok (.iload 8, 2) := by decide +kernel
theorem dX3_tap_129 : decode cX3_tap 129 = .ok (.istore 6, 2) := by decide +kernel
theorem dX3_tap_131 : decode cX3_tap 131 = .ok (.iload 9, 2) := by decide +kernel
theorem dX3_tap_133 : decode cX3_tap 133 = .ok (.istore 7, 2) := by decide +kernel
theorem dX3_tap_135 : decode cX3_tap 135 = .ok (.iinc 8 1, 3) := by decide +kernel
theorem dX3_tap_138 : decode cX3_tap 138 = .ok (.goto (-57), 3) := by decide +kernel
theorem dX3_tap_141 : decode cX3_tap 141 = .ok (.aload_n 0, 1) := by decide +kernel
theorem dX3_tap_142 : decode cX3_tap 142 = .ok (.getfield 29, 3) := by decide +kernel
theorem dX3_tap_145 : decode cX3_tap 145 = .ok (.iload_n 1, 1) := by decide +kernel
theorem dX3_tap_146 : decode cX3_tap 146 = .ok (.iload 6, 2) := by decide +kernel
theorem dX3_tap_148 : decode cX3_tap 148 = .ok (.invokestatic 60, 3) := by decide +kernel
theorem dX3_tap_151 : decode cX3_tap 151 = .ok (.iconst 0, 1) := by decide +kernel
theorem dX3_tap_152 : decode cX3_tap 152 = .ok (.iadd, 1) := by decide +kernel
theorem dX3_tap_153 : decode cX3_tap 153 = .ok (.iload_n 3, 1) := by decide +kernel
theorem dX3_tap_154 : decode cX3_tap 154 = .ok (.iastore, 1) := by decide +kernel
theorem dX3_tap_155 : decode cX3_tap 155 = .ok (.iload 6, 2) := by decide +kernel
theorem dX3_tap_157 : decode cX3_tap 157 = .ok (.ireturn, 1) := by decide +kernel
theorem dX3_tracks_0 : decode cX3_tracks 0 = .ok (.aload_n 0, 1) := by decide +kernel
theorem dX3_tracks_1 : decode cX3_tracks 1 = .ok (.iconst 0, 1) := by decide +kernel
theorem dX3_tracks_2 : decode cX3_tracks 2 = .ok (.putfield 45, 3) := by decide +kernel
theorem dX3_tracks_5 : decode cX3_tracks 5 = .ok (.aload_n 0, 1) := by decide +kernel
theorem dX3_tracks_6 : decode cX3_tracks 6 = .ok (.getfield 48, 3) := by decide +kernel
theorem dX3_tracks_9 : decode cX3_tracks 9 = .ok (.ireturn, 1) := by decide +kernel
theorem dX3_addSection_0 : decode cX3_addSection 0 = .ok (.aload_n 0, 1) := by decide +kernel
theorem dX3_addSection_1 : decode cX3_addSection 1 = .ok (.iconst 0, 1) := by decide +kernel
theorem dX3_addSection_2 : decode cX3_addSection 2 = .ok (.putfield 45, 3) := by decide +kernel
theorem dX3_addSection_5 : decode cX3_addSection 5 = .ok (.iload_n 1, 1) := by decide +kernel
theorem dX3_addSection_6 : decode cX3_addSection 6 = .ok (.iconst 1, 1) := by decide +kernel
theorem dX3_addSection_7 : decode cX3_addSection 7 = .ok (.sipush 5000, 3) := by decide +kernel
theorem dX3_addSection_10 : decode cX3_addSection 10 = .ok (.invokestatic 51, 3) := by decide +kernel
theorem dX3_addSection_13 : decode cX3_addSection 13 = .ok (.ifCond .eq 14, 3) := by decide +kernel
theorem dX3_addSection_16 : decode cX3_addSection 16 = .ok (.iload_n 2, 1) := by decide +kernel
theorem dX3_addSection_17 : decode cX3_addSection 17 = .ok (.iconst 0, 1) := by decide +kernel
theorem dX3_addSection_18 : decode cX3_addSection 18 = .ok (.sipush 255, 3) := by decide +kernel
theorem dX3_addSection_21 : decode cX3_addSection 21 = .ok (.invokestatic 51, 3) := by decide +kernel
theorem dX3_addSection_24 : decode cX3_addSection 24 = .ok (.ifCond .ne 9, 3) := by decide +kernel
theorem dX3_addSection_27 : decode cX3_addSection 27 = .ok (.aload_n 0, 1) := by decide +kernel
theorem dX3_addSection_28 : decode cX3_addSection 28 = .ok (.iconst 1, 1) := by decide +kernel
theorem dX3_addSection_29 : decode cX3_addSection 29 = .ok (.invokevirtual 64, 3) := by decide +kernel
theorem dX3_addSection_32 : decode cX3_addSection 32 = .ok (.ireturn, 1) := by decide +kernel
theorem dX3_addSection_33 : decode cX3_addSection 33 = .ok (.aload_n 0, 1) := by decide +kernel
theorem dX3_addSection_34 : decode cX3_addSection 34 = .ok (.getfield 111, 3) := by decide +kernel
theorem dX3_addSection_37 : decode cX3_addSection 37 = .ok (.bipush 12, 2) := by decide +kernel
theorem dX3_addSection_39 : decode cX3_addSection 39 = .ok (.if_icmp .ne 9, 3) := by decide +kernel
theorem dX3_addSection_42 : decode cX3_addSection 42 = .ok (.aload_n 0, 1) := by decide +kernel
theorem dX3_addSection_43 : decode cX3_addSection 43 = .ok (.iconst 2, 1) := by decide +kernel
theorem dX3_addSection_44 : decode cX3_addSection 44 = .ok (.invokevirtual 64, 3) := by decide +kernel
theorem dX3_addSection_47 : decode cX3_addSection 47 = .ok (.ireturn, 1) := by decide +kernel
theorem dX3_addSection_48 : decode cX3_addSection 48 = .ok (.aload_n 0, 1) := by decide +kernel
theorem dX3_addSection_49 : decode cX3_addSection 49 = .ok (.getfield 35, 3) := by decide +kernel
theorem dX3_addSection_52 : decode cX3_addSection 52 = .ok (.aload_n 0, 1) := by decide +kernel
theorem dX3_addSection_53 : decode cX3_addSection 53 = .ok (.getfield 111, 3) := by decide +kernel
theorem dX3_addSection_56 : decode cX3_addSection 56 = .ok (.iload_n 2, 1) := by decide +kernel
theorem dX3_addSection_57 : decode cX3_addSection 57 = .ok (.iastore, 1) := by decide +kernel
theorem dX3_addSection_58 : decode cX3_addSection 58 = .ok (.aload_n 0, 1) := by decide +kernel
theorem dX3_addSection_59 : decode cX3_addSection 59 = .ok (.getfield 38, 3) := by decide +kernel
theorem dX3_addSection_62 : decode cX3_addSection 62 = .ok (.aload_n 0, 1) := by decide +kernel
theorem dX3_addSection_63 : decode cX3_addSection 63 = .ok (.getfield 111, 3) := by decide +kernel
theorem dX3_addSection_66 : decode cX3_addSection 66 = .ok (.iload_n 3, 1) := by decide +kernel
theorem dX3_addSection_67 : decode cX3_addSection 67 = .ok (.bastore, 1) := by decide +kernel
theorem dX3_addSection_68 : decode cX3_addSection 68 = .ok (.aload_n 0, 1) := by decide +kernel
theorem dX3_addSection_69 : decode cX3_addSection 69 = .ok (.getfield 32, 3) := by decide +kernel
theorem dX3_addSection_72 : decode cX3_addSection 72 = .ok (.aload_n 0, 1) := by decide +kernel
theorem dX3_addSection_73 : decode cX3_addSection 73 = .ok (.getfield 111, 3) := by decide +kernel
theorem dX3_addSection_76 : decode cX3_addSection 76 = .ok (.iconst 1, 1) := by decide +kernel
theorem dX3_addSection_77 : decode cX3_addSection 77 = .ok (.iadd, 1) := by decide +kernel
theorem dX3_addSection_78 : decode cX3_addSection 78 = .ok (.aload_n 0, 1) := by decide +kernel
theorem dX3_addSection_79 : decode cX3_addSection 79 = .ok (.getfield 32, 3) := by decide +kernel
theorem dX3_addSection_82 : decode cX3_addSection 82 = .ok (.aload_n 0, 1) := by decide +kernel
theorem dX3_addSection_83 : decode cX3_addSection 83 = .ok (.getfield 111, 3) := by decide +kernel
theorem dX3_addSection_86 : decode cX3_addSection 86 = .ok (.iaload, 1) := by decide +kernel
theorem dX3_addSection_87 : decode cX3_addSection 87 = .ok (.iload_n 1, 1) := by decide +kernel
theorem dX3_addSection_88 : decode cX3_addSection 88 = .ok (.iadd, 1) := by decide +kernel
theorem dX3_addSection_89 : decode cX3_addSection 89 = .ok (.iastore, 1) := by decide +kernel
theorem dX3_addSection_90 : decode cX3_addSection 90 = .ok (.aload_n 0, 1) := by decide +kernel
theorem dX3_addSection_91 : decode cX3_addSection 91 = .ok (.dup, 1) := by decide +kernel
theorem dX3_addSection_92 : decode cX3_addSection 92 = .ok (.getfield 111, 3) := by decide +kernel
theorem dX3_addSection_95 : decode cX3_addSection 95 = .ok (.iconst 1, 1) := by decide +kernel
theorem dX3_addSection_96 : decode cX3_addSection 96 = .ok (.iadd, 1) := by decide +kernel
theorem dX3_addSection_97 : decode cX3_addSection 97 = .ok (.putfield 111, 3) := by decide +kernel
theorem dX3_addSection_100 : decode cX3_addSection 100 = .ok (.aload_n 0, 1) := by decide +kernel
theorem dX3_addSection_101 : decode cX3_addSection 101 = .ok (.getfield 32, 3) := by decide +kernel
theorem dX3_addSection_104 : decode cX3_addSection 104 = .ok (.aload_n 0, 1) := by decide +kernel
theorem dX3_addSection_105 : decode cX3_addSection 105 = .ok (.getfield 111, 3) := by decide +kernel
theorem dX3_addSection_108 : decode cX3_addSection 108 = .ok (.iconst 1, 1) := by decide +kernel
theorem dX3_addSection_109 : decode cX3_addSection 109 = .ok (.isub, 1) := by decide +kernel
theorem dX3_addSection_110 : decode cX3_addSection 110 = .ok (.iaload, 1) := by decide +kernel
theorem dX3_addSection_111 : decode cX3_addSection 111 = .ok (.ireturn, 1) := by decide +kernel
theorem dX3_dropSection_0 : decode cX3_dropSection 0 = .ok (.aload_n 0, 1) := by decide +kernel
theorem dX3_dropSection_1 : decode cX3_dropSection 1 = .ok (.iconst 0, 1) := by decide +kernel
theorem dX3_dropSection_2 : decode cX3_dropSection 2 = .ok (.putfield 45, 3) := by decide +kernel
theorem dX3_dropSection_5 : decode cX3_dropSection 5 = .ok (.aload_n 0, 1) := by decide +kernel
theorem dX3_dropSection_6 : decode cX3_dropSection 6 = .ok (.getfield 111, 3) := by decide +kernel
theorem dX3_dropSection_9 : decode cX3_dropSection 9 = .ok (.ifCond .ne 9, 3) := by decide +kernel
theorem dX3_dropSection_12 : decode cX3_dropSection 12 = .ok (.aload_n 0, 1) := by decide +kernel
theorem dX3_dropSection_13 : decode cX3_dropSection 13 = .ok (.iconst 1, 1) := by decide +kernel
theorem dX3_dropSection_14 : decode cX3_dropSection 14 = .ok (.invokevirtual 64, 3) := by decide +kernel
theorem dX3_dropSection_17 : decode cX3_dropSection 17 = .ok (.ireturn, 1) := by decide +kernel
theorem dX3_dropSection_18 : decode cX3_dropSection 18 = .ok (.aload_n 0, 1) := by decide +kernel
theorem dX3_dropSection_19 : decode cX3_dropSection 19 = .ok (.dup, 1) := by decide +kernel
theorem dX3_dropSection_20 : decode cX3_dropSection 20 = .ok (.getfield 111, 3) := by decide +kernel
theorem dX3_dropSection_23 : decode cX3_dropSection 23 = .ok (.iconst 1, 1) := by decide +kernel
theorem dX3_dropSection_24 : decode cX3_dropSection 24 = .ok (.isub, 1) := by decide +kernel
theorem dX3_dropSection_25 : decode cX3_dropSection 25 = .ok (.putfield 111, 3) := by decide +kernel
theorem dX3_dropSection_28 : decode cX3_dropSection 28 = .ok (.aload_n 0, 1) := by decide +kernel
theorem dX3_dropSection_29 : decode cX3_dropSection 29 = .ok (.getfield 111, 3) := by decide +kernel
theorem dX3_dropSection_32 : decode cX3_dropSection 32 = .ok (.ireturn, 1) := by decide +kernel
theorem dX3_section_0 : decode cX3_section 0 = .ok (.iconst 0, 1) := by decide +kernel
theorem dX3_section_1 : decode cX3_section 1 = .ok (.istore_n 2, 1) := by decide +kernel
theorem dX3_section_2 : decode cX3_section 2 = .ok (.iload_n 2, 1) := by decide +kernel
theorem dX3_section_3 : decode cX3_section 3 = .ok (.aload_n 0, 1) := by decide +kernel
theorem dX3_section_4 : decode cX3_section 4 = .ok (.getfield 111, 3) := by decide +kernel
theorem dX3_section_7 : decode cX3_section 7 = .ok (.if_icmp .ge 23, 3) := by decide +kernel
theorem dX3_section_10 : decode cX3_section 10 = .ok (.iload_n 1, 1) := by decide +kernel
theorem dX3_section_11 : decode cX3_section 11 = .ok (.aload_n 0, 1) := by decide +kernel
theorem dX3_section_12 : decode cX3_section 12 = .ok (.getfield 32, 3) := by decide +kernel
theorem dX3_section_15 : decode cX3_section 15 = .ok (.iload_n 2, 1) := by decide +kernel
theorem dX3_section_16 : decode cX3_section 16 = .ok (.iconst 1, 1) := by decide +kernel
theorem dX3_section_17 : decode cX3_section 17 = .ok (.iadd, 1) := by decide +kernel
theorem dX3_section_18 : decode cX3_section 18 = .ok (.iaload, 1) := by decide +kernel
theorem dX3_section_19 : decode cX3_section 19 = .ok (.if_icmp .ge 5, 3) := by decide +kernel
theorem dX3_section_22 : decode cX3_section 22 = .ok (.iload_n 2, 1) := by decide +kernel
theorem dX3_section_23 : decode cX3_section 23 = .ok (.ireturn, 1) := by decide +kernel
theorem dX3_section_24 : decode cX3_section 24 = .ok (.iinc 2 1, 3) := by decide +kernel
theorem dX3_section_27 : decode cX3_section 27 = .ok (.goto (-25), 3) := by decide +kernel
theorem dX3_section_30 : decode cX3_section 30 = .ok (.iconst (-1), 1) := by decide +kernel
theorem dX3_section_31 : decode cX3_section 31 = .ok (.ireturn, 1) := by decide +kernel
theorem dX3_sectionAt_0 : decode cX3_sectionAt 0 = .ok (.aload_n 0, 1) := by decide +kernel
theorem dX3_sectionAt_1 : decode cX3_sectionAt 1 = .ok (.iconst 0, 1) := by decide +kernel
theorem dX3_sectionAt_2 : decode cX3_sectionAt 2 = .ok (.putfield 45, 3) := by decide +kernel
theorem dX3_sectionAt_5 : decode cX3_sectionAt 5 = .ok (.iload_n 1, 1) := by decide +kernel
theorem dX3_sectionAt_6 : decode cX3_sectionAt 6 = .ok (.invokestatic 100, 3) := by decide +kernel
theorem dX3_sectionAt_9 : decode cX3_sectionAt 9 = .ok (.ifCond .eq 11, 3) := by decide +kernel
theorem dX3_sectionAt_12 : decode cX3_sectionAt 12 = .ok (.aload_n 0, 1) := by decide +kernel
theorem dX3_sectionAt_13 : decode cX3_sectionAt 13 = .ok (.iload_n 1, 1) := by decide +kernel
theorem dX3_sectionAt_14 : decode cX3_sectionAt 14 = .ok (.invokevirtual 114, 3) := by decide +kernel
theorem dX3_sectionAt_17 : decode cX3_sectionAt 17 = .ok (.goto 8, 3) := by decide +kernel
theorem dX3_sectionAt_20 : decode cX3_sectionAt 20 = .ok (.aload_n 0, 1) := by decide +kernel
theorem dX3_sectionAt_21 : decode cX3_sectionAt 21 = .ok (.iconst 1, 1) := by decide +kernel
theorem dX3_sectionAt_22 : decode cX3_sectionAt 22 = .ok (.invokevirtual 64, 3) := by decide +kernel
theorem dX3_sectionAt_25 : decode cX3_sectionAt 25 = .ok (.ireturn, 1) := by decide +kernel
theorem dX3_length_0 : decode cX3_length 0 = .ok (.aload_n 0, 1) := by decide +kernel
theorem dX3_length_1 : decode cX3_length 1 = .ok (.iconst 0, 1) := by decide +kernel
theorem dX3_length_2 : decode cX3_length 2 = .ok (.putfield 45, 3) := by decide +kernel
theorem dX3_length_5 : decode cX3_length 5 = .ok (.aload_n 0, 1) := by decide +kernel
theorem dX3_length_6 : decode cX3_length 6 = .ok (.getfield 32, 3) := by decide +kernel
theorem dX3_length_9 : decode cX3_length 9 = .ok (.aload_n 0, 1) := by decide +kernel
theorem dX3_length_10 : decode cX3_length 10 = .ok (.getfield 111, 3) := by decide +kernel
theorem dX3_length_13 : decode cX3_length 13 = .ok (.iaload, 1) := by decide +kernel
theorem dX3_length_14 : decode cX3_length 14 = .ok (.ireturn, 1) := by decide +kernel
theorem dX3_isSilent_0 : decode cX3_isSilent 0 = .ok (.iconst 0, 1) := by decide +kernel
theorem dX3_isSilent_1 : decode cX3_isSilent 1 = .ok (.istore_n 2, 1) := by decide +kernel
theorem dX3_isSilent_2 : decode cX3_isSilent 2 = .ok (.iconst 0, 1) := by decide +kernel
theorem dX3_isSilent_3 : decode cX3_isSilent 3 = .ok (.istore_n 3, 1) := by decide +kernel
theorem dX3_isSilent_4 : decode cX3_isSilent 4 = .ok (.iload_n 3, 1) := by decide +kernel
theorem dX3_isSilent_5 : decode cX3_isSilent 5 = .ok (.aload_n 0, 1) := by decide +kernel
theorem dX3_isSilent_6 : decode cX3_isSilent 6 = .ok (.getfield 48, 3) := by decide +kernel
theorem dX3_isSilent_9 : decode cX3_isSilent 9 = .ok (.if_icmp .ge 37, 3) := by decide +kernel
theorem dX3_isSilent_12 : decode cX3_isSilent 12 = .ok (.iload_n 2, 1) := by decide +kernel
theorem dX3_isSilent_13 : decode cX3_isSilent 13 = .ok (.ifCond .ne 21, 3) := by decide +kernel
theorem dX3_isSilent_16 : decode cX3_isSilent 16 = .ok (.iload_n 3, 1) := by decide +kernel
theorem dX3_isSilent_17 : decode cX3_isSilent 17 = .ok (.iload_n 1, 1) := by decide +kernel
theorem dX3_isSilent_18 : decode cX3_isSilent 18 = .ok (.if_icmp .eq 20, 3) := by decide +kernel
theorem dX3_isSilent_21 : decode cX3_isSilent 21 = .ok (.aload_n 0, 1) := by decide +kernel
theorem dX3_isSilent_22 : decode cX3_isSilent 22 = .ok (.getfield 25, 3) := by decide +kernel
theorem dX3_isSilent_25 : decode cX3_isSilent 25 = .ok (.iconst 3, 1) := by decide +kernel
theorem dX3_isSilent_26 : decode cX3_isSilent 26 = .ok (.iload_n 3, 1) := by decide +kernel
theorem dX3_isSilent_27 : decode cX3_isSilent 27 = .ok (.imul, 1) := by decide +kernel
theorem dX3_isSilent_28 : decode cX3_isSilent 28 = .ok (.iconst 1, 1) := by decide +kernel
theorem dX3_isSilent_29 : decode cX3_isSilent 29 = .ok (.iadd, 1) := by decide +kernel
theorem dX3_isSilent_30 : decode cX3_isSilent 30 = .ok (.baload, 1) := by decide +kernel
theorem dX3_isSilent_31 : decode cX3_isSilent 31 = .ok (.ifCond .eq 7, 3) := by decide +kernel
theorem dX3_isSilent_34 : decode cX3_isSilent 34 = .ok (.iconst 1, 1) := by decide +kernel
theorem dX3_isSilent_35 : decode cX3_isSilent 35 = .ok (.goto 4, 3) := by decide +kernel
theorem dX3_isSilent_38 : decode cX3_isSilent 38 = .ok (.iconst 0, 1) := by decide +kernel
theorem dX3_isSilent_39 : decode cX3_isSilent 39 = .ok (.istore_n 2, 1) := by decide +kernel
theorem dX3_isSilent_40 : decode cX3_isSilent 40 = .ok (.iinc 3 1, 3) := by decide +kernel
theorem dX3_isSilent_43 : decode cX3_isSilent 43 = .ok (.goto (-39), 3) := by decide +kernel
theorem dX3_isSilent_46 : decode cX3_isSilent 46 = .ok (.aload_n 0, 1) := by decide +kernel
theorem dX3_isSilent_47 : decode cX3_isSilent 47 = .ok (.getfield 25, 3) := by decide +kernel
theorem dX3_isSilent_50 : decode cX3_isSilent 50 = .ok (.iconst 3, 1) := by decide +kernel
theorem dX3_isSilent_51 : decode cX3_isSilent 51 = .ok (.iload_n 1, 1) := by decide +kernel
theorem dX3_isSilent_52 : decode cX3_isSilent 52 = .ok (.imul, 1) := by decide +kernel
theorem dX3_isSilent_53 : decode cX3_isSilent 53 = .ok (.baload, 1) := by decide +kernel
theorem dX3_isSilent_54 : decode cX3_isSilent 54 = .ok (.ifCond .ne 20, 3) := by decide +kernel
theorem dX3_isSilent_57 : decode cX3_isSilent 57 = .ok (.iload_n 2, 1) := by decide +kernel
theorem dX3_isSilent_58 : decode cX3_isSilent 58 = .ok (.ifCond .eq 20, 3) := by decide +kernel
theorem dX3_isSilent_61 : decode cX3_isSilent 61 = .ok (.aload_n 0, 1) := by decide +kernel
theorem dX3_isSilent_62 : decode cX3_isSilent 62 = .ok (.getfield 25, 3) := by decide +kernel
theorem dX3_isSilent_65 : decode cX3_isSilent 65 = .ok (.iconst 3, 1) := by decide +kernel
theorem dX3_isSilent_66 : decode cX3_isSilent 66 = .ok (.iload_n 1, 1) := by decide +kernel
theorem dX3_isSilent_67 : decode cX3_isSilent 67 = .ok (.imul, 1) := by decide +kernel
theorem dX3_isSilent_68 : decode cX3_isSilent 68 = .ok (.iconst 1, 1) := by decide +kernel
theorem dX3_isSilent_69 : decode cX3_isSilent 69 = .ok (.iadd, 1) := by decide +kernel
theorem dX3_isSilent_70 : decode cX3_isSilent 70 = .ok (.baload, 1) := by decide +kernel
theorem dX3_isSilent_71 : decode cX3_isSilent 71 = .ok (.ifCond .ne 7, 3) := by decide +kernel
theorem dX3_isSilent_74 : decode cX3_isSilent 74 = .ok (.iconst 1, 1) := by decide +kernel
theorem dX3_isSilent_75 : decode cX3_isSilent 75 = .ok (.goto 4, 3) := by decide +kernel
theorem dX3_isSilent_78 : decode cX3_isSilent 78 = .ok (.iconst 0, 1) := by decide +kernel
theorem dX3_isSilent_79 : decode cX3_isSilent 79 = .ok (.ireturn, 1) := by decide +kernel
theorem dX3_strike_0 : decode cX3_strike 0 = .ok (.aload_n 0, 1) := by decide +kernel
theorem dX3_strike_1 : decode cX3_strike 1 = .ok (.iload_n 1, 1) := by decide +kernel
theorem dX3_strike_2 : decode cX3_strike 2 = .ok (.invokevirtual 117, 3) := by decide +kernel
theorem dX3_strike_5 : decode cX3_strike 5 = .ok (.ifCond .eq 5, 3) := by decide +kernel
theorem dX3_strike_8 : decode cX3_strike 8 = .ok (.iconst 0, 1) := by decide +kernel
theorem dX3_strike_9 : decode cX3_strike 9 = .ok (.ireturn, 1) := by decide +kernel
theorem dX3_strike_10 : decode cX3_strike 10 = .ok (.iload_n 2, 1) := by decide +kernel
theorem dX3_strike_11 : decode cX3_strike 11 = .ok (.istore_n 3, 1) := by decide +kernel
theorem dX3_strike_12 : decode cX3_strike 12 = .ok (.aload_n 0, 1) := by decide +kernel
theorem dX3_strike_13 : decode cX3_strike 13 = .ok (.getfield 111, 3) := by decide +kernel
theorem dX3_strike_16 : decode cX3_strike 16 = .ok (.ifCond .le 56, 3) := by decide +kernel
theorem dX3_strike_19 : decode cX3_strike 19 = .ok (.aload_n 0, 1) := by decide +kernel
theorem dX3_strike_20 : decode cX3_strike 20 = .ok (.iload_n 2, 1) := by decide +kernel
theorem dX3_strike_21 : decode cX3_strike 21 = .ok (.invokevirtual 114, 3) := by decide +kernel
theorem dX3_strike_24 : decode cX3_strike 24 = .ok (.istore 4, 2) := by decide +kernel
theorem dX3_strike_26 : decode cX3_strike 26 = .ok (.iload 4, 2) := by decide +kernel
theorem dX3_strike_28 : decode cX3_strike 28 = .ok (.iconst (-1), 1) := by decide +kernel
theorem dX3_strike_29 : decode cX3_strike 29 = .ok (.if_icmp .eq 17, 3) := by decide +kernel
theorem dX3_strike_32 : decode cX3_strike 32 = .ok (.aload_n 0, 1) := by decide +kernel
theorem dX3_strike_33 : decode cX3_strike 33 = .ok (.getfield 35, 3) := by decide +kernel
theorem dX3_strike_36 : decode cX3_strike 36 = .ok (.iload 4, 2) := by decide +kernel
theorem dX3_strike_38 : decode cX3_strike 38 = .ok (.iaload, 1) := by decide +kernel
theorem dX3_strike_39 : decode cX3_strike 39 = .ok (.iload_n 1, 1) := by decide +kernel
theorem dX3_strike_40 : decode cX3_strike 40 = .ok (.ishr, 1) := by decide +kernel
theorem dX3_strike_41 : decode cX3_strike 41 = .ok (.iconst 1, 1) := by decide +kernel
theorem dX3_strike_42 : decode cX3_strike 42 = .ok (.iand, 1) := by decide +kernel
theorem dX3_strike_43 : decode cX3_strike 43 = .ok (.ifCond .ne 5, 3) := by decide +kernel
theorem dX3_strike_46 : decode cX3_strike 46 = .ok (.iconst 0, 1) := by decide +kernel
theorem dX3_strike_47 : decode cX3_strike 47 = .ok (.ireturn, 1) := by decide +kernel
theorem dX3_strike_48 : decode cX3_strike 48 = .ok (.aload_n 0, 1) := by decide +kernel
theorem dX3_strike_49 : decode cX3_strike 49 = .ok (.getfield 38, 3) := by decide +kernel
theorem dX3_strike_52 : decode cX3_strike 52 = .ok (.iload 4, 2) := by decide +kernel
theorem dX3_strike_54 : decode cX3_strike 54 = .ok (.baload, 1) := by decide +kernel
theorem dX3_strike_55 : decode cX3_strike 55 = .ok (.ifCond .eq 15, 3) := by decide +kernel
theorem dX3_strike_58 : decode cX3_strike 58 = .ok (.iload_n 2, 1) := by decide +kernel
theorem dX3_strike_59 : decode cX3_strike 59 = .ok (.aload_n 0, 1) := by decide +kernel
theorem dX3_strike_60 : decode cX3_strike 60 = .ok (.getfield 32, 3) := by decide +kernel
theorem dX3_strike_63 : decode cX3_strike 63 = .ok (.iload 4, 2) := by decide +kernel
theorem dX3_strike_65 : decode cX3_strike 65 = .ok (.iaload, 1) := by decide +kernel
theorem dX3_strike_66 : decode cX3_strike 66 = .ok (.isub, 1) := by decide +kernel
theorem dX3_strike_67 : decode cX3_strike 67 = .ok (.goto 4, 3) := by decide +kernel
theorem dX3_strike_70 : decode cX3_strike 70 = .ok (.iload_n 2, 1) := by decide +kernel
theorem dX3_strike_71 : decode cX3_strike 71 = .ok (.istore_n 3, 1) := by decide +kernel
theorem dX3_strike_72 : decode cX3_strike 72 = .ok (.aload_n 0, 1) := by decide +kernel
theorem dX3_strike_73 : decode cX3_strike 73 = .ok (.getfield 13, 3) := by decide +kernel
theorem dX3_strike_76 : decode cX3_strike 76 = .ok (.iload_n 1, 1) := by decide +kernel
theorem dX3_strike_77 : decode cX3_strike 77 = .ok (.iaload, 1) := by decide +kernel
theorem dX3_strike_78 : decode cX3_strike 78 = .ok (.istore 4, 2) := by decide +kernel
theorem dX3_strike_80 : decode cX3_strike 80 = .ok (.aload_n 0, 1) := by decide +kernel
theorem dX3_strike_81 : decode cX3_strike 81 = .ok (.getfield 9, 3) := by decide +kernel
theorem dX3_strike_84 : decode cX3_strike 84 = .ok (.iload_n 1, 1) := by decide +kernel
theorem dX3_strike_85 : decode cX3_strike 85 = .ok (.iaload, 1) := by decide +kernel
theorem dX3_strike_86 : decode cX3_strike 86 = .ok (.iload 4, 2) := by decide +kernel
theorem dX3_strike_88 : decode cX3_strike 88 = .ok (.imul, 1) := by decide +kernel
theorem dX3_strike_89 : decode cX3_strike 89 = .ok (.istore 5, 2) := by decide +kernel
theorem dX3_strike_91 : decode cX3_strike 91 = .ok (.iload_n 3, 1) := by decide +kernel
theorem dX3_strike_92 : decode cX3_strike 92 = .ok (.iload 5, 2) := by decide +kernel
theorem dX3_strike_94 : decode cX3_strike 94 = .ok (.irem, 1) := by decide +kernel
theorem dX3_strike_95 : decode cX3_strike 95 = .ok (.iload 4, 2) := by decide +kernel
theorem dX3_strike_97 : decode cX3_strike 97 = .ok (.idiv, 1) := by decide +kernel
theorem dX3_strike_98 : decode cX3_strike 98 = .ok (.istore 6, 2) := by decide +kernel
theorem dX3_strike_100 : decode cX3_strike 100 = .ok (.iload_n 1, 1) := by decide +kernel
theorem dX3_strike_101 : decode cX3_strike 101 = .ok (.iload 6, 2) := by decide +kernel
theorem dX3_strike_103 : decode cX3_strike 103 = .ok (.invokestatic 60, 3) := by decide +kernel
theorem dX3_strike_106 : decode cX3_strike 106 = .ok (.istore 7, 2) := by decide +kernel
theorem dX3_strike_108 : decode cX3_strike 108 = .ok (.aload_n 0, 1) := by decide +kernel
theorem dX3_strike_109 : decode cX3_strike 109 = .ok (.iload_n 1, 1) := by decide +kernel
theorem dX3_strike_110 : decode cX3_strike 110 = .ok (.iload 6, 2) := by decide +kernel
theorem dX3_strike_112 : decode cX3_strike 112 = .ok (.invokevirtual 76, 3) := by decide +kernel
theorem dX3_strike_115 : decode cX3_strike 115 = .ok (.istore 8, 2) := by decide +kernel
theorem dX3_strike_117 : decode cX3_strike 117 = .ok (.iload_n 3, 1) := by decide +kernel
theorem dX3_strike_118 : decode cX3_strike 118 = .ok (.iload 5, 2) := by decide +kernel
theorem dX3_strike_120 : decode cX3_strike 120 = .ok (.irem, 1) := by decide +kernel
theorem dX3_strike_121 : decode cX3_strike 121 = .ok (.iload 6, 2) := by decide +kernel
theorem dX3_strike_123 : decode cX3_strike 123 = .ok (.iload 4, 2) := by decide +kernel
theorem dX3_strike_125 : decode cX3_strike 125 = .ok (.imul, 1) := by decide +kernel
theorem dX3_strike_126 : decode cX3_strike 126 = .ok (.isub, 1) := by decide +kernel
theorem dX3_strike_127 : decode cX3_strike 127 = .ok (.istore 9, 2) := by decide +kernel
theorem dX3_strike_129 : decode cX3_strike 129 = .ok (.iload_n 3, 1) := by decide +kernel
theorem dX3_strike_130 : decode cX3_strike 130 = .ok (.iload 5, 2) := by decide +kernel
theorem dX3_strike_132 : decode cX3_strike 132 = .ok (.idiv, 1) := by decide +kernel
theorem dX3_strike_133 : decode cX3_strike 133 = .ok (.aload_n 0, 1) := by decide +kernel
theorem dX3_strike_134 : decode cX3_strike 134 = .ok (.getfield 29, 3) := by decide +kernel
theorem dX3_strike_137 : decode cX3_strike 137 = .ok (.iload 7, 2) := by decide +kernel
theorem dX3_strike_139 : decode cX3_strike 139 = .ok (.iconst 3, 1) := by decide +kernel
theorem dX3_strike_140 : decode cX3_strike 140 = .ok (.iadd, 1) := by decide +kernel
theorem dX3_strike_141 : decode cX3_strike 141 = .ok (.iaload, 1) := by decide +kernel
theorem dX3_strike_142 : decode cX3_strike 142 = .ok (.irem, 1) := by decide +kernel
theorem dX3_strike_143 : decode cX3_strike 143 = .ok (.aload_n 0, 1) := by decide +kernel
theorem dX3_strike_144 : decode cX3_strike 144 = .ok (.getfield 29, 3) := by decide +kernel
theorem dX3_strike_147 : decode cX3_strike 147 = .ok (.iload 7, 2) := by decide +kernel
theorem dX3_strike_149 : decode cX3_strike 149 = .ok (.iconst 2, 1) := by decide +kernel
theorem dX3_strike_150 : decode cX3_strike 150 = .ok (.iadd, 1) := by decide +kernel
theorem dX3_strike_151 : decode cX3_strike 151 = .ok (.iaload, 1) := by decide +kernel
theorem dX3_strike_152 : decode cX3_strike 152 = .ok (.if_icmp .eq 5, 3) := by decide +kernel
theorem dX3_strike_155 : decode cX3_strike 155 = .ok (.iconst 0, 1) := by decide +kernel
theorem dX3_strike_156 : decode cX3_strike 156 = .ok (.ireturn, 1) := by decide +kernel
theorem dX3_strike_157 : decode cX3_strike 157 = .ok (.iconst 0, 1) := by decide +kernel
theorem dX3_strike_158 : decode cX3_strike 158 = .ok (.istore 10, 2) := by decide +kernel
theorem dX3_strike_160 : decode cX3_strike 160 = .ok (.iconst 0, 1) := by decide +kernel
theorem dX3_strike_161 : decode cX3_strike 161 = .ok (.istore 11, 2) := by decide +kernel
theorem dX3_strike_163 : decode cX3_strike 163 = .ok (.iload 11, 2) := by decide +kernel
theorem dX3_strike_165 : decode cX3_strike 165 = .ok (.aload_n 0, 1) := by decide +kernel
theorem dX3_strike_166 : decode cX3_strike 166 = .ok (.getfield 29, 3) := by decide +kernel
theorem dX3_strike_169 : decode cX3_strike 169 = .ok (.iload 7, 2) := by decide +kernel
theorem dX3_strike_171 : decode cX3_strike 171 = .ok (.iconst 1, 1) := by decide +kernel
theorem dX3_strike_172 : decode cX3_strike 172 = .ok (.iadd, 1) := by decide +kernel
theorem dX3_strike_173 : decode cX3_strike 173 = .ok (.iaload, 1) := by decide +kernel
theorem dX3_strike_174 : decode cX3_strike 174 = .ok (.if_icmp .ge 47, 3) := by decide +kernel
theorem dX3_strike_177 : decode cX3_strike 177 = .ok (.iload 10, 2) := by decide +kernel
theorem dX3_strike_179 : decode cX3_strike 179 = .ok (.ifCond .ne 29, 3) := by decide +kernel
theorem dX3_strike_182 : decode cX3_strike 182 = .ok (.iload 9, 2) := by decide +kernel
theorem dX3_strike_184 : decode cX3_strike 184 = .ok (.iload 8, 2) := by decide +kernel
theorem dX3_strike_186 : decode cX3_strike 186 = .ok (.iload 11, 2) := by decide +kernel
theorem dX3_strike_188 : decode cX3_strike 188 = .ok (.iload 4, 2) := by decide +kernel
theorem dX3_strike_190 : decode cX3_strike 190 = .ok (.iload 8, 2) := by decide +kernel
theorem dX3_strike_192 : decode cX3_strike 192 = .ok (.isub, 1) := by decide +kernel
theorem dX3_strike_193 : decode cX3_strike 193 = .ok (.imul, 1) := by decide +kernel
theorem dX3_strike_194 : decode cX3_strike 194 = .ok (.aload_n 0, 1) := by decide +kernel
theorem dX3_strike_195 : decode cX3_strike 195 = .ok (.getfield 29, 3) := by decide +kernel
theorem dX3_strike_198 : decode cX3_strike 198 = .ok (.iload 7, 2) := by decide +kernel
theorem dX3_strike_200 : decode cX3_strike 200 = .ok (.iconst 1, 1) := by decide +kernel
theorem dX3_strike_201 : decode cX3_strike 201 = .ok (.iadd, 1) := by decide +kernel
theorem dX3_strike_202 : decode cX3_strike 202 = .ok (.iaload, 1) := by decide +kernel
theorem dX3_strike_203 : decode cX3_strike 203 = .ok (.idiv, 1) := by decide +kernel
theorem dX3_strike_204 : decode cX3_strike 204 = .ok (.iadd, 1) := by decide +kernel
theorem dX3_strike_205 : decode cX3_strike 205 = .ok (.if_icmp .ne 7, 3) := by decide +kernel
theorem dX3_strike_208 : decode cX3_strike 208 = .ok (.iconst 1, 1) := by decide +kernel
theorem dX3_strike_209 : decode cX3_strike 209 = .ok (.goto 4, 3) := by decide +kernel
theorem dX3_strike_212 : decode cX3_strike 212 = .ok (.iconst 0, 1) := by decide +kernel
theorem dX3_strike_213 : decode cX3_strike 213 = .ok (.istore 10, 2) := by decide +kernel
theorem dX3_strike_215 : decode cX3_strike 215 = .ok (.iinc 11 1, 3) := by decide +kernel
theorem dX3_strike_218 : decode cX3_strike 218 = .ok (.goto (-55), 3) := by decide +kernel
theorem dX3_strike_221 : decode cX3_strike 221 = .ok (.iload 10, 2) := by decide +kernel
theorem dX3_strike_223 : decode cX3_strike 223 = .ok (.ifCond .eq 15, 3) := by decide +kernel
theorem dX3_strike_226 : decode cX3_strike 226 = .ok (.aload_n 0, 1) := by decide +kernel
theorem dX3_strike_227 : decode cX3_strike 227 = .ok (.getfield 29, 3) := by decide +kernel
theorem dX3_strike_230 : decode cX3_strike 230 = .ok (.iload 7, 2) := by decide +kernel
theorem dX3_strike_232 : decode cX3_strike 232 = .ok (.iconst 0, 1) := by decide +kernel
theorem dX3_strike_233 : decode cX3_strike 233 = .ok (.iadd, 1) := by decide +kernel
theorem dX3_strike_234 : decode cX3_strike 234 = .ok (.iaload, 1) := by decide +kernel
theorem dX3_strike_235 : decode cX3_strike 235 = .ok (.goto 4, 3) := by decide +kernel
theorem dX3_strike_238 : decode cX3_strike 238 = .ok (.iconst 0, 1) := by decide +kernel
theorem dX3_strike_239 : decode cX3_strike 239 = .ok (.ireturn, 1) := by decide +kernel
theorem dX3_loud__0 : decode cX3_loud_ 0 = .ok (.aload_n 0, 1) := by decide +kernel
theorem dX3_loud__1 : decode cX3_loud_ 1 = .ok (.getfield 25, 3) := by decide +kernel
theorem dX3_loud__4 : decode cX3_loud_ 4 = .ok (.iconst 3, 1) := by decide +kernel
theorem dX3_loud__5 : decode cX3_loud_ 5 = .ok (.iload_n 1, 1) := by decide +kernel
theorem dX3_loud__6 : decode cX3_loud_ 6 = .ok (.imul, 1) := by decide +kernel
theorem dX3_loud__7 : decode cX3_loud_ 7 = .ok (.iconst 2, 1) := by decide +kernel
theorem dX3_loud__8 : decode cX3_loud_ 8 = .ok (.iadd, 1) := by decide +kernel
theorem dX3_loud__9 : decode cX3_loud_ 9 = .ok (.baload, 1) := by decide +kernel
theorem dX3_loud__10 : decode cX3_loud_ 10 = .ok (.ifCond .eq 7, 3) := by decide +kernel
theorem dX3_loud__13 : decode cX3_loud_ 13 = .ok (.iconst 0, 1) := by decide +kernel
theorem dX3_loud__14 : decode cX3_loud_ 14 = .ok (.goto 9, 3) := by decide +kernel
theorem dX3_loud__17 : decode cX3_loud_ 17 = .ok (.aload_n 0, 1) := by decide +kernel
theorem dX3_loud__18 : decode cX3_loud_ 18 = .ok (.iload_n 1, 1) := by decide +kernel
theorem dX3_loud__19 : decode cX3_loud_ 19 = .ok (.iload_n 2, 1) := by decide +kernel
theorem dX3_loud__20 : decode cX3_loud_ 20 = .ok (.invokevirtual 120, 3) := by decide +kernel
theorem dX3_loud__23 : decode cX3_loud_ 23 = .ok (.istore_n 3, 1) := by decide +kernel
theorem dX3_loud__24 : decode cX3_loud_ 24 = .ok (.iload_n 3, 1) := by decide +kernel
theorem dX3_loud__25 : decode cX3_loud_ 25 = .ok (.ifCond .ne 5, 3) := by decide +kernel
theorem dX3_loud__28 : decode cX3_loud_ 28 = .ok (.iconst 0, 1) := by decide +kernel
theorem dX3_loud__29 : decode cX3_loud_ 29 = .ok (.ireturn, 1) := by decide +kernel
theorem dX3_loud__30 : decode cX3_loud_ 30 = .ok (.iconst 0, 1) := by decide +kernel
theorem dX3_loud__31 : decode cX3_loud_ 31 = .ok (.istore 4, 2) := by decide +kernel
theorem dX3_loud__33 : decode cX3_loud_ 33 = .ok (.iconst 0, 1) := by decide +kernel
theorem dX3_loud__34 : decode cX3_loud_ 34 = .ok (.istore 5, 2) := by decide +kernel
theorem dX3_loud__36 : decode cX3_loud_ 36 = .ok (.iload 5, 2) := by decide +kernel
theorem dX3_loud__38 : decode cX3_loud_ 38 = .ok (.aload_n 0, 1) := by decide +kernel
theorem dX3_loud__39 : decode cX3_loud_ 39 = .ok (.getfield 48, 3) := by decide +kernel
theorem dX3_loud__42 : decode cX3_loud_ 42 = .ok (.if_icmp .ge 39, 3) := by decide +kernel
theorem dX3_loud__45 : decode cX3_loud_ 45 = .ok (.iload 4, 2) := by decide +kernel
theorem dX3_loud__47 : decode cX3_loud_ 47 = .ok (.aload_n 0, 1) := by decide +kernel
theorem dX3_loud__48 : decode cX3_loud_ 48 = .ok (.getfield 25, 3) := by decide +kernel
theorem dX3_loud__51 : decode cX3_loud_ 51 = .ok (.iconst 3, 1) := by decide +kernel
theorem dX3_loud__52 : decode cX3_loud_ 52 = .ok (.iload 5, 2) := by decide +kernel
theorem dX3_loud__54 : decode cX3_loud_ 54 = .ok (.imul, 1) := by decide +kernel
theorem dX3_loud__55 : decode cX3_loud_ 55 = .ok (.iconst 2, 1) := by decide +kernel
theorem dX3_loud__56 : decode cX3_loud_ 56 = .ok (.iadd, 1) := by decide +kernel
theorem dX3_loud__57 : decode cX3_loud_ 57 = .ok (.baload, 1) := by decide +kernel
theorem dX3_loud__58 : decode cX3_loud_ 58 = .ok (.ifCond .eq 13, 3) := by decide +kernel
theorem dX3_loud__61 : decode cX3_loud_ 61 = .ok (.aload_n 0, 1) := by decide +kernel
theorem dX3_loud__62 : decode cX3_loud_ 62 = .ok (.iload 5, 2) := by decide +kernel
theorem dX3_loud__64 : decode cX3_loud_ 64 = .ok (.iload_n 2, 1) := by decide +kernel
theorem dX3_loud__65 : decode cX3_loud_ 65 = .ok (.invokevirtual 120, 3) := by decide +kernel
theorem dX3_loud__68 : decode cX3_loud_ 68 = .ok (.goto 4, 3) := by decide +kernel
theorem dX3_loud__71 : decode cX3_loud_ 71 = .ok (.iconst 0, 1) := by decide +kernel
theorem dX3_loud__72 : decode cX3_loud_ 72 = .ok (.iadd, 1) := by decide +kernel
theorem dX3_loud__73 : decode cX3_loud_ 73 = .ok (.istore 4, 2) := by decide +kernel
theorem dX3_loud__75 : decode cX3_loud_ 75 = .ok (.iinc 5 1, 3) := by decide +kernel
theorem dX3_loud__78 : decode cX3_loud_ 78 = .ok (.goto (-42), 3) := by decide +kernel
theorem dX3_loud__81 : decode cX3_loud_ 81 = .ok (.bipush 127, 2) := by decide +kernel
theorem dX3_loud__83 : decode cX3_loud_ 83 = .ok (.iload_n 3, 1) := by decide +kernel
theorem dX3_loud__84 : decode cX3_loud_ 84 = .ok (.iload 4, 2) := by decide +kernel
theorem dX3_loud__86 : decode cX3_loud_ 86 = .ok (.iconst 4, 1) := by decide +kernel
theorem dX3_loud__87 : decode cX3_loud_ 87 = .ok (.idiv, 1) := by decide +kernel
theorem dX3_loud__88 : decode cX3_loud_ 88 = .ok (.iadd, 1) := by decide +kernel
theorem dX3_loud__89 : decode cX3_loud_ 89 = .ok (.invokestatic 103, 3) := by decide +kernel
theorem dX3_loud__92 : decode cX3_loud_ 92 = .ok (.ireturn, 1) := by decide +kernel
theorem dX3_hits_0 : decode cX3_hits 0 = .ok (.aload_n 0, 1) := by decide +kernel
theorem dX3_hits_1 : decode cX3_hits 1 = .ok (.getfield 25, 3) := by decide +kernel
theorem dX3_hits_4 : decode cX3_hits 4 = .ok (.iconst 3, 1) := by decide +kernel
theorem dX3_hits_5 : decode cX3_hits 5 = .ok (.iload_n 1, 1) := by decide +kernel
theorem dX3_hits_6 : decode cX3_hits 6 = .ok (.imul, 1) := by decide +kernel
theorem dX3_hits_7 : decode cX3_hits 7 = .ok (.iconst 2, 1) := by decide +kernel
theorem dX3_hits_8 : decode cX3_hits 8 = .ok (.iadd, 1) := by decide +kernel
theorem dX3_hits_9 : decode cX3_hits 9 = .ok (.baload, 1) := by decide +kernel
theorem dX3_hits_10 : decode cX3_hits 10 = .ok (.ifCond .ne 16, 3) := by decide +kernel
theorem dX3_hits_13 : decode cX3_hits 13 = .ok (.aload_n 0, 1) := by decide +kernel
theorem dX3_hits_14 : decode cX3_hits 14 = .ok (.iload_n 1, 1) := by decide +kernel
theorem dX3_hits_15 : decode cX3_hits 15 = .ok (.iload_n 2, 1) := by decide +kernel
theorem dX3_hits_16 : decode cX3_hits 16 = .ok (.invokevirtual 120, 3) := by decide +kernel
theorem dX3_hits_19 : decode cX3_hits 19 = .ok (.ifCond .le 7, 3) := by decide +kernel
theorem dX3_hits_22 : decode cX3_hits 22 = .ok (.iconst 1, 1) := by decide +kernel
theorem dX3_hits_23 : decode cX3_hits 23 = .ok (.goto 4, 3) := by decide +kernel
theorem dX3_hits_26 : decode cX3_hits 26 = .ok (.iconst 0, 1) := by decide +kernel
theorem dX3_hits_27 : decode cX3_hits 27 = .ok (.ireturn, 1) := by decide +kernel
theorem dX3_loudness_0 : decode cX3_loudness 0 = .ok (.aload_n 0, 1) := by decide +kernel
theorem dX3_loudness_1 : decode cX3_loudness 1 = .ok (.iconst 0, 1) := by decide +kernel
theorem dX3_loudness_2 : decode cX3_loudness 2 = .ok (.putfield 45, 3) := by decide +kernel
theorem dX3_loudness_5 : decode cX3_loudness 5 = .ok (.aload_n 0, 1) := by decide +kernel
theorem dX3_loudness_6 : decode cX3_loudness 6 = .ok (.iload_n 1, 1) := by decide +kernel
theorem dX3_loudness_7 : decode cX3_loudness 7 = .ok (.invokevirtual 55, 3) := by decide +kernel
theorem dX3_loudness_10 : decode cX3_loudness 10 = .ok (.ifCond .ne 9, 3) := by decide +kernel
theorem dX3_loudness_13 : decode cX3_loudness 13 = .ok (.aload_n 0, 1) := by decide +kernel
theorem dX3_loudness_14 : decode cX3_loudness 14 = .ok (.iconst 1, 1) := by decide +kernel
theorem dX3_loudness_15 : decode cX3_loudness 15 = .ok (.invokevirtual 64, 3) := by decide +kernel
theorem dX3_loudness_18 : decode cX3_loudness 18 = .ok (.ireturn, 1) := by decide +kernel
theorem dX3_loudness_19 : decode cX3_loudness 19 = .ok (.iload_n 2, 1) := by decide +kernel
theorem dX3_loudness_20 : decode cX3_loudness 20 = .ok (.invokestatic 100, 3) := by decide +kernel
theorem dX3_loudness_23 : decode cX3_loudness 23 = .ok (.ifCond .eq 12, 3) := by decide +kernel
theorem dX3_loudness_26 : decode cX3_loudness 26 = .ok (.aload_n 0, 1) := by decide +kernel
theorem dX3_loudness_27 : decode cX3_loudness 27 = .ok (.iload_n 1, 1) := by decide +kernel
theorem dX3_loudness_28 : decode cX3_loudness 28 = .ok (.iload_n 2, 1) := by decide +kernel
theorem dX3_loudness_29 : decode cX3_loudness 29 = .ok (.invokevirtual 123, 3) := by decide +kernel
theorem dX3_loudness_32 : decode cX3_loudness 32 = .ok (.goto 8, 3) := by decide +kernel
theorem dX3_loudness_35 : decode cX3_loudness 35 = .ok (.aload_n 0, 1) := by decide +kernel
theorem dX3_loudness_36 : decode cX3_loudness 36 = .ok (.iconst 2, 1) := by decide +kernel
theorem dX3_loudness_37 : decode cX3_loudness 37 = .ok (.invokevirtual 64, 3) := by decide +kernel
theorem dX3_loudness_40 : decode cX3_loudness 40 = .ok (.ireturn, 1) := by decide +kernel
theorem dX3_hits__0 : decode cX3_hits_ 0 = .ok (.aload_n 0, 1) := by decide +kernel
theorem dX3_hits__1 : decode cX3_hits_ 1 = .ok (.iconst 0, 1) := by decide +kernel
theorem dX3_hits__2 : decode cX3_hits_ 2 = .ok (.putfield 45, 3) := by decide +kernel
theorem dX3_hits__5 : decode cX3_hits_ 5 = .ok (.iload_n 1, 1) := by decide +kernel
theorem dX3_hits__6 : decode cX3_hits_ 6 = .ok (.invokestatic 100, 3) := by decide +kernel
theorem dX3_hits__9 : decode cX3_hits_ 9 = .ok (.ifCond .ne 9, 3) := by decide +kernel
theorem dX3_hits__12 : decode cX3_hits_ 12 = .ok (.aload_n 0, 1) := by decide +kernel
theorem dX3_hits__13 : decode cX3_hits_ 13 = .ok (.iconst 1, 1) := by decide +kernel
theorem dX3_hits__14 : decode cX3_hits_ 14 = .ok (.invokevirtual 64, 3) := by decide +kernel
theorem dX3_hits__17 : decode cX3_hits_ 17 = .ok (.ireturn, 1) := by decide +kernel
theorem dX3_hits__18 : decode cX3_hits_ 18 = .ok (.iconst 0, 1) := by decide +kernel
theorem dX3_hits__19 : decode cX3_hits_ 19 = .ok (.istore_n 2, 1) := by decide +kernel
theorem dX3_hits__20 : decode cX3_hits_ 20 = .ok (.iconst 0, 1) := by decide +kernel
theorem dX3_hits__21 : decode cX3_hits_ 21 = .ok (.istore_n 3, 1) := by decide +kernel
theorem dX3_hits__22 : decode cX3_hits_ 22 = .ok (.iload_n 3, 1) := by decide +kernel
theorem dX3_hits__23 : decode cX3_hits_ 23 = .ok (.aload_n 0, 1) := by decide +kernel
theorem dX3_hits__24 : decode cX3_hits_ 24 = .ok (.getfield 48, 3) := by decide +kernel
theorem dX3_hits__27 : decode cX3_hits_ 27 = .ok (.if_icmp .ge 24, 3) := by decide +kernel
theorem dX3_hits__30 : decode cX3_hits_ 30 = .ok (.aload_n 0, 1) := by decide +kernel
theorem dX3_hits__31 : decode cX3_hits_ 31 = .ok (.iload_n 3, 1) := by decide +kernel
theorem dX3_hits__32 : decode cX3_hits_ 32 = .ok (.iload_n 1, 1) := by decide +kernel
theorem dX3_hits__33 : decode cX3_hits_ 33 = .ok (.invokevirtual 125, 3) := by decide +kernel
theorem dX3_hits__36 : decode cX3_hits_ 36 = .ok (.ifCond .eq 9, 3) := by decide +kernel
theorem dX3_hits__39 : decode cX3_hits_ 39 = .ok (.iload_n 2, 1) := by decide +kernel
theorem dX3_hits__40 : decode cX3_hits_ 40 = .ok (.iconst 1, 1) := by decide +kernel
theorem dX3_hits__41 : decode cX3_hits_ 41 = .ok (.iload_n 3, 1) := by decide +kernel
theorem dX3_hits__42 : decode cX3_hits_ 42 = .ok (.ishl, 1) := by decide +kernel
theorem dX3_hits__43 : decode cX3_hits_ 43 = .ok (.ior, 1) := by decide +kernel
theorem dX3_hits__44 : decode cX3_hits_ 44 = .ok (.istore_n 2, 1) := by decide +kernel
theorem dX3_hits__45 : decode cX3_hits_ 45 = .ok (.iinc 3 1, 3) := by decide +kernel
theorem dX3_hits__48 : decode cX3_hits_ 48 = .ok (.goto (-26), 3) := by decide +kernel
theorem dX3_hits__51 : decode cX3_hits_ 51 = .ok (.iload_n 2, 1) := by decide +kernel
theorem dX3_hits__52 : decode cX3_hits_ 52 = .ok (.ireturn, 1) := by decide +kernel
theorem dX3_sounds_0 : decode cX3_sounds 0 = .ok (.iload_n 2, 1) := by decide +kernel
