theorem dX2_commonHits_42 : decode cX2_commonHits 42 = .ok (.iload 5, 2) := by decide +kernel
theorem dX2_commonHits_44 : decode cX2_commonHits 44 = .ok (.ireturn, 1) := by decide +kernel
theorem dX2_groupSet_0 : decode cX2_groupSet 0 = .ok (.iconst 0, 1) := by decide +kernel
theorem dX2_groupSet_1 : decode cX2_groupSet 1 = .ok (.istore_n 2, 1) := by decide +kernel
theorem dX2_groupSet_2 : decode cX2_groupSet 2 = .ok (.iconst 0, 1) := by decide +kernel
theorem dX2_groupSet_3 : decode cX2_groupSet 3 = .ok (.istore_n 3, 1) := by decide +kernel
theorem dX2_groupSet_4 : decode cX2_groupSet 4 = .ok (.iload_n 3, 1) := by decide +kernel
theorem dX2_groupSet_5 : decode cX2_groupSet 5 = .ok (.aload_n 0, 1) := by decide +kernel
theorem dX2_groupSet_6 : decode cX2_groupSet 6 = .ok (.getfield 15, 3) := by decide +kernel
theorem dX2_groupSet_9 : decode cX2_groupSet 9 = .ok (.if_icmp .ge 40, 3) := by decide +kernel
theorem dX2_groupSet_12 : decode cX2_groupSet 12 = .ok (.aload_n 0, 1) := by decide +kernel
theorem dX2_groupSet_13 : decode cX2_groupSet 13 = .ok (.iload_n 3, 1) := by decide +kernel
theorem dX2_groupSet_14 : decode cX2_groupSet 14 = .ok (.invokevirtual 146, 3) := by decide +kernel
theorem dX2_groupSet_17 : decode cX2_groupSet 17 = .ok (.astore 4, 2) := by decide +kernel
theorem dX2_groupSet_19 : decode cX2_groupSet 19 = .ok (.aload 4, 2) := by decide +kernel
theorem dX2_groupSet_21 : decode cX2_groupSet 21 = .ok (.ifnull 22, 3) := by decide +kernel
theorem dX2_groupSet_24 : decode cX2_groupSet 24 = .ok (.iload_n 1, 1) := by decide +kernel
theorem dX2_groupSet_25 : decode cX2_groupSet 25 = .ok (.ifCond .eq 18, 3) := by decide +kernel
theorem dX2_groupSet_28 : decode cX2_groupSet 28 = .ok (.aload 4, 2) := by decide +kernel
theorem dX2_groupSet_30 : decode cX2_groupSet 30 = .ok (.getfield 84, 3) := by decide +kernel
theorem dX2_groupSet_33 : decode cX2_groupSet 33 = .ok (.iload_n 1, 1) := by decide +kernel
theorem dX2_groupSet_34 : decode cX2_groupSet 34 = .ok (.if_icmp .ne 9, 3) := by decide +kernel
theorem dX2_groupSet_37 : decode cX2_groupSet 37 = .ok (.iload_n 2, 1) := by decide +kernel
theorem dX2_groupSet_38 : decode cX2_groupSet 38 = .ok (.iconst 1, 1) := by decide +kernel
theorem dX2_groupSet_39 : decode cX2_groupSet 39 = .ok (.iload_n 3, 1) := by decide +kernel
theorem dX2_groupSet_40 : decode cX2_groupSet 40 = .ok (.ishl, 1) := by decide +kernel
theorem dX2_groupSet_41 : decode cX2_groupSet 41 = .ok (.ior, 1) := by decide +kernel
theorem dX2_groupSet_42 : decode cX2_groupSet 42 = .ok (.istore_n 2, 1) := by decide +kernel
theorem dX2_groupSet_43 : decode cX2_groupSet 43 = .ok (.iinc 3 1, 3) := by decide +kernel
theorem dX2_groupSet_46 : decode cX2_groupSet 46 = .ok (.goto (-42), 3) := by decide +kernel
theorem dX2_groupSet_49 : decode cX2_groupSet 49 = .ok (.iload_n 2, 1) := by decide +kernel
theorem dX2_groupSet_50 : decode cX2_groupSet 50 = .ok (.ireturn, 1) := by decide +kernel
theorem dX2_isInSet_0 : decode cX2_isInSet 0 = .ok (.iload_n 0, 1) := by decide +kernel
theorem dX2_isInSet_1 : decode cX2_isInSet 1 = .ok (.iload_n 1, 1) := by decide +kernel
theorem dX2_isInSet_2 : decode cX2_isInSet 2 = .ok (.ishr, 1) := by decide +kernel
theorem dX2_isInSet_3 : decode cX2_isInSet 3 = .ok (.iconst 1, 1) := by decide +kernel
theorem dX2_isInSet_4 : decode cX2_isInSet 4 = .ok (.iand, 1) := by decide +kernel
theorem dX2_isInSet_5 : decode cX2_isInSet 5 = .ok (.iconst 1, 1) := by decide +kernel
theorem dX2_isInSet_6 : decode cX2_isInSet 6 = .ok (.if_icmp .ne 7, 3) := by decide +kernel
theorem dX2_isInSet_9 : decode cX2_isInSet 9 = .ok (.iconst 1, 1) := by decide +kernel
theorem dX2_isInSet_10 : decode cX2_isInSet 10 = .ok (.goto 4, 3) := by decide +kernel
theorem dX2_isInSet_13 : decode cX2_isInSet 13 = .ok (.iconst 0, 1) := by decide +kernel
theorem dX2_isInSet_14 : decode cX2_isInSet 14 = .ok (.ireturn, 1) := by decide +kernel
theorem dX2_quotient_0 : decode cX2_quotient 0 = .ok (.iload_n 1, 1) := by decide +kernel
theorem dX2_quotient_1 : decode cX2_quotient 1 = .ok (.ifCond .le 9, 3) := by decide +kernel
theorem dX2_quotient_4 : decode cX2_quotient 4 = .ok (.iload_n 0, 1) := by decide +kernel
theorem dX2_quotient_5 : decode cX2_quotient 5 = .ok (.iload_n 1, 1) := by decide +kernel
theorem dX2_quotient_6 : decode cX2_quotient 6 = .ok (.idiv, 1) := by decide +kernel
theorem dX2_quotient_7 : decode cX2_quotient 7 = .ok (.goto 4, 3) := by decide +kernel
theorem dX2_quotient_10 : decode cX2_quotient 10 = .ok (.iconst 0, 1) := by decide +kernel
theorem dX2_quotient_11 : decode cX2_quotient 11 = .ok (.ireturn, 1) := by decide +kernel
theorem dX2_rest_0 : decode cX2_rest 0 = .ok (.iload_n 1, 1) := by decide +kernel
theorem dX2_rest_1 : decode cX2_rest 1 = .ok (.ifCond .le 9, 3) := by decide +kernel
theorem dX2_rest_4 : decode cX2_rest 4 = .ok (.iload_n 0, 1) := by decide +kernel
theorem dX2_rest_5 : decode cX2_rest 5 = .ok (.iload_n 1, 1) := by decide +kernel
theorem dX2_rest_6 : decode cX2_rest 6 = .ok (.irem, 1) := by decide +kernel
theorem dX2_rest_7 : decode cX2_rest 7 = .ok (.goto 4, 3) := by decide +kernel
theorem dX2_rest_10 : decode cX2_rest 10 = .ok (.iconst 0, 1) := by decide +kernel
theorem dX2_rest_11 : decode cX2_rest 11 = .ok (.ireturn, 1) := by decide +kernel
theorem dX2_read_0 : decode cX2_read 0 = .ok (.iload_n 1, 1) := by decide +kernel
theorem dX2_read_1 : decode cX2_read 1 = .ok (.ifCond .lt 15, 3) := by decide +kernel
theorem dX2_read_4 : decode cX2_read 4 = .ok (.iload_n 1, 1) := by decide +kernel
theorem dX2_read_5 : decode cX2_read 5 = .ok (.aload_n 0, 1) := by decide +kernel
theorem dX2_read_6 : decode cX2_read 6 = .ok (.arraylength, 1) := by decide +kernel
theorem dX2_read_7 : decode cX2_read 7 = .ok (.if_icmp .ge 9, 3) := by decide +kernel
theorem dX2_read_10 : decode cX2_read 10 = .ok (.aload_n 0, 1) := by decide +kernel
theorem dX2_read_11 : decode cX2_read 11 = .ok (.iload_n 1, 1) := by decide +kernel
theorem dX2_read_12 : decode cX2_read 12 = .ok (.iaload, 1) := by decide +kernel
theorem dX2_read_13 : decode cX2_read 13 = .ok (.goto 4, 3) := by decide +kernel
theorem dX2_read_16 : decode cX2_read 16 = .ok (.iconst 0, 1) := by decide +kernel
theorem dX2_read_17 : decode cX2_read 17 = .ok (.ireturn, 1) := by decide +kernel
theorem dX2_write_0 : decode cX2_write 0 = .ok (.iload_n 1, 1) := by decide +kernel
theorem dX2_write_1 : decode cX2_write 1 = .ok (.ifCond .lt 13, 3) := by decide +kernel
theorem dX2_write_4 : decode cX2_write 4 = .ok (.iload_n 1, 1) := by decide +kernel
theorem dX2_write_5 : decode cX2_write 5 = .ok (.aload_n 0, 1) := by decide +kernel
theorem dX2_write_6 : decode cX2_write 6 = .ok (.arraylength, 1) := by decide +kernel
theorem dX2_write_7 : decode cX2_write 7 = .ok (.if_icmp .ge 7, 3) := by decide +kernel
theorem dX2_write_10 : decode cX2_write 10 = .ok (.aload_n 0, 1) := by decide +kernel
theorem dX2_write_11 : decode cX2_write 11 = .ok (.iload_n 1, 1) := by decide +kernel
theorem dX2_write_12 : decode cX2_write 12 = .ok (.iload_n 2, 1) := by decide +kernel
theorem dX2_write_13 : decode cX2_write 13 = .ok (.iastore, 1) := by decide +kernel
theorem dX2_write_14 : decode cX2_write 14 = .ok (.return_, 1) := by decide +kernel
theorem dX2_mix_0 : decode cX2_mix 0 = .ok (.lload_n 0, 1) := by decide +kernel
theorem dX2_mix_1 : decode cX2_mix 1 = .ok (.ldc2_w 250, 3) := by decide +kernel
theorem dX2_mix_4 : decode cX2_mix 4 = .ok (.lmul, 1) := by decide +kernel
theorem dX2_mix_5 : decode cX2_mix 5 = .ok (.lload_n 2, 1) := by decide +kernel
theorem dX2_mix_6 : decode cX2_mix 6 = .ok (.ladd, 1) := by decide +kernel
theorem dX2_mix_7 : decode cX2_mix 7 = .ok (.lreturn, 1) := by decide +kernel
