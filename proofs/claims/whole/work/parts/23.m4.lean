set_option maxHeartbeats 4000000 in
set_option maxRecDepth 100000 in
theorem kX1_copyStep_s (l : Launch) (D : va_G) (G : Nat → ClassId) (ta ca pa : Nat) (f : Nat → Int) (cn sn : Nat → Int32) (a b : Int) (hnd : [ta, ca, pa].Nodup) (ha1 : 0 ≤ a ∧ a ≤ 31) (hb1 : 0 ≤ b ∧ b ≤ 31) : Met l yX1_copyStep wsX1_copyStep ({ frames := 2, cells := 0, slots := 0, locals := 45 }) (zP [.ref ta, .ref pa, .int (zI (a)), .int (zI (b))] D G (fun H => va_P D vwCl [(ta, .inr (1, [.int (zI (f 1)), .int (zI (f 0)), .int (zI (f 2)), .int (zI (f 3)), .int (zI (f 4)), .int (zI (f 5)), .int (zI (f 6)), .int (zI (f 7)), .ref ca, .ref pa])), (ca, .inl (G 0, 128, .inl (cn))), (pa, .inl (G 0, 128, .inl (sn)))] H)) (zM none (fun H => va_P D vwCl [(ta, .inr (1, [.int (zI (f 1)), .int (zI (f 0)), .int (zI (f 2)), .int (zI (f 3)), .int (zI (f 4)), .int (zI (f 5)), .int (zI (f 6)), .int (zI (f 7)), .ref ca, .ref pa])), (ca, .inl (G 0, 128, .inl (xCpy sn cn a b 4))), (pa, .inl (G 0, 128, .inl (sn)))] H) (zA [ca])) 0 0 (zA [ca]) := by
  refine Met.ofW (cc := cX1_copyStep) (maxL := 5) (ret := none) (by decide) rfl ?_
  intro p e s m args below meth c s₁ B hml hv
  obtain ⟨hav, hP, hK, hN⟩ := hv
  have hx := B.exec
  have hb := B.bytes
  have hr := B.returns
  have hts := atoms_spec (ws := wsX1_copyStep) B.pre
  have hown : s.vm.findClass RX1 = some m.cls := findClass_of_methodNamed B.named
  have hlocks : meth.locks = false := B.notSynchronized
  have hS : va_S (zA [ca]) s.heap s.heap [] := va_S.rf
  have hnd' := hnd
  simp only [List.nodup_cons, List.mem_cons, List.not_mem_nil, or_false, List.nodup_nil, and_true, not_or, not_false_eq_true] at hnd'
  refine z_entry hav (Nat.le_of_ble_eq_true rfl) rfl (fun ls hl => ?_)
  have hl : lv_has ls 5 [(0, .ref ta), (1, .ref pa), (2, .int (zI (a))), (3, .int (zI (b)))] := hl
  refine lv_iconst (v := zI (0)) hx hb dX1_copyStep_0 rfl ?_
  refine lv_istore (lv' := [(4, .int (zI (0))), (0, .ref ta), (1, .ref pa), (2, .int (zI (a))), (3, .int (zI (b)))]) hx hb dX1_copyStep_1 hl (by decide) rfl (fun ls hl => ?_)
  have loop_3 : ∀ (fu : Nat) (j : Int), (0 ≤ j ∧ j ≤ 4) → 4 - j < (fu : Int) → ∀ (H : Heap) (locs : List Loc), va_P D vwCl [(ta, .inr (1, [.int (zI (f 1)), .int (zI (f 0)), .int (zI (f 2)), .int (zI (f 3)), .int (zI (f 4)), .int (zI (f 5)), .int (zI (f 6)), .int (zI (f 7)), .ref ca, .ref pa])), (ca, .inl (G 0, 128, .inl (xCpy sn cn a b j))), (pa, .inl (G 0, 128, .inl (sn)))] H → va_S (zA [ca]) s.heap H locs → ∀ (ls : Array Slot), lv_has ls 5 [(0, .ref ta), (1, .ref pa), (2, .int (zI (a))), (3, .int (zI (b))), (4, .int (zI (j)))] → W p l e (headSpec wsX1_copyStep ({ frames := 2, cells := 0, slots := 0, locals := 45 })).room s m args below meth c H locs 0 0 (MQ below (zM none (fun H => va_P D vwCl [(ta, .inr (1, [.int (zI (f 1)), .int (zI (f 0)), .int (zI (f 2)), .int (zI (f 3)), .int (zI (f 4)), .int (zI (f 5)), .int (zI (f 6)), .int (zI (f 7)), .ref ca, .ref pa])), (ca, .inl (G 0, 128, .inl (xCpy sn cn a b 4))), (pa, .inl (G 0, 128, .inl (sn)))] H) (zA [ca])) args s 0 0 (zA [ca])) (F0 m 3 ls []) := by
    intro fu
    induction fu with
    | zero =>
      intro j hj hm
      exfalso; omega
    | succ fu ih =>
      intro j hj hm H locs hP hS ls hl
      have ih_3 := ih
      refine lv_iload hx hb dX1_copyStep_3 (lv_at hl 4 rfl) ?_
      refine lv_iconst (v := zI (4)) hx hb dX1_copyStep_5 rfl ?_
      refine z_icmp_ge (tgt := 32) hx hb (by omega) dX1_copyStep_6 (by decide) (fun c_1 => ?_) (fun c_1 => ?_)
      · exact zm_vret hx hb hr hlocks hS (by rw [show j = 4 by omega] at hP; exact hP) dX1_copyStep_32
      · refine lv_aload_n hx hb dX1_copyStep_9 rfl (lv_at hl 0 rfl) ?_
        refine lv_iload_n hx hb dX1_copyStep_10 rfl (lv_at hl 3 rfl) ?_
        refine lv_iload hx hb dX1_copyStep_11 (lv_at hl 4 rfl) ?_
        refine lv_aload_n hx hb dX1_copyStep_13 rfl (lv_at hl 1 rfl) ?_
        refine lv_iload_n hx hb dX1_copyStep_14 rfl (lv_at hl 2 rfl) ?_
        refine lv_iconst (v := zI (4)) hx hb dX1_copyStep_15 rfl ?_
        refine z_imul hx hb dX1_copyStep_16 ?_
        refine lv_iload hx hb dX1_copyStep_17 (lv_at hl 4 rfl) ?_
        refine z_iadd hx hb dX1_copyStep_19 ?_
        refine z_call (va_runSN (As := [.ref pa, .int (zI (((a) * (4)) + (j)))]) (rest := [.int (zI (j)), .int (zI (b)), .ref ta]) ⟨hx, hb, hml, hown, hts⟩ (kX2_read l D G pa 128 (sn) (((a) * (4)) + (j)) (sn (a * 4 + j).toNat) (by omega) (by omega) (rfl)) ⟨va_cnB 2 hts gX1_copyStep_X2_read_n48 rfl rfl rfl (hN.1 (RX1, 48, yX2_read) (by decide +kernel)) (hts (.initialized RX2) (by decide +kernel)) (by decide +kernel) ⟨Nat.le_of_ble_eq_true rfl, Nat.le_of_ble_eq_true rfl⟩, hts (.static yX2_read) (by decide +kernel), trivial⟩ (zPreS hK hN (hP.sub [2] rfl)) rfl rfl hl.1 rfl (lv_room (Nat.le_of_ble_eq_true rfl)) dX1_copyStep_20 ⟨Nat.le_of_ble_eq_true rfl, Nat.le_of_ble_eq_true rfl⟩) ?_
        refine z_callM (va_runV (As := [.int (zI (b)), .int (zI (j)), .int (sn (a * 4 + j).toNat)]) (rest := []) ⟨hx, hb, hml, hown, hts⟩ (kX1_putCell l D G ta ca pa f (xCpy sn cn a b j) (b) (j) ((sn (a * 4 + j).toNat)) (by simp only [List.nodup_cons, List.mem_cons, List.not_mem_nil, or_false, List.nodup_nil, and_true, not_or, not_false_eq_true]; omega) (by omega) (by omega)) (cwV 3 hts gX1_copyStep_X1_putCell rfl rfl rfl (by decide +kernel) ⟨Nat.le_of_ble_eq_true rfl, Nat.le_of_ble_eq_true rfl⟩) (zPreV (va_recv hK hP (ci := 1) (q0 := 0) rfl rfl) hK hN (hP.sub [0, 1] rfl)) rfl rfl hl.1 rfl (lv_room (Nat.le_of_ble_eq_true rfl)) dX1_copyStep_23 ⟨Nat.le_of_ble_eq_true rfl, Nat.le_of_ble_eq_true rfl⟩) hS (by intro q hq9 hq; simp only [zA, zAn, List.mem_cons, List.not_mem_nil, or_false] at hq ⊢ <;> omega) (by intro q hq; simp only [zA, zAn, List.mem_cons, List.not_mem_nil, or_false] at hq ⊢ <;> omega) (fun H1 locs1 hp1 hz1 hk1 hS1 => ?_)
        have hP : va_P D vwCl [(ta, .inr (1, [.int (zI (f 1)), .int (zI (f 0)), .int (zI (f 2)), .int (zI (f 3)), .int (zI (f 4)), .int (zI (f 5)), .int (zI (f 6)), .int (zI (f 7)), .ref ca, .ref pa])), (ca, .inl (G 0, 128, .inl (upd (xCpy sn cn a b j) ((b) * 4 + j).toNat ((sn (a * 4 + j).toNat))))), (pa, .inl (G 0, 128, .inl (sn)))] H1 := z_merge hP hk1 (w1 := [(ta, .inr (1, [.int (zI (f 1)), .int (zI (f 0)), .int (zI (f 2)), .int (zI (f 3)), .int (zI (f 4)), .int (zI (f 5)), .int (zI (f 6)), .int (zI (f 7)), .ref ca, .ref pa])), (ca, .inl (G 0, 128, .inl (upd (xCpy sn cn a b j) ((b) * 4 + j).toNat ((sn (a * 4 + j).toNat)))))]) (wr := [(pa, .inl (G 0, 128, .inl (sn)))]) hp1 [2] rfl (by intro q hq; simp only [List.map, List.mem_cons, List.not_mem_nil, or_false] at hq ⊢ <;> omega) [0, 1, 2] rfl
        have hS := hS1
        clear hS1
        refine lv_iinc (v := zI (j + 1)) (lv' := [(4, .int (zI (j + 1))), (0, .ref ta), (1, .ref pa), (2, .int (zI (a))), (3, .int (zI (b)))]) hx hb dX1_copyStep_26 hl (k := 4) rfl (zI_add (j) (1)) (by decide) rfl (fun ls hl => ?_)
        refine lv_goto (tgt := 3) hx hb dX1_copyStep_29 (by decide) ?_
        exact ih_3 (j + 1) (by omega) (by omega) _ _ (by rw [← xCpy_s sn cn a b j hb1.1 hj.1 _ rfl]; exact hP) hS _ (lv_sub hl [1, 2, 3, 4, 0] rfl)
  exact loop_3 (5) (0) (by omega) (by omega) _ _ (by rw [xCpy_0]; exact hP) hS ls (lv_sub hl [1, 2, 3, 4, 0] rfl)

set_option maxHeartbeats 4000000 in
set_option maxRecDepth 100000 in
theorem kX1_copyStep_c (l : Launch) (D : va_G) (G : Nat → ClassId) (ta ca pa : Nat) (f : Nat → Int) (cn sn : Nat → Int32) (a b : Int) (hnd : [ta, ca, pa].Nodup) (ha1 : 0 ≤ a ∧ a ≤ 31) (hb1 : 0 ≤ b ∧ b ≤ 31) (hab : a ≠ b) : Met l yX1_copyStep wsX1_copyStep ({ frames := 2, cells := 0, slots := 0, locals := 45 }) (zP [.ref ta, .ref ca, .int (zI (a)), .int (zI (b))] D G (fun H => va_P D vwCl [(ta, .inr (1, [.int (zI (f 1)), .int (zI (f 0)), .int (zI (f 2)), .int (zI (f 3)), .int (zI (f 4)), .int (zI (f 5)), .int (zI (f 6)), .int (zI (f 7)), .ref ca, .ref pa])), (ca, .inl (G 0, 128, .inl (cn))), (pa, .inl (G 0, 128, .inl (sn)))] H)) (zM none (fun H => va_P D vwCl [(ta, .inr (1, [.int (zI (f 1)), .int (zI (f 0)), .int (zI (f 2)), .int (zI (f 3)), .int (zI (f 4)), .int (zI (f 5)), .int (zI (f 6)), .int (zI (f 7)), .ref ca, .ref pa])), (ca, .inl (G 0, 128, .inl (xCpy cn cn a b 4))), (pa, .inl (G 0, 128, .inl (sn)))] H) (zA [ca])) 0 0 (zA [ca]) := by
  refine Met.ofW (cc := cX1_copyStep) (maxL := 5) (ret := none) (by decide) rfl ?_
  intro p e s m args below meth c s₁ B hml hv
  obtain ⟨hav, hP, hK, hN⟩ := hv
  have hx := B.exec
  have hb := B.bytes
  have hr := B.returns
  have hts := atoms_spec (ws := wsX1_copyStep) B.pre
  have hown : s.vm.findClass RX1 = some m.cls := findClass_of_methodNamed B.named
  have hlocks : meth.locks = false := B.notSynchronized
  have hS : va_S (zA [ca]) s.heap s.heap [] := va_S.rf
  have hnd' := hnd
  simp only [List.nodup_cons, List.mem_cons, List.not_mem_nil, or_false, List.nodup_nil, and_true, not_or, not_false_eq_true] at hnd'
  refine z_entry hav (Nat.le_of_ble_eq_true rfl) rfl (fun ls hl => ?_)
  have hl : lv_has ls 5 [(0, .ref ta), (1, .ref ca), (2, .int (zI (a))), (3, .int (zI (b)))] := hl
  refine lv_iconst (v := zI (0)) hx hb dX1_copyStep_0 rfl ?_
  refine lv_istore (lv' := [(4, .int (zI (0))), (0, .ref ta), (1, .ref ca), (2, .int (zI (a))), (3, .int (zI (b)))]) hx hb dX1_copyStep_1 hl (by decide) rfl (fun ls hl => ?_)
  have loop_3 : ∀ (fu : Nat) (j : Int), (0 ≤ j ∧ j ≤ 4) → 4 - j < (fu : Int) → ∀ (H : Heap) (locs : List Loc), va_P D vwCl [(ta, .inr (1, [.int (zI (f 1)), .int (zI (f 0)), .int (zI (f 2)), .int (zI (f 3)), .int (zI (f 4)), .int (zI (f 5)), .int (zI (f 6)), .int (zI (f 7)), .ref ca, .ref pa])), (ca, .inl (G 0, 128, .inl (xCpy cn cn a b j))), (pa, .inl (G 0, 128, .inl (sn)))] H → va_S (zA [ca]) s.heap H locs → ∀ (ls : Array Slot), lv_has ls 5 [(0, .ref ta), (1, .ref ca), (2, .int (zI (a))), (3, .int (zI (b))), (4, .int (zI (j)))] → W p l e (headSpec wsX1_copyStep ({ frames := 2, cells := 0, slots := 0, locals := 45 })).room s m args below meth c H locs 0 0 (MQ below (zM none (fun H => va_P D vwCl [(ta, .inr (1, [.int (zI (f 1)), .int (zI (f 0)), .int (zI (f 2)), .int (zI (f 3)), .int (zI (f 4)), .int (zI (f 5)), .int (zI (f 6)), .int (zI (f 7)), .ref ca, .ref pa])), (ca, .inl (G 0, 128, .inl (xCpy cn cn a b 4))), (pa, .inl (G 0, 128, .inl (sn)))] H) (zA [ca])) args s 0 0 (zA [ca])) (F0 m 3 ls []) := by
    intro fu
    induction fu with
    | zero =>
      intro j hj hm
      exfalso; omega
    | succ fu ih =>
      intro j hj hm H locs hP hS ls hl
      have ih_3 := ih
      refine lv_iload hx hb dX1_copyStep_3 (lv_at hl 4 rfl) ?_
      refine lv_iconst (v := zI (4)) hx hb dX1_copyStep_5 rfl ?_
      refine z_icmp_ge (tgt := 32) hx hb (by omega) dX1_copyStep_6 (by decide) (fun c_1 => ?_) (fun c_1 => ?_)
      · exact zm_vret hx hb hr hlocks hS (by rw [show j = 4 by omega] at hP; exact hP) dX1_copyStep_32
      · refine lv_aload_n hx hb dX1_copyStep_9 rfl (lv_at hl 0 rfl) ?_
        refine lv_iload_n hx hb dX1_copyStep_10 rfl (lv_at hl 3 rfl) ?_
        refine lv_iload hx hb dX1_copyStep_11 (lv_at hl 4 rfl) ?_
        refine lv_aload_n hx hb dX1_copyStep_13 rfl (lv_at hl 1 rfl) ?_
        refine lv_iload_n hx hb dX1_copyStep_14 rfl (lv_at hl 2 rfl) ?_
        refine lv_iconst (v := zI (4)) hx hb dX1_copyStep_15 rfl ?_
        refine z_imul hx hb dX1_copyStep_16 ?_
        refine lv_iload hx hb dX1_copyStep_17 (lv_at hl 4 rfl) ?_
        refine z_iadd hx hb dX1_copyStep_19 ?_
        refine z_call (va_runSN (As := [.ref ca, .int (zI (((a) * (4)) + (j)))]) (rest := [.int (zI (j)), .int (zI (b)), .ref ta]) ⟨hx, hb, hml, hown, hts⟩ (kX2_read l D G ca 128 (xCpy cn cn a b j) (((a) * (4)) + (j)) (cn (a * 4 + j).toNat) (by omega) (by omega) (xCpy_out (by omega))) ⟨va_cnB 2 hts gX1_copyStep_X2_read_n48 rfl rfl rfl (hN.1 (RX1, 48, yX2_read) (by decide +kernel)) (hts (.initialized RX2) (by decide +kernel)) (by decide +kernel) ⟨Nat.le_of_ble_eq_true rfl, Nat.le_of_ble_eq_true rfl⟩, hts (.static yX2_read) (by decide +kernel), trivial⟩ (zPreS hK hN (hP.sub [1] rfl)) rfl rfl hl.1 rfl (lv_room (Nat.le_of_ble_eq_true rfl)) dX1_copyStep_20 ⟨Nat.le_of_ble_eq_true rfl, Nat.le_of_ble_eq_true rfl⟩) ?_
        refine z_callM (va_runV (As := [.int (zI (b)), .int (zI (j)), .int (cn (a * 4 + j).toNat)]) (rest := []) ⟨hx, hb, hml, hown, hts⟩ (kX1_putCell l D G ta ca pa f (xCpy cn cn a b j) (b) (j) ((cn (a * 4 + j).toNat)) (by simp only [List.nodup_cons, List.mem_cons, List.not_mem_nil, or_false, List.nodup_nil, and_true, not_or, not_false_eq_true]; omega) (by omega) (by omega)) (cwV 3 hts gX1_copyStep_X1_putCell rfl rfl rfl (by decide +kernel) ⟨Nat.le_of_ble_eq_true rfl, Nat.le_of_ble_eq_true rfl⟩) (zPreV (va_recv hK hP (ci := 1) (q0 := 0) rfl rfl) hK hN (hP.sub [0, 1] rfl)) rfl rfl hl.1 rfl (lv_room (Nat.le_of_ble_eq_true rfl)) dX1_copyStep_23 ⟨Nat.le_of_ble_eq_true rfl, Nat.le_of_ble_eq_true rfl⟩) hS (by intro q hq9 hq; simp only [zA, zAn, List.mem_cons, List.not_mem_nil, or_false] at hq ⊢ <;> omega) (by intro q hq; simp only [zA, zAn, List.mem_cons, List.not_mem_nil, or_false] at hq ⊢ <;> omega) (fun H1 locs1 hp1 hz1 hk1 hS1 => ?_)
        have hP : va_P D vwCl [(ta, .inr (1, [.int (zI (f 1)), .int (zI (f 0)), .int (zI (f 2)), .int (zI (f 3)), .int (zI (f 4)), .int (zI (f 5)), .int (zI (f 6)), .int (zI (f 7)), .ref ca, .ref pa])), (ca, .inl (G 0, 128, .inl (upd (xCpy cn cn a b j) ((b) * 4 + j).toNat ((cn (a * 4 + j).toNat))))), (pa, .inl (G 0, 128, .inl (sn)))] H1 := z_merge hP hk1 (w1 := [(ta, .inr (1, [.int (zI (f 1)), .int (zI (f 0)), .int (zI (f 2)), .int (zI (f 3)), .int (zI (f 4)), .int (zI (f 5)), .int (zI (f 6)), .int (zI (f 7)), .ref ca, .ref pa])), (ca, .inl (G 0, 128, .inl (upd (xCpy cn cn a b j) ((b) * 4 + j).toNat ((cn (a * 4 + j).toNat)))))]) (wr := [(pa, .inl (G 0, 128, .inl (sn)))]) hp1 [2] rfl (by intro q hq; simp only [List.map, List.mem_cons, List.not_mem_nil, or_false] at hq ⊢ <;> omega) [0, 1, 2] rfl
        have hS := hS1
        clear hS1
        refine lv_iinc (v := zI (j + 1)) (lv' := [(4, .int (zI (j + 1))), (0, .ref ta), (1, .ref ca), (2, .int (zI (a))), (3, .int (zI (b)))]) hx hb dX1_copyStep_26 hl (k := 4) rfl (zI_add (j) (1)) (by decide) rfl (fun ls hl => ?_)
        refine lv_goto (tgt := 3) hx hb dX1_copyStep_29 (by decide) ?_
        exact ih_3 (j + 1) (by omega) (by omega) _ _ (by rw [← xCpy_s cn cn a b j hb1.1 hj.1 _ rfl]; exact hP) hS _ (lv_sub hl [1, 2, 3, 4, 0] rfl)
  exact loop_3 (5) (0) (by omega) (by omega) _ _ (by rw [xCpy_0]; exact hP) hS ls (lv_sub hl [1, 2, 3, 4, 0] rfl)

set_option maxHeartbeats 4000000 in
set_option maxRecDepth 100000 in
theorem kX1_resize (l : Launch) (D : va_G) (G : Nat → ClassId) (ta ca pa : Nat) (f : Nat → Int) (cn sn : Nat → Int32) (n : Int) (hnd : [ta, ca, pa].Nodup) (hf0 : 1 ≤ f 0 ∧ f 0 ≤ 32) (hn : 1 ≤ n ∧ n ≤ 32) : Met l yX1_resize wsX1_resize ({ frames := 3, cells := 0, slots := 0, locals := 69 }) (zP [.ref ta, .int (zI (n))] D G (fun H => va_P D vwCl [(ta, .inr (1, [.int (zI (f 1)), .int (zI (f 0)), .int (zI (f 2)), .int (zI (f 3)), .int (zI (f 4)), .int (zI (f 5)), .int (zI (f 6)), .int (zI (f 7)), .ref ca, .ref pa])), (ca, .inl (G 0, 128, .inl (cn))), (pa, .inl (G 0, 128, .inl (sn)))] H)) (zM none (fun H => ∃ dn : Nat → Int32, va_P D vwCl [(ta, .inr (1, [.int (zI (f 1)), .int (zI (n)), .int (zI (f 2)), .int (zI (f 3)), .int (zI (f 4)), .int (zI (f 5)), .int (zI (f 6)), .int (zI (f 7)), .ref ca, .ref pa])), (ca, .inl (G 0, 128, .inl (dn))), (pa, .inl (G 0, 128, .inl (sn)))] H ∧ ∀ k w : Int, 0 ≤ k → k < n → 0 ≤ w → w < 4 → dn (4 * k + w).toNat = cn (4 * (k % f 0) + w).toNat) (zA [ta, ca, pa])) 0 0 (zA [ta, ca, pa]) := by
  refine Met.ofW (cc := cX1_resize) (maxL := 3) (ret := none) (by decide) rfl ?_
  intro p e s m args below meth c s₁ B hml hv
  obtain ⟨hav, hP, hK, hN⟩ := hv
  have hx := B.exec
  have hb := B.bytes
  have hr := B.returns
  have hts := atoms_spec (ws := wsX1_resize) B.pre
  have hown : s.vm.findClass RX1 = some m.cls := findClass_of_methodNamed B.named
  have hlocks : meth.locks = false := B.notSynchronized
  have hin1 : ∀ w ∈ u_ws RX1 TX1 10, w ∈ wsX1_resize := by decide +kernel
  have hS : va_S (zA [ta, ca, pa]) s.heap s.heap [] := va_S.rf
  have hnd' := hnd
  simp only [List.nodup_cons, List.mem_cons, List.not_mem_nil, or_false, List.nodup_nil, and_true, not_or, not_false_eq_true] at hnd'
  have hD : va_D (zA [ta, ca, pa]) [(ta, .inr (1, [.int (zI (f 1)), .int (zI (f 0)), .int (zI (f 2)), .int (zI (f 3)), .int (zI (f 4)), .int (zI (f 5)), .int (zI (f 6)), .int (zI (f 7)), .ref ca, .ref pa])), (ca, .inl (G 0, 128, .inl (cn))), (pa, .inl (G 0, 128, .inl (sn)))] := z_Dof hnd rfl
  refine z_entry hav (Nat.le_of_ble_eq_true rfl) rfl (fun ls hl => ?_)
  have hl : lv_has ls 3 [(0, .ref ta), (1, .int (zI (n)))] := hl
  refine lv_aload_n hx hb dX1_resize_0 rfl (lv_at hl 0 rfl) ?_
  refine va_get (D := D) (ci := 1) (v := .int (zI (f 0))) (C := RX1) (T := TX1) (N := 10) hx hb hts hin1 hown hK hP 0 rfl rfl 1 (by decide) (hts (.fieldLink RX1 38 "PolyDrums$Track" "steps" "I") (by decide +kernel)) (fun _ h9 => h9) rfl dX1_resize_1 ?_
  refine lv_istore_n (lv' := [(2, .int (zI (f 0))), (0, .ref ta), (1, .int (zI (n)))]) hx hb dX1_resize_4 rfl hl (by decide) rfl (fun ls hl => ?_)
  have loop_5 : ∀ (fu : Nat) (k : Int) (dn : Nat → Int32), (f 0 ≤ k ∧ (k ≤ f 0 ∨ k ≤ n)) → (∀ t w : Int, 0 ≤ t → t < k → 0 ≤ w → w < 4 → dn (4 * t + w).toNat = cn (4 * (t % f 0) + w).toNat) → n + 40 - k < (fu : Int) → ∀ (H : Heap) (locs : List Loc), va_P D vwCl [(ta, .inr (1, [.int (zI (f 1)), .int (zI (f 0)), .int (zI (f 2)), .int (zI (f 3)), .int (zI (f 4)), .int (zI (f 5)), .int (zI (f 6)), .int (zI (f 7)), .ref ca, .ref pa])), (ca, .inl (G 0, 128, .inl (dn))), (pa, .inl (G 0, 128, .inl (sn)))] H → va_S (zA [ta, ca, pa]) s.heap H locs → ∀ (ls : Array Slot), lv_has ls 3 [(0, .ref ta), (1, .int (zI (n))), (2, .int (zI (k)))] → W p l e (headSpec wsX1_resize ({ frames := 3, cells := 0, slots := 0, locals := 69 })).room s m args below meth c H locs 0 0 (MQ below (zM none (fun H => ∃ dn : Nat → Int32, va_P D vwCl [(ta, .inr (1, [.int (zI (f 1)), .int (zI (n)), .int (zI (f 2)), .int (zI (f 3)), .int (zI (f 4)), .int (zI (f 5)), .int (zI (f 6)), .int (zI (f 7)), .ref ca, .ref pa])), (ca, .inl (G 0, 128, .inl (dn))), (pa, .inl (G 0, 128, .inl (sn)))] H ∧ ∀ k w : Int, 0 ≤ k → k < n → 0 ≤ w → w < 4 → dn (4 * k + w).toNat = cn (4 * (k % f 0) + w).toNat) (zA [ta, ca, pa])) args s 0 0 (zA [ta, ca, pa])) (F0 m 5 ls []) := by
    intro fu
    induction fu with
    | zero =>
      intro k dn hk0 hd hm
      exfalso; omega
    | succ fu ih =>
      intro k dn hk0 hd hm H locs hP hS ls hl
      have hD : va_D (zA [ta, ca, pa]) [(ta, .inr (1, [.int (zI (f 1)), .int (zI (f 0)), .int (zI (f 2)), .int (zI (f 3)), .int (zI (f 4)), .int (zI (f 5)), .int (zI (f 6)), .int (zI (f 7)), .ref ca, .ref pa])), (ca, .inl (G 0, 128, .inl (dn))), (pa, .inl (G 0, 128, .inl (sn)))] := z_Dof hnd rfl
      have ih_5 := ih
      refine lv_iload_n hx hb dX1_resize_5 rfl (lv_at hl 2 rfl) ?_
      refine lv_iload_n hx hb dX1_resize_6 rfl (lv_at hl 1 rfl) ?_
      refine z_icmp_ge (tgt := 31) hx hb (by omega) dX1_resize_7 (by decide) (fun c_1 => ?_) (fun c_1 => ?_)
      · refine lv_aload_n hx hb dX1_resize_31 rfl (lv_at hl 0 rfl) ?_
        refine lv_iload_n hx hb dX1_resize_32 rfl (lv_at hl 1 rfl) ?_
        refine va_put (D := D) (ci := 1) (v := .int (zI (n))) (ty := .int) (C := RX1) (T := TX1) (N := 10) hx hb hts hin1 tyX1 tyX1_ok nmX1 hown hK hP hD hS 0 rfl rfl 1 (by decide) (hts (.fieldLink RX1 38 "PolyDrums$Track" "steps" "I") (by decide +kernel)) (fun _ h9 => h9) rfl (by decide +kernel) rfl rfl (Nat.le_of_ble_eq_true rfl) dX1_resize_33 (fun H locs hP hD hS => ?_)
        have hP : va_P D vwCl [(ta, .inr (1, [.int (zI (f 1)), .int (zI (n)), .int (zI (f 2)), .int (zI (f 3)), .int (zI (f 4)), .int (zI (f 5)), .int (zI (f 6)), .int (zI (f 7)), .ref ca, .ref pa])), (ca, .inl (G 0, 128, .inl (dn))), (pa, .inl (G 0, 128, .inl (sn)))] H := hP
        have hD : va_D (zA [ta, ca, pa]) [(ta, .inr (1, [.int (zI (f 1)), .int (zI (n)), .int (zI (f 2)), .int (zI (f 3)), .int (zI (f 4)), .int (zI (f 5)), .int (zI (f 6)), .int (zI (f 7)), .ref ca, .ref pa])), (ca, .inl (G 0, 128, .inl (dn))), (pa, .inl (G 0, 128, .inl (sn)))] := hD
        exact zm_vret hx hb hr hlocks hS (⟨dn, hP, fun t w h1 h2 h3 h4 => hd t w h1 (by omega) h3 h4⟩) dX1_resize_36
      · refine lv_aload_n hx hb dX1_resize_10 rfl (lv_at hl 0 rfl) ?_
        refine lv_aload_n hx hb dX1_resize_11 rfl (lv_at hl 0 rfl) ?_
        refine va_get (D := D) (ci := 1) (v := .ref ca) (C := RX1) (T := TX1) (N := 10) hx hb hts hin1 hown hK hP 0 rfl rfl 8 (by decide) (hts (.fieldLink RX1 31 "PolyDrums$Track" "cells" "[I") (by decide +kernel)) (fun _ h9 => h9) rfl dX1_resize_12 ?_
        refine lv_iload_n hx hb dX1_resize_15 rfl (lv_at hl 2 rfl) ?_
        refine lv_aload_n hx hb dX1_resize_16 rfl (lv_at hl 0 rfl) ?_
        refine va_get (D := D) (ci := 1) (v := .int (zI (f 0))) (C := RX1) (T := TX1) (N := 10) hx hb hts hin1 hown hK hP 0 rfl rfl 1 (by decide) (hts (.fieldLink RX1 38 "PolyDrums$Track" "steps" "I") (by decide +kernel)) (fun _ h9 => h9) rfl dX1_resize_17 ?_
        refine z_isub hx hb dX1_resize_20 ?_
        refine lv_iload_n hx hb dX1_resize_21 rfl (lv_at hl 2 rfl) ?_
        refine z_callM (va_runV (As := [.ref ca, .int (zI ((k) - (f 0))), .int (zI (k))]) (rest := []) ⟨hx, hb, hml, hown, hts⟩ (kX1_copyStep_c l D G ta ca pa f (dn) (sn) ((k) - (f 0)) (k) (by simp only [List.nodup_cons, List.mem_cons, List.not_mem_nil, or_false, List.nodup_nil, and_true, not_or, not_false_eq_true]; omega) (by omega) (by omega) (by omega)) (cwV 3 hts gX1_resize_X1_copyStep rfl rfl rfl (by decide +kernel) ⟨Nat.le_of_ble_eq_true rfl, Nat.le_of_ble_eq_true rfl⟩) (zPreV (va_recv hK hP (ci := 1) (q0 := 0) rfl rfl) hK hN (hP.sub [0, 1, 2] rfl)) rfl rfl hl.1 rfl (lv_room (Nat.le_of_ble_eq_true rfl)) dX1_resize_22 ⟨Nat.le_of_ble_eq_true rfl, Nat.le_of_ble_eq_true rfl⟩) hS (by intro q hq9 hq; simp only [zA, zAn, List.mem_cons, List.not_mem_nil, or_false] at hq ⊢ <;> omega) (by intro q hq; simp only [zA, zAn, List.mem_cons, List.not_mem_nil, or_false] at hq ⊢ <;> omega) (fun H1 locs1 hp1 hz1 hk1 hS1 => ?_)
        have hP : va_P D vwCl [(ta, .inr (1, [.int (zI (f 1)), .int (zI (f 0)), .int (zI (f 2)), .int (zI (f 3)), .int (zI (f 4)), .int (zI (f 5)), .int (zI (f 6)), .int (zI (f 7)), .ref ca, .ref pa])), (ca, .inl (G 0, 128, .inl (xCpy (dn) (dn) ((k) - (f 0)) (k) 4))), (pa, .inl (G 0, 128, .inl (sn)))] H1 := z_merge hP hk1 (w1 := [(ta, .inr (1, [.int (zI (f 1)), .int (zI (f 0)), .int (zI (f 2)), .int (zI (f 3)), .int (zI (f 4)), .int (zI (f 5)), .int (zI (f 6)), .int (zI (f 7)), .ref ca, .ref pa])), (ca, .inl (G 0, 128, .inl (xCpy (dn) (dn) ((k) - (f 0)) (k) 4))), (pa, .inl (G 0, 128, .inl (sn)))]) (wr := []) hp1 [] rfl (by intro q hq; simp only [List.map, List.mem_cons, List.not_mem_nil, or_false] at hq ⊢ <;> omega) [0, 1, 2] rfl
        have hS := hS1
        clear hS1
        refine lv_iinc (v := zI (k + 1)) (lv' := [(2, .int (zI (k + 1))), (0, .ref ta), (1, .int (zI (n)))]) hx hb dX1_resize_25 hl (k := 2) rfl (zI_add (k) (1)) (by decide) rfl (fun ls hl => ?_)
        refine lv_goto (tgt := 5) hx hb dX1_resize_28 (by decide) ?_
        exact ih_5 (k + 1) (xCpy (dn) (dn) ((k) - (f 0)) (k) 4) (by omega) (x_resz hd hk0.1 hf0.1) (by omega) _ _ (hP) hS _ (lv_sub hl [1, 2, 0] rfl)
  exact loop_5 (n.toNat + 80) (f 0) (cn) (by omega) (fun t w h1 h2 _ _ => by rw [Int.emod_eq_of_lt h1 h2]) (by omega) _ _ (hP) hS ls (lv_sub hl [1, 2, 0] rfl)

set_option maxHeartbeats 4000000 in
set_option maxRecDepth 100000 in
theorem kX1_moveSteps (l : Launch) (D : va_G) (G : Nat → ClassId) (ta ca pa : Nat) (f : Nat → Int) (cn sn : Nat → Int32) (q : Int) (hnd : [ta, ca, pa].Nodup) (hf0 : 1 ≤ f 0 ∧ f 0 ≤ 32) (hq : 0 ≤ q ∧ q ≤ 31) : Met l yX1_moveSteps wsX1_moveSteps ({ frames := 3, cells := 0, slots := 0, locals := 69 }) (zP [.ref ta, .int (zI (q))] D G (fun H => va_P D vwCl [(ta, .inr (1, [.int (zI (f 1)), .int (zI (f 0)), .int (zI (f 2)), .int (zI (f 3)), .int (zI (f 4)), .int (zI (f 5)), .int (zI (f 6)), .int (zI (f 7)), .ref ca, .ref pa])), (ca, .inl (G 0, 128, .inl (cn))), (pa, .inl (G 0, 128, .inl (sn)))] H)) (zM none (fun H => ∃ dn en : Nat → Int32, va_P D vwCl [(ta, .inr (1, [.int (zI (f 1)), .int (zI (f 0)), .int (zI (f 2)), .int (zI (f 3)), .int (zI (f 4)), .int (zI (f 5)), .int (zI (f 6)), .int (zI (f 7)), .ref ca, .ref pa])), (ca, .inl (G 0, 128, .inl (dn))), (pa, .inl (G 0, 128, .inl (en)))] H ∧ ∀ k w : Int, 0 ≤ k → k < f 0 → 0 ≤ w → w < 4 → dn (4 * ((k + q) % f 0) + w).toNat = cn (4 * k + w).toNat) (zA [ta, ca, pa])) 0 0 (zA [ta, ca, pa]) := by
  refine Met.ofW (cc := cX1_moveSteps) (maxL := 3) (ret := none) (by decide) rfl ?_
  intro p e s m args below meth c s₁ B hml hv
  obtain ⟨hav, hP, hK, hN⟩ := hv
  have hx := B.exec
  have hb := B.bytes
  have hr := B.returns
  have hts := atoms_spec (ws := wsX1_moveSteps) B.pre
  have hown : s.vm.findClass RX1 = some m.cls := findClass_of_methodNamed B.named
  have hlocks : meth.locks = false := B.notSynchronized
  have hin1 : ∀ w ∈ u_ws RX1 TX1 10, w ∈ wsX1_moveSteps := by decide +kernel
  have hS : va_S (zA [ta, ca, pa]) s.heap s.heap [] := va_S.rf
  have hnd' := hnd
  simp only [List.nodup_cons, List.mem_cons, List.not_mem_nil, or_false, List.nodup_nil, and_true, not_or, not_false_eq_true] at hnd'
  have hD : va_D (zA [ta, ca, pa]) [(ta, .inr (1, [.int (zI (f 1)), .int (zI (f 0)), .int (zI (f 2)), .int (zI (f 3)), .int (zI (f 4)), .int (zI (f 5)), .int (zI (f 6)), .int (zI (f 7)), .ref ca, .ref pa])), (ca, .inl (G 0, 128, .inl (cn))), (pa, .inl (G 0, 128, .inl (sn)))] := z_Dof hnd rfl
  refine z_entry hav (Nat.le_of_ble_eq_true rfl) rfl (fun ls hl => ?_)
  have hl : lv_has ls 3 [(0, .ref ta), (1, .int (zI (q)))] := hl
  refine lv_aload_n hx hb dX1_moveSteps_0 rfl (lv_at hl 0 rfl) ?_
  refine va_get (D := D) (ci := 1) (v := .ref ca) (C := RX1) (T := TX1) (N := 10) hx hb hts hin1 hown hK hP 0 rfl rfl 8 (by decide) (hts (.fieldLink RX1 31 "PolyDrums$Track" "cells" "[I") (by decide +kernel)) (fun _ h9 => h9) rfl dX1_moveSteps_1 ?_
  refine lv_iconst (v := zI (0)) hx hb dX1_moveSteps_4 rfl ?_
  refine lv_aload_n hx hb dX1_moveSteps_5 rfl (lv_at hl 0 rfl) ?_
  refine va_get (D := D) (ci := 1) (v := .ref pa) (C := RX1) (T := TX1) (N := 10) hx hb hts hin1 hown hK hP 0 rfl rfl 9 (by decide) (hts (.fieldLink RX1 35 "PolyDrums$Track" "spare" "[I") (by decide +kernel)) (fun _ h9 => h9) rfl dX1_moveSteps_6 ?_
  refine lv_iconst (v := zI (0)) hx hb dX1_moveSteps_9 rfl ?_
  refine lv_sipush (v := zI (128)) hx hb dX1_moveSteps_10 (by decide) ?_
  refine va_copyi (D := D) (ty := .int) hx hb (hml.trans hl.1.symm) hown (hts (.methodLink RX1 64 arraycopyName) (by decide +kernel)) (hts (.native arraycopyName) (by decide +kernel)) (hts (.static arraycopyName) (by decide +kernel)) (hts (.initialized "java/lang/System") (by decide +kernel)) hK hP hD hS 1 2 0 0 rfl rfl rfl rfl rfl (by decide) (by decide) (by decide) (by decide) (by decide) (fun _ _ => rfl) (Nat.le_of_ble_eq_true rfl) (Nat.le_of_ble_eq_true rfl) dX1_moveSteps_13 (fun H locs hP hD hS => ?_)
  have hP : va_P D vwCl [(ta, .inr (1, [.int (zI (f 1)), .int (zI (f 0)), .int (zI (f 2)), .int (zI (f 3)), .int (zI (f 4)), .int (zI (f 5)), .int (zI (f 6)), .int (zI (f 7)), .ref ca, .ref pa])), (ca, .inl (G 0, 128, .inl (cn))), (pa, .inl (G 0, 128, .inl (va_cpy (cn) (sn) 0 0 128)))] H := hP
  have hD : va_D (zA [ta, ca, pa]) [(ta, .inr (1, [.int (zI (f 1)), .int (zI (f 0)), .int (zI (f 2)), .int (zI (f 3)), .int (zI (f 4)), .int (zI (f 5)), .int (zI (f 6)), .int (zI (f 7)), .ref ca, .ref pa])), (ca, .inl (G 0, 128, .inl (cn))), (pa, .inl (G 0, 128, .inl (va_cpy (cn) (sn) 0 0 128)))] := hD
  refine lv_iconst (v := zI (0)) hx hb dX1_moveSteps_16 rfl ?_
  refine lv_istore_n (lv' := [(2, .int (zI (0))), (0, .ref ta), (1, .int (zI (q)))]) hx hb dX1_moveSteps_17 rfl hl (by decide) rfl (fun ls hl => ?_)
  have loop_18 : ∀ (fu : Nat) (k : Int) (dn : Nat → Int32), (0 ≤ k ∧ k ≤ f 0) → (∀ t w : Int, 0 ≤ t → t < k → 0 ≤ w → w < 4 → dn (4 * ((t + q) % f 0) + w).toNat = cn (4 * t + w).toNat) → f 0 - k < (fu : Int) → ∀ (H : Heap) (locs : List Loc), va_P D vwCl [(ta, .inr (1, [.int (zI (f 1)), .int (zI (f 0)), .int (zI (f 2)), .int (zI (f 3)), .int (zI (f 4)), .int (zI (f 5)), .int (zI (f 6)), .int (zI (f 7)), .ref ca, .ref pa])), (ca, .inl (G 0, 128, .inl (dn))), (pa, .inl (G 0, 128, .inl (va_cpy cn sn 0 0 128)))] H → va_S (zA [ta, ca, pa]) s.heap H locs → ∀ (ls : Array Slot), lv_has ls 3 [(0, .ref ta), (1, .int (zI (q))), (2, .int (zI (k)))] → W p l e (headSpec wsX1_moveSteps ({ frames := 3, cells := 0, slots := 0, locals := 69 })).room s m args below meth c H locs 0 0 (MQ below (zM none (fun H => ∃ dn en : Nat → Int32, va_P D vwCl [(ta, .inr (1, [.int (zI (f 1)), .int (zI (f 0)), .int (zI (f 2)), .int (zI (f 3)), .int (zI (f 4)), .int (zI (f 5)), .int (zI (f 6)), .int (zI (f 7)), .ref ca, .ref pa])), (ca, .inl (G 0, 128, .inl (dn))), (pa, .inl (G 0, 128, .inl (en)))] H ∧ ∀ k w : Int, 0 ≤ k → k < f 0 → 0 ≤ w → w < 4 → dn (4 * ((k + q) % f 0) + w).toNat = cn (4 * k + w).toNat) (zA [ta, ca, pa])) args s 0 0 (zA [ta, ca, pa])) (F0 m 18 ls []) := by
    intro fu
    induction fu with
    | zero =>
      intro k dn hk0 hd hm
      exfalso; omega
    | succ fu ih =>
      intro k dn hk0 hd hm H locs hP hS ls hl
      have hD : va_D (zA [ta, ca, pa]) [(ta, .inr (1, [.int (zI (f 1)), .int (zI (f 0)), .int (zI (f 2)), .int (zI (f 3)), .int (zI (f 4)), .int (zI (f 5)), .int (zI (f 6)), .int (zI (f 7)), .ref ca, .ref pa])), (ca, .inl (G 0, 128, .inl (dn))), (pa, .inl (G 0, 128, .inl (va_cpy cn sn 0 0 128)))] := z_Dof hnd rfl
      have ih_18 := ih
      refine lv_iload_n hx hb dX1_moveSteps_18 rfl (lv_at hl 2 rfl) ?_
      refine lv_aload_n hx hb dX1_moveSteps_19 rfl (lv_at hl 0 rfl) ?_
      refine va_get (D := D) (ci := 1) (v := .int (zI (f 0))) (C := RX1) (T := TX1) (N := 10) hx hb hts hin1 hown hK hP 0 rfl rfl 1 (by decide) (hts (.fieldLink RX1 38 "PolyDrums$Track" "steps" "I") (by decide +kernel)) (fun _ h9 => h9) rfl dX1_moveSteps_20 ?_
      refine z_icmp_ge (tgt := 51) hx hb (by omega) dX1_moveSteps_23 (by decide) (fun c_1 => ?_) (fun c_1 => ?_)
      · exact zm_vret hx hb hr hlocks hS (⟨dn, _, hP, fun t w h1 h2 h3 h4 => hd t w h1 (by omega) h3 h4⟩) dX1_moveSteps_51
      · have c_1 : k < f 0 := by omega
        have hmb := x_modb (a := k + q) (r := f 0) (by omega)
        refine lv_aload_n hx hb dX1_moveSteps_26 rfl (lv_at hl 0 rfl) ?_
        refine lv_aload_n hx hb dX1_moveSteps_27 rfl (lv_at hl 0 rfl) ?_
        refine va_get (D := D) (ci := 1) (v := .ref pa) (C := RX1) (T := TX1) (N := 10) hx hb hts hin1 hown hK hP 0 rfl rfl 9 (by decide) (hts (.fieldLink RX1 35 "PolyDrums$Track" "spare" "[I") (by decide +kernel)) (fun _ h9 => h9) rfl dX1_moveSteps_28 ?_
        refine lv_iload_n hx hb dX1_moveSteps_31 rfl (lv_at hl 2 rfl) ?_
        refine lv_iload_n hx hb dX1_moveSteps_32 rfl (lv_at hl 2 rfl) ?_
        refine lv_iload_n hx hb dX1_moveSteps_33 rfl (lv_at hl 1 rfl) ?_
        refine z_iadd hx hb dX1_moveSteps_34 ?_
        refine lv_aload_n hx hb dX1_moveSteps_35 rfl (lv_at hl 0 rfl) ?_
        refine va_get (D := D) (ci := 1) (v := .int (zI (f 0))) (C := RX1) (T := TX1) (N := 10) hx hb hts hin1 hown hK hP 0 rfl rfl 1 (by decide) (hts (.fieldLink RX1 38 "PolyDrums$Track" "steps" "I") (by decide +kernel)) (fun _ h9 => h9) rfl dX1_moveSteps_36 ?_
        refine z_call (va_runSN (As := [.int (zI ((k) + (q))), .int (zI (f 0))]) (rest := [.int (zI (k)), .ref pa, .ref ta]) ⟨hx, hb, hml, hown, hts⟩ (kX2_rest l D G ((k) + (q)) (f 0) (by omega) (by omega)) ⟨va_cnB 2 hts gX1_moveSteps_X2_rest_n60 rfl rfl rfl (hN.1 (RX1, 60, yX2_rest) (by decide +kernel)) (hts (.initialized RX2) (by decide +kernel)) (by decide +kernel) ⟨Nat.le_of_ble_eq_true rfl, Nat.le_of_ble_eq_true rfl⟩, hts (.static yX2_rest) (by decide +kernel), trivial⟩ (zPreS hK hN (trivial)) rfl rfl hl.1 rfl (lv_room (Nat.le_of_ble_eq_true rfl)) dX1_moveSteps_39 ⟨Nat.le_of_ble_eq_true rfl, Nat.le_of_ble_eq_true rfl⟩) ?_
        refine z_callM (va_runV (As := [.ref pa, .int (zI (k)), .int (zI (((k) + (q)) % (f 0)))]) (rest := []) ⟨hx, hb, hml, hown, hts⟩ (kX1_copyStep_s l D G ta ca pa f (dn) (va_cpy cn sn 0 0 128) (k) (((k) + (q)) % (f 0)) (by simp only [List.nodup_cons, List.mem_cons, List.not_mem_nil, or_false, List.nodup_nil, and_true, not_or, not_false_eq_true]; omega) (by omega) (by omega)) (cwV 3 hts gX1_moveSteps_X1_copyStep rfl rfl rfl (by decide +kernel) ⟨Nat.le_of_ble_eq_true rfl, Nat.le_of_ble_eq_true rfl⟩) (zPreV (va_recv hK hP (ci := 1) (q0 := 0) rfl rfl) hK hN (hP.sub [0, 1, 2] rfl)) rfl rfl hl.1 rfl (lv_room (Nat.le_of_ble_eq_true rfl)) dX1_moveSteps_42 ⟨Nat.le_of_ble_eq_true rfl, Nat.le_of_ble_eq_true rfl⟩) hS (by intro q hq9 hq; simp only [zA, zAn, List.mem_cons, List.not_mem_nil, or_false] at hq ⊢ <;> omega) (by intro q hq; simp only [zA, zAn, List.mem_cons, List.not_mem_nil, or_false] at hq ⊢ <;> omega) (fun H1 locs1 hp1 hz1 hk1 hS1 => ?_)
        have hP : va_P D vwCl [(ta, .inr (1, [.int (zI (f 1)), .int (zI (f 0)), .int (zI (f 2)), .int (zI (f 3)), .int (zI (f 4)), .int (zI (f 5)), .int (zI (f 6)), .int (zI (f 7)), .ref ca, .ref pa])), (ca, .inl (G 0, 128, .inl (xCpy (va_cpy cn sn 0 0 128) (dn) (k) (((k) + (q)) % (f 0)) 4))), (pa, .inl (G 0, 128, .inl (va_cpy cn sn 0 0 128)))] H1 := z_merge hP hk1 (w1 := [(ta, .inr (1, [.int (zI (f 1)), .int (zI (f 0)), .int (zI (f 2)), .int (zI (f 3)), .int (zI (f 4)), .int (zI (f 5)), .int (zI (f 6)), .int (zI (f 7)), .ref ca, .ref pa])), (ca, .inl (G 0, 128, .inl (xCpy (va_cpy cn sn 0 0 128) (dn) (k) (((k) + (q)) % (f 0)) 4))), (pa, .inl (G 0, 128, .inl (va_cpy cn sn 0 0 128)))]) (wr := []) hp1 [] rfl (by intro q hq; simp only [List.map, List.mem_cons, List.not_mem_nil, or_false] at hq ⊢ <;> omega) [0, 1, 2] rfl
        have hS := hS1
        clear hS1
        refine lv_iinc (v := zI (k + 1)) (lv' := [(2, .int (zI (k + 1))), (0, .ref ta), (1, .int (zI (q)))]) hx hb dX1_moveSteps_45 hl (k := 2) rfl (zI_add (k) (1)) (by decide) rfl (fun ls hl => ?_)
        refine lv_goto (tgt := 18) hx hb dX1_moveSteps_48 (by decide) ?_
        exact ih_18 (k + 1) (xCpy (va_cpy cn sn 0 0 128) (dn) (k) (((k) + (q)) % (f 0)) 4) (by omega) (x_move hd hk0.1 c_1 hf0.1 hf0.2 hq.1) (by omega) _ _ (hP) hS _ (lv_sub hl [1, 2, 0] rfl)
  exact loop_18 (33) (0) (cn) (by omega) (fun t w h1 h2 _ _ => by omega) (by omega) _ _ (hP) hS ls (lv_sub hl [1, 2, 0] rfl)

set_option maxHeartbeats 4000000 in
set_option maxRecDepth 100000 in
theorem kX1_spreadHits (l : Launch) (D : va_G) (G : Nat → ClassId) (ta ca pa : Nat) (f : Nat → Int) (cn : Nat → Int32) (h v : Int) (hnd : [ta, ca].Nodup) (hf0 : 1 ≤ f 0 ∧ f 0 ≤ 32) (hh : 0 ≤ h ∧ h ≤ 32) : Met l yX1_spreadHits wsX1_spreadHits ({ frames := 3, cells := 0, slots := 0, locals := 67 }) (zP [.ref ta, .int (zI (h)), .int (zI (v))] D G (fun H => va_P D vwCl [(ta, .inr (1, [.int (zI (f 1)), .int (zI (f 0)), .int (zI (f 2)), .int (zI (f 3)), .int (zI (f 4)), .int (zI (f 5)), .int (zI (f 6)), .int (zI (f 7)), .ref ca, .ref pa])), (ca, .inl (G 0, 128, .inl (cn)))] H)) (zM (some (.int (zI (xLast (f 0) h (f 0).toNat)))) (fun H => ∃ dn : Nat → Int32, va_P D vwCl [(ta, .inr (1, [.int (zI (f 1)), .int (zI (f 0)), .int (zI (f 2)), .int (zI (f 3)), .int (zI (f 4)), .int (zI (f 5)), .int (zI (f 6)), .int (zI (f 7)), .ref ca, .ref pa])), (ca, .inl (G 0, 128, .inl (dn)))] H ∧ ∀ k : Int, 0 ≤ k → k < f 0 → dn (4 * k + 0).toNat = zI (if k * h % f 0 < h then v else 0) ∧ dn (4 * k + 1).toNat = zI 1 ∧ dn (4 * k + 2).toNat = zI 0 ∧ dn (4 * k + 3).toNat = zI 1) (zA [ca])) 0 0 (zA [ca]) := by
  refine Met.ofW (cc := cX1_spreadHits) (maxL := 6) (ret := (some .int)) (by decide) rfl ?_
  intro p e s m args below meth c s₁ B hml hv
  obtain ⟨hav, hP, hK, hN⟩ := hv
  have hx := B.exec
  have hb := B.bytes
  have hr := B.returns
  have hts := atoms_spec (ws := wsX1_spreadHits) B.pre
  have hown : s.vm.findClass RX1 = some m.cls := findClass_of_methodNamed B.named
  have hlocks : meth.locks = false := B.notSynchronized
  have hin1 : ∀ w ∈ u_ws RX1 TX1 10, w ∈ wsX1_spreadHits := by decide +kernel
  have hS : va_S (zA [ca]) s.heap s.heap [] := va_S.rf
  have hnd' := hnd
  simp only [List.nodup_cons, List.mem_cons, List.not_mem_nil, or_false, List.nodup_nil, and_true, not_or, not_false_eq_true] at hnd'
  refine z_entry hav (Nat.le_of_ble_eq_true rfl) rfl (fun ls hl => ?_)
  have hl : lv_has ls 6 [(0, .ref ta), (1, .int (zI (h))), (2, .int (zI (v)))] := hl
  refine lv_iconst (v := zI (-1)) hx hb dX1_spreadHits_0 rfl ?_
  refine lv_istore_n (lv' := [(3, .int (zI (-1))), (0, .ref ta), (1, .int (zI (h))), (2, .int (zI (v)))]) hx hb dX1_spreadHits_1 rfl hl (by decide) rfl (fun ls hl => ?_)
  refine lv_iconst (v := zI (0)) hx hb dX1_spreadHits_2 rfl ?_
  refine lv_istore (lv' := [(4, .int (zI (0))), (3, .int (zI (-1))), (0, .ref ta), (1, .int (zI (h))), (2, .int (zI (v)))]) hx hb dX1_spreadHits_3 hl (by decide) rfl (fun ls hl => ?_)
  have loop_5 : ∀ (fu : Nat) (k : Int) (g : Int) (dn : Nat → Int32), (0 ≤ k ∧ k ≤ f 0) → (g = xLast (f 0) h k.toNat) → (∀ t : Int, 0 ≤ t → t < k → dn (4 * t + 0).toNat = zI (if t * h % f 0 < h then v else 0) ∧ dn (4 * t + 1).toNat = zI 1 ∧ dn (4 * t + 2).toNat = zI 0 ∧ dn (4 * t + 3).toNat = zI 1) → f 0 - k < (fu : Int) → ∀ (H : Heap) (locs : List Loc), va_P D vwCl [(ta, .inr (1, [.int (zI (f 1)), .int (zI (f 0)), .int (zI (f 2)), .int (zI (f 3)), .int (zI (f 4)), .int (zI (f 5)), .int (zI (f 6)), .int (zI (f 7)), .ref ca, .ref pa])), (ca, .inl (G 0, 128, .inl (dn)))] H → va_S (zA [ca]) s.heap H locs → ∀ (ls : Array Slot), lv_has ls 6 [(0, .ref ta), (1, .int (zI (h))), (2, .int (zI (v))), (3, .int (zI (g))), (4, .int (zI (k)))] → W p l e (headSpec wsX1_spreadHits ({ frames := 3, cells := 0, slots := 0, locals := 67 })).room s m args below meth c H locs 0 0 (MQ below (zM (some (.int (zI (xLast (f 0) h (f 0).toNat)))) (fun H => ∃ dn : Nat → Int32, va_P D vwCl [(ta, .inr (1, [.int (zI (f 1)), .int (zI (f 0)), .int (zI (f 2)), .int (zI (f 3)), .int (zI (f 4)), .int (zI (f 5)), .int (zI (f 6)), .int (zI (f 7)), .ref ca, .ref pa])), (ca, .inl (G 0, 128, .inl (dn)))] H ∧ ∀ k : Int, 0 ≤ k → k < f 0 → dn (4 * k + 0).toNat = zI (if k * h % f 0 < h then v else 0) ∧ dn (4 * k + 1).toNat = zI 1 ∧ dn (4 * k + 2).toNat = zI 0 ∧ dn (4 * k + 3).toNat = zI 1) (zA [ca])) args s 0 0 (zA [ca])) (F0 m 5 ls []) := by
    intro fu
    induction fu with
    | zero =>
      intro k g dn hk0 hg hd hm
      exfalso; omega
    | succ fu ih =>
      intro k g dn hk0 hg hd hm H locs hP hS ls hl
      have ih_5 := ih
      refine lv_iload hx hb dX1_spreadHits_5 (lv_at hl 4 rfl) ?_
      refine lv_aload_n hx hb dX1_spreadHits_7 rfl (lv_at hl 0 rfl) ?_
      refine va_get (D := D) (ci := 1) (v := .int (zI (f 0))) (C := RX1) (T := TX1) (N := 10) hx hb hts hin1 hown hK hP 0 rfl rfl 1 (by decide) (hts (.fieldLink RX1 38 "PolyDrums$Track" "steps" "I") (by decide +kernel)) (fun _ h9 => h9) rfl dX1_spreadHits_8 ?_
      refine z_icmp_ge (tgt := 66) hx hb (by omega) dX1_spreadHits_11 (by decide) (fun c_1 => ?_) (fun c_1 => ?_)
      · refine lv_iload_n hx hb dX1_spreadHits_66 rfl (lv_at hl 3 rfl) ?_
        exact zm_iret hx hb hr hlocks hS (⟨dn, hP, fun t h1 h2 => hd t h1 (by omega)⟩) (by rw [hg, show k = f 0 by omega]) dX1_spreadHits_67
      · have hm1 := x_mulb 32 32 hk0.1 (by omega) hh.1 hh.2
        have hm2 := x_modb (a := k * h) (r := f 0) (by omega)
        have hlb := xLast_b (f 0) h k.toNat
        refine lv_iload hx hb dX1_spreadHits_14 (lv_at hl 4 rfl) ?_
        refine lv_iload_n hx hb dX1_spreadHits_16 rfl (lv_at hl 1 rfl) ?_
        refine z_imul hx hb dX1_spreadHits_17 ?_
        refine lv_aload_n hx hb dX1_spreadHits_18 rfl (lv_at hl 0 rfl) ?_
        refine va_get (D := D) (ci := 1) (v := .int (zI (f 0))) (C := RX1) (T := TX1) (N := 10) hx hb hts hin1 hown hK hP 0 rfl rfl 1 (by decide) (hts (.fieldLink RX1 38 "PolyDrums$Track" "steps" "I") (by decide +kernel)) (fun _ h9 => h9) rfl dX1_spreadHits_19 ?_
        refine z_call (va_runSN (As := [.int (zI ((k) * (h))), .int (zI (f 0))]) (rest := []) ⟨hx, hb, hml, hown, hts⟩ (kX2_rest l D G ((k) * (h)) (f 0) (by omega) (by omega)) ⟨va_cnB 2 hts gX1_spreadHits_X2_rest_n60 rfl rfl rfl (hN.1 (RX1, 60, yX2_rest) (by decide +kernel)) (hts (.initialized RX2) (by decide +kernel)) (by decide +kernel) ⟨Nat.le_of_ble_eq_true rfl, Nat.le_of_ble_eq_true rfl⟩, hts (.static yX2_rest) (by decide +kernel), trivial⟩ (zPreS hK hN (trivial)) rfl rfl hl.1 rfl (lv_room (Nat.le_of_ble_eq_true rfl)) dX1_spreadHits_22 ⟨Nat.le_of_ble_eq_true rfl, Nat.le_of_ble_eq_true rfl⟩) ?_
        refine lv_iload_n hx hb dX1_spreadHits_25 rfl (lv_at hl 1 rfl) ?_
        refine z_icmp_ge (tgt := 33) hx hb (by omega) dX1_spreadHits_26 (by decide) (fun c_2 => ?_) (fun c_2 => ?_)
        · refine lv_iconst (v := zI (0)) hx hb dX1_spreadHits_33 rfl ?_
          refine lv_istore (lv' := [(5, .int (zI (0))), (0, .ref ta), (1, .int (zI (h))), (2, .int (zI (v))), (3, .int (zI (g))), (4, .int (zI (k)))]) hx hb dX1_spreadHits_34 hl (by decide) rfl (fun ls hl => ?_)
          refine lv_aload_n hx hb dX1_spreadHits_36 rfl (lv_at hl 1 rfl) ?_
          refine lv_iload hx hb dX1_spreadHits_37 (lv_at hl 5 rfl) ?_
          refine lv_iload hx hb dX1_spreadHits_39 (lv_at hl 0 rfl) ?_
          refine z_if_eq (tgt := 48) hx hb (by omega) dX1_spreadHits_41 (by decide) (fun c_3 => ?_) (fun c_3 => ?_)
          · refine lv_iconst (v := zI (0)) hx hb dX1_spreadHits_48 rfl ?_
            refine z_callM (va_runV (As := [.int (zI (k)), .int (zI (0))]) (rest := []) ⟨hx, hb, hml, hown, hts⟩ (kX1_clearStep l D G ta ca pa f (dn) (k) (0) (by simp only [List.nodup_cons, List.mem_cons, List.not_mem_nil, or_false, List.nodup_nil, and_true, not_or, not_false_eq_true]; omega) (by omega)) (cwV 2 hts gX1_spreadHits_X1_clearStep rfl rfl rfl (by decide +kernel) ⟨Nat.le_of_ble_eq_true rfl, Nat.le_of_ble_eq_true rfl⟩) (zPreV (va_recv hK hP (ci := 1) (q0 := 0) rfl rfl) hK hN (hP.sub [0, 1] rfl)) rfl rfl hl.1 rfl (lv_room (Nat.le_of_ble_eq_true rfl)) dX1_spreadHits_49 ⟨Nat.le_of_ble_eq_true rfl, Nat.le_of_ble_eq_true rfl⟩) hS (by intro q hq9 hq; simp only [zA, zAn, List.mem_cons, List.not_mem_nil, or_false] at hq ⊢ <;> omega) (by intro q hq; simp only [zA, zAn, List.mem_cons, List.not_mem_nil, or_false] at hq ⊢ <;> omega) (fun H1 locs1 hp1 hz1 hk1 hS1 => ?_)
            have hP : va_P D vwCl [(ta, .inr (1, [.int (zI (f 1)), .int (zI (f 0)), .int (zI (f 2)), .int (zI (f 3)), .int (zI (f 4)), .int (zI (f 5)), .int (zI (f 6)), .int (zI (f 7)), .ref ca, .ref pa])), (ca, .inl (G 0, 128, .inl (xClr (dn) (k) (0))))] H1 := z_merge hP hk1 (w1 := [(ta, .inr (1, [.int (zI (f 1)), .int (zI (f 0)), .int (zI (f 2)), .int (zI (f 3)), .int (zI (f 4)), .int (zI (f 5)), .int (zI (f 6)), .int (zI (f 7)), .ref ca, .ref pa])), (ca, .inl (G 0, 128, .inl (xClr (dn) (k) (0))))]) (wr := []) hp1 [] rfl (by intro q hq; simp only [List.map, List.mem_cons, List.not_mem_nil, or_false] at hq ⊢ <;> omega) [0, 1] rfl
            have hS := hS1
            clear hS1
            refine lv_iload hx hb dX1_spreadHits_52 (lv_at hl 0 rfl) ?_
            refine z_if_eq (tgt := 60) hx hb (by omega) dX1_spreadHits_54 (by decide) (fun c_4 => ?_) (fun c_4 => ?_)
            · refine lv_iinc (v := zI (k + 1)) (lv' := [(4, .int (zI (k + 1))), (5, .int (zI (0))), (0, .ref ta), (1, .int (zI (h))), (2, .int (zI (v))), (3, .int (zI (g)))]) hx hb dX1_spreadHits_60 hl (k := 5) rfl (zI_add (k) (1)) (by decide) rfl (fun ls hl => ?_)
              refine lv_goto (tgt := 5) hx hb dX1_spreadHits_63 (by decide) ?_
              exact ih_5 (k + 1) (g) (xClr (dn) (k) (0)) (by omega) (by rw [xLast_s hk0.1]; first | rw [if_pos (by omega)] | (rw [if_neg (by omega)]; exact hg)) (x_sprd hd hk0.1 (by first | rw [if_pos (by omega)] | rw [if_neg (by omega)])) (by omega) _ _ (hP) hS _ (lv_sub hl [2, 3, 4, 5, 0] rfl)
            · exfalso; omega
          · exfalso; omega
        · refine lv_iconst (v := zI (1)) hx hb dX1_spreadHits_29 rfl ?_
          refine lv_goto (tgt := 34) hx hb dX1_spreadHits_30 (by decide) ?_
          refine lv_istore (lv' := [(5, .int (zI (1))), (0, .ref ta), (1, .int (zI (h))), (2, .int (zI (v))), (3, .int (zI (g))), (4, .int (zI (k)))]) hx hb dX1_spreadHits_34 hl (by decide) rfl (fun ls hl => ?_)
          refine lv_aload_n hx hb dX1_spreadHits_36 rfl (lv_at hl 1 rfl) ?_
          refine lv_iload hx hb dX1_spreadHits_37 (lv_at hl 5 rfl) ?_
          refine lv_iload hx hb dX1_spreadHits_39 (lv_at hl 0 rfl) ?_
          refine z_if_eq (tgt := 48) hx hb (by omega) dX1_spreadHits_41 (by decide) (fun c_5 => ?_) (fun c_5 => ?_)
          · exfalso; omega
          · refine lv_iload_n hx hb dX1_spreadHits_44 rfl (lv_at hl 3 rfl) ?_
            refine lv_goto (tgt := 49) hx hb dX1_spreadHits_45 (by decide) ?_
            refine z_callM (va_runV (As := [.int (zI (k)), .int (zI (v))]) (rest := []) ⟨hx, hb, hml, hown, hts⟩ (kX1_clearStep l D G ta ca pa f (dn) (k) (v) (by simp only [List.nodup_cons, List.mem_cons, List.not_mem_nil, or_false, List.nodup_nil, and_true, not_or, not_false_eq_true]; omega) (by omega)) (cwV 2 hts gX1_spreadHits_X1_clearStep rfl rfl rfl (by decide +kernel) ⟨Nat.le_of_ble_eq_true rfl, Nat.le_of_ble_eq_true rfl⟩) (zPreV (va_recv hK hP (ci := 1) (q0 := 0) rfl rfl) hK hN (hP.sub [0, 1] rfl)) rfl rfl hl.1 rfl (lv_room (Nat.le_of_ble_eq_true rfl)) dX1_spreadHits_49 ⟨Nat.le_of_ble_eq_true rfl, Nat.le_of_ble_eq_true rfl⟩) hS (by intro q hq9 hq; simp only [zA, zAn, List.mem_cons, List.not_mem_nil, or_false] at hq ⊢ <;> omega) (by intro q hq; simp only [zA, zAn, List.mem_cons, List.not_mem_nil, or_false] at hq ⊢ <;> omega) (fun H1 locs1 hp1 hz1 hk1 hS1 => ?_)
            have hP : va_P D vwCl [(ta, .inr (1, [.int (zI (f 1)), .int (zI (f 0)), .int (zI (f 2)), .int (zI (f 3)), .int (zI (f 4)), .int (zI (f 5)), .int (zI (f 6)), .int (zI (f 7)), .ref ca, .ref pa])), (ca, .inl (G 0, 128, .inl (xClr (dn) (k) (v))))] H1 := z_merge hP hk1 (w1 := [(ta, .inr (1, [.int (zI (f 1)), .int (zI (f 0)), .int (zI (f 2)), .int (zI (f 3)), .int (zI (f 4)), .int (zI (f 5)), .int (zI (f 6)), .int (zI (f 7)), .ref ca, .ref pa])), (ca, .inl (G 0, 128, .inl (xClr (dn) (k) (v))))]) (wr := []) hp1 [] rfl (by intro q hq; simp only [List.map, List.mem_cons, List.not_mem_nil, or_false] at hq ⊢ <;> omega) [0, 1] rfl
            have hS := hS1
            clear hS1
            refine lv_iload hx hb dX1_spreadHits_52 (lv_at hl 0 rfl) ?_
            refine z_if_eq (tgt := 60) hx hb (by omega) dX1_spreadHits_54 (by decide) (fun c_6 => ?_) (fun c_6 => ?_)
            · exfalso; omega
            · refine lv_iload hx hb dX1_spreadHits_57 (lv_at hl 5 rfl) ?_
              refine lv_istore_n (lv' := [(3, .int (zI (k))), (5, .int (zI (1))), (0, .ref ta), (1, .int (zI (h))), (2, .int (zI (v))), (4, .int (zI (k)))]) hx hb dX1_spreadHits_59 rfl hl (by decide) rfl (fun ls hl => ?_)
              refine lv_iinc (v := zI (k + 1)) (lv' := [(4, .int (zI (k + 1))), (3, .int (zI (k))), (5, .int (zI (1))), (0, .ref ta), (1, .int (zI (h))), (2, .int (zI (v)))]) hx hb dX1_spreadHits_60 hl (k := 5) rfl (zI_add (k) (1)) (by decide) rfl (fun ls hl => ?_)
              refine lv_goto (tgt := 5) hx hb dX1_spreadHits_63 (by decide) ?_
              exact ih_5 (k + 1) (k) (xClr (dn) (k) (v)) (by omega) (by rw [xLast_s hk0.1]; first | rw [if_pos (by omega)] | (rw [if_neg (by omega)]; exact hg)) (x_sprd hd hk0.1 (by first | rw [if_pos (by omega)] | rw [if_neg (by omega)])) (by omega) _ _ (hP) hS _ (lv_sub hl [3, 4, 5, 1, 0] rfl)
  exact loop_5 (33) (0) (-1) (cn) (by omega) (rfl) (fun t h1 h2 => by omega) (by omega) _ _ (hP) hS ls (lv_sub hl [2, 3, 4, 1, 0] rfl)
