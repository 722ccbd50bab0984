set_option maxHeartbeats 4000000 in
set_option maxRecDepth 100000 in
theorem kX1_copyStep_s (l : Launch) (D : va_G) (G : Nat → ClassId) (ta ca pa : Nat) (f : Nat → Int) (cn sn : Nat → Int32) (a b : Int) (hnd : [ta, ca, pa].Nodup) (ha1 : 0 ≤ a ∧ a ≤ 31) (hb1 : 0 ≤ b ∧ b ≤ 31) : Met l yX1_copyStep wsX1_copyStep ({ frames := 2, cells := 0, slots := 0, locals := 45 }) (zP [.ref ta, .ref pa, .int (zI (a)), .int (zI (b))] D G (fun H => va_P D vwCl [(ta, .inr (1, [.int (zI (f 1)), .int (zI (f 0)), .int (zI (f 2)), .int (zI (f 3)), .int (zI (f 4)), .int (zI (f 5)), .int (zI (f 6)), .int (zI (f 7)), .ref ca, .ref pa])), (ca, .inl (G 0, 128, .inl (cn))), (pa, .inl (G 0, 128, .inl (sn)))] H)) (zM none (fun H => va_P D vwCl [(ta, .inr (1, [.int (zI (f 1)), .int (zI (f 0)), .int (zI (f 2)), .int (zI (f 3)), .int (zI (f 4)), .int (zI (f 5)), .int (zI (f 6)), .int (zI (f 7)), .ref ca, .ref pa])), (ca, .inl (G 0, 128, .inl (xCpy sn cn a b 4))), (pa, .inl (G 0, 128, .inl (sn)))] H) (zA [ca])) 0 0 (zA [ca]) := by
  refine Met.ofW (cc := cX1_copyStep) (maxL := 5) (ret := none) (by decide) rfl ?_
  intro p e s m args below meth c s₁ B hml hv
  obtain ⟨hav, hP, hK, hN⟩ := hv
  have hx := B.exec
  have hb := B.bytes
  have hr := B.returns
  have hts := atoms_spec (ws := wsX1_copyStep) B.pre
  have hown : s.vm.findClass RX1 = some m.cls := findClass_of_methodNamed B.named
  have hlocks : meth.locks = false := B.notSynchronized
  have hS : va_S (zA [ca]) s.heap s.heap [] := va_S.rf
  have hnd' := hnd
  simp only [List.nodup_cons, List.mem_cons, List.not_mem_nil, or_false, List.nodup_nil, and_true, not_or, not_false_eq_true] at hnd'
  refine z_entry hav (Nat.le_of_ble_eq_true rfl) rfl (fun ls hl => ?_)
  have hl : lv_has ls 5 [(0, .ref ta), (1, .ref pa), (2, .int (zI (a))), (3, .int (zI (b)))] := hl
  refine lv_iconst (v := zI (0)) hx hb dX1_copyStep_0 rfl ?_
  refine lv_istore (lv' := [(4, .int (zI (0))), (0, .ref ta), (1, .ref pa), (2, .int (zI (a))), (3, .int (zI (b)))]) hx hb dX1_copyStep_1 hl (by decide) rfl (fun ls hl => ?_)
  have loop_3 : ∀ (fu : Nat) (j : Int), (0 ≤ j ∧ j ≤ 4) → 4 - j < (fu : Int) → ∀ (H : Heap) (locs : List Loc), va_P D vwCl [(ta, .inr (1, [.int (zI (f 1)), .int (zI (f 0)), .int (zI (f 2)), .int (zI (f 3)), .int (zI (f 4)), .int (zI (f 5)), .int (zI (f 6)), .int (zI (f 7)), .ref ca, .ref pa])), (ca, .inl (G 0, 128, .inl (xCpy sn cn a b j))), (pa, .inl (G 0, 128, .inl (sn)))] H → va_S (zA [ca]) s.heap H locs → ∀ (ls : Array Slot), lv_has ls 5 [(0, .ref ta), (1, .ref pa), (2, .int (zI (a))), (3, .int (zI (b))), (4, .int (zI (j)))] → W p l e (headSpec wsX1_copyStep ({ frames := 2, cells := 0, slots := 0, locals := 45 })).room s m args below meth c H locs 0 0 (MQ below (zM none (fun H => va_P D vwCl [(ta, .inr (1, [.int (zI (f 1)), .int (zI (f 0)), .int (zI (f 2)), .int (zI (f 3)), .int (zI (f 4)), .int (zI (f 5)), .int (zI (f 6)), .int (zI (f 7)), .ref ca, .ref pa])), (ca, .inl (G 0, 128, .inl (xCpy sn cn a b 4))), (pa, .inl (G 0, 128, .inl (sn)))] H) (zA [ca])) args s 0 0 (zA [ca])) (F0 m 3 ls []) := by
    intro fu
    induction fu with
    | zero =>
      intro j hj hm
      exfalso; omega
    | succ fu ih =>
      intro j hj hm H locs hP hS ls hl
      have ih_3 := ih
      refine lv_iload hx hb dX1_copyStep_3 (lv_at hl 4 rfl) ?_
      refine lv_iconst (v := zI (4)) hx hb dX1_copyStep_5 rfl ?_
      refine z_icmp_ge (tgt := 32) hx hb (by omega) dX1_copyStep_6 (by decide) (fun c_1 => ?_) (fun c_1 => ?_)
      · exact zm_vret hx hb hr hlocks hS (by rw [show j = 4 by omega] at hP; exact hP) dX1_copyStep_32
      · refine lv_aload_n hx hb dX1_copyStep_9 rfl (lv_at hl 0 rfl) ?_
        refine lv_iload_n hx hb dX1_copyStep_10 rfl (lv_at hl 3 rfl) ?_
        refine lv_iload hx hb dX1_copyStep_11 (lv_at hl 4 rfl) ?_
        refine lv_aload_n hx hb dX1_copyStep_13 rfl (lv_at hl 1 rfl) ?_
        refine lv_iload_n hx hb dX1_copyStep_14 rfl (lv_at hl 2 rfl) ?_
        refine lv_iconst (v := zI (4)) hx hb dX1_copyStep_15 rfl ?_
        refine z_imul hx hb dX1_copyStep_16 ?_
        refine lv_iload hx hb dX1_copyStep_17 (lv_at hl 4 rfl) ?_
        refine z_iadd hx hb dX1_copyStep_19 ?_
        refine z_call (va_runSN (As := [.ref pa, .int (zI (((a) * (4)) + (j)))]) (rest := [.int (zI (j)), .int (zI (b)), .ref ta]) ⟨hx, hb, hml, hown, hts⟩ (kX2_read l D G pa 128 (sn) (((a) * (4)) + (j)) (sn (a * 4 + j).toNat) (by omega) (by omega) (rfl)) ⟨va_cnB 2 hts gX1_copyStep_X2_read_n48 rfl rfl rfl (hN.1 (RX1, 48, yX2_read) (by decide +kernel)) (hts (.initialized RX2) (by decide +kernel)) (by decide +kernel) ⟨Nat.le_of_ble_eq_true rfl, Nat.le_of_ble_eq_true rfl⟩, hts (.static yX2_read) (by decide +kernel), trivial⟩ (zPreS hK hN (hP.sub [2] rfl)) rfl rfl hl.1 rfl (lv_room (Nat.le_of_ble_eq_true rfl)) dX1_copyStep_20 ⟨Nat.le_of_ble_eq_true rfl, Nat.le_of_ble_eq_true rfl⟩) ?_
        refine z_callM (va_runV (As := [.int (zI (b)), .int (zI (j)), .int (sn (a * 4 + j).toNat)]) (rest := []) ⟨hx, hb, hml, hown, hts⟩ (kX1_putCell l D G ta ca pa f (xCpy sn cn a b j) (b) (j) ((sn (a * 4 + j).toNat)) (by simp only [List.nodup_cons, List.mem_cons, List.not_mem_nil, or_false, List.nodup_nil, and_true, not_or, not_false_eq_true]; omega) (by omega) (by omega)) (cwV 3 hts gX1_copyStep_X1_putCell rfl rfl rfl (by decide +kernel) ⟨Nat.le_of_ble_eq_true rfl, Nat.le_of_ble_eq_true rfl⟩) (zPreV (va_recv hK hP (ci := 1) (q0 := 0) rfl rfl) hK hN (hP.sub [0, 1] rfl)) rfl rfl hl.1 rfl (lv_room (Nat.le_of_ble_eq_true rfl)) dX1_copyStep_23 ⟨Nat.le_of_ble_eq_true rfl, Nat.le_of_ble_eq_true rfl⟩) hS (by intro q hq9 hq; simp only [zA, zAn, List.mem_cons, List.not_mem_nil, or_false] at hq ⊢ <;> omega) (by intro q hq; simp only [zA, zAn, List.mem_cons, List.not_mem_nil, or_false] at hq ⊢ <;> omega) (fun H1 locs1 hp1 hz1 hk1 hS1 => ?_)
        have hP : va_P D vwCl [(ta, .inr (1, [.int (zI (f 1)), .int (zI (f 0)), .int (zI (f 2)), .int (zI (f 3)), .int (zI (f 4)), .int (zI (f 5)), .int (zI (f 6)), .int (zI (f 7)), .ref ca, .ref pa])), (ca, .inl (G 0, 128, .inl (upd (xCpy sn cn a b j) ((b) * 4 + j).toNat ((sn (a * 4 + j).toNat))))), (pa, .inl (G 0, 128, .inl (sn)))] H1 := z_merge hP hk1 (w1 := [(ta, .inr (1, [.int (zI (f 1)), .int (zI (f 0)), .int (zI (f 2)), .int (zI (f 3)), .int (zI (f 4)), .int (zI (f 5)), .int (zI (f 6)), .int (zI (f 7)), .ref ca, .ref pa])), (ca, .inl (G 0, 128, .inl (upd (xCpy sn cn a b j) ((b) * 4 + j).toNat ((sn (a * 4 + j).toNat)))))]) (wr := [(pa, .inl (G 0, 128, .inl (sn)))]) hp1 [2] rfl (by intro q hq; simp only [List.map, List.mem_cons, List.not_mem_nil, or_false] at hq ⊢ <;> omega) [0, 1, 2] rfl
        have hS := hS1
        clear hS1
        refine lv_iinc (v := zI (j + 1)) (lv' := [(4, .int (zI (j + 1))), (0, .ref ta), (1, .ref pa), (2, .int (zI (a))), (3, .int (zI (b)))]) hx hb dX1_copyStep_26 hl (k := 4) rfl (zI_add (j) (1)) (by decide) rfl (fun ls hl => ?_)
        refine lv_goto (tgt := 3) hx hb dX1_copyStep_29 (by decide) ?_
        exact ih_3 (j + 1) (by omega) (by omega) _ _ (by rw [← xCpy_s sn cn a b j hb1.1 hj.1 _ rfl]; exact hP) hS _ (lv_sub hl [1, 2, 3, 4, 0] rfl)
  exact loop_3 (5) (0) (by omega) (by omega) _ _ (by rw [xCpy_0]; exact hP) hS ls (lv_sub hl [1, 2, 3, 4, 0] rfl)

set_option maxHeartbeats 4000000 in
set_option maxRecDepth 100000 in
theorem kX1_copyStep_c (l : Launch) (D : va_G) (G : Nat → ClassId) (ta ca pa : Nat) (f : Nat → Int) (cn sn : Nat → Int32) (a b : Int) (hnd : [ta, ca, pa].Nodup) (ha1 : 0 ≤ a ∧ a ≤ 31) (hb1 : 0 ≤ b ∧ b ≤ 31) (hab : a ≠ b) : Met l yX1_copyStep wsX1_copyStep ({ frames := 2, cells := 0, slots := 0, locals := 45 }) (zP [.ref ta, .ref ca, .int (zI (a)), .int (zI (b))] D G (fun H => va_P D vwCl [(ta, .inr (1, [.int (zI (f 1)), .int (zI (f 0)), .int (zI (f 2)), .int (zI (f 3)), .int (zI (f 4)), .int (zI (f 5)), .int (zI (f 6)), .int (zI (f 7)), .ref ca, .ref pa])), (ca, .inl (G 0, 128, .inl (cn))), (pa, .inl (G 0, 128, .inl (sn)))] H)) (zM none (fun H => va_P D vwCl [(ta, .inr (1, [.int (zI (f 1)), .int (zI (f 0)), .int (zI (f 2)), .int (zI (f 3)), .int (zI (f 4)), .int (zI (f 5)), .int (zI (f 6)), .int (zI (f 7)), .ref ca, .ref pa])), (ca, .inl (G 0, 128, .inl (xCpy cn cn a b 4))), (pa, .inl (G 0, 128, .inl (sn)))] H) (zA [ca])) 0 0 (zA [ca]) := by
  refine Met.ofW (cc := cX1_copyStep) (maxL := 5) (ret := none) (by decide) rfl ?_
  intro p e s m args below meth c s₁ B hml hv
  obtain ⟨hav, hP, hK, hN⟩ := hv
  have hx := B.exec
  have hb := B.bytes
  have hr := B.returns
  have hts := atoms_spec (ws := wsX1_copyStep) B.pre
  have hown : s.vm.findClass RX1 = some m.cls := findClass_of_methodNamed B.named
  have hlocks : meth.locks = false := B.notSynchronized
  have hS : va_S (zA [ca]) s.heap s.heap [] := va_S.rf
  have hnd' := hnd
  simp only [List.nodup_cons, List.mem_cons, List.not_mem_nil, or_false, List.nodup_nil, and_true, not_or, not_false_eq_true] at hnd'
  refine z_entry hav (Nat.le_of_ble_eq_true rfl) rfl (fun ls hl => ?_)
  have hl : lv_has ls 5 [(0, .ref ta), (1, .ref ca), (2, .int (zI (a))), (3, .int (zI (b)))] := hl
  refine lv_iconst (v := zI (0)) hx hb dX1_copyStep_0 rfl ?_
  refine lv_istore (lv' := [(4, .int (zI (0))), (0, .ref ta), (1, .ref ca), (2, .int (zI (a))), (3, .int (zI (b)))]) hx hb dX1_copyStep_1 hl (by decide) rfl (fun ls hl => ?_)
  have loop_3 : ∀ (fu : Nat) (j : Int), (0 ≤ j ∧ j ≤ 4) → 4 - j < (fu : Int) → ∀ (H : Heap) (locs : List Loc), va_P D vwCl [(ta, .inr (1, [.int (zI (f 1)), .int (zI (f 0)), .int (zI (f 2)), .int (zI (f 3)), .int (zI (f 4)), .int (zI (f 5)), .int (zI (f 6)), .int (zI (f 7)), .ref ca, .ref pa])), (ca, .inl (G 0, 128, .inl (xCpy cn cn a b j))), (pa, .inl (G 0, 128, .inl (sn)))] H → va_S (zA [ca]) s.heap H locs → ∀ (ls : Array Slot), lv_has ls 5 [(0, .ref ta), (1, .ref ca), (2, .int (zI (a))), (3, .int (zI (b))), (4, .int (zI (j)))] → W p l e (headSpec wsX1_copyStep ({ frames := 2, cells := 0, slots := 0, locals := 45 })).room s m args below meth c H locs 0 0 (MQ below (zM none (fun H => va_P D vwCl [(ta, .inr (1, [.int (zI (f 1)), .int (zI (f 0)), .int (zI (f 2)), .int (zI (f 3)), .int (zI (f 4)), .int (zI (f 5)), .int (zI (f 6)), .int (zI (f 7)), .ref ca, .ref pa])), (ca, .inl (G 0, 128, .inl (xCpy cn cn a b 4))), (pa, .inl (G 0, 128, .inl (sn)))] H) (zA [ca])) args s 0 0 (zA [ca])) (F0 m 3 ls []) := by
    intro fu
    induction fu with
    | zero =>
      intro j hj hm
      exfalso; omega
    | succ fu ih =>
      intro j hj hm H locs hP hS ls hl
      have ih_3 := ih
      refine lv_iload hx hb dX1_copyStep_3 (lv_at hl 4 rfl) ?_
      refine lv_iconst (v := zI (4)) hx hb dX1_copyStep_5 rfl ?_
      refine z_icmp_ge (tgt := 32) hx hb (by omega) dX1_copyStep_6 (by decide) (fun c_1 => ?_) (fun c_1 => ?_)
      · exact zm_vret hx hb hr hlocks hS (by rw [show j = 4 by omega] at hP; exact hP) dX1_copyStep_32
      · refine lv_aload_n hx hb dX1_copyStep_9 rfl (lv_at hl 0 rfl) ?_
        refine lv_iload_n hx hb dX1_copyStep_10 rfl (lv_at hl 3 rfl) ?_
        refine lv_iload hx hb dX1_copyStep_11 (lv_at hl 4 rfl) ?_
        refine lv_aload_n hx hb dX1_copyStep_13 rfl (lv_at hl 1 rfl) ?_
        refine lv_iload_n hx hb dX1_copyStep_14 rfl (lv_at hl 2 rfl) ?_
        refine lv_iconst (v := zI (4)) hx hb dX1_copyStep_15 rfl ?_
        refine z_imul hx hb dX1_copyStep_16 ?_
        refine lv_iload hx hb dX1_copyStep_17 (lv_at hl 4 rfl) ?_
        refine z_iadd hx hb dX1_copyStep_19 ?_
        refine z_call (va_runSN (As := [.ref ca, .int (zI (((a) * (4)) + (j)))]) (rest := [.int (zI (j)), .int (zI (b)), .ref ta]) ⟨hx, hb, hml, hown, hts⟩ (kX2_read l D G ca 128 (xCpy cn cn a b j) (((a) * (4)) + (j)) (cn (a * 4 + j).toNat) (by omega) (by omega) (xCpy_out (by omega))) ⟨va_cnB 2 hts gX1_copyStep_X2_read_n48 rfl rfl rfl (hN.1 (RX1, 48, yX2_read) (by decide +kernel)) (hts (.initialized RX2) (by decide +kernel)) (by decide +kernel) ⟨Nat.le_of_ble_eq_true rfl, Nat.le_of_ble_eq_true rfl⟩, hts (.static yX2_read) (by decide +kernel), trivial⟩ (zPreS hK hN (hP.sub [1] rfl)) rfl rfl hl.1 rfl (lv_room (Nat.le_of_ble_eq_true rfl)) dX1_copyStep_20 ⟨Nat.le_of_ble_eq_true rfl, Nat.le_of_ble_eq_true rfl⟩) ?_
        refine z_callM (va_runV (As := [.int (zI (b)), .int (zI (j)), .int (cn (a * 4 + j).toNat)]) (rest := []) ⟨hx, hb, hml, hown, hts⟩ (kX1_putCell l D G ta ca pa f (xCpy cn cn a b j) (b) (j) ((cn (a * 4 + j).toNat)) (by simp only [List.nodup_cons, List.mem_cons, List.not_mem_nil, or_false, List.nodup_nil, and_true, not_or, not_false_eq_true]; omega) (by omega) (by omega)) (cwV 3 hts gX1_copyStep_X1_putCell rfl rfl rfl (by decide +kernel) ⟨Nat.le_of_ble_eq_true rfl, Nat.le_of_ble_eq_true rfl⟩) (zPreV (va_recv hK hP (ci := 1) (q0 := 0) rfl rfl) hK hN (hP.sub [0, 1] rfl)) rfl rfl hl.1 rfl (lv_room (Nat.le_of_ble_eq_true rfl)) dX1_copyStep_23 ⟨Nat.le_of_ble_eq_true rfl, Nat.le_of_ble_eq_true rfl⟩) hS (by intro q hq9 hq; simp only [zA, zAn, List.mem_cons, List.not_mem_nil, or_false] at hq ⊢ <;> omega) (by intro q hq; simp only [zA, zAn, List.mem_cons, List.not_mem_nil, or_false] at hq ⊢ <;> omega) (fun H1 locs1 hp1 hz1 hk1 hS1 => ?_)
        have hP : va_P D vwCl [(ta, .inr (1, [.int (zI (f 1)), .int (zI (f 0)), .int (zI (f 2)), .int (zI (f 3)), .int (zI (f 4)), .int (zI (f 5)), .int (zI (f 6)), .int (zI (f 7)), .ref ca, .ref pa])), (ca, .inl (G 0, 128, .inl (upd (xCpy cn cn a b j) ((b) * 4 + j).toNat ((cn (a * 4 + j).toNat))))), (pa, .inl (G 0, 128, .inl (sn)))] H1 := z_merge hP hk1 (w1 := [(ta, .inr (1, [.int (zI (f 1)), .int (zI (f 0)), .int (zI (f 2)), .int (zI (f 3)), .int (zI (f 4)), .int (zI (f 5)), .int (zI (f 6)), .int (zI (f 7)), .ref ca, .ref pa])), (ca, .inl (G 0, 128, .inl (upd (xCpy cn cn a b j) ((b) * 4 + j).toNat ((cn (a * 4 + j).toNat)))))]) (wr := [(pa, .inl (G 0, 128, .inl (sn)))]) hp1 [2] rfl (by intro q hq; simp only [List.map, List.mem_cons, List.not_mem_nil, or_false] at hq ⊢ <;> omega) [0, 1, 2] rfl
        have hS := hS1
        clear hS1
        refine lv_iinc (v := zI (j + 1)) (lv' := [(4, .int (zI (j + 1))), (0, .ref ta), (1, .ref ca), (2, .int (zI (a))), (3, .int (zI (b)))]) hx hb dX1_copyStep_26 hl (k := 4) rfl (zI_add (j) (1)) (by decide) rfl (fun ls hl => ?_)
        refine lv_goto (tgt := 3) hx hb dX1_copyStep_29 (by decide) ?_
        exact ih_3 (j + 1) (by omega) (by omega) _ _ (by rw [← xCpy_s cn cn a b j hb1.1 hj.1 _ rfl]; exact hP) hS _ (lv_sub hl [1, 2, 3, 4, 0] rfl)
  exact loop_3 (5) (0) (by omega) (by omega) _ _ (by rw [xCpy_0]; exact hP) hS ls (lv_sub hl [1, 2, 3, 4, 0] rfl)

set_option maxHeartbeats 4000000 in
set_option maxRecDepth 100000 in
theorem kX1_moveSteps (l : Launch) (D : va_G) (G : Nat → ClassId) (ta ca pa : Nat) (f : Nat → Int) (cn sn : Nat → Int32) (q : Int) (hnd : [ta, ca, pa].Nodup) (hf0 : 1 ≤ f 0 ∧ f 0 ≤ 32) (hq : 0 ≤ q ∧ q ≤ 31) : Met l yX1_moveSteps wsX1_moveSteps ({ frames := 3, cells := 0, slots := 0, locals := 69 }) (zP [.ref ta, .int (zI (q))] D G (fun H => va_P D vwCl [(ta, .inr (1, [.int (zI (f 1)), .int (zI (f 0)), .int (zI (f 2)), .int (zI (f 3)), .int (zI (f 4)), .int (zI (f 5)), .int (zI (f 6)), .int (zI (f 7)), .ref ca, .ref pa])), (ca, .inl (G 0, 128, .inl (cn))), (pa, .inl (G 0, 128, .inl (sn)))] H)) (zM none (fun H => ∃ dn en : Nat → Int32, va_P D vwCl [(ta, .inr (1, [.int (zI (f 1)), .int (zI (f 0)), .int (zI (f 2)), .int (zI (f 3)), .int (zI (f 4)), .int (zI (f 5)), .int (zI (f 6)), .int (zI (f 7)), .ref ca, .ref pa])), (ca, .inl (G 0, 128, .inl (dn))), (pa, .inl (G 0, 128, .inl (en)))] H ∧ ∀ k w : Int, 0 ≤ k → k < f 0 → 0 ≤ w → w < 4 → dn (4 * ((k + q) % f 0) + w).toNat = cn (4 * k + w).toNat) (zA [ta, ca, pa])) 0 0 (zA [ta, ca, pa]) := by
  refine Met.ofW (cc := cX1_moveSteps) (maxL := 3) (ret := none) (by decide) rfl ?_
  intro p e s m args below meth c s₁ B hml hv
  obtain ⟨hav, hP, hK, hN⟩ := hv
  have hx := B.exec
  have hb := B.bytes
  have hr := B.returns
  have hts := atoms_spec (ws := wsX1_moveSteps) B.pre
  have hown : s.vm.findClass RX1 = some m.cls := findClass_of_methodNamed B.named
  have hlocks : meth.locks = false := B.notSynchronized
  have hin1 : ∀ w ∈ u_ws RX1 TX1 10, w ∈ wsX1_moveSteps := by decide +kernel
  have hS : va_S (zA [ta, ca, pa]) s.heap s.heap [] := va_S.rf
  have hnd' := hnd
  simp only [List.nodup_cons, List.mem_cons, List.not_mem_nil, or_false, List.nodup_nil, and_true, not_or, not_false_eq_true] at hnd'
  have hD : va_D (zA [ta, ca, pa]) [(ta, .inr (1, [.int (zI (f 1)), .int (zI (f 0)), .int (zI (f 2)), .int (zI (f 3)), .int (zI (f 4)), .int (zI (f 5)), .int (zI (f 6)), .int (zI (f 7)), .ref ca, .ref pa])), (ca, .inl (G 0, 128, .inl (cn))), (pa, .inl (G 0, 128, .inl (sn)))] := z_Dof hnd rfl
  refine z_entry hav (Nat.le_of_ble_eq_true rfl) rfl (fun ls hl => ?_)
  have hl : lv_has ls 3 [(0, .ref ta), (1, .int (zI (q)))] := hl
  refine lv_aload_n hx hb dX1_moveSteps_0 rfl (lv_at hl 0 rfl) ?_
  refine va_get (D := D) (ci := 1) (v := .ref ca) (C := RX1) (T := TX1) (N := 10) hx hb hts hin1 hown hK hP 0 rfl rfl 8 (by decide) (hts (.fieldLink RX1 31 "PolyDrums$Track" "cells" "[I") (by decide +kernel)) (fun _ h9 => h9) rfl dX1_moveSteps_1 ?_
  refine lv_iconst (v := zI (0)) hx hb dX1_moveSteps_4 rfl ?_
  refine lv_aload_n hx hb dX1_moveSteps_5 rfl (lv_at hl 0 rfl) ?_
  refine va_get (D := D) (ci := 1) (v := .ref pa) (C := RX1) (T := TX1) (N := 10) hx hb hts hin1 hown hK hP 0 rfl rfl 9 (by decide) (hts (.fieldLink RX1 35 "PolyDrums$Track" "spare" "[I") (by decide +kernel)) (fun _ h9 => h9) rfl dX1_moveSteps_6 ?_
  refine lv_iconst (v := zI (0)) hx hb dX1_moveSteps_9 rfl ?_
  refine lv_sipush (v := zI (128)) hx hb dX1_moveSteps_10 (by decide) ?_
  refine va_copyi (D := D) (ty := .int) hx hb (hml.trans hl.1.symm) hown (hts (.methodLink RX1 64 arraycopyName) (by decide +kernel)) (hts (.native arraycopyName) (by decide +kernel)) (hts (.static arraycopyName) (by decide +kernel)) (hts (.initialized "java/lang/System") (by decide +kernel)) hK hP hD hS 1 2 0 0 rfl rfl rfl rfl rfl (by decide) (by decide) (by decide) (by decide) (by decide) (fun _ _ => rfl) (Nat.le_of_ble_eq_true rfl) (Nat.le_of_ble_eq_true rfl) dX1_moveSteps_13 (fun H locs hP hD hS => ?_)
  have hP : va_P D vwCl [(ta, .inr (1, [.int (zI (f 1)), .int (zI (f 0)), .int (zI (f 2)), .int (zI (f 3)), .int (zI (f 4)), .int (zI (f 5)), .int (zI (f 6)), .int (zI (f 7)), .ref ca, .ref pa])), (ca, .inl (G 0, 128, .inl (cn))), (pa, .inl (G 0, 128, .inl (va_cpy (cn) (sn) 0 0 128)))] H := hP
  have hD : va_D (zA [ta, ca, pa]) [(ta, .inr (1, [.int (zI (f 1)), .int (zI (f 0)), .int (zI (f 2)), .int (zI (f 3)), .int (zI (f 4)), .int (zI (f 5)), .int (zI (f 6)), .int (zI (f 7)), .ref ca, .ref pa])), (ca, .inl (G 0, 128, .inl (cn))), (pa, .inl (G 0, 128, .inl (va_cpy (cn) (sn) 0 0 128)))] := hD
  refine lv_iconst (v := zI (0)) hx hb dX1_moveSteps_16 rfl ?_
  refine lv_istore_n (lv' := [(2, .int (zI (0))), (0, .ref ta), (1, .int (zI (q)))]) hx hb dX1_moveSteps_17 rfl hl (by decide) rfl (fun ls hl => ?_)
  have loop_18 : ∀ (fu : Nat) (k : Int) (dn : Nat → Int32), (0 ≤ k ∧ k ≤ f 0) → (∀ t w : Int, 0 ≤ t → t < k → 0 ≤ w → w < 4 → dn (4 * ((t + q) % f 0) + w).toNat = cn (4 * t + w).toNat) → f 0 - k < (fu : Int) → ∀ (H : Heap) (locs : List Loc), va_P D vwCl [(ta, .inr (1, [.int (zI (f 1)), .int (zI (f 0)), .int (zI (f 2)), .int (zI (f 3)), .int (zI (f 4)), .int (zI (f 5)), .int (zI (f 6)), .int (zI (f 7)), .ref ca, .ref pa])), (ca, .inl (G 0, 128, .inl (dn))), (pa, .inl (G 0, 128, .inl (va_cpy cn sn 0 0 128)))] H → va_S (zA [ta, ca, pa]) s.heap H locs → ∀ (ls : Array Slot), lv_has ls 3 [(0, .ref ta), (1, .int (zI (q))), (2, .int (zI (k)))] → W p l e (headSpec wsX1_moveSteps ({ frames := 3, cells := 0, slots := 0, locals := 69 })).room s m args below meth c H locs 0 0 (MQ below (zM none (fun H => ∃ dn en : Nat → Int32, va_P D vwCl [(ta, .inr (1, [.int (zI (f 1)), .int (zI (f 0)), .int (zI (f 2)), .int (zI (f 3)), .int (zI (f 4)), .int (zI (f 5)), .int (zI (f 6)), .int (zI (f 7)), .ref ca, .ref pa])), (ca, .inl (G 0, 128, .inl (dn))), (pa, .inl (G 0, 128, .inl (en)))] H ∧ ∀ k w : Int, 0 ≤ k → k < f 0 → 0 ≤ w → w < 4 → dn (4 * ((k + q) % f 0) + w).toNat = cn (4 * k + w).toNat) (zA [ta, ca, pa])) args s 0 0 (zA [ta, ca, pa])) (F0 m 18 ls []) := by
    intro fu
    induction fu with
    | zero =>
      intro k dn hk0 hd hm
      exfalso; omega
    | succ fu ih =>
      intro k dn hk0 hd hm H locs hP hS ls hl
      have hD : va_D (zA [ta, ca, pa]) [(ta, .inr (1, [.int (zI (f 1)), .int (zI (f 0)), .int (zI (f 2)), .int (zI (f 3)), .int (zI (f 4)), .int (zI (f 5)), .int (zI (f 6)), .int (zI (f 7)), .ref ca, .ref pa])), (ca, .inl (G 0, 128, .inl (dn))), (pa, .inl (G 0, 128, .inl (va_cpy cn sn 0 0 128)))] := z_Dof hnd rfl
      have ih_18 := ih
      refine lv_iload_n hx hb dX1_moveSteps_18 rfl (lv_at hl 2 rfl) ?_
      refine lv_aload_n hx hb dX1_moveSteps_19 rfl (lv_at hl 0 rfl) ?_
      refine va_get (D := D) (ci := 1) (v := .int (zI (f 0))) (C := RX1) (T := TX1) (N := 10) hx hb hts hin1 hown hK hP 0 rfl rfl 1 (by decide) (hts (.fieldLink RX1 38 "PolyDrums$Track" "steps" "I") (by decide +kernel)) (fun _ h9 => h9) rfl dX1_moveSteps_20 ?_
      refine z_icmp_ge (tgt := 51) hx hb (by omega) dX1_moveSteps_23 (by decide) (fun c_1 => ?_) (fun c_1 => ?_)
      · exact zm_vret hx hb hr hlocks hS (⟨dn, _, hP, fun t w h1 h2 h3 h4 => hd t w h1 (by omega) h3 h4⟩) dX1_moveSteps_51
      · have c_1 : k < f 0 := by omega
        have hmb := x_modb (a := k + q) (r := f 0) (by omega)
        refine lv_aload_n hx hb dX1_moveSteps_26 rfl (lv_at hl 0 rfl) ?_
        refine lv_aload_n hx hb dX1_moveSteps_27 rfl (lv_at hl 0 rfl) ?_
        refine va_get (D := D) (ci := 1) (v := .ref pa) (C := RX1) (T := TX1) (N := 10) hx hb hts hin1 hown hK hP 0 rfl rfl 9 (by decide) (hts (.fieldLink RX1 35 "PolyDrums$Track" "spare" "[I") (by decide +kernel)) (fun _ h9 => h9) rfl dX1_moveSteps_28 ?_
        refine lv_iload_n hx hb dX1_moveSteps_31 rfl (lv_at hl 2 rfl) ?_
        refine lv_iload_n hx hb dX1_moveSteps_32 rfl (lv_at hl 2 rfl) ?_
        refine lv_iload_n hx hb dX1_moveSteps_33 rfl (lv_at hl 1 rfl) ?_
        refine z_iadd hx hb dX1_moveSteps_34 ?_
        refine lv_aload_n hx hb dX1_moveSteps_35 rfl (lv_at hl 0 rfl) ?_
        refine va_get (D := D) (ci := 1) (v := .int (zI (f 0))) (C := RX1) (T := TX1) (N := 10) hx hb hts hin1 hown hK hP 0 rfl rfl 1 (by decide) (hts (.fieldLink RX1 38 "PolyDrums$Track" "steps" "I") (by decide +kernel)) (fun _ h9 => h9) rfl dX1_moveSteps_36 ?_
        refine z_call (va_runSN (As := [.int (zI ((k) + (q))), .int (zI (f 0))]) (rest := [.int (zI (k)), .ref pa, .ref ta]) ⟨hx, hb, hml, hown, hts⟩ (kX2_rest l D G ((k) + (q)) (f 0) (by omega) (by omega)) ⟨va_cnB 2 hts gX1_moveSteps_X2_rest_n60 rfl rfl rfl (hN.1 (RX1, 60, yX2_rest) (by decide +kernel)) (hts (.initialized RX2) (by decide +kernel)) (by decide +kernel) ⟨Nat.le_of_ble_eq_true rfl, Nat.le_of_ble_eq_true rfl⟩, hts (.static yX2_rest) (by decide +kernel), trivial⟩ (zPreS hK hN (trivial)) rfl rfl hl.1 rfl (lv_room (Nat.le_of_ble_eq_true rfl)) dX1_moveSteps_39 ⟨Nat.le_of_ble_eq_true rfl, Nat.le_of_ble_eq_true rfl⟩) ?_
        refine z_callM (va_runV (As := [.ref pa, .int (zI (k)), .int (zI (((k) + (q)) % (f 0)))]) (rest := []) ⟨hx, hb, hml, hown, hts⟩ (kX1_copyStep_s l D G ta ca pa f (dn) (va_cpy cn sn 0 0 128) (k) (((k) + (q)) % (f 0)) (by simp only [List.nodup_cons, List.mem_cons, List.not_mem_nil, or_false, List.nodup_nil, and_true, not_or, not_false_eq_true]; omega) (by omega) (by omega)) (cwV 3 hts gX1_moveSteps_X1_copyStep rfl rfl rfl (by decide +kernel) ⟨Nat.le_of_ble_eq_true rfl, Nat.le_of_ble_eq_true rfl⟩) (zPreV (va_recv hK hP (ci := 1) (q0 := 0) rfl rfl) hK hN (hP.sub [0, 1, 2] rfl)) rfl rfl hl.1 rfl (lv_room (Nat.le_of_ble_eq_true rfl)) dX1_moveSteps_42 ⟨Nat.le_of_ble_eq_true rfl, Nat.le_of_ble_eq_true rfl⟩) hS (by intro q hq9 hq; simp only [zA, zAn, List.mem_cons, List.not_mem_nil, or_false] at hq ⊢ <;> omega) (by intro q hq; simp only [zA, zAn, List.mem_cons, List.not_mem_nil, or_false] at hq ⊢ <;> omega) (fun H1 locs1 hp1 hz1 hk1 hS1 => ?_)
        have hP : va_P D vwCl [(ta, .inr (1, [.int (zI (f 1)), .int (zI (f 0)), .int (zI (f 2)), .int (zI (f 3)), .int (zI (f 4)), .int (zI (f 5)), .int (zI (f 6)), .int (zI (f 7)), .ref ca, .ref pa])), (ca, .inl (G 0, 128, .inl (xCpy (va_cpy cn sn 0 0 128) (dn) (k) (((k) + (q)) % (f 0)) 4))), (pa, .inl (G 0, 128, .inl (va_cpy cn sn 0 0 128)))] H1 := z_merge hP hk1 (w1 := [(ta, .inr (1, [.int (zI (f 1)), .int (zI (f 0)), .int (zI (f 2)), .int (zI (f 3)), .int (zI (f 4)), .int (zI (f 5)), .int (zI (f 6)), .int (zI (f 7)), .ref ca, .ref pa])), (ca, .inl (G 0, 128, .inl (xCpy (va_cpy cn sn 0 0 128) (dn) (k) (((k) + (q)) % (f 0)) 4))), (pa, .inl (G 0, 128, .inl (va_cpy cn sn 0 0 128)))]) (wr := []) hp1 [] rfl (by intro q hq; simp only [List.map, List.mem_cons, List.not_mem_nil, or_false] at hq ⊢ <;> omega) [0, 1, 2] rfl
        have hS := hS1
        clear hS1
        refine lv_iinc (v := zI (k + 1)) (lv' := [(2, .int (zI (k + 1))), (0, .ref ta), (1, .int (zI (q)))]) hx hb dX1_moveSteps_45 hl (k := 2) rfl (zI_add (k) (1)) (by decide) rfl (fun ls hl => ?_)
        refine lv_goto (tgt := 18) hx hb dX1_moveSteps_48 (by decide) ?_
        exact ih_18 (k + 1) (xCpy (va_cpy cn sn 0 0 128) (dn) (k) (((k) + (q)) % (f 0)) 4) (by omega) (x_move hd hk0.1 c_1 hf0.1 hf0.2 hq.1) (by omega) _ _ (hP) hS _ (lv_sub hl [1, 2, 0] rfl)
  exact loop_18 (33) (0) (cn) (by omega) (fun t w h1 h2 _ _ => by omega) (by omega) _ _ (hP) hS ls (lv_sub hl [1, 2, 0] rfl)
