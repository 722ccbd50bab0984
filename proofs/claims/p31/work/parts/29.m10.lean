set_option maxHeartbeats 4000000 in
set_option maxRecDepth 100000 in
theorem kX2_set (l : Launch) (D : va_G) (G : Nat → ClassId) (hl9 : l.stackTraces = false) (ax : Nat) (n m9 sp : Int) (τ ζ : Nat → Nat → Int) (g : Nat → Nat → Nat) (cs ss : Nat → Nat → Int32) (hOK : XOK n m9 sp τ ζ) (lab : Nat → Nat) (hXL : XL lab ax n m9 g) (k s9 v r9 : Int) (hr0 : -2147483648 ≤ k ∧ k ≤ 2147483647) (hr1 : -2147483648 ≤ s9 ∧ s9 ≤ 2147483647) (hr2 : -2147483648 ≤ v ∧ v ≤ 2147483647) (hr3 : -2147483648 ≤ r9 ∧ r9 ≤ 2147483647) : vx_Met l yX2_set wsX2_set ({ frames := 8, cells := 3, slots := 18, locals := 175 }) (zPT [.ref ax, .int (zI (k)), .int (zI (s9)), .int (zI (v)), .int (zI (r9))] D G (fun H => XW D G ax n m9 sp τ ζ g cs ss H)) (zMc (some (.int (zI (xC (τ k.toNat) s9 0)))) ((0 ≤ k ∧ k < n ∧ 0 ≤ s9 ∧ s9 < τ k.toNat 0) ∧ ((0 ≤ v ∧ v ≤ 127) ∧ (1 ≤ r9 ∧ r9 ≤ 4))) (fun H => ∃ cs' ss' : Nat → Nat → Int32, XW D G ax n m9 sp (va_up τ k.toNat (xFs (τ k.toNat) s9 v r9)) ζ g cs' ss' H) (zA [g 1 k.toNat, g 2 k.toNat, g 3 k.toNat])) (zX (fun E => (E = zIO ∧ ¬ (0 ≤ k ∧ k < n ∧ 0 ≤ s9 ∧ s9 < τ k.toNat 0)) ∨ (E = zIA ∧ (0 ≤ k ∧ k < n ∧ 0 ≤ s9 ∧ s9 < τ k.toNat 0) ∧ ¬ ((0 ≤ v ∧ v ≤ 127) ∧ (1 ≤ r9 ∧ r9 ≤ 4))))) 3 18 (zA [g 1 k.toNat, g 2 k.toNat, g 3 k.toNat]) := by
  refine vx_ofW (cc := cX2_set) (maxL := 7) (ret := (some .int)) (by decide) rfl ?_
  intro p e s m args below meth c s₁ B hml htab hv
  obtain ⟨hav, hW, hK, hN, hT0⟩ := hv
  have hx := B.exec
  have hb := B.bytes
  have hr := B.returns
  have hts := atoms_spec (ws := wsX2_set) B.pre
  have hown : s.vm.findClass RX2 = some m.cls := findClass_of_methodNamed B.named
  have hlocks : meth.locks = false := B.notSynchronized
  have hS : va_S (zA [g 1 k.toNat, g 2 k.toNat, g 3 k.toNat]) s.heap s.heap [] := va_S.rf
  obtain ⟨hP, hT, hZ⟩ := id hW
  have hB := id hOK
  obtain ⟨hn0, hn8, hm0, hm12, hsp0, hsp1, -⟩ := hB
  refine z_entry hav (Nat.le_of_ble_eq_true rfl) rfl (fun ls hl => ?_)
  have hl : lv_has ls 7 [(0, .ref ax), (1, .int (zI (k))), (2, .int (zI (s9))), (3, .int (zI (v))), (4, .int (zI (r9)))] := hl
  refine lv_aload_n hx hb dX2_set_0 rfl (lv_at hl 0 rfl) ?_
  refine lv_iload_n hx hb dX2_set_1 rfl (lv_at hl 1 rfl) ?_
  refine lv_iload_n hx hb dX2_set_2 rfl (lv_at hl 2 rfl) ?_
  refine z_callX (vx_runV (As := [.int (zI (k)), .int (zI (s9))]) (rest := []) ⟨hx, hb, hml, hown, hts⟩ (kX2_trackWithStep l D G hl9 ax n m9 sp τ ζ g cs ss hOK (k) (s9) (by omega) (by omega)) (cwV 2 hts gX2_set_X2_trackWithStep rfl rfl rfl (by decide +kernel) ⟨Nat.le_of_ble_eq_true rfl, Nat.le_of_ble_eq_true rfl⟩) (zPTreV (va_recv hK hP (ci := 2) (q0 := 0) rfl rfl) hK hN hT0 (hW)) rfl rfl hl.1 rfl (lv_room (Nat.le_of_ble_eq_true rfl)) dX2_set_3 ⟨Nat.le_of_ble_eq_true rfl, Nat.le_of_ble_eq_true rfl⟩) (fun E ce q9 H1 hco hz hk1 hce hcv hcl => ?_) (fun hp_1 => ?_)
  · exact zx_out htab hlocks hz hk1 hce hcv hcl (by first | exact (hco.2 trivial).elim | exact ⟨hco.1, by have h9 := hco.2; omega⟩ | exact Or.inl ⟨hco.1, by have h9 := hco.2; omega⟩ | exact Or.inr ⟨hco.1, by omega, by have h9 := hco.2; omega⟩) (Nat.le_of_ble_eq_true rfl) (Nat.le_of_ble_eq_true rfl)
  have htb := hOK.tb (k := k) (by omega)
  refine lv_astore (lv' := [(5, .ref (g 1 (k).toNat)), (0, .ref ax), (1, .int (zI (k))), (2, .int (zI (s9))), (3, .int (zI (v))), (4, .int (zI (r9)))]) hx hb dX2_set_6 hl (by decide) rfl (fun ls hl => ?_)
  refine lv_iload_n hx hb dX2_set_8 rfl (lv_at hl 4 rfl) ?_
  refine lv_iconst (v := zI (0)) hx hb dX2_set_9 rfl ?_
  refine lv_bipush (v := zI (127)) hx hb dX2_set_10 (by decide) ?_
  refine z_call (va_runS (As := [.int (zI (v)), .int (zI (0)), .int (zI (127))]) (rest := []) ⟨hx, hb, hml, hown, hts⟩ (kX2_isWithin l D G (v) (0) (127) (by omega) (by omega) (by omega)) (va_cwS 3 hts gX2_set_X2_isWithin rfl rfl rfl (by decide +kernel) ⟨Nat.le_of_ble_eq_true rfl, Nat.le_of_ble_eq_true rfl⟩) (zPreS hK hN (trivial)) rfl rfl hl.1 rfl (lv_room (Nat.le_of_ble_eq_true rfl)) dX2_set_12 ⟨Nat.le_of_ble_eq_true rfl, Nat.le_of_ble_eq_true rfl⟩) ?_
  refine z_eqB (tgt := 32) hx hb dX2_set_15 (by decide) (fun c_2 => ?_) (fun c_2 => ?_)
  · refine lv_iconst (v := zI (0)) hx hb dX2_set_32 rfl ?_
    refine z_top (w := .int (zB False)) (by rw [zB_f (fun h => h)]; rfl) ?_
    refine z_callX (vx_runS (As := [.int (zB (False))]) (rest := []) ⟨hx, hb, hml, hown, hts⟩ (kX2_checkArgument l D G hl9 (False)) (va_cwS 1 hts gX2_set_X2_checkArgument rfl rfl rfl (by decide +kernel) ⟨Nat.le_of_ble_eq_true rfl, Nat.le_of_ble_eq_true rfl⟩) (zPTreS hK hN hT0 (trivial)) rfl rfl hl.1 rfl (lv_room (Nat.le_of_ble_eq_true rfl)) dX2_set_33 ⟨Nat.le_of_ble_eq_true rfl, Nat.le_of_ble_eq_true rfl⟩) (fun E ce q9 H1 hco hz hk1 hce hcv hcl => ?_) (fun hp_3 => ?_)
    · exact zx_out htab hlocks hz hk1 hce hcv hcl (by first | exact (hco.2 trivial).elim | exact ⟨hco.1, by have h9 := hco.2; omega⟩ | exact Or.inl ⟨hco.1, by have h9 := hco.2; omega⟩ | exact Or.inr ⟨hco.1, by omega, by have h9 := hco.2; omega⟩) (Nat.le_of_ble_eq_true rfl) (Nat.le_of_ble_eq_true rfl)
    exact hp_3.elim
  · refine lv_iload hx hb dX2_set_18 (lv_at hl 5 rfl) ?_
    refine lv_iconst (v := zI (1)) hx hb dX2_set_20 rfl ?_
    refine lv_iconst (v := zI (4)) hx hb dX2_set_21 rfl ?_
    refine z_call (va_runS (As := [.int (zI (r9)), .int (zI (1)), .int (zI (4))]) (rest := []) ⟨hx, hb, hml, hown, hts⟩ (kX2_isWithin l D G (r9) (1) (4) (by omega) (by omega) (by omega)) (va_cwS 3 hts gX2_set_X2_isWithin rfl rfl rfl (by decide +kernel) ⟨Nat.le_of_ble_eq_true rfl, Nat.le_of_ble_eq_true rfl⟩) (zPreS hK hN (trivial)) rfl rfl hl.1 rfl (lv_room (Nat.le_of_ble_eq_true rfl)) dX2_set_22 ⟨Nat.le_of_ble_eq_true rfl, Nat.le_of_ble_eq_true rfl⟩) ?_
    refine z_eqB (tgt := 32) hx hb dX2_set_25 (by decide) (fun c_4 => ?_) (fun c_4 => ?_)
    · refine lv_iconst (v := zI (0)) hx hb dX2_set_32 rfl ?_
      refine z_top (w := .int (zB False)) (by rw [zB_f (fun h => h)]; rfl) ?_
      refine z_callX (vx_runS (As := [.int (zB (False))]) (rest := []) ⟨hx, hb, hml, hown, hts⟩ (kX2_checkArgument l D G hl9 (False)) (va_cwS 1 hts gX2_set_X2_checkArgument rfl rfl rfl (by decide +kernel) ⟨Nat.le_of_ble_eq_true rfl, Nat.le_of_ble_eq_true rfl⟩) (zPTreS hK hN hT0 (trivial)) rfl rfl hl.1 rfl (lv_room (Nat.le_of_ble_eq_true rfl)) dX2_set_33 ⟨Nat.le_of_ble_eq_true rfl, Nat.le_of_ble_eq_true rfl⟩) (fun E ce q9 H1 hco hz hk1 hce hcv hcl => ?_) (fun hp_5 => ?_)
      · exact zx_out htab hlocks hz hk1 hce hcv hcl (by first | exact (hco.2 trivial).elim | exact ⟨hco.1, by have h9 := hco.2; omega⟩ | exact Or.inl ⟨hco.1, by have h9 := hco.2; omega⟩ | exact Or.inr ⟨hco.1, by omega, by have h9 := hco.2; omega⟩) (Nat.le_of_ble_eq_true rfl) (Nat.le_of_ble_eq_true rfl)
      exact hp_5.elim
    · refine lv_iconst (v := zI (1)) hx hb dX2_set_28 rfl ?_
      refine lv_goto (tgt := 33) hx hb dX2_set_29 (by decide) ?_
      refine z_top (w := .int (zB True)) (by rw [zB_t trivial]; rfl) ?_
      refine z_callX (vx_runS (As := [.int (zB (True))]) (rest := []) ⟨hx, hb, hml, hown, hts⟩ (kX2_checkArgument l D G hl9 (True)) (va_cwS 1 hts gX2_set_X2_checkArgument rfl rfl rfl (by decide +kernel) ⟨Nat.le_of_ble_eq_true rfl, Nat.le_of_ble_eq_true rfl⟩) (zPTreS hK hN hT0 (trivial)) rfl rfl hl.1 rfl (lv_room (Nat.le_of_ble_eq_true rfl)) dX2_set_33 ⟨Nat.le_of_ble_eq_true rfl, Nat.le_of_ble_eq_true rfl⟩) (fun E ce q9 H1 hco hz hk1 hce hcv hcl => ?_) (fun hp_6 => ?_)
      · exact zx_out htab hlocks hz hk1 hce hcv hcl (by first | exact (hco.2 trivial).elim | exact ⟨hco.1, by have h9 := hco.2; omega⟩ | exact Or.inl ⟨hco.1, by have h9 := hco.2; omega⟩ | exact Or.inr ⟨hco.1, by omega, by have h9 := hco.2; omega⟩) (Nat.le_of_ble_eq_true rfl) (Nat.le_of_ble_eq_true rfl)
      have hPt : va_P D vwCl [((g 1 (k).toNat), .inr (1, [.int (zI ((τ k.toNat) 1)), .int (zI ((τ k.toNat) 0)), .int (zI ((τ k.toNat) 2)), .int (zI ((τ k.toNat) 3)), .int (zI ((τ k.toNat) 4)), .int (zI ((τ k.toNat) 5)), .int (zI ((τ k.toNat) 6)), .int (zI ((τ k.toNat) 7)), .ref (g 2 (k).toNat), .ref (g 3 (k).toNat)])), ((g 2 (k).toNat), .inl (G 0, 128, .inl (cs k.toNat))), ((g 3 (k).toNat), .inl (G 0, 128, .inl (ss k.toNat)))] s.heap := (hT k.toNat (by omega)).1
      have hRt := (hT k.toNat (by omega)).2
      have hft := hOK.t (k := k) (by omega)
      have hnd := hXL.nd (k := k.toNat) (by omega)
      have hnd' := hnd
      simp only [List.nodup_cons, List.mem_cons, List.not_mem_nil, or_false, List.nodup_nil, and_true, not_or, not_false_eq_true] at hnd'
      have hD : va_D (zA [g 1 k.toNat, g 2 k.toNat, g 3 k.toNat]) [((g 1 (k).toNat), .inr (1, [.int (zI ((τ k.toNat) 1)), .int (zI ((τ k.toNat) 0)), .int (zI ((τ k.toNat) 2)), .int (zI ((τ k.toNat) 3)), .int (zI ((τ k.toNat) 4)), .int (zI ((τ k.toNat) 5)), .int (zI ((τ k.toNat) 6)), .int (zI ((τ k.toNat) 7)), .ref (g 2 (k).toNat), .ref (g 3 (k).toNat)])), ((g 2 (k).toNat), .inl (G 0, 128, .inl (cs k.toNat))), ((g 3 (k).toNat), .inl (G 0, 128, .inl (ss k.toNat)))] := z_Dof hnd rfl
      refine lv_aload hx hb dX2_set_36 (lv_at hl 0 rfl) ?_
      refine lv_iload_n hx hb dX2_set_38 rfl (lv_at hl 3 rfl) ?_
      refine lv_iconst (v := zI (0)) hx hb dX2_set_39 rfl ?_
      refine z_call (va_runVN (As := [.int (zI (s9)), .int (zI (0))]) (rest := []) ⟨hx, hb, hml, hown, hts⟩ (kX1_cell l D G (g 1 (k).toNat) (g 2 (k).toNat) (g 3 (k).toNat) (τ k.toNat) (cs k.toNat) (s9) (0) (by omega) hRt (by omega) (by omega)) ⟨va_cnB 2 hts gX2_set_X1_cell_n53 rfl rfl rfl (hN.1 (RX2, 53, yX1_cell) (by decide +kernel)) (hts (.initialized RX1) (by decide +kernel)) (by decide +kernel) ⟨Nat.le_of_ble_eq_true rfl, Nat.le_of_ble_eq_true rfl⟩, hts (.instanceMethod yX1_cell) (by decide +kernel), hts (.selects RX1 yX1_cell yX1_cell) (by decide +kernel)⟩ (zPreV (va_recv hK hPt (ci := 1) (q0 := 0) rfl rfl) hK hN (hPt.sub [0, 1] rfl)) rfl rfl hl.1 rfl (lv_room (Nat.le_of_ble_eq_true rfl)) dX2_set_40 ⟨Nat.le_of_ble_eq_true rfl, Nat.le_of_ble_eq_true rfl⟩) ?_
      refine lv_istore (lv' := [(6, .int (zI (xC (τ k.toNat) (s9) 0))), (5, .ref (g 1 (k).toNat)), (0, .ref ax), (1, .int (zI (k))), (2, .int (zI (s9))), (3, .int (zI (v))), (4, .int (zI (r9)))]) hx hb dX2_set_43 hl (by decide) rfl (fun ls hl => ?_)
      refine lv_aload hx hb dX2_set_45 (lv_at hl 1 rfl) ?_
      refine lv_iload_n hx hb dX2_set_47 rfl (lv_at hl 4 rfl) ?_
      refine lv_iconst (v := zI (0)) hx hb dX2_set_48 rfl ?_
      refine lv_iload_n hx hb dX2_set_49 rfl (lv_at hl 5 rfl) ?_
      refine z_callM (va_runVN (As := [.int (zI (s9)), .int (zI (0)), .int (zI (v))]) (rest := []) ⟨hx, hb, hml, hown, hts⟩ (kX1_putCell l D G (g 1 (k).toNat) (g 2 (k).toNat) (g 3 (k).toNat) (τ k.toNat) (cs k.toNat) (s9) (0) (zI (v)) (by simp only [List.nodup_cons, List.mem_cons, List.not_mem_nil, or_false, List.nodup_nil, and_true, not_or, not_false_eq_true]; omega) (by omega) (by omega)) ⟨va_cnB 3 hts gX2_set_X1_putCell_n57 rfl rfl rfl (hN.1 (RX2, 57, yX1_putCell) (by decide +kernel)) (hts (.initialized RX1) (by decide +kernel)) (by decide +kernel) ⟨Nat.le_of_ble_eq_true rfl, Nat.le_of_ble_eq_true rfl⟩, hts (.instanceMethod yX1_putCell) (by decide +kernel), hts (.selects RX1 yX1_putCell yX1_putCell) (by decide +kernel)⟩ (zPreV (va_recv hK hPt (ci := 1) (q0 := 0) rfl rfl) hK hN (hPt.sub [0, 1] rfl)) rfl rfl hl.1 rfl (lv_room (Nat.le_of_ble_eq_true rfl)) dX2_set_50 ⟨Nat.le_of_ble_eq_true rfl, Nat.le_of_ble_eq_true rfl⟩) hS (by intro q hq9 hq; simp only [zA, zAn, List.mem_cons, List.not_mem_nil, or_false] at hq ⊢ <;> omega) (by intro q hq; simp only [zA, zAn, List.mem_cons, List.not_mem_nil, or_false] at hq ⊢ <;> omega) (fun H1 locs1 hp1 hz1 hk1 hS1 => ?_)
      have hP : va_P D vwCl [((g 1 (k).toNat), .inr (1, [.int (zI ((τ k.toNat) 1)), .int (zI ((τ k.toNat) 0)), .int (zI ((τ k.toNat) 2)), .int (zI ((τ k.toNat) 3)), .int (zI ((τ k.toNat) 4)), .int (zI ((τ k.toNat) 5)), .int (zI ((τ k.toNat) 6)), .int (zI ((τ k.toNat) 7)), .ref (g 2 (k).toNat), .ref (g 3 (k).toNat)])), ((g 2 (k).toNat), .inl (G 0, 128, .inl (upd (cs k.toNat) ((s9) * 4 + 0).toNat (zI (v))))), ((g 3 (k).toNat), .inl (G 0, 128, .inl (ss k.toNat)))] H1 := z_merge hPt hk1 (w1 := [((g 1 (k).toNat), .inr (1, [.int (zI ((τ k.toNat) 1)), .int (zI ((τ k.toNat) 0)), .int (zI ((τ k.toNat) 2)), .int (zI ((τ k.toNat) 3)), .int (zI ((τ k.toNat) 4)), .int (zI ((τ k.toNat) 5)), .int (zI ((τ k.toNat) 6)), .int (zI ((τ k.toNat) 7)), .ref (g 2 (k).toNat), .ref (g 3 (k).toNat)])), ((g 2 (k).toNat), .inl (G 0, 128, .inl (upd (cs k.toNat) ((s9) * 4 + 0).toNat (zI (v)))))]) (wr := [((g 3 (k).toNat), .inl (G 0, 128, .inl (ss k.toNat)))]) hp1 [2] rfl (by intro q hq; simp only [List.map, List.mem_cons, List.not_mem_nil, or_false] at hq ⊢ <;> omega) [0, 1, 2] rfl
      have hS := hS1
      clear hS1
      refine lv_aload hx hb dX2_set_53 (lv_at hl 1 rfl) ?_
      refine lv_iload_n hx hb dX2_set_55 rfl (lv_at hl 4 rfl) ?_
      refine lv_iconst (v := zI (1)) hx hb dX2_set_56 rfl ?_
      refine lv_iload hx hb dX2_set_57 (lv_at hl 6 rfl) ?_
      refine z_callM (va_runVN (As := [.int (zI (s9)), .int (zI (1)), .int (zI (r9))]) (rest := []) ⟨hx, hb, hml, hown, hts⟩ (kX1_putCell l D G (g 1 (k).toNat) (g 2 (k).toNat) (g 3 (k).toNat) (τ k.toNat) (upd (cs k.toNat) ((s9) * 4 + 0).toNat (zI (v))) (s9) (1) (zI (r9)) (by simp only [List.nodup_cons, List.mem_cons, List.not_mem_nil, or_false, List.nodup_nil, and_true, not_or, not_false_eq_true]; omega) (by omega) (by omega)) ⟨va_cnB 3 hts gX2_set_X1_putCell_n57 rfl rfl rfl (hN.1 (RX2, 57, yX1_putCell) (by decide +kernel)) (hts (.initialized RX1) (by decide +kernel)) (by decide +kernel) ⟨Nat.le_of_ble_eq_true rfl, Nat.le_of_ble_eq_true rfl⟩, hts (.instanceMethod yX1_putCell) (by decide +kernel), hts (.selects RX1 yX1_putCell yX1_putCell) (by decide +kernel)⟩ (zPreV (va_recv hK hP (ci := 1) (q0 := 0) rfl rfl) hK hN (hP.sub [0, 1] rfl)) rfl rfl hl.1 rfl (lv_room (Nat.le_of_ble_eq_true rfl)) dX2_set_59 ⟨Nat.le_of_ble_eq_true rfl, Nat.le_of_ble_eq_true rfl⟩) hS (by intro q hq9 hq; simp only [zA, zAn, List.mem_cons, List.not_mem_nil, or_false] at hq ⊢ <;> omega) (by intro q hq; simp only [zA, zAn, List.mem_cons, List.not_mem_nil, or_false] at hq ⊢ <;> omega) (fun H1 locs1 hp1 hz1 hk1 hS1 => ?_)
      have hP : va_P D vwCl [((g 1 (k).toNat), .inr (1, [.int (zI ((τ k.toNat) 1)), .int (zI ((τ k.toNat) 0)), .int (zI ((τ k.toNat) 2)), .int (zI ((τ k.toNat) 3)), .int (zI ((τ k.toNat) 4)), .int (zI ((τ k.toNat) 5)), .int (zI ((τ k.toNat) 6)), .int (zI ((τ k.toNat) 7)), .ref (g 2 (k).toNat), .ref (g 3 (k).toNat)])), ((g 2 (k).toNat), .inl (G 0, 128, .inl (upd (upd (cs k.toNat) ((s9) * 4 + 0).toNat (zI (v))) ((s9) * 4 + 1).toNat (zI (r9))))), ((g 3 (k).toNat), .inl (G 0, 128, .inl (ss k.toNat)))] H1 := z_merge hP hk1 (w1 := [((g 1 (k).toNat), .inr (1, [.int (zI ((τ k.toNat) 1)), .int (zI ((τ k.toNat) 0)), .int (zI ((τ k.toNat) 2)), .int (zI ((τ k.toNat) 3)), .int (zI ((τ k.toNat) 4)), .int (zI ((τ k.toNat) 5)), .int (zI ((τ k.toNat) 6)), .int (zI ((τ k.toNat) 7)), .ref (g 2 (k).toNat), .ref (g 3 (k).toNat)])), ((g 2 (k).toNat), .inl (G 0, 128, .inl (upd (upd (cs k.toNat) ((s9) * 4 + 0).toNat (zI (v))) ((s9) * 4 + 1).toNat (zI (r9)))))]) (wr := [((g 3 (k).toNat), .inl (G 0, 128, .inl (ss k.toNat)))]) hp1 [2] rfl (by intro q hq; simp only [List.map, List.mem_cons, List.not_mem_nil, or_false] at hq ⊢ <;> omega) [0, 1, 2] rfl
      have hS := hS1
      clear hS1
      refine lv_iload hx hb dX2_set_62 (lv_at hl 0 rfl) ?_
      exact zmc_iret hx hb hr hlocks hS (⟨_, _, XW_upd hW hXL hn8 (k := k.toNat) (by omega) (f' := xFs (τ k.toNat) s9 v r9) (by rw [xTw_congr (xFs_lo (by omega))]; exact hP) (xFs_tr hRt (by omega)) hS.2.1⟩) (by first | rfl | omega) (by omega) dX2_set_64 (Nat.le_of_ble_eq_true rfl) (Nat.le_of_ble_eq_true rfl)

set_option maxHeartbeats 4000000 in
set_option maxRecDepth 100000 in
theorem kX2_setTurn (l : Launch) (D : va_G) (G : Nat → ClassId) (hl9 : l.stackTraces = false) (ax : Nat) (n m9 sp : Int) (τ ζ : Nat → Nat → Int) (g : Nat → Nat → Nat) (cs ss : Nat → Nat → Int32) (hOK : XOK n m9 sp τ ζ) (lab : Nat → Nat) (hXL : XL lab ax n m9 g) (k s9 a b : Int) (hr0 : -2147483648 ≤ k ∧ k ≤ 2147483647) (hr1 : -2147483648 ≤ s9 ∧ s9 ≤ 2147483647) (hr2 : -2147483648 ≤ a ∧ a ≤ 2147483647) (hr3 : -2147483648 ≤ b ∧ b ≤ 2147483647) : vx_Met l yX2_setTurn wsX2_setTurn ({ frames := 8, cells := 3, slots := 18, locals := 175 }) (zPT [.ref ax, .int (zI (k)), .int (zI (s9)), .int (zI (a)), .int (zI (b))] D G (fun H => XW D G ax n m9 sp τ ζ g cs ss H)) (zMc (some (.int (zI (xC (τ k.toNat) s9 3)))) ((0 ≤ k ∧ k < n ∧ 0 ≤ s9 ∧ s9 < τ k.toNat 0) ∧ ((1 ≤ b ∧ b ≤ 8) ∧ (0 ≤ a ∧ a ≤ b - 1))) (fun H => ∃ cs' ss' : Nat → Nat → Int32, XW D G ax n m9 sp (va_up τ k.toNat (xFt (τ k.toNat) s9 a b)) ζ g cs' ss' H) (zA [g 1 k.toNat, g 2 k.toNat, g 3 k.toNat])) (zX (fun E => (E = zIO ∧ ¬ (0 ≤ k ∧ k < n ∧ 0 ≤ s9 ∧ s9 < τ k.toNat 0)) ∨ (E = zIA ∧ (0 ≤ k ∧ k < n ∧ 0 ≤ s9 ∧ s9 < τ k.toNat 0) ∧ ¬ ((1 ≤ b ∧ b ≤ 8) ∧ (0 ≤ a ∧ a ≤ b - 1))))) 3 18 (zA [g 1 k.toNat, g 2 k.toNat, g 3 k.toNat]) := by
  refine vx_ofW (cc := cX2_setTurn) (maxL := 7) (ret := (some .int)) (by decide) rfl ?_
  intro p e s m args below meth c s₁ B hml htab hv
  obtain ⟨hav, hW, hK, hN, hT0⟩ := hv
  have hx := B.exec
  have hb := B.bytes
  have hr := B.returns
  have hts := atoms_spec (ws := wsX2_setTurn) B.pre
  have hown : s.vm.findClass RX2 = some m.cls := findClass_of_methodNamed B.named
  have hlocks : meth.locks = false := B.notSynchronized
  have hS : va_S (zA [g 1 k.toNat, g 2 k.toNat, g 3 k.toNat]) s.heap s.heap [] := va_S.rf
  obtain ⟨hP, hT, hZ⟩ := id hW
  have hB := id hOK
  obtain ⟨hn0, hn8, hm0, hm12, hsp0, hsp1, -⟩ := hB
  refine z_entry hav (Nat.le_of_ble_eq_true rfl) rfl (fun ls hl => ?_)
  have hl : lv_has ls 7 [(0, .ref ax), (1, .int (zI (k))), (2, .int (zI (s9))), (3, .int (zI (a))), (4, .int (zI (b)))] := hl
  refine lv_aload_n hx hb dX2_setTurn_0 rfl (lv_at hl 0 rfl) ?_
  refine lv_iload_n hx hb dX2_setTurn_1 rfl (lv_at hl 1 rfl) ?_
  refine lv_iload_n hx hb dX2_setTurn_2 rfl (lv_at hl 2 rfl) ?_
  refine z_callX (vx_runV (As := [.int (zI (k)), .int (zI (s9))]) (rest := []) ⟨hx, hb, hml, hown, hts⟩ (kX2_trackWithStep l D G hl9 ax n m9 sp τ ζ g cs ss hOK (k) (s9) (by omega) (by omega)) (cwV 2 hts gX2_setTurn_X2_trackWithStep rfl rfl rfl (by decide +kernel) ⟨Nat.le_of_ble_eq_true rfl, Nat.le_of_ble_eq_true rfl⟩) (zPTreV (va_recv hK hP (ci := 2) (q0 := 0) rfl rfl) hK hN hT0 (hW)) rfl rfl hl.1 rfl (lv_room (Nat.le_of_ble_eq_true rfl)) dX2_setTurn_3 ⟨Nat.le_of_ble_eq_true rfl, Nat.le_of_ble_eq_true rfl⟩) (fun E ce q9 H1 hco hz hk1 hce hcv hcl => ?_) (fun hp_1 => ?_)
  · exact zx_out htab hlocks hz hk1 hce hcv hcl (by first | exact (hco.2 trivial).elim | exact ⟨hco.1, by have h9 := hco.2; omega⟩ | exact Or.inl ⟨hco.1, by have h9 := hco.2; omega⟩ | exact Or.inr ⟨hco.1, by omega, by have h9 := hco.2; omega⟩) (Nat.le_of_ble_eq_true rfl) (Nat.le_of_ble_eq_true rfl)
  have htb := hOK.tb (k := k) (by omega)
  refine lv_astore (lv' := [(5, .ref (g 1 (k).toNat)), (0, .ref ax), (1, .int (zI (k))), (2, .int (zI (s9))), (3, .int (zI (a))), (4, .int (zI (b)))]) hx hb dX2_setTurn_6 hl (by decide) rfl (fun ls hl => ?_)
  refine lv_iload hx hb dX2_setTurn_8 (lv_at hl 5 rfl) ?_
  refine lv_iconst (v := zI (1)) hx hb dX2_setTurn_10 rfl ?_
  refine lv_bipush (v := zI (8)) hx hb dX2_setTurn_11 (by decide) ?_
  refine z_call (va_runS (As := [.int (zI (b)), .int (zI (1)), .int (zI (8))]) (rest := []) ⟨hx, hb, hml, hown, hts⟩ (kX2_isWithin l D G (b) (1) (8) (by omega) (by omega) (by omega)) (va_cwS 3 hts gX2_setTurn_X2_isWithin rfl rfl rfl (by decide +kernel) ⟨Nat.le_of_ble_eq_true rfl, Nat.le_of_ble_eq_true rfl⟩) (zPreS hK hN (trivial)) rfl rfl hl.1 rfl (lv_room (Nat.le_of_ble_eq_true rfl)) dX2_setTurn_13 ⟨Nat.le_of_ble_eq_true rfl, Nat.le_of_ble_eq_true rfl⟩) ?_
  refine z_eqB (tgt := 35) hx hb dX2_setTurn_16 (by decide) (fun c_2 => ?_) (fun c_2 => ?_)
  · refine lv_iconst (v := zI (0)) hx hb dX2_setTurn_35 rfl ?_
    refine z_top (w := .int (zB False)) (by rw [zB_f (fun h => h)]; rfl) ?_
    refine z_callX (vx_runS (As := [.int (zB (False))]) (rest := []) ⟨hx, hb, hml, hown, hts⟩ (kX2_checkArgument l D G hl9 (False)) (va_cwS 1 hts gX2_setTurn_X2_checkArgument rfl rfl rfl (by decide +kernel) ⟨Nat.le_of_ble_eq_true rfl, Nat.le_of_ble_eq_true rfl⟩) (zPTreS hK hN hT0 (trivial)) rfl rfl hl.1 rfl (lv_room (Nat.le_of_ble_eq_true rfl)) dX2_setTurn_36 ⟨Nat.le_of_ble_eq_true rfl, Nat.le_of_ble_eq_true rfl⟩) (fun E ce q9 H1 hco hz hk1 hce hcv hcl => ?_) (fun hp_3 => ?_)
    · exact zx_out htab hlocks hz hk1 hce hcv hcl (by first | exact (hco.2 trivial).elim | exact ⟨hco.1, by have h9 := hco.2; omega⟩ | exact Or.inl ⟨hco.1, by have h9 := hco.2; omega⟩ | exact Or.inr ⟨hco.1, by omega, by have h9 := hco.2; omega⟩) (Nat.le_of_ble_eq_true rfl) (Nat.le_of_ble_eq_true rfl)
    exact hp_3.elim
  · refine lv_iload_n hx hb dX2_setTurn_19 rfl (lv_at hl 4 rfl) ?_
    refine lv_iconst (v := zI (0)) hx hb dX2_setTurn_20 rfl ?_
    refine lv_iload hx hb dX2_setTurn_21 (lv_at hl 5 rfl) ?_
    refine lv_iconst (v := zI (1)) hx hb dX2_setTurn_23 rfl ?_
    refine z_isub hx hb dX2_setTurn_24 ?_
    refine z_call (va_runS (As := [.int (zI (a)), .int (zI (0)), .int (zI ((b) - (1)))]) (rest := []) ⟨hx, hb, hml, hown, hts⟩ (kX2_isWithin l D G (a) (0) ((b) - (1)) (by omega) (by omega) (by omega)) (va_cwS 3 hts gX2_setTurn_X2_isWithin rfl rfl rfl (by decide +kernel) ⟨Nat.le_of_ble_eq_true rfl, Nat.le_of_ble_eq_true rfl⟩) (zPreS hK hN (trivial)) rfl rfl hl.1 rfl (lv_room (Nat.le_of_ble_eq_true rfl)) dX2_setTurn_25 ⟨Nat.le_of_ble_eq_true rfl, Nat.le_of_ble_eq_true rfl⟩) ?_
    refine z_eqB (tgt := 35) hx hb dX2_setTurn_28 (by decide) (fun c_4 => ?_) (fun c_4 => ?_)
    · refine lv_iconst (v := zI (0)) hx hb dX2_setTurn_35 rfl ?_
      refine z_top (w := .int (zB False)) (by rw [zB_f (fun h => h)]; rfl) ?_
      refine z_callX (vx_runS (As := [.int (zB (False))]) (rest := []) ⟨hx, hb, hml, hown, hts⟩ (kX2_checkArgument l D G hl9 (False)) (va_cwS 1 hts gX2_setTurn_X2_checkArgument rfl rfl rfl (by decide +kernel) ⟨Nat.le_of_ble_eq_true rfl, Nat.le_of_ble_eq_true rfl⟩) (zPTreS hK hN hT0 (trivial)) rfl rfl hl.1 rfl (lv_room (Nat.le_of_ble_eq_true rfl)) dX2_setTurn_36 ⟨Nat.le_of_ble_eq_true rfl, Nat.le_of_ble_eq_true rfl⟩) (fun E ce q9 H1 hco hz hk1 hce hcv hcl => ?_) (fun hp_5 => ?_)
      · exact zx_out htab hlocks hz hk1 hce hcv hcl (by first | exact (hco.2 trivial).elim | exact ⟨hco.1, by have h9 := hco.2; omega⟩ | exact Or.inl ⟨hco.1, by have h9 := hco.2; omega⟩ | exact Or.inr ⟨hco.1, by omega, by have h9 := hco.2; omega⟩) (Nat.le_of_ble_eq_true rfl) (Nat.le_of_ble_eq_true rfl)
      exact hp_5.elim
    · refine lv_iconst (v := zI (1)) hx hb dX2_setTurn_31 rfl ?_
      refine lv_goto (tgt := 36) hx hb dX2_setTurn_32 (by decide) ?_
      refine z_top (w := .int (zB True)) (by rw [zB_t trivial]; rfl) ?_
      refine z_callX (vx_runS (As := [.int (zB (True))]) (rest := []) ⟨hx, hb, hml, hown, hts⟩ (kX2_checkArgument l D G hl9 (True)) (va_cwS 1 hts gX2_setTurn_X2_checkArgument rfl rfl rfl (by decide +kernel) ⟨Nat.le_of_ble_eq_true rfl, Nat.le_of_ble_eq_true rfl⟩) (zPTreS hK hN hT0 (trivial)) rfl rfl hl.1 rfl (lv_room (Nat.le_of_ble_eq_true rfl)) dX2_setTurn_36 ⟨Nat.le_of_ble_eq_true rfl, Nat.le_of_ble_eq_true rfl⟩) (fun E ce q9 H1 hco hz hk1 hce hcv hcl => ?_) (fun hp_6 => ?_)
      · exact zx_out htab hlocks hz hk1 hce hcv hcl (by first | exact (hco.2 trivial).elim | exact ⟨hco.1, by have h9 := hco.2; omega⟩ | exact Or.inl ⟨hco.1, by have h9 := hco.2; omega⟩ | exact Or.inr ⟨hco.1, by omega, by have h9 := hco.2; omega⟩) (Nat.le_of_ble_eq_true rfl) (Nat.le_of_ble_eq_true rfl)
      have hPt : va_P D vwCl [((g 1 (k).toNat), .inr (1, [.int (zI ((τ k.toNat) 1)), .int (zI ((τ k.toNat) 0)), .int (zI ((τ k.toNat) 2)), .int (zI ((τ k.toNat) 3)), .int (zI ((τ k.toNat) 4)), .int (zI ((τ k.toNat) 5)), .int (zI ((τ k.toNat) 6)), .int (zI ((τ k.toNat) 7)), .ref (g 2 (k).toNat), .ref (g 3 (k).toNat)])), ((g 2 (k).toNat), .inl (G 0, 128, .inl (cs k.toNat))), ((g 3 (k).toNat), .inl (G 0, 128, .inl (ss k.toNat)))] s.heap := (hT k.toNat (by omega)).1
      have hRt := (hT k.toNat (by omega)).2
      have hft := hOK.t (k := k) (by omega)
      have hnd := hXL.nd (k := k.toNat) (by omega)
      have hnd' := hnd
      simp only [List.nodup_cons, List.mem_cons, List.not_mem_nil, or_false, List.nodup_nil, and_true, not_or, not_false_eq_true] at hnd'
      have hD : va_D (zA [g 1 k.toNat, g 2 k.toNat, g 3 k.toNat]) [((g 1 (k).toNat), .inr (1, [.int (zI ((τ k.toNat) 1)), .int (zI ((τ k.toNat) 0)), .int (zI ((τ k.toNat) 2)), .int (zI ((τ k.toNat) 3)), .int (zI ((τ k.toNat) 4)), .int (zI ((τ k.toNat) 5)), .int (zI ((τ k.toNat) 6)), .int (zI ((τ k.toNat) 7)), .ref (g 2 (k).toNat), .ref (g 3 (k).toNat)])), ((g 2 (k).toNat), .inl (G 0, 128, .inl (cs k.toNat))), ((g 3 (k).toNat), .inl (G 0, 128, .inl (ss k.toNat)))] := z_Dof hnd rfl
      refine lv_aload hx hb dX2_setTurn_39 (lv_at hl 0 rfl) ?_
      refine lv_iload_n hx hb dX2_setTurn_41 rfl (lv_at hl 3 rfl) ?_
      refine lv_iconst (v := zI (3)) hx hb dX2_setTurn_42 rfl ?_
      refine z_call (va_runVN (As := [.int (zI (s9)), .int (zI (3))]) (rest := []) ⟨hx, hb, hml, hown, hts⟩ (kX1_cell l D G (g 1 (k).toNat) (g 2 (k).toNat) (g 3 (k).toNat) (τ k.toNat) (cs k.toNat) (s9) (3) (by omega) hRt (by omega) (by omega)) ⟨va_cnB 2 hts gX2_setTurn_X1_cell_n53 rfl rfl rfl (hN.1 (RX2, 53, yX1_cell) (by decide +kernel)) (hts (.initialized RX1) (by decide +kernel)) (by decide +kernel) ⟨Nat.le_of_ble_eq_true rfl, Nat.le_of_ble_eq_true rfl⟩, hts (.instanceMethod yX1_cell) (by decide +kernel), hts (.selects RX1 yX1_cell yX1_cell) (by decide +kernel)⟩ (zPreV (va_recv hK hPt (ci := 1) (q0 := 0) rfl rfl) hK hN (hPt.sub [0, 1] rfl)) rfl rfl hl.1 rfl (lv_room (Nat.le_of_ble_eq_true rfl)) dX2_setTurn_43 ⟨Nat.le_of_ble_eq_true rfl, Nat.le_of_ble_eq_true rfl⟩) ?_
      refine lv_istore (lv' := [(6, .int (zI (xC (τ k.toNat) (s9) 3))), (5, .ref (g 1 (k).toNat)), (0, .ref ax), (1, .int (zI (k))), (2, .int (zI (s9))), (3, .int (zI (a))), (4, .int (zI (b)))]) hx hb dX2_setTurn_46 hl (by decide) rfl (fun ls hl => ?_)
      refine lv_aload hx hb dX2_setTurn_48 (lv_at hl 1 rfl) ?_
      refine lv_iload_n hx hb dX2_setTurn_50 rfl (lv_at hl 4 rfl) ?_
      refine lv_iconst (v := zI (2)) hx hb dX2_setTurn_51 rfl ?_
      refine lv_iload_n hx hb dX2_setTurn_52 rfl (lv_at hl 5 rfl) ?_
      refine z_callM (va_runVN (As := [.int (zI (s9)), .int (zI (2)), .int (zI (a))]) (rest := []) ⟨hx, hb, hml, hown, hts⟩ (kX1_putCell l D G (g 1 (k).toNat) (g 2 (k).toNat) (g 3 (k).toNat) (τ k.toNat) (cs k.toNat) (s9) (2) (zI (a)) (by simp only [List.nodup_cons, List.mem_cons, List.not_mem_nil, or_false, List.nodup_nil, and_true, not_or, not_false_eq_true]; omega) (by omega) (by omega)) ⟨va_cnB 3 hts gX2_setTurn_X1_putCell_n57 rfl rfl rfl (hN.1 (RX2, 57, yX1_putCell) (by decide +kernel)) (hts (.initialized RX1) (by decide +kernel)) (by decide +kernel) ⟨Nat.le_of_ble_eq_true rfl, Nat.le_of_ble_eq_true rfl⟩, hts (.instanceMethod yX1_putCell) (by decide +kernel), hts (.selects RX1 yX1_putCell yX1_putCell) (by decide +kernel)⟩ (zPreV (va_recv hK hPt (ci := 1) (q0 := 0) rfl rfl) hK hN (hPt.sub [0, 1] rfl)) rfl rfl hl.1 rfl (lv_room (Nat.le_of_ble_eq_true rfl)) dX2_setTurn_53 ⟨Nat.le_of_ble_eq_true rfl, Nat.le_of_ble_eq_true rfl⟩) hS (by intro q hq9 hq; simp only [zA, zAn, List.mem_cons, List.not_mem_nil, or_false] at hq ⊢ <;> omega) (by intro q hq; simp only [zA, zAn, List.mem_cons, List.not_mem_nil, or_false] at hq ⊢ <;> omega) (fun H1 locs1 hp1 hz1 hk1 hS1 => ?_)
      have hP : va_P D vwCl [((g 1 (k).toNat), .inr (1, [.int (zI ((τ k.toNat) 1)), .int (zI ((τ k.toNat) 0)), .int (zI ((τ k.toNat) 2)), .int (zI ((τ k.toNat) 3)), .int (zI ((τ k.toNat) 4)), .int (zI ((τ k.toNat) 5)), .int (zI ((τ k.toNat) 6)), .int (zI ((τ k.toNat) 7)), .ref (g 2 (k).toNat), .ref (g 3 (k).toNat)])), ((g 2 (k).toNat), .inl (G 0, 128, .inl (upd (cs k.toNat) ((s9) * 4 + 2).toNat (zI (a))))), ((g 3 (k).toNat), .inl (G 0, 128, .inl (ss k.toNat)))] H1 := z_merge hPt hk1 (w1 := [((g 1 (k).toNat), .inr (1, [.int (zI ((τ k.toNat) 1)), .int (zI ((τ k.toNat) 0)), .int (zI ((τ k.toNat) 2)), .int (zI ((τ k.toNat) 3)), .int (zI ((τ k.toNat) 4)), .int (zI ((τ k.toNat) 5)), .int (zI ((τ k.toNat) 6)), .int (zI ((τ k.toNat) 7)), .ref (g 2 (k).toNat), .ref (g 3 (k).toNat)])), ((g 2 (k).toNat), .inl (G 0, 128, .inl (upd (cs k.toNat) ((s9) * 4 + 2).toNat (zI (a)))))]) (wr := [((g 3 (k).toNat), .inl (G 0, 128, .inl (ss k.toNat)))]) hp1 [2] rfl (by intro q hq; simp only [List.map, List.mem_cons, List.not_mem_nil, or_false] at hq ⊢ <;> omega) [0, 1, 2] rfl
      have hS := hS1
      clear hS1
      refine lv_aload hx hb dX2_setTurn_56 (lv_at hl 1 rfl) ?_
      refine lv_iload_n hx hb dX2_setTurn_58 rfl (lv_at hl 4 rfl) ?_
      refine lv_iconst (v := zI (3)) hx hb dX2_setTurn_59 rfl ?_
      refine lv_iload hx hb dX2_setTurn_60 (lv_at hl 6 rfl) ?_
      refine z_callM (va_runVN (As := [.int (zI (s9)), .int (zI (3)), .int (zI (b))]) (rest := []) ⟨hx, hb, hml, hown, hts⟩ (kX1_putCell l D G (g 1 (k).toNat) (g 2 (k).toNat) (g 3 (k).toNat) (τ k.toNat) (upd (cs k.toNat) ((s9) * 4 + 2).toNat (zI (a))) (s9) (3) (zI (b)) (by simp only [List.nodup_cons, List.mem_cons, List.not_mem_nil, or_false, List.nodup_nil, and_true, not_or, not_false_eq_true]; omega) (by omega) (by omega)) ⟨va_cnB 3 hts gX2_setTurn_X1_putCell_n57 rfl rfl rfl (hN.1 (RX2, 57, yX1_putCell) (by decide +kernel)) (hts (.initialized RX1) (by decide +kernel)) (by decide +kernel) ⟨Nat.le_of_ble_eq_true rfl, Nat.le_of_ble_eq_true rfl⟩, hts (.instanceMethod yX1_putCell) (by decide +kernel), hts (.selects RX1 yX1_putCell yX1_putCell) (by decide +kernel)⟩ (zPreV (va_recv hK hP (ci := 1) (q0 := 0) rfl rfl) hK hN (hP.sub [0, 1] rfl)) rfl rfl hl.1 rfl (lv_room (Nat.le_of_ble_eq_true rfl)) dX2_setTurn_62 ⟨Nat.le_of_ble_eq_true rfl, Nat.le_of_ble_eq_true rfl⟩) hS (by intro q hq9 hq; simp only [zA, zAn, List.mem_cons, List.not_mem_nil, or_false] at hq ⊢ <;> omega) (by intro q hq; simp only [zA, zAn, List.mem_cons, List.not_mem_nil, or_false] at hq ⊢ <;> omega) (fun H1 locs1 hp1 hz1 hk1 hS1 => ?_)
      have hP : va_P D vwCl [((g 1 (k).toNat), .inr (1, [.int (zI ((τ k.toNat) 1)), .int (zI ((τ k.toNat) 0)), .int (zI ((τ k.toNat) 2)), .int (zI ((τ k.toNat) 3)), .int (zI ((τ k.toNat) 4)), .int (zI ((τ k.toNat) 5)), .int (zI ((τ k.toNat) 6)), .int (zI ((τ k.toNat) 7)), .ref (g 2 (k).toNat), .ref (g 3 (k).toNat)])), ((g 2 (k).toNat), .inl (G 0, 128, .inl (upd (upd (cs k.toNat) ((s9) * 4 + 2).toNat (zI (a))) ((s9) * 4 + 3).toNat (zI (b))))), ((g 3 (k).toNat), .inl (G 0, 128, .inl (ss k.toNat)))] H1 := z_merge hP hk1 (w1 := [((g 1 (k).toNat), .inr (1, [.int (zI ((τ k.toNat) 1)), .int (zI ((τ k.toNat) 0)), .int (zI ((τ k.toNat) 2)), .int (zI ((τ k.toNat) 3)), .int (zI ((τ k.toNat) 4)), .int (zI ((τ k.toNat) 5)), .int (zI ((τ k.toNat) 6)), .int (zI ((τ k.toNat) 7)), .ref (g 2 (k).toNat), .ref (g 3 (k).toNat)])), ((g 2 (k).toNat), .inl (G 0, 128, .inl (upd (upd (cs k.toNat) ((s9) * 4 + 2).toNat (zI (a))) ((s9) * 4 + 3).toNat (zI (b)))))]) (wr := [((g 3 (k).toNat), .inl (G 0, 128, .inl (ss k.toNat)))]) hp1 [2] rfl (by intro q hq; simp only [List.map, List.mem_cons, List.not_mem_nil, or_false] at hq ⊢ <;> omega) [0, 1, 2] rfl
      have hS := hS1
      clear hS1
      refine lv_iload hx hb dX2_setTurn_65 (lv_at hl 0 rfl) ?_
      exact zmc_iret hx hb hr hlocks hS (⟨_, _, XW_upd hW hXL hn8 (k := k.toNat) (by omega) (f' := xFt (τ k.toNat) s9 a b) (by rw [xTw_congr (xFt_lo (by omega))]; exact hP) (xFt_tr hRt (by omega)) hS.2.1⟩) (by first | rfl | omega) (by omega) dX2_setTurn_67 (Nat.le_of_ble_eq_true rfl) (Nat.le_of_ble_eq_true rfl)

set_option maxHeartbeats 4000000 in
set_option maxRecDepth 100000 in
theorem kX2_tune (l : Launch) (D : va_G) (G : Nat → ClassId) (hl9 : l.stackTraces = false) (ax : Nat) (n m9 sp : Int) (τ ζ : Nat → Nat → Int) (g : Nat → Nat → Nat) (cs ss : Nat → Nat → Int32) (hOK : XOK n m9 sp τ ζ) (lab : Nat → Nat) (hXL : XL lab ax n m9 g) (k sw rg gp : Int) (hr0 : -2147483648 ≤ k ∧ k ≤ 2147483647) (hr1 : -2147483648 ≤ sw ∧ sw ≤ 2147483647) (hr2 : -2147483648 ≤ rg ∧ rg ≤ 2147483647) (hr3 : -2147483648 ≤ gp ∧ gp ≤ 2147483647) : vx_Met l yX2_tune wsX2_tune ({ frames := 7, cells := 2, slots := 12, locals := 152 }) (zPT [.ref ax, .int (zI (k)), .int (zI (sw)), .int (zI (rg)), .int (zI (gp))] D G (fun H => XW D G ax n m9 sp τ ζ g cs ss H)) (zMc (some (.int (zI (τ k.toNat 2)))) ((0 ≤ k ∧ k < n) ∧ ((0 ≤ sw ∧ sw ≤ τ k.toNat 1 - 1) ∧ (1 ≤ rg ∧ rg ≤ 200) ∧ (0 ≤ gp ∧ gp ≤ 3))) (fun H => ∃ cs' ss' : Nat → Nat → Int32, XW D G ax n m9 sp (va_up τ k.toNat (xFu (τ k.toNat) sw rg gp)) ζ g cs' ss' H) (zA [g 1 k.toNat, g 2 k.toNat, g 3 k.toNat])) (zX (fun E => (E = zIO ∧ ¬ (0 ≤ k ∧ k < n)) ∨ (E = zIA ∧ (0 ≤ k ∧ k < n) ∧ ¬ ((0 ≤ sw ∧ sw ≤ τ k.toNat 1 - 1) ∧ (1 ≤ rg ∧ rg ≤ 200) ∧ (0 ≤ gp ∧ gp ≤ 3))))) 2 12 (zA [g 1 k.toNat, g 2 k.toNat, g 3 k.toNat]) := by
  refine vx_ofW (cc := cX2_tune) (maxL := 7) (ret := (some .int)) (by decide) rfl ?_
  intro p e s m args below meth c s₁ B hml htab hv
  obtain ⟨hav, hW, hK, hN, hT0⟩ := hv
  have hx := B.exec
  have hb := B.bytes
  have hr := B.returns
  have hts := atoms_spec (ws := wsX2_tune) B.pre
  have hown : s.vm.findClass RX2 = some m.cls := findClass_of_methodNamed B.named
  have hlocks : meth.locks = false := B.notSynchronized
  have hin1 : ∀ w ∈ u_ws RX1 TX1 10, w ∈ wsX2_tune := by decide +kernel
  have hS : va_S (zA [g 1 k.toNat, g 2 k.toNat, g 3 k.toNat]) s.heap s.heap [] := va_S.rf
  obtain ⟨hP, hT, hZ⟩ := id hW
  have hB := id hOK
  obtain ⟨hn0, hn8, hm0, hm12, hsp0, hsp1, -⟩ := hB
  refine z_entry hav (Nat.le_of_ble_eq_true rfl) rfl (fun ls hl => ?_)
  have hl : lv_has ls 7 [(0, .ref ax), (1, .int (zI (k))), (2, .int (zI (sw))), (3, .int (zI (rg))), (4, .int (zI (gp)))] := hl
  refine lv_aload_n hx hb dX2_tune_0 rfl (lv_at hl 0 rfl) ?_
  refine lv_iload_n hx hb dX2_tune_1 rfl (lv_at hl 1 rfl) ?_
  refine z_callX (vx_runV (As := [.int (zI (k))]) (rest := []) ⟨hx, hb, hml, hown, hts⟩ (kX2_existingTrack l D G hl9 ax n m9 sp τ ζ g cs ss hOK (k) (by omega)) (cwV 1 hts gX2_tune_X2_existingTrack rfl rfl rfl (by decide +kernel) ⟨Nat.le_of_ble_eq_true rfl, Nat.le_of_ble_eq_true rfl⟩) (zPTreV (va_recv hK hP (ci := 2) (q0 := 0) rfl rfl) hK hN hT0 (hW)) rfl rfl hl.1 rfl (lv_room (Nat.le_of_ble_eq_true rfl)) dX2_tune_2 ⟨Nat.le_of_ble_eq_true rfl, Nat.le_of_ble_eq_true rfl⟩) (fun E ce q9 H1 hco hz hk1 hce hcv hcl => ?_) (fun hp_1 => ?_)
  · exact zx_out htab hlocks hz hk1 hce hcv hcl (by first | exact (hco.2 trivial).elim | exact ⟨hco.1, by have h9 := hco.2; omega⟩ | exact Or.inl ⟨hco.1, by have h9 := hco.2; omega⟩ | exact Or.inr ⟨hco.1, by omega, by have h9 := hco.2; omega⟩) (Nat.le_of_ble_eq_true rfl) (Nat.le_of_ble_eq_true rfl)
  have htb := hOK.tb (k := k) (by omega)
  refine lv_astore (lv' := [(5, .ref (g 1 (k).toNat)), (0, .ref ax), (1, .int (zI (k))), (2, .int (zI (sw))), (3, .int (zI (rg))), (4, .int (zI (gp)))]) hx hb dX2_tune_5 hl (by decide) rfl (fun ls hl => ?_)
  refine lv_iload_n hx hb dX2_tune_7 rfl (lv_at hl 3 rfl) ?_
  refine lv_iconst (v := zI (0)) hx hb dX2_tune_8 rfl ?_
  refine lv_aload hx hb dX2_tune_9 (lv_at hl 0 rfl) ?_
  refine va_getN (D := D) (ci := 1) (v := .int (zI ((τ (k).toNat) 1))) (C := RX1) (T := TX1) (N := 10) hx hb hts hin1 hown hK (hT (k).toNat (by omega)).1 0 rfl rfl 0 (by decide) (va_Nw.use rfl (hN.2.1 (75, RX1, "stepTicks", "I") (by decide))) (fun _ h9 => h9) rfl dX2_tune_11 ?_
  refine lv_iconst (v := zI (1)) hx hb dX2_tune_14 rfl ?_
  refine z_isub hx hb dX2_tune_15 ?_
  refine z_call (va_runS (As := [.int (zI (sw)), .int (zI (0)), .int (zI (((τ (k).toNat) 1) - (1)))]) (rest := []) ⟨hx, hb, hml, hown, hts⟩ (kX2_isWithin l D G (sw) (0) (((τ (k).toNat) 1) - (1)) (by omega) (by omega) (by omega)) (va_cwS 3 hts gX2_tune_X2_isWithin rfl rfl rfl (by decide +kernel) ⟨Nat.le_of_ble_eq_true rfl, Nat.le_of_ble_eq_true rfl⟩) (zPreS hK hN (trivial)) rfl rfl hl.1 rfl (lv_room (Nat.le_of_ble_eq_true rfl)) dX2_tune_16 ⟨Nat.le_of_ble_eq_true rfl, Nat.le_of_ble_eq_true rfl⟩) ?_
  refine z_eqB (tgt := 47) hx hb dX2_tune_19 (by decide) (fun c_2 => ?_) (fun c_2 => ?_)
  · refine lv_iconst (v := zI (0)) hx hb dX2_tune_47 rfl ?_
    refine z_top (w := .int (zB False)) (by rw [zB_f (fun h => h)]; rfl) ?_
    refine z_callX (vx_runS (As := [.int (zB (False))]) (rest := []) ⟨hx, hb, hml, hown, hts⟩ (kX2_checkArgument l D G hl9 (False)) (va_cwS 1 hts gX2_tune_X2_checkArgument rfl rfl rfl (by decide +kernel) ⟨Nat.le_of_ble_eq_true rfl, Nat.le_of_ble_eq_true rfl⟩) (zPTreS hK hN hT0 (trivial)) rfl rfl hl.1 rfl (lv_room (Nat.le_of_ble_eq_true rfl)) dX2_tune_48 ⟨Nat.le_of_ble_eq_true rfl, Nat.le_of_ble_eq_true rfl⟩) (fun E ce q9 H1 hco hz hk1 hce hcv hcl => ?_) (fun hp_3 => ?_)
    · exact zx_out htab hlocks hz hk1 hce hcv hcl (by first | exact (hco.2 trivial).elim | exact ⟨hco.1, by have h9 := hco.2; omega⟩ | exact Or.inl ⟨hco.1, by have h9 := hco.2; omega⟩ | exact Or.inr ⟨hco.1, by omega, by have h9 := hco.2; omega⟩) (Nat.le_of_ble_eq_true rfl) (Nat.le_of_ble_eq_true rfl)
    exact hp_3.elim
  · refine lv_iload_n hx hb dX2_tune_22 rfl (lv_at hl 4 rfl) ?_
    refine lv_iconst (v := zI (1)) hx hb dX2_tune_23 rfl ?_
    refine lv_sipush (v := zI (200)) hx hb dX2_tune_24 (by decide) ?_
    refine z_call (va_runS (As := [.int (zI (rg)), .int (zI (1)), .int (zI (200))]) (rest := []) ⟨hx, hb, hml, hown, hts⟩ (kX2_isWithin l D G (rg) (1) (200) (by omega) (by omega) (by omega)) (va_cwS 3 hts gX2_tune_X2_isWithin rfl rfl rfl (by decide +kernel) ⟨Nat.le_of_ble_eq_true rfl, Nat.le_of_ble_eq_true rfl⟩) (zPreS hK hN (trivial)) rfl rfl hl.1 rfl (lv_room (Nat.le_of_ble_eq_true rfl)) dX2_tune_27 ⟨Nat.le_of_ble_eq_true rfl, Nat.le_of_ble_eq_true rfl⟩) ?_
    refine z_eqB (tgt := 47) hx hb dX2_tune_30 (by decide) (fun c_4 => ?_) (fun c_4 => ?_)
    · refine lv_iconst (v := zI (0)) hx hb dX2_tune_47 rfl ?_
      refine z_top (w := .int (zB False)) (by rw [zB_f (fun h => h)]; rfl) ?_
      refine z_callX (vx_runS (As := [.int (zB (False))]) (rest := []) ⟨hx, hb, hml, hown, hts⟩ (kX2_checkArgument l D G hl9 (False)) (va_cwS 1 hts gX2_tune_X2_checkArgument rfl rfl rfl (by decide +kernel) ⟨Nat.le_of_ble_eq_true rfl, Nat.le_of_ble_eq_true rfl⟩) (zPTreS hK hN hT0 (trivial)) rfl rfl hl.1 rfl (lv_room (Nat.le_of_ble_eq_true rfl)) dX2_tune_48 ⟨Nat.le_of_ble_eq_true rfl, Nat.le_of_ble_eq_true rfl⟩) (fun E ce q9 H1 hco hz hk1 hce hcv hcl => ?_) (fun hp_5 => ?_)
      · exact zx_out htab hlocks hz hk1 hce hcv hcl (by first | exact (hco.2 trivial).elim | exact ⟨hco.1, by have h9 := hco.2; omega⟩ | exact Or.inl ⟨hco.1, by have h9 := hco.2; omega⟩ | exact Or.inr ⟨hco.1, by omega, by have h9 := hco.2; omega⟩) (Nat.le_of_ble_eq_true rfl) (Nat.le_of_ble_eq_true rfl)
      exact hp_5.elim
    · refine lv_iload hx hb dX2_tune_33 (lv_at hl 5 rfl) ?_
      refine lv_iconst (v := zI (0)) hx hb dX2_tune_35 rfl ?_
      refine lv_iconst (v := zI (3)) hx hb dX2_tune_36 rfl ?_
      refine z_call (va_runS (As := [.int (zI (gp)), .int (zI (0)), .int (zI (3))]) (rest := []) ⟨hx, hb, hml, hown, hts⟩ (kX2_isWithin l D G (gp) (0) (3) (by omega) (by omega) (by omega)) (va_cwS 3 hts gX2_tune_X2_isWithin rfl rfl rfl (by decide +kernel) ⟨Nat.le_of_ble_eq_true rfl, Nat.le_of_ble_eq_true rfl⟩) (zPreS hK hN (trivial)) rfl rfl hl.1 rfl (lv_room (Nat.le_of_ble_eq_true rfl)) dX2_tune_37 ⟨Nat.le_of_ble_eq_true rfl, Nat.le_of_ble_eq_true rfl⟩) ?_
      refine z_eqB (tgt := 47) hx hb dX2_tune_40 (by decide) (fun c_6 => ?_) (fun c_6 => ?_)
      · refine lv_iconst (v := zI (0)) hx hb dX2_tune_47 rfl ?_
        refine z_top (w := .int (zB False)) (by rw [zB_f (fun h => h)]; rfl) ?_
        refine z_callX (vx_runS (As := [.int (zB (False))]) (rest := []) ⟨hx, hb, hml, hown, hts⟩ (kX2_checkArgument l D G hl9 (False)) (va_cwS 1 hts gX2_tune_X2_checkArgument rfl rfl rfl (by decide +kernel) ⟨Nat.le_of_ble_eq_true rfl, Nat.le_of_ble_eq_true rfl⟩) (zPTreS hK hN hT0 (trivial)) rfl rfl hl.1 rfl (lv_room (Nat.le_of_ble_eq_true rfl)) dX2_tune_48 ⟨Nat.le_of_ble_eq_true rfl, Nat.le_of_ble_eq_true rfl⟩) (fun E ce q9 H1 hco hz hk1 hce hcv hcl => ?_) (fun hp_7 => ?_)
        · exact zx_out htab hlocks hz hk1 hce hcv hcl (by first | exact (hco.2 trivial).elim | exact ⟨hco.1, by have h9 := hco.2; omega⟩ | exact Or.inl ⟨hco.1, by have h9 := hco.2; omega⟩ | exact Or.inr ⟨hco.1, by omega, by have h9 := hco.2; omega⟩) (Nat.le_of_ble_eq_true rfl) (Nat.le_of_ble_eq_true rfl)
        exact hp_7.elim
      · refine lv_iconst (v := zI (1)) hx hb dX2_tune_43 rfl ?_
        refine lv_goto (tgt := 48) hx hb dX2_tune_44 (by decide) ?_
        refine z_top (w := .int (zB True)) (by rw [zB_t trivial]; rfl) ?_
        refine z_callX (vx_runS (As := [.int (zB (True))]) (rest := []) ⟨hx, hb, hml, hown, hts⟩ (kX2_checkArgument l D G hl9 (True)) (va_cwS 1 hts gX2_tune_X2_checkArgument rfl rfl rfl (by decide +kernel) ⟨Nat.le_of_ble_eq_true rfl, Nat.le_of_ble_eq_true rfl⟩) (zPTreS hK hN hT0 (trivial)) rfl rfl hl.1 rfl (lv_room (Nat.le_of_ble_eq_true rfl)) dX2_tune_48 ⟨Nat.le_of_ble_eq_true rfl, Nat.le_of_ble_eq_true rfl⟩) (fun E ce q9 H1 hco hz hk1 hce hcv hcl => ?_) (fun hp_8 => ?_)
        · exact zx_out htab hlocks hz hk1 hce hcv hcl (by first | exact (hco.2 trivial).elim | exact ⟨hco.1, by have h9 := hco.2; omega⟩ | exact Or.inl ⟨hco.1, by have h9 := hco.2; omega⟩ | exact Or.inr ⟨hco.1, by omega, by have h9 := hco.2; omega⟩) (Nat.le_of_ble_eq_true rfl) (Nat.le_of_ble_eq_true rfl)
        have hPt : va_P D vwCl [((g 1 (k).toNat), .inr (1, [.int (zI ((τ k.toNat) 1)), .int (zI ((τ k.toNat) 0)), .int (zI ((τ k.toNat) 2)), .int (zI ((τ k.toNat) 3)), .int (zI ((τ k.toNat) 4)), .int (zI ((τ k.toNat) 5)), .int (zI ((τ k.toNat) 6)), .int (zI ((τ k.toNat) 7)), .ref (g 2 (k).toNat), .ref (g 3 (k).toNat)])), ((g 2 (k).toNat), .inl (G 0, 128, .inl (cs k.toNat))), ((g 3 (k).toNat), .inl (G 0, 128, .inl (ss k.toNat)))] s.heap := (hT k.toNat (by omega)).1
        have hRt := (hT k.toNat (by omega)).2
        have hft := hOK.t (k := k) (by omega)
        have hnd := hXL.nd (k := k.toNat) (by omega)
        have hnd' := hnd
        simp only [List.nodup_cons, List.mem_cons, List.not_mem_nil, or_false, List.nodup_nil, and_true, not_or, not_false_eq_true] at hnd'
        have hD : va_D (zA [g 1 k.toNat, g 2 k.toNat, g 3 k.toNat]) [((g 1 (k).toNat), .inr (1, [.int (zI ((τ k.toNat) 1)), .int (zI ((τ k.toNat) 0)), .int (zI ((τ k.toNat) 2)), .int (zI ((τ k.toNat) 3)), .int (zI ((τ k.toNat) 4)), .int (zI ((τ k.toNat) 5)), .int (zI ((τ k.toNat) 6)), .int (zI ((τ k.toNat) 7)), .ref (g 2 (k).toNat), .ref (g 3 (k).toNat)])), ((g 2 (k).toNat), .inl (G 0, 128, .inl (cs k.toNat))), ((g 3 (k).toNat), .inl (G 0, 128, .inl (ss k.toNat)))] := z_Dof hnd rfl
        refine lv_aload hx hb dX2_tune_51 (lv_at hl 0 rfl) ?_
        refine va_getN (D := D) (ci := 1) (v := .int (zI ((τ k.toNat) 2))) (C := RX1) (T := TX1) (N := 10) hx hb hts hin1 hown hK hPt 0 rfl rfl 2 (by decide) (va_Nw.use rfl (hN.2.1 (78, RX1, "swing", "I") (by decide))) (fun _ h9 => h9) rfl dX2_tune_53 ?_
        refine lv_istore (lv' := [(6, .int (zI ((τ k.toNat) 2))), (5, .ref (g 1 (k).toNat)), (0, .ref ax), (1, .int (zI (k))), (2, .int (zI (sw))), (3, .int (zI (rg))), (4, .int (zI (gp)))]) hx hb dX2_tune_56 hl (by decide) rfl (fun ls hl => ?_)
        refine lv_aload hx hb dX2_tune_58 (lv_at hl 1 rfl) ?_
        refine lv_iload_n hx hb dX2_tune_60 rfl (lv_at hl 4 rfl) ?_
        refine va_putN (D := D) (ci := 1) (v := .int (zI (sw))) (ty := .int) (C := RX1) (T := TX1) (N := 10) hx hb hts hin1 tyX1 tyX1_ok nmX1 hown hK hPt hD hS 0 rfl rfl 2 (by decide) (va_Nw.use rfl (hN.2.1 (78, RX1, "swing", "I") (by decide))) (fun _ h9 => h9) rfl (by decide +kernel) rfl rfl (Nat.le_of_ble_eq_true rfl) dX2_tune_61 (fun H locs hP hD hS => ?_)
        have hP : va_P D vwCl [((g 1 (k).toNat), .inr (1, [.int (zI ((τ k.toNat) 1)), .int (zI ((τ k.toNat) 0)), .int (zI (sw)), .int (zI ((τ k.toNat) 3)), .int (zI ((τ k.toNat) 4)), .int (zI ((τ k.toNat) 5)), .int (zI ((τ k.toNat) 6)), .int (zI ((τ k.toNat) 7)), .ref (g 2 (k).toNat), .ref (g 3 (k).toNat)])), ((g 2 (k).toNat), .inl (G 0, 128, .inl (cs k.toNat))), ((g 3 (k).toNat), .inl (G 0, 128, .inl (ss k.toNat)))] H := hP
        have hD : va_D (zA [g 1 k.toNat, g 2 k.toNat, g 3 k.toNat]) [((g 1 (k).toNat), .inr (1, [.int (zI ((τ k.toNat) 1)), .int (zI ((τ k.toNat) 0)), .int (zI (sw)), .int (zI ((τ k.toNat) 3)), .int (zI ((τ k.toNat) 4)), .int (zI ((τ k.toNat) 5)), .int (zI ((τ k.toNat) 6)), .int (zI ((τ k.toNat) 7)), .ref (g 2 (k).toNat), .ref (g 3 (k).toNat)])), ((g 2 (k).toNat), .inl (G 0, 128, .inl (cs k.toNat))), ((g 3 (k).toNat), .inl (G 0, 128, .inl (ss k.toNat)))] := hD
        refine lv_aload hx hb dX2_tune_64 (lv_at hl 1 rfl) ?_
        refine lv_iload_n hx hb dX2_tune_66 rfl (lv_at hl 5 rfl) ?_
        refine va_putN (D := D) (ci := 1) (v := .int (zI (rg))) (ty := .int) (C := RX1) (T := TX1) (N := 10) hx hb hts hin1 tyX1 tyX1_ok nmX1 hown hK hP hD hS 0 rfl rfl 3 (by decide) (va_Nw.use rfl (hN.2.1 (81, RX1, "ring", "I") (by decide))) (fun _ h9 => h9) rfl (by decide +kernel) rfl rfl (Nat.le_of_ble_eq_true rfl) dX2_tune_67 (fun H locs hP hD hS => ?_)
        have hP : va_P D vwCl [((g 1 (k).toNat), .inr (1, [.int (zI ((τ k.toNat) 1)), .int (zI ((τ k.toNat) 0)), .int (zI (sw)), .int (zI (rg)), .int (zI ((τ k.toNat) 4)), .int (zI ((τ k.toNat) 5)), .int (zI ((τ k.toNat) 6)), .int (zI ((τ k.toNat) 7)), .ref (g 2 (k).toNat), .ref (g 3 (k).toNat)])), ((g 2 (k).toNat), .inl (G 0, 128, .inl (cs k.toNat))), ((g 3 (k).toNat), .inl (G 0, 128, .inl (ss k.toNat)))] H := hP
        have hD : va_D (zA [g 1 k.toNat, g 2 k.toNat, g 3 k.toNat]) [((g 1 (k).toNat), .inr (1, [.int (zI ((τ k.toNat) 1)), .int (zI ((τ k.toNat) 0)), .int (zI (sw)), .int (zI (rg)), .int (zI ((τ k.toNat) 4)), .int (zI ((τ k.toNat) 5)), .int (zI ((τ k.toNat) 6)), .int (zI ((τ k.toNat) 7)), .ref (g 2 (k).toNat), .ref (g 3 (k).toNat)])), ((g 2 (k).toNat), .inl (G 0, 128, .inl (cs k.toNat))), ((g 3 (k).toNat), .inl (G 0, 128, .inl (ss k.toNat)))] := hD
        refine lv_aload hx hb dX2_tune_70 (lv_at hl 1 rfl) ?_
        refine lv_iload hx hb dX2_tune_72 (lv_at hl 6 rfl) ?_
        refine va_putN (D := D) (ci := 1) (v := .int (zI (gp))) (ty := .int) (C := RX1) (T := TX1) (N := 10) hx hb hts hin1 tyX1 tyX1_ok nmX1 hown hK hP hD hS 0 rfl rfl 4 (by decide) (va_Nw.use rfl (hN.2.1 (84, RX1, "group", "I") (by decide))) (fun _ h9 => h9) rfl (by decide +kernel) rfl rfl (Nat.le_of_ble_eq_true rfl) dX2_tune_74 (fun H locs hP hD hS => ?_)
        have hP : va_P D vwCl [((g 1 (k).toNat), .inr (1, [.int (zI ((τ k.toNat) 1)), .int (zI ((τ k.toNat) 0)), .int (zI (sw)), .int (zI (rg)), .int (zI (gp)), .int (zI ((τ k.toNat) 5)), .int (zI ((τ k.toNat) 6)), .int (zI ((τ k.toNat) 7)), .ref (g 2 (k).toNat), .ref (g 3 (k).toNat)])), ((g 2 (k).toNat), .inl (G 0, 128, .inl (cs k.toNat))), ((g 3 (k).toNat), .inl (G 0, 128, .inl (ss k.toNat)))] H := hP
        have hD : va_D (zA [g 1 k.toNat, g 2 k.toNat, g 3 k.toNat]) [((g 1 (k).toNat), .inr (1, [.int (zI ((τ k.toNat) 1)), .int (zI ((τ k.toNat) 0)), .int (zI (sw)), .int (zI (rg)), .int (zI (gp)), .int (zI ((τ k.toNat) 5)), .int (zI ((τ k.toNat) 6)), .int (zI ((τ k.toNat) 7)), .ref (g 2 (k).toNat), .ref (g 3 (k).toNat)])), ((g 2 (k).toNat), .inl (G 0, 128, .inl (cs k.toNat))), ((g 3 (k).toNat), .inl (G 0, 128, .inl (ss k.toNat)))] := hD
        refine lv_iload hx hb dX2_tune_77 (lv_at hl 0 rfl) ?_
        exact zmc_iret hx hb hr hlocks hS (⟨_, _, XW_upd hW hXL hn8 (k := k.toNat) (by omega) (f' := xFu (τ k.toNat) sw rg gp) (cn' := cs k.toNat) (sn' := ss k.toNat) hP (x_upTR (x_upTR (x_upTR hRt (by omega)) (by omega)) (by omega)) hS.2.1⟩) (by first | rfl | omega) (by omega) dX2_tune_79 (Nat.le_of_ble_eq_true rfl) (Nat.le_of_ble_eq_true rfl)

set_option maxHeartbeats 4000000 in
set_option maxRecDepth 100000 in
theorem kX2_turn (l : Launch) (D : va_G) (G : Nat → ClassId) (hl9 : l.stackTraces = false) (ax : Nat) (n m9 sp : Int) (τ ζ : Nat → Nat → Int) (g : Nat → Nat → Nat) (cs ss : Nat → Nat → Int32) (hOK : XOK n m9 sp τ ζ) (lab : Nat → Nat) (hXL : XL lab ax n m9 g) (k w9 v9 : Int) (hr0 : -2147483648 ≤ k ∧ k ≤ 2147483647) (hr1 : -2147483648 ≤ w9 ∧ w9 ≤ 2147483647) (hv9 : v9 = 0 ∨ v9 = 1) : vx_Met l yX2_turn wsX2_turn ({ frames := 7, cells := 2, slots := 12, locals := 152 }) (zPT [.ref ax, .int (zI (k)), .int (zI (w9)), .int (zI (v9))] D G (fun H => XW D G ax n m9 sp τ ζ g cs ss H)) (zMc (some (.int (zB (τ k.toNat (5 + w9).toNat = 1)))) (0 ≤ k ∧ k < n ∧ 0 ≤ w9 ∧ w9 ≤ 2) (fun H => ∃ cs' ss' : Nat → Nat → Int32, XW D G ax n m9 sp (va_up τ k.toNat (va_up (τ k.toNat) (5 + w9).toNat v9)) ζ g cs' ss' H) (zA [g 1 k.toNat, g 2 k.toNat, g 3 k.toNat])) (zX (fun E => E = zIO ∧ ¬ (0 ≤ k ∧ k < n ∧ 0 ≤ w9 ∧ w9 ≤ 2))) 2 12 (zA [g 1 k.toNat, g 2 k.toNat, g 3 k.toNat]) := by
  refine vx_ofW (cc := cX2_turn) (maxL := 6) (ret := (some .boolean)) (by decide) rfl ?_
  intro p e s m args below meth c s₁ B hml htab hv
  obtain ⟨hav, hW, hK, hN, hT0⟩ := hv
  have hx := B.exec
  have hb := B.bytes
  have hr := B.returns
  have hts := atoms_spec (ws := wsX2_turn) B.pre
  have hown : s.vm.findClass RX2 = some m.cls := findClass_of_methodNamed B.named
  have hlocks : meth.locks = false := B.notSynchronized
  have hS : va_S (zA [g 1 k.toNat, g 2 k.toNat, g 3 k.toNat]) s.heap s.heap [] := va_S.rf
  obtain ⟨hP, hT, hZ⟩ := id hW
  have hB := id hOK
  obtain ⟨hn0, hn8, hm0, hm12, hsp0, hsp1, -⟩ := hB
  refine z_entry hav (Nat.le_of_ble_eq_true rfl) rfl (fun ls hl => ?_)
  have hl : lv_has ls 6 [(0, .ref ax), (1, .int (zI (k))), (2, .int (zI (w9))), (3, .int (zI (v9)))] := hl
  refine lv_aload_n hx hb dX2_turn_0 rfl (lv_at hl 0 rfl) ?_
  refine lv_iload_n hx hb dX2_turn_1 rfl (lv_at hl 1 rfl) ?_
  refine z_callX (vx_runV (As := [.int (zI (k))]) (rest := []) ⟨hx, hb, hml, hown, hts⟩ (kX2_existingTrack l D G hl9 ax n m9 sp τ ζ g cs ss hOK (k) (by omega)) (cwV 1 hts gX2_turn_X2_existingTrack rfl rfl rfl (by decide +kernel) ⟨Nat.le_of_ble_eq_true rfl, Nat.le_of_ble_eq_true rfl⟩) (zPTreV (va_recv hK hP (ci := 2) (q0 := 0) rfl rfl) hK hN hT0 (hW)) rfl rfl hl.1 rfl (lv_room (Nat.le_of_ble_eq_true rfl)) dX2_turn_2 ⟨Nat.le_of_ble_eq_true rfl, Nat.le_of_ble_eq_true rfl⟩) (fun E ce q9 H1 hco hz hk1 hce hcv hcl => ?_) (fun hp_1 => ?_)
  · exact zx_out htab hlocks hz hk1 hce hcv hcl (by first | exact (hco.2 trivial).elim | exact ⟨hco.1, by have h9 := hco.2; omega⟩ | exact Or.inl ⟨hco.1, by have h9 := hco.2; omega⟩ | exact Or.inr ⟨hco.1, by omega, by have h9 := hco.2; omega⟩) (Nat.le_of_ble_eq_true rfl) (Nat.le_of_ble_eq_true rfl)
  have htb := hOK.tb (k := k) (by omega)
  refine lv_astore (lv' := [(4, .ref (g 1 (k).toNat)), (0, .ref ax), (1, .int (zI (k))), (2, .int (zI (w9))), (3, .int (zI (v9)))]) hx hb dX2_turn_5 hl (by decide) rfl (fun ls hl => ?_)
  refine lv_iload_n hx hb dX2_turn_7 rfl (lv_at hl 3 rfl) ?_
  refine lv_iconst (v := zI (0)) hx hb dX2_turn_8 rfl ?_
  refine lv_iconst (v := zI (2)) hx hb dX2_turn_9 rfl ?_
  refine z_call (va_runS (As := [.int (zI (w9)), .int (zI (0)), .int (zI (2))]) (rest := []) ⟨hx, hb, hml, hown, hts⟩ (kX2_isWithin l D G (w9) (0) (2) (by omega) (by omega) (by omega)) (va_cwS 3 hts gX2_turn_X2_isWithin rfl rfl rfl (by decide +kernel) ⟨Nat.le_of_ble_eq_true rfl, Nat.le_of_ble_eq_true rfl⟩) (zPreS hK hN (trivial)) rfl rfl hl.1 rfl (lv_room (Nat.le_of_ble_eq_true rfl)) dX2_turn_10 ⟨Nat.le_of_ble_eq_true rfl, Nat.le_of_ble_eq_true rfl⟩) ?_
  refine z_callX (vx_runS (As := [.int (zB ((0) ≤ (w9) ∧ (w9) ≤ (2)))]) (rest := []) ⟨hx, hb, hml, hown, hts⟩ (kX2_checkIndex l D G hl9 ((0) ≤ (w9) ∧ (w9) ≤ (2))) (va_cwS 1 hts gX2_turn_X2_checkIndex rfl rfl rfl (by decide +kernel) ⟨Nat.le_of_ble_eq_true rfl, Nat.le_of_ble_eq_true rfl⟩) (zPTreS hK hN hT0 (trivial)) rfl rfl hl.1 rfl (lv_room (Nat.le_of_ble_eq_true rfl)) dX2_turn_13 ⟨Nat.le_of_ble_eq_true rfl, Nat.le_of_ble_eq_true rfl⟩) (fun E ce q9 H1 hco hz hk1 hce hcv hcl => ?_) (fun hp_2 => ?_)
  · exact zx_out htab hlocks hz hk1 hce hcv hcl (by first | exact (hco.2 trivial).elim | exact ⟨hco.1, by have h9 := hco.2; omega⟩ | exact Or.inl ⟨hco.1, by have h9 := hco.2; omega⟩ | exact Or.inr ⟨hco.1, by omega, by have h9 := hco.2; omega⟩) (Nat.le_of_ble_eq_true rfl) (Nat.le_of_ble_eq_true rfl)
  have hPt : va_P D vwCl [((g 1 (k).toNat), .inr (1, [.int (zI ((τ k.toNat) 1)), .int (zI ((τ k.toNat) 0)), .int (zI ((τ k.toNat) 2)), .int (zI ((τ k.toNat) 3)), .int (zI ((τ k.toNat) 4)), .int (zI ((τ k.toNat) 5)), .int (zI ((τ k.toNat) 6)), .int (zI ((τ k.toNat) 7)), .ref (g 2 (k).toNat), .ref (g 3 (k).toNat)])), ((g 2 (k).toNat), .inl (G 0, 128, .inl (cs k.toNat))), ((g 3 (k).toNat), .inl (G 0, 128, .inl (ss k.toNat)))] s.heap := (hT k.toNat (by omega)).1
  have hRt := (hT k.toNat (by omega)).2
  have hft := hOK.t (k := k) (by omega)
  have hnd := hXL.nd (k := k.toNat) (by omega)
  have hnd' := hnd
  simp only [List.nodup_cons, List.mem_cons, List.not_mem_nil, or_false, List.nodup_nil, and_true, not_or, not_false_eq_true] at hnd'
  have hD : va_D (zA [g 1 k.toNat, g 2 k.toNat, g 3 k.toNat]) [((g 1 (k).toNat), .inr (1, [.int (zI ((τ k.toNat) 1)), .int (zI ((τ k.toNat) 0)), .int (zI ((τ k.toNat) 2)), .int (zI ((τ k.toNat) 3)), .int (zI ((τ k.toNat) 4)), .int (zI ((τ k.toNat) 5)), .int (zI ((τ k.toNat) 6)), .int (zI ((τ k.toNat) 7)), .ref (g 2 (k).toNat), .ref (g 3 (k).toNat)])), ((g 2 (k).toNat), .inl (G 0, 128, .inl (cs k.toNat))), ((g 3 (k).toNat), .inl (G 0, 128, .inl (ss k.toNat)))] := z_Dof hnd rfl
  have h567 : τ k.toNat (5 + w9).toNat = 0 ∨ τ k.toNat (5 + w9).toNat = 1 := by rcases (show w9 = 0 ∨ w9 = 1 ∨ w9 = 2 by omega) with rfl | rfl | rfl <;> first | exact htb.2.2.2.2.2.2.2.2.2.2.1 | exact htb.2.2.2.2.2.2.2.2.2.2.2.1 | exact htb.2.2.2.2.2.2.2.2.2.2.2.2
  refine lv_aload hx hb dX2_turn_16 (lv_at hl 0 rfl) ?_
  refine lv_iconst (v := zI (5)) hx hb dX2_turn_18 rfl ?_
  refine lv_iload_n hx hb dX2_turn_19 rfl (lv_at hl 3 rfl) ?_
  refine z_iadd hx hb dX2_turn_20 ?_
  refine z_call (va_runVN (As := [.int (zI ((5) + (w9)))]) (rest := []) ⟨hx, hb, hml, hown, hts⟩ (kX1_setting l D G (g 1 (k).toNat) (g 2 (k).toNat) (g 3 (k).toNat) (τ k.toNat) ((5) + (w9)) (by omega) (by omega)) ⟨va_cnB 1 hts gX2_turn_X1_setting_n72 rfl rfl rfl (hN.1 (RX2, 72, yX1_setting) (by decide +kernel)) (hts (.initialized RX1) (by decide +kernel)) (by decide +kernel) ⟨Nat.le_of_ble_eq_true rfl, Nat.le_of_ble_eq_true rfl⟩, hts (.instanceMethod yX1_setting) (by decide +kernel), hts (.selects RX1 yX1_setting yX1_setting) (by decide +kernel)⟩ (zPreV (va_recv hK hPt (ci := 1) (q0 := 0) rfl rfl) hK hN (hPt.sub [0] rfl)) rfl rfl hl.1 rfl (lv_room (Nat.le_of_ble_eq_true rfl)) dX2_turn_21 ⟨Nat.le_of_ble_eq_true rfl, Nat.le_of_ble_eq_true rfl⟩) ?_
  refine lv_iconst (v := zI (1)) hx hb dX2_turn_24 rfl ?_
  refine z_icmp_ne (tgt := 32) hx hb (by omega) dX2_turn_25 (by decide) (fun c_3 => ?_) (fun c_3 => ?_)
  · refine lv_iconst (v := zI (0)) hx hb dX2_turn_32 rfl ?_
    refine lv_istore (lv' := [(5, .int (zI (0))), (4, .ref (g 1 (k).toNat)), (0, .ref ax), (1, .int (zI (k))), (2, .int (zI (w9))), (3, .int (zI (v9)))]) hx hb dX2_turn_33 hl (by decide) rfl (fun ls hl => ?_)
    refine lv_aload hx hb dX2_turn_35 (lv_at hl 1 rfl) ?_
    refine lv_iconst (v := zI (5)) hx hb dX2_turn_37 rfl ?_
    refine lv_iload_n hx hb dX2_turn_38 rfl (lv_at hl 4 rfl) ?_
    refine z_iadd hx hb dX2_turn_39 ?_
    refine lv_iload_n hx hb dX2_turn_40 rfl (lv_at hl 5 rfl) ?_
    refine z_callM (va_runVN (As := [.int (zI ((5) + (w9))), .int (zI (v9))]) (rest := []) ⟨hx, hb, hml, hown, hts⟩ (kX1_switchTo l D G (g 1 (k).toNat) (g 2 (k).toNat) (g 3 (k).toNat) (τ k.toNat) (5 + w9) v9 (by simp) (by omega) hv9) ⟨va_cnB 2 hts gX2_turn_X1_switchTo_n87 rfl rfl rfl (hN.1 (RX2, 87, yX1_switchTo) (by decide +kernel)) (hts (.initialized RX1) (by decide +kernel)) (by decide +kernel) ⟨Nat.le_of_ble_eq_true rfl, Nat.le_of_ble_eq_true rfl⟩, hts (.instanceMethod yX1_switchTo) (by decide +kernel), hts (.selects RX1 yX1_switchTo yX1_switchTo) (by decide +kernel)⟩ (zPreV (va_recv hK hPt (ci := 1) (q0 := 0) rfl rfl) hK hN (hPt.sub [0] rfl)) rfl rfl hl.1 rfl (lv_room (Nat.le_of_ble_eq_true rfl)) dX2_turn_41 ⟨Nat.le_of_ble_eq_true rfl, Nat.le_of_ble_eq_true rfl⟩) hS (by intro q hq9 hq; simp only [zA, zAn, List.mem_cons, List.not_mem_nil, or_false] at hq ⊢ <;> omega) (by intro q hq; simp only [zA, zAn, List.mem_cons, List.not_mem_nil, or_false] at hq ⊢ <;> omega) (fun H1 locs1 hp1 hz1 hk1 hS1 => ?_)
    have hP : va_P D vwCl [((g 1 (k).toNat), .inr (1, [.int (zI ((va_up (τ k.toNat) (5 + w9).toNat v9) 1)), .int (zI ((va_up (τ k.toNat) (5 + w9).toNat v9) 0)), .int (zI ((va_up (τ k.toNat) (5 + w9).toNat v9) 2)), .int (zI ((va_up (τ k.toNat) (5 + w9).toNat v9) 3)), .int (zI ((va_up (τ k.toNat) (5 + w9).toNat v9) 4)), .int (zI ((va_up (τ k.toNat) (5 + w9).toNat v9) 5)), .int (zI ((va_up (τ k.toNat) (5 + w9).toNat v9) 6)), .int (zI ((va_up (τ k.toNat) (5 + w9).toNat v9) 7)), .ref (g 2 (k).toNat), .ref (g 3 (k).toNat)])), ((g 2 (k).toNat), .inl (G 0, 128, .inl (cs k.toNat))), ((g 3 (k).toNat), .inl (G 0, 128, .inl (ss k.toNat)))] H1 := z_merge hPt hk1 (w1 := [((g 1 (k).toNat), .inr (1, [.int (zI ((va_up (τ k.toNat) (5 + w9).toNat v9) 1)), .int (zI ((va_up (τ k.toNat) (5 + w9).toNat v9) 0)), .int (zI ((va_up (τ k.toNat) (5 + w9).toNat v9) 2)), .int (zI ((va_up (τ k.toNat) (5 + w9).toNat v9) 3)), .int (zI ((va_up (τ k.toNat) (5 + w9).toNat v9) 4)), .int (zI ((va_up (τ k.toNat) (5 + w9).toNat v9) 5)), .int (zI ((va_up (τ k.toNat) (5 + w9).toNat v9) 6)), .int (zI ((va_up (τ k.toNat) (5 + w9).toNat v9) 7)), .ref (g 2 (k).toNat), .ref (g 3 (k).toNat)]))]) (wr := [((g 2 (k).toNat), .inl (G 0, 128, .inl (cs k.toNat))), ((g 3 (k).toNat), .inl (G 0, 128, .inl (ss k.toNat)))]) hp1 [1, 2] rfl (by intro q hq; simp only [List.map, List.mem_cons, List.not_mem_nil, or_false] at hq ⊢ <;> omega) [0, 1, 2] rfl
    have hS := hS1
    clear hS1
    refine lv_iload hx hb dX2_turn_44 (lv_at hl 0 rfl) ?_
    exact zmc_zret hx hb hr hlocks hS (⟨_, _, XW_upd hW hXL hn8 (k := k.toNat) (by omega) (f' := va_up (τ k.toNat) (5 + w9).toNat v9) (cn' := cs k.toNat) (sn' := ss k.toNat) hP (x_upTR hRt (by omega)) hS.2.1⟩) (by first | rfl | omega) (by omega) dX2_turn_46 (Nat.le_of_ble_eq_true rfl) (Nat.le_of_ble_eq_true rfl)
  · refine lv_iconst (v := zI (1)) hx hb dX2_turn_28 rfl ?_
    refine lv_goto (tgt := 33) hx hb dX2_turn_29 (by decide) ?_
    refine lv_istore (lv' := [(5, .int (zI (1))), (4, .ref (g 1 (k).toNat)), (0, .ref ax), (1, .int (zI (k))), (2, .int (zI (w9))), (3, .int (zI (v9)))]) hx hb dX2_turn_33 hl (by decide) rfl (fun ls hl => ?_)
    refine lv_aload hx hb dX2_turn_35 (lv_at hl 1 rfl) ?_
    refine lv_iconst (v := zI (5)) hx hb dX2_turn_37 rfl ?_
    refine lv_iload_n hx hb dX2_turn_38 rfl (lv_at hl 4 rfl) ?_
    refine z_iadd hx hb dX2_turn_39 ?_
    refine lv_iload_n hx hb dX2_turn_40 rfl (lv_at hl 5 rfl) ?_
    refine z_callM (va_runVN (As := [.int (zI ((5) + (w9))), .int (zI (v9))]) (rest := []) ⟨hx, hb, hml, hown, hts⟩ (kX1_switchTo l D G (g 1 (k).toNat) (g 2 (k).toNat) (g 3 (k).toNat) (τ k.toNat) (5 + w9) v9 (by simp) (by omega) hv9) ⟨va_cnB 2 hts gX2_turn_X1_switchTo_n87 rfl rfl rfl (hN.1 (RX2, 87, yX1_switchTo) (by decide +kernel)) (hts (.initialized RX1) (by decide +kernel)) (by decide +kernel) ⟨Nat.le_of_ble_eq_true rfl, Nat.le_of_ble_eq_true rfl⟩, hts (.instanceMethod yX1_switchTo) (by decide +kernel), hts (.selects RX1 yX1_switchTo yX1_switchTo) (by decide +kernel)⟩ (zPreV (va_recv hK hPt (ci := 1) (q0 := 0) rfl rfl) hK hN (hPt.sub [0] rfl)) rfl rfl hl.1 rfl (lv_room (Nat.le_of_ble_eq_true rfl)) dX2_turn_41 ⟨Nat.le_of_ble_eq_true rfl, Nat.le_of_ble_eq_true rfl⟩) hS (by intro q hq9 hq; simp only [zA, zAn, List.mem_cons, List.not_mem_nil, or_false] at hq ⊢ <;> omega) (by intro q hq; simp only [zA, zAn, List.mem_cons, List.not_mem_nil, or_false] at hq ⊢ <;> omega) (fun H1 locs1 hp1 hz1 hk1 hS1 => ?_)
    have hP : va_P D vwCl [((g 1 (k).toNat), .inr (1, [.int (zI ((va_up (τ k.toNat) (5 + w9).toNat v9) 1)), .int (zI ((va_up (τ k.toNat) (5 + w9).toNat v9) 0)), .int (zI ((va_up (τ k.toNat) (5 + w9).toNat v9) 2)), .int (zI ((va_up (τ k.toNat) (5 + w9).toNat v9) 3)), .int (zI ((va_up (τ k.toNat) (5 + w9).toNat v9) 4)), .int (zI ((va_up (τ k.toNat) (5 + w9).toNat v9) 5)), .int (zI ((va_up (τ k.toNat) (5 + w9).toNat v9) 6)), .int (zI ((va_up (τ k.toNat) (5 + w9).toNat v9) 7)), .ref (g 2 (k).toNat), .ref (g 3 (k).toNat)])), ((g 2 (k).toNat), .inl (G 0, 128, .inl (cs k.toNat))), ((g 3 (k).toNat), .inl (G 0, 128, .inl (ss k.toNat)))] H1 := z_merge hPt hk1 (w1 := [((g 1 (k).toNat), .inr (1, [.int (zI ((va_up (τ k.toNat) (5 + w9).toNat v9) 1)), .int (zI ((va_up (τ k.toNat) (5 + w9).toNat v9) 0)), .int (zI ((va_up (τ k.toNat) (5 + w9).toNat v9) 2)), .int (zI ((va_up (τ k.toNat) (5 + w9).toNat v9) 3)), .int (zI ((va_up (τ k.toNat) (5 + w9).toNat v9) 4)), .int (zI ((va_up (τ k.toNat) (5 + w9).toNat v9) 5)), .int (zI ((va_up (τ k.toNat) (5 + w9).toNat v9) 6)), .int (zI ((va_up (τ k.toNat) (5 + w9).toNat v9) 7)), .ref (g 2 (k).toNat), .ref (g 3 (k).toNat)]))]) (wr := [((g 2 (k).toNat), .inl (G 0, 128, .inl (cs k.toNat))), ((g 3 (k).toNat), .inl (G 0, 128, .inl (ss k.toNat)))]) hp1 [1, 2] rfl (by intro q hq; simp only [List.map, List.mem_cons, List.not_mem_nil, or_false] at hq ⊢ <;> omega) [0, 1, 2] rfl
    have hS := hS1
    clear hS1
    refine lv_iload hx hb dX2_turn_44 (lv_at hl 0 rfl) ?_
    exact zmc_zret hx hb hr hlocks hS (⟨_, _, XW_upd hW hXL hn8 (k := k.toNat) (by omega) (f' := va_up (τ k.toNat) (5 + w9).toNat v9) (cn' := cs k.toNat) (sn' := ss k.toNat) hP (x_upTR hRt (by omega)) hS.2.1⟩) (by first | rfl | omega) (by omega) dX2_turn_46 (Nat.le_of_ble_eq_true rfl) (Nat.le_of_ble_eq_true rfl)

set_option maxHeartbeats 4000000 in
set_option maxRecDepth 100000 in
theorem kX2_rotate (l : Launch) (D : va_G) (G : Nat → ClassId) (hl9 : l.stackTraces = false) (ax : Nat) (n m9 sp : Int) (τ ζ : Nat → Nat → Int) (g : Nat → Nat → Nat) (cs ss : Nat → Nat → Int32) (hOK : XOK n m9 sp τ ζ) (lab : Nat → Nat) (hXL : XL lab ax n m9 g) (k q9 : Int) (hr0 : -2147483648 ≤ k ∧ k ≤ 2147483647) (hr1 : -2147483648 ≤ q9 ∧ q9 ≤ 2147483647) : vx_Met l yX2_rotate wsX2_rotate ({ frames := 7, cells := 2, slots := 12, locals := 152 }) (zPT [.ref ax, .int (zI (k)), .int (zI (q9))] D G (fun H => XW D G ax n m9 sp τ ζ g cs ss H)) (zMc (some (.int (zI (xLoud (xRot (τ k.toNat) q9) (τ k.toNat 0).toNat)))) ((0 ≤ k ∧ k < n) ∧ (0 ≤ q9 ∧ q9 ≤ 31)) (fun H => ∃ cs' ss' : Nat → Nat → Int32, XW D G ax n m9 sp (va_up τ k.toNat (xRot (τ k.toNat) q9)) ζ g cs' ss' H) (zA [g 1 k.toNat, g 2 k.toNat, g 3 k.toNat])) (zX (fun E => (E = zIO ∧ ¬ (0 ≤ k ∧ k < n)) ∨ (E = zIA ∧ (0 ≤ k ∧ k < n) ∧ ¬ (0 ≤ q9 ∧ q9 ≤ 31)))) 2 12 (zA [g 1 k.toNat, g 2 k.toNat, g 3 k.toNat]) := by
  refine vx_ofW (cc := cX2_rotate) (maxL := 4) (ret := (some .int)) (by decide) rfl ?_
  intro p e s m args below meth c s₁ B hml htab hv
  obtain ⟨hav, hW, hK, hN, hT0⟩ := hv
  have hx := B.exec
  have hb := B.bytes
  have hr := B.returns
  have hts := atoms_spec (ws := wsX2_rotate) B.pre
  have hown : s.vm.findClass RX2 = some m.cls := findClass_of_methodNamed B.named
  have hlocks : meth.locks = false := B.notSynchronized
  have hS : va_S (zA [g 1 k.toNat, g 2 k.toNat, g 3 k.toNat]) s.heap s.heap [] := va_S.rf
  obtain ⟨hP, hT, hZ⟩ := id hW
  have hB := id hOK
  obtain ⟨hn0, hn8, hm0, hm12, hsp0, hsp1, -⟩ := hB
  refine z_entry hav (Nat.le_of_ble_eq_true rfl) rfl (fun ls hl => ?_)
  have hl : lv_has ls 4 [(0, .ref ax), (1, .int (zI (k))), (2, .int (zI (q9)))] := hl
  refine lv_aload_n hx hb dX2_rotate_0 rfl (lv_at hl 0 rfl) ?_
  refine lv_iload_n hx hb dX2_rotate_1 rfl (lv_at hl 1 rfl) ?_
  refine z_callX (vx_runV (As := [.int (zI (k))]) (rest := []) ⟨hx, hb, hml, hown, hts⟩ (kX2_existingTrack l D G hl9 ax n m9 sp τ ζ g cs ss hOK (k) (by omega)) (cwV 1 hts gX2_rotate_X2_existingTrack rfl rfl rfl (by decide +kernel) ⟨Nat.le_of_ble_eq_true rfl, Nat.le_of_ble_eq_true rfl⟩) (zPTreV (va_recv hK hP (ci := 2) (q0 := 0) rfl rfl) hK hN hT0 (hW)) rfl rfl hl.1 rfl (lv_room (Nat.le_of_ble_eq_true rfl)) dX2_rotate_2 ⟨Nat.le_of_ble_eq_true rfl, Nat.le_of_ble_eq_true rfl⟩) (fun E ce q9 H1 hco hz hk1 hce hcv hcl => ?_) (fun hp_1 => ?_)
  · exact zx_out htab hlocks hz hk1 hce hcv hcl (by first | exact (hco.2 trivial).elim | exact ⟨hco.1, by have h9 := hco.2; omega⟩ | exact Or.inl ⟨hco.1, by have h9 := hco.2; omega⟩ | exact Or.inr ⟨hco.1, by omega, by have h9 := hco.2; omega⟩) (Nat.le_of_ble_eq_true rfl) (Nat.le_of_ble_eq_true rfl)
  have htb := hOK.tb (k := k) (by omega)
  refine lv_astore_n (lv' := [(3, .ref (g 1 (k).toNat)), (0, .ref ax), (1, .int (zI (k))), (2, .int (zI (q9)))]) hx hb dX2_rotate_5 rfl hl (by decide) rfl (fun ls hl => ?_)
  refine lv_iload_n hx hb dX2_rotate_6 rfl (lv_at hl 3 rfl) ?_
  refine lv_iconst (v := zI (0)) hx hb dX2_rotate_7 rfl ?_
  refine lv_bipush (v := zI (31)) hx hb dX2_rotate_8 (by decide) ?_
  refine z_call (va_runS (As := [.int (zI (q9)), .int (zI (0)), .int (zI (31))]) (rest := []) ⟨hx, hb, hml, hown, hts⟩ (kX2_isWithin l D G (q9) (0) (31) (by omega) (by omega) (by omega)) (va_cwS 3 hts gX2_rotate_X2_isWithin rfl rfl rfl (by decide +kernel) ⟨Nat.le_of_ble_eq_true rfl, Nat.le_of_ble_eq_true rfl⟩) (zPreS hK hN (trivial)) rfl rfl hl.1 rfl (lv_room (Nat.le_of_ble_eq_true rfl)) dX2_rotate_10 ⟨Nat.le_of_ble_eq_true rfl, Nat.le_of_ble_eq_true rfl⟩) ?_
  refine z_callX (vx_runS (As := [.int (zB ((0) ≤ (q9) ∧ (q9) ≤ (31)))]) (rest := []) ⟨hx, hb, hml, hown, hts⟩ (kX2_checkArgument l D G hl9 ((0) ≤ (q9) ∧ (q9) ≤ (31))) (va_cwS 1 hts gX2_rotate_X2_checkArgument rfl rfl rfl (by decide +kernel) ⟨Nat.le_of_ble_eq_true rfl, Nat.le_of_ble_eq_true rfl⟩) (zPTreS hK hN hT0 (trivial)) rfl rfl hl.1 rfl (lv_room (Nat.le_of_ble_eq_true rfl)) dX2_rotate_13 ⟨Nat.le_of_ble_eq_true rfl, Nat.le_of_ble_eq_true rfl⟩) (fun E ce q9 H1 hco hz hk1 hce hcv hcl => ?_) (fun hp_2 => ?_)
  · exact zx_out htab hlocks hz hk1 hce hcv hcl (by first | exact (hco.2 trivial).elim | exact ⟨hco.1, by have h9 := hco.2; omega⟩ | exact Or.inl ⟨hco.1, by have h9 := hco.2; omega⟩ | exact Or.inr ⟨hco.1, by omega, by have h9 := hco.2; omega⟩) (Nat.le_of_ble_eq_true rfl) (Nat.le_of_ble_eq_true rfl)
  have hPt : va_P D vwCl [((g 1 (k).toNat), .inr (1, [.int (zI ((τ k.toNat) 1)), .int (zI ((τ k.toNat) 0)), .int (zI ((τ k.toNat) 2)), .int (zI ((τ k.toNat) 3)), .int (zI ((τ k.toNat) 4)), .int (zI ((τ k.toNat) 5)), .int (zI ((τ k.toNat) 6)), .int (zI ((τ k.toNat) 7)), .ref (g 2 (k).toNat), .ref (g 3 (k).toNat)])), ((g 2 (k).toNat), .inl (G 0, 128, .inl (cs k.toNat))), ((g 3 (k).toNat), .inl (G 0, 128, .inl (ss k.toNat)))] s.heap := (hT k.toNat (by omega)).1
  have hRt := (hT k.toNat (by omega)).2
  have hft := hOK.t (k := k) (by omega)
  have hnd := hXL.nd (k := k.toNat) (by omega)
  have hnd' := hnd
  simp only [List.nodup_cons, List.mem_cons, List.not_mem_nil, or_false, List.nodup_nil, and_true, not_or, not_false_eq_true] at hnd'
  have hD : va_D (zA [g 1 k.toNat, g 2 k.toNat, g 3 k.toNat]) [((g 1 (k).toNat), .inr (1, [.int (zI ((τ k.toNat) 1)), .int (zI ((τ k.toNat) 0)), .int (zI ((τ k.toNat) 2)), .int (zI ((τ k.toNat) 3)), .int (zI ((τ k.toNat) 4)), .int (zI ((τ k.toNat) 5)), .int (zI ((τ k.toNat) 6)), .int (zI ((τ k.toNat) 7)), .ref (g 2 (k).toNat), .ref (g 3 (k).toNat)])), ((g 2 (k).toNat), .inl (G 0, 128, .inl (cs k.toNat))), ((g 3 (k).toNat), .inl (G 0, 128, .inl (ss k.toNat)))] := z_Dof hnd rfl
  refine lv_aload_n hx hb dX2_rotate_16 rfl (lv_at hl 0 rfl) ?_
  refine lv_iload_n hx hb dX2_rotate_17 rfl (lv_at hl 3 rfl) ?_
  refine z_callM (va_runVN (As := [.int (zI (q9))]) (rest := []) ⟨hx, hb, hml, hown, hts⟩ (kX1_moveSteps l D G (g 1 (k).toNat) (g 2 (k).toNat) (g 3 (k).toNat) (τ k.toNat) (cs k.toNat) (ss k.toNat) q9 (by simp only [List.nodup_cons, List.mem_cons, List.not_mem_nil, or_false, List.nodup_nil, and_true, not_or, not_false_eq_true]; omega) (by omega) (by omega)) ⟨va_cnB 1 hts gX2_rotate_X1_moveSteps_n97 rfl rfl rfl (hN.1 (RX2, 97, yX1_moveSteps) (by decide +kernel)) (hts (.initialized RX1) (by decide +kernel)) (by decide +kernel) ⟨Nat.le_of_ble_eq_true rfl, Nat.le_of_ble_eq_true rfl⟩, hts (.instanceMethod yX1_moveSteps) (by decide +kernel), hts (.selects RX1 yX1_moveSteps yX1_moveSteps) (by decide +kernel)⟩ (zPreV (va_recv hK hPt (ci := 1) (q0 := 0) rfl rfl) hK hN (hPt.sub [0, 1, 2] rfl)) rfl rfl hl.1 rfl (lv_room (Nat.le_of_ble_eq_true rfl)) dX2_rotate_18 ⟨Nat.le_of_ble_eq_true rfl, Nat.le_of_ble_eq_true rfl⟩) hS (by intro q hq9 hq; simp only [zA, zAn, List.mem_cons, List.not_mem_nil, or_false] at hq ⊢ <;> omega) (by intro q hq; simp only [zA, zAn, List.mem_cons, List.not_mem_nil, or_false] at hq ⊢ <;> omega) (fun H1 locs1 hp1 hz1 hk1 hS1 => ?_)
  obtain ⟨dn, en, hp2, hdn⟩ := hp1
  have hP : va_P D vwCl [((g 1 (k).toNat), .inr (1, [.int (zI ((τ k.toNat) 1)), .int (zI ((τ k.toNat) 0)), .int (zI ((τ k.toNat) 2)), .int (zI ((τ k.toNat) 3)), .int (zI ((τ k.toNat) 4)), .int (zI ((τ k.toNat) 5)), .int (zI ((τ k.toNat) 6)), .int (zI ((τ k.toNat) 7)), .ref (g 2 (k).toNat), .ref (g 3 (k).toNat)])), ((g 2 (k).toNat), .inl (G 0, 128, .inl (dn))), ((g 3 (k).toNat), .inl (G 0, 128, .inl (en)))] H1 := z_merge hPt hk1 (w1 := [((g 1 (k).toNat), .inr (1, [.int (zI ((τ k.toNat) 1)), .int (zI ((τ k.toNat) 0)), .int (zI ((τ k.toNat) 2)), .int (zI ((τ k.toNat) 3)), .int (zI ((τ k.toNat) 4)), .int (zI ((τ k.toNat) 5)), .int (zI ((τ k.toNat) 6)), .int (zI ((τ k.toNat) 7)), .ref (g 2 (k).toNat), .ref (g 3 (k).toNat)])), ((g 2 (k).toNat), .inl (G 0, 128, .inl (dn))), ((g 3 (k).toNat), .inl (G 0, 128, .inl (en)))]) (wr := []) hp2 [] rfl (by intro q hq; simp only [List.map, List.mem_cons, List.not_mem_nil, or_false] at hq ⊢ <;> omega) [0, 1, 2] rfl
  have hS := hS1
  clear hS1
  have hRr := xRot_tr (by omega) hRt (by omega) hdn
  have hP : va_P D vwCl (xTw G (xRot (τ k.toNat) q9) (g 1 (k).toNat) (g 2 (k).toNat) (g 3 (k).toNat) dn en) H1 := by rw [xTw_congr xRot_lo]; exact hP
  refine lv_aload_n hx hb dX2_rotate_21 rfl (lv_at hl 0 rfl) ?_
  refine z_call (va_runVN (As := []) (rest := []) ⟨hx, hb, hml, hown, hts⟩ (kX1_stepsWithForce l D G (g 1 (k).toNat) (g 2 (k).toNat) (g 3 (k).toNat) (xRot (τ k.toNat) q9) dn (xRot_ok hft q9) hRr) ⟨va_cnB 0 hts gX2_rotate_X1_stepsWithForce_n101 rfl rfl rfl (hN.1 (RX2, 101, yX1_stepsWithForce) (by decide +kernel)) (hts (.initialized RX1) (by decide +kernel)) (by decide +kernel) ⟨Nat.le_of_ble_eq_true rfl, Nat.le_of_ble_eq_true rfl⟩, hts (.instanceMethod yX1_stepsWithForce) (by decide +kernel), hts (.selects RX1 yX1_stepsWithForce yX1_stepsWithForce) (by decide +kernel)⟩ (zPreV (va_recv hK hP (ci := 1) (q0 := 0) rfl rfl) hK hN (hP.sub [0, 1] rfl)) rfl rfl hl.1 rfl (lv_room (Nat.le_of_ble_eq_true rfl)) dX2_rotate_22 ⟨Nat.le_of_ble_eq_true rfl, Nat.le_of_ble_eq_true rfl⟩) ?_
  exact zmc_iret hx hb hr hlocks hS (⟨_, _, XW_upd hW hXL hn8 (k := k.toNat) (by omega) (f' := xRot (τ k.toNat) q9) hP hRr hS.2.1⟩) (by first | rfl | omega) (by omega) dX2_rotate_25 (Nat.le_of_ble_eq_true rfl) (Nat.le_of_ble_eq_true rfl)
