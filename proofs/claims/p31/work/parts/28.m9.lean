set_option maxHeartbeats 4000000 in
set_option maxRecDepth 100000 in
theorem kX2_hits (l : Launch) (D : va_G) (G : Nat → ClassId) (hl9 : l.stackTraces = false) (ax : Nat) (n m9 sp : Int) (τ ζ : Nat → Nat → Int) (g : Nat → Nat → Nat) (cs ss : Nat → Nat → Int32) (hOK : XOK n m9 sp τ ζ) (t9 : Int) (hr0 : -2147483648 ≤ t9 ∧ t9 ≤ 2147483647) : vx_Met l yX2_hits wsX2_hits ({ frames := 7, cells := 1, slots := 6, locals := 150 }) (zPT [.ref ax, .int (zI (t9))] D G (fun H => XW D G ax n m9 sp τ ζ g cs ss H)) (zQc (some (.int (zI ((xSet (fun j => xHit n m9 τ ζ (j : Int) t9) n.toNat : Nat))))) (0 ≤ t9 ∧ t9 ≤ 99999)) (zX (fun E => E = zIA ∧ ¬ (0 ≤ t9 ∧ t9 ≤ 99999))) 1 6 (fun _ => False) := by
  refine vx_ofW (cc := cX2_hits) (maxL := 2) (ret := (some .int)) (by decide) rfl ?_
  intro p e s m args below meth c s₁ B hml htab hv
  obtain ⟨hav, hW, hK, hN, hT0⟩ := hv
  have hx := B.exec
  have hb := B.bytes
  have hr := B.returns
  have hts := atoms_spec (ws := wsX2_hits) B.pre
  have hown : s.vm.findClass RX2 = some m.cls := findClass_of_methodNamed B.named
  have hlocks : meth.locks = false := B.notSynchronized
  obtain ⟨hP, hT, hZ⟩ := id hW
  have hB := id hOK
  obtain ⟨hn0, hn8, hm0, hm12, hsp0, hsp1, -⟩ := hB
  refine z_entry hav (Nat.le_of_ble_eq_true rfl) rfl (fun ls hl => ?_)
  have hl : lv_has ls 2 [(0, .ref ax), (1, .int (zI (t9)))] := hl
  refine lv_iload_n hx hb dX2_hits_0 rfl (lv_at hl 1 rfl) ?_
  refine z_call (va_runS (As := [.int (zI (t9))]) (rest := []) ⟨hx, hb, hml, hown, hts⟩ (kX2_isTick l D G (t9) (by omega)) (va_cwS 1 hts gX2_hits_X2_isTick rfl rfl rfl (by decide +kernel) ⟨Nat.le_of_ble_eq_true rfl, Nat.le_of_ble_eq_true rfl⟩) (zPreS hK hN (trivial)) rfl rfl hl.1 rfl (lv_room (Nat.le_of_ble_eq_true rfl)) dX2_hits_1 ⟨Nat.le_of_ble_eq_true rfl, Nat.le_of_ble_eq_true rfl⟩) ?_
  refine z_callX (vx_runS (As := [.int (zB (0 ≤ (t9) ∧ (t9) ≤ 99999))]) (rest := []) ⟨hx, hb, hml, hown, hts⟩ (kX2_checkArgument l D G hl9 (0 ≤ (t9) ∧ (t9) ≤ 99999)) (va_cwS 1 hts gX2_hits_X2_checkArgument rfl rfl rfl (by decide +kernel) ⟨Nat.le_of_ble_eq_true rfl, Nat.le_of_ble_eq_true rfl⟩) (zPTreS hK hN hT0 (trivial)) rfl rfl hl.1 rfl (lv_room (Nat.le_of_ble_eq_true rfl)) dX2_hits_4 ⟨Nat.le_of_ble_eq_true rfl, Nat.le_of_ble_eq_true rfl⟩) (fun E ce q9 H1 hco hz hk1 hce hcv hcl => ?_) (fun hp_1 => ?_)
  · exact zx_out htab hlocks hz hk1 hce hcv hcl (by first | exact (hco.2 trivial).elim | exact ⟨hco.1, by have h9 := hco.2; omega⟩ | exact Or.inl ⟨hco.1, by have h9 := hco.2; omega⟩ | exact Or.inr ⟨hco.1, by omega, by have h9 := hco.2; omega⟩) (Nat.le_of_ble_eq_true rfl) (Nat.le_of_ble_eq_true rfl)
  refine lv_aload_n hx hb dX2_hits_7 rfl (lv_at hl 0 rfl) ?_
  refine lv_iload_n hx hb dX2_hits_8 rfl (lv_at hl 1 rfl) ?_
  refine z_call (va_runV (As := [.int (zI (t9))]) (rest := []) ⟨hx, hb, hml, hown, hts⟩ (kX2_hitSet l D G ax n m9 sp τ ζ g cs ss hOK (t9) (by omega)) (cwV 1 hts gX2_hits_X2_hitSet rfl rfl rfl (by decide +kernel) ⟨Nat.le_of_ble_eq_true rfl, Nat.le_of_ble_eq_true rfl⟩) (zPreV (va_recv hK hP (ci := 2) (q0 := 0) rfl rfl) hK hN (hW)) rfl rfl hl.1 rfl (lv_room (Nat.le_of_ble_eq_true rfl)) dX2_hits_9 ⟨Nat.le_of_ble_eq_true rfl, Nat.le_of_ble_eq_true rfl⟩) ?_
  exact zc_iret hx hb hr hlocks (by first | rfl | omega) (by omega) dX2_hits_12 (Nat.le_of_ble_eq_true rfl) (Nat.le_of_ble_eq_true rfl)

set_option maxHeartbeats 4000000 in
set_option maxRecDepth 100000 in
theorem kX2_loudness (l : Launch) (D : va_G) (G : Nat → ClassId) (hl9 : l.stackTraces = false) (ax : Nat) (n m9 sp : Int) (τ ζ : Nat → Nat → Int) (g : Nat → Nat → Nat) (cs ss : Nat → Nat → Int32) (hOK : XOK n m9 sp τ ζ) (k t9 : Int) (hr0 : -2147483648 ≤ k ∧ k ≤ 2147483647) (hr1 : -2147483648 ≤ t9 ∧ t9 ≤ 2147483647) : vx_Met l yX2_loudness wsX2_loudness ({ frames := 7, cells := 2, slots := 12, locals := 152 }) (zPT [.ref ax, .int (zI (k)), .int (zI (t9))] D G (fun H => XW D G ax n m9 sp τ ζ g cs ss H)) (zQc (some (.int (zI (xLn n m9 τ ζ k t9)))) ((0 ≤ k ∧ k < n) ∧ (0 ≤ t9 ∧ t9 ≤ 99999))) (zX (fun E => (E = zIO ∧ ¬ (0 ≤ k ∧ k < n)) ∨ (E = zIA ∧ (0 ≤ k ∧ k < n) ∧ ¬ (0 ≤ t9 ∧ t9 ≤ 99999)))) 2 12 (fun _ => False) := by
  refine vx_ofW (cc := cX2_loudness) (maxL := 3) (ret := (some .int)) (by decide) rfl ?_
  intro p e s m args below meth c s₁ B hml htab hv
  obtain ⟨hav, hW, hK, hN, hT0⟩ := hv
  have hx := B.exec
  have hb := B.bytes
  have hr := B.returns
  have hts := atoms_spec (ws := wsX2_loudness) B.pre
  have hown : s.vm.findClass RX2 = some m.cls := findClass_of_methodNamed B.named
  have hlocks : meth.locks = false := B.notSynchronized
  obtain ⟨hP, hT, hZ⟩ := id hW
  have hB := id hOK
  obtain ⟨hn0, hn8, hm0, hm12, hsp0, hsp1, -⟩ := hB
  refine z_entry hav (Nat.le_of_ble_eq_true rfl) rfl (fun ls hl => ?_)
  have hl : lv_has ls 3 [(0, .ref ax), (1, .int (zI (k))), (2, .int (zI (t9)))] := hl
  refine lv_aload_n hx hb dX2_loudness_0 rfl (lv_at hl 0 rfl) ?_
  refine lv_iload_n hx hb dX2_loudness_1 rfl (lv_at hl 1 rfl) ?_
  refine z_callX (vx_runV (As := [.int (zI (k))]) (rest := []) ⟨hx, hb, hml, hown, hts⟩ (kX2_existingTrack l D G hl9 ax n m9 sp τ ζ g cs ss hOK (k) (by omega)) (cwV 1 hts gX2_loudness_X2_existingTrack rfl rfl rfl (by decide +kernel) ⟨Nat.le_of_ble_eq_true rfl, Nat.le_of_ble_eq_true rfl⟩) (zPTreV (va_recv hK hP (ci := 2) (q0 := 0) rfl rfl) hK hN hT0 (hW)) rfl rfl hl.1 rfl (lv_room (Nat.le_of_ble_eq_true rfl)) dX2_loudness_2 ⟨Nat.le_of_ble_eq_true rfl, Nat.le_of_ble_eq_true rfl⟩) (fun E ce q9 H1 hco hz hk1 hce hcv hcl => ?_) (fun hp_1 => ?_)
  · exact zx_out htab hlocks hz hk1 hce hcv hcl (by first | exact (hco.2 trivial).elim | exact ⟨hco.1, by have h9 := hco.2; omega⟩ | exact Or.inl ⟨hco.1, by have h9 := hco.2; omega⟩ | exact Or.inr ⟨hco.1, by omega, by have h9 := hco.2; omega⟩) (Nat.le_of_ble_eq_true rfl) (Nat.le_of_ble_eq_true rfl)
  refine lv_pop hx hb dX2_loudness_5 rfl ?_
  refine lv_iload_n hx hb dX2_loudness_6 rfl (lv_at hl 2 rfl) ?_
  refine z_call (va_runS (As := [.int (zI (t9))]) (rest := []) ⟨hx, hb, hml, hown, hts⟩ (kX2_isTick l D G (t9) (by omega)) (va_cwS 1 hts gX2_loudness_X2_isTick rfl rfl rfl (by decide +kernel) ⟨Nat.le_of_ble_eq_true rfl, Nat.le_of_ble_eq_true rfl⟩) (zPreS hK hN (trivial)) rfl rfl hl.1 rfl (lv_room (Nat.le_of_ble_eq_true rfl)) dX2_loudness_7 ⟨Nat.le_of_ble_eq_true rfl, Nat.le_of_ble_eq_true rfl⟩) ?_
  refine z_callX (vx_runS (As := [.int (zB (0 ≤ (t9) ∧ (t9) ≤ 99999))]) (rest := []) ⟨hx, hb, hml, hown, hts⟩ (kX2_checkArgument l D G hl9 (0 ≤ (t9) ∧ (t9) ≤ 99999)) (va_cwS 1 hts gX2_loudness_X2_checkArgument rfl rfl rfl (by decide +kernel) ⟨Nat.le_of_ble_eq_true rfl, Nat.le_of_ble_eq_true rfl⟩) (zPTreS hK hN hT0 (trivial)) rfl rfl hl.1 rfl (lv_room (Nat.le_of_ble_eq_true rfl)) dX2_loudness_10 ⟨Nat.le_of_ble_eq_true rfl, Nat.le_of_ble_eq_true rfl⟩) (fun E ce q9 H1 hco hz hk1 hce hcv hcl => ?_) (fun hp_2 => ?_)
  · exact zx_out htab hlocks hz hk1 hce hcv hcl (by first | exact (hco.2 trivial).elim | exact ⟨hco.1, by have h9 := hco.2; omega⟩ | exact Or.inl ⟨hco.1, by have h9 := hco.2; omega⟩ | exact Or.inr ⟨hco.1, by omega, by have h9 := hco.2; omega⟩) (Nat.le_of_ble_eq_true rfl) (Nat.le_of_ble_eq_true rfl)
  refine lv_aload_n hx hb dX2_loudness_13 rfl (lv_at hl 0 rfl) ?_
  refine lv_iload_n hx hb dX2_loudness_14 rfl (lv_at hl 1 rfl) ?_
  refine lv_iload_n hx hb dX2_loudness_15 rfl (lv_at hl 2 rfl) ?_
  refine z_call (va_runV (As := [.int (zI (k)), .int (zI (t9))]) (rest := []) ⟨hx, hb, hml, hown, hts⟩ (kX2_makesHit l D G ax n m9 sp τ ζ g cs ss hOK (k) (t9) (by omega) (by omega)) (cwV 2 hts gX2_loudness_X2_makesHit rfl rfl rfl (by decide +kernel) ⟨Nat.le_of_ble_eq_true rfl, Nat.le_of_ble_eq_true rfl⟩) (zPreV (va_recv hK hP (ci := 2) (q0 := 0) rfl rfl) hK hN (hW)) rfl rfl hl.1 rfl (lv_room (Nat.le_of_ble_eq_true rfl)) dX2_loudness_16 ⟨Nat.le_of_ble_eq_true rfl, Nat.le_of_ble_eq_true rfl⟩) ?_
  refine z_neB (tgt := 24) hx hb dX2_loudness_19 (by decide) (fun c_3 => ?_) (fun c_3 => ?_)
  · refine lv_aload_n hx hb dX2_loudness_24 rfl (lv_at hl 0 rfl) ?_
    refine lv_iload_n hx hb dX2_loudness_25 rfl (lv_at hl 1 rfl) ?_
    refine lv_iload_n hx hb dX2_loudness_26 rfl (lv_at hl 2 rfl) ?_
    refine z_call (va_runV (As := [.int (zI (k)), .int (zI (t9))]) (rest := []) ⟨hx, hb, hml, hown, hts⟩ (kX2_struckForce l D G ax n m9 sp τ ζ g cs ss hOK (k) (t9) (by omega) (by omega)) (cwV 2 hts gX2_loudness_X2_struckForce rfl rfl rfl (by decide +kernel) ⟨Nat.le_of_ble_eq_true rfl, Nat.le_of_ble_eq_true rfl⟩) (zPreV (va_recv hK hP (ci := 2) (q0 := 0) rfl rfl) hK hN (hW)) rfl rfl hl.1 rfl (lv_room (Nat.le_of_ble_eq_true rfl)) dX2_loudness_27 ⟨Nat.le_of_ble_eq_true rfl, Nat.le_of_ble_eq_true rfl⟩) ?_
    refine lv_aload_n hx hb dX2_loudness_30 rfl (lv_at hl 0 rfl) ?_
    refine lv_iload_n hx hb dX2_loudness_31 rfl (lv_at hl 2 rfl) ?_
    refine z_call (va_runV (As := [.int (zI (t9))]) (rest := [.int (zI (xStr n m9 τ ζ (k) (t9)))]) ⟨hx, hb, hml, hown, hts⟩ (kX2_accentForce l D G ax n m9 sp τ ζ g cs ss hOK (t9) (by omega)) (cwV 1 hts gX2_loudness_X2_accentForce rfl rfl rfl (by decide +kernel) ⟨Nat.le_of_ble_eq_true rfl, Nat.le_of_ble_eq_true rfl⟩) (zPreV (va_recv hK hP (ci := 2) (q0 := 0) rfl rfl) hK hN (hW)) rfl rfl hl.1 rfl (lv_room (Nat.le_of_ble_eq_true rfl)) dX2_loudness_32 ⟨Nat.le_of_ble_eq_true rfl, Nat.le_of_ble_eq_true rfl⟩) ?_
    have hsb := xStr_b hOK (k := k) (t := t9) (by omega)
    have hab := xAcc_b hOK t9 n.toNat (by omega)
    refine lv_iconst (v := zI (4)) hx hb dX2_loudness_35 rfl ?_
    refine z_idiv hx hb (by omega) dX2_loudness_36 ?_
    refine z_iadd hx hb dX2_loudness_37 ?_
    refine lv_bipush (v := zI (127)) hx hb dX2_loudness_38 (by decide) ?_
    refine z_min hx hb (hml.trans hl.1.symm) hown (hts (.methodLink RX2 138 Lib.Math.min.name) (by decide +kernel)) (hts (.static Lib.Math.min.name) (by decide +kernel)) (hts (.initialized "java/lang/Math") (by decide +kernel)) (hts (.code Lib.Math.min.name Lib.Math.min.code 2 (some .int)) (by decide +kernel)) (Nat.le_of_ble_eq_true rfl) (Nat.le_of_ble_eq_true rfl) (Nat.le_of_ble_eq_true rfl) (Nat.le_of_ble_eq_true rfl) (by omega) dX2_loudness_40 ?_
    exact zc_iret hx hb hr hlocks (by unfold xLn; rw [if_pos c_3]) (by omega) dX2_loudness_43 (Nat.le_of_ble_eq_true rfl) (Nat.le_of_ble_eq_true rfl)
  · refine lv_iconst (v := zI (0)) hx hb dX2_loudness_22 rfl ?_
    exact zc_iret hx hb hr hlocks (by unfold xLn; rw [if_neg c_3]) (by omega) dX2_loudness_23 (Nat.le_of_ble_eq_true rfl) (Nat.le_of_ble_eq_true rfl)

set_option maxHeartbeats 4000000 in
set_option maxRecDepth 100000 in
theorem kX2_next (l : Launch) (D : va_G) (G : Nat → ClassId) (hl9 : l.stackTraces = false) (ax : Nat) (n m9 sp : Int) (τ ζ : Nat → Nat → Int) (g : Nat → Nat → Nat) (cs ss : Nat → Nat → Int32) (hOK : XOK n m9 sp τ ζ) (k t9 : Int) (hr0 : -2147483648 ≤ k ∧ k ≤ 2147483647) (hr1 : -2147483648 ≤ t9 ∧ t9 ≤ 2147483647) : vx_Met l yX2_next wsX2_next ({ frames := 7, cells := 2, slots := 12, locals := 152 }) (zPT [.ref ax, .int (zI (k)), .int (zI (t9))] D G (fun H => XW D G ax n m9 sp τ ζ g cs ss H)) (zQc (some (.int (zI (xNx (fun t => xHit n m9 τ ζ k t) t9 ((if 99999 < t9 + 3000 then 99999 else t9 + 3000) + 1 - t9).toNat)))) ((0 ≤ k ∧ k < n) ∧ (0 ≤ t9 ∧ t9 ≤ 99999))) (zX (fun E => (E = zIO ∧ ¬ (0 ≤ k ∧ k < n)) ∨ (E = zIA ∧ (0 ≤ k ∧ k < n) ∧ ¬ (0 ≤ t9 ∧ t9 ≤ 99999)))) 2 12 (fun _ => False) := by
  refine vx_ofW (cc := cX2_next) (maxL := 5) (ret := (some .int)) (by decide) rfl ?_
  intro p e s m args below meth c s₁ B hml htab hv
  obtain ⟨hav, hW, hK, hN, hT0⟩ := hv
  have hx := B.exec
  have hb := B.bytes
  have hr := B.returns
  have hts := atoms_spec (ws := wsX2_next) B.pre
  have hown : s.vm.findClass RX2 = some m.cls := findClass_of_methodNamed B.named
  have hlocks : meth.locks = false := B.notSynchronized
  obtain ⟨hP, hT, hZ⟩ := id hW
  have hB := id hOK
  obtain ⟨hn0, hn8, hm0, hm12, hsp0, hsp1, -⟩ := hB
  refine z_entry hav (Nat.le_of_ble_eq_true rfl) rfl (fun ls hl => ?_)
  have hl : lv_has ls 5 [(0, .ref ax), (1, .int (zI (k))), (2, .int (zI (t9)))] := hl
  refine lv_aload_n hx hb dX2_next_0 rfl (lv_at hl 0 rfl) ?_
  refine lv_iload_n hx hb dX2_next_1 rfl (lv_at hl 1 rfl) ?_
  refine z_callX (vx_runV (As := [.int (zI (k))]) (rest := []) ⟨hx, hb, hml, hown, hts⟩ (kX2_existingTrack l D G hl9 ax n m9 sp τ ζ g cs ss hOK (k) (by omega)) (cwV 1 hts gX2_next_X2_existingTrack rfl rfl rfl (by decide +kernel) ⟨Nat.le_of_ble_eq_true rfl, Nat.le_of_ble_eq_true rfl⟩) (zPTreV (va_recv hK hP (ci := 2) (q0 := 0) rfl rfl) hK hN hT0 (hW)) rfl rfl hl.1 rfl (lv_room (Nat.le_of_ble_eq_true rfl)) dX2_next_2 ⟨Nat.le_of_ble_eq_true rfl, Nat.le_of_ble_eq_true rfl⟩) (fun E ce q9 H1 hco hz hk1 hce hcv hcl => ?_) (fun hp_1 => ?_)
  · exact zx_out htab hlocks hz hk1 hce hcv hcl (by first | exact (hco.2 trivial).elim | exact ⟨hco.1, by have h9 := hco.2; omega⟩ | exact Or.inl ⟨hco.1, by have h9 := hco.2; omega⟩ | exact Or.inr ⟨hco.1, by omega, by have h9 := hco.2; omega⟩) (Nat.le_of_ble_eq_true rfl) (Nat.le_of_ble_eq_true rfl)
  refine lv_pop hx hb dX2_next_5 rfl ?_
  refine lv_iload_n hx hb dX2_next_6 rfl (lv_at hl 2 rfl) ?_
  refine z_call (va_runS (As := [.int (zI (t9))]) (rest := []) ⟨hx, hb, hml, hown, hts⟩ (kX2_isTick l D G (t9) (by omega)) (va_cwS 1 hts gX2_next_X2_isTick rfl rfl rfl (by decide +kernel) ⟨Nat.le_of_ble_eq_true rfl, Nat.le_of_ble_eq_true rfl⟩) (zPreS hK hN (trivial)) rfl rfl hl.1 rfl (lv_room (Nat.le_of_ble_eq_true rfl)) dX2_next_7 ⟨Nat.le_of_ble_eq_true rfl, Nat.le_of_ble_eq_true rfl⟩) ?_
  refine z_callX (vx_runS (As := [.int (zB (0 ≤ (t9) ∧ (t9) ≤ 99999))]) (rest := []) ⟨hx, hb, hml, hown, hts⟩ (kX2_checkArgument l D G hl9 (0 ≤ (t9) ∧ (t9) ≤ 99999)) (va_cwS 1 hts gX2_next_X2_checkArgument rfl rfl rfl (by decide +kernel) ⟨Nat.le_of_ble_eq_true rfl, Nat.le_of_ble_eq_true rfl⟩) (zPTreS hK hN hT0 (trivial)) rfl rfl hl.1 rfl (lv_room (Nat.le_of_ble_eq_true rfl)) dX2_next_10 ⟨Nat.le_of_ble_eq_true rfl, Nat.le_of_ble_eq_true rfl⟩) (fun E ce q9 H1 hco hz hk1 hce hcv hcl => ?_) (fun hp_2 => ?_)
  · exact zx_out htab hlocks hz hk1 hce hcv hcl (by first | exact (hco.2 trivial).elim | exact ⟨hco.1, by have h9 := hco.2; omega⟩ | exact Or.inl ⟨hco.1, by have h9 := hco.2; omega⟩ | exact Or.inr ⟨hco.1, by omega, by have h9 := hco.2; omega⟩) (Nat.le_of_ble_eq_true rfl) (Nat.le_of_ble_eq_true rfl)
  refine lv_iload_n hx hb dX2_next_13 rfl (lv_at hl 2 rfl) ?_
  refine lv_sipush (v := zI (3000)) hx hb dX2_next_14 (by decide) ?_
  refine z_iadd hx hb dX2_next_17 ?_
  refine lv_ldc (v := 99999) hx hb hown (hts (.constant RX2 155 (99999)) (by decide +kernel)) dX2_next_18 ?_
  refine z_raw (y := zI 99999) (by decide) ?_
  refine z_min hx hb (hml.trans hl.1.symm) hown (hts (.methodLink RX2 138 Lib.Math.min.name) (by decide +kernel)) (hts (.static Lib.Math.min.name) (by decide +kernel)) (hts (.initialized "java/lang/Math") (by decide +kernel)) (hts (.code Lib.Math.min.name Lib.Math.min.code 2 (some .int)) (by decide +kernel)) (Nat.le_of_ble_eq_true rfl) (Nat.le_of_ble_eq_true rfl) (Nat.le_of_ble_eq_true rfl) (Nat.le_of_ble_eq_true rfl) (by omega) dX2_next_20 ?_
  obtain ⟨L9, hL9⟩ : ∃ L9 : Int, L9 = if 99999 < t9 + 3000 then 99999 else t9 + 3000 := ⟨_, rfl⟩
  refine z_val (y := L9) hL9.symm ?_
  have hL8 : t9 ≤ L9 ∧ L9 ≤ 99999 := by rw [hL9]; split <;> omega
  refine lv_istore_n (lv' := [(3, .int (zI (L9))), (0, .ref ax), (1, .int (zI (k))), (2, .int (zI (t9)))]) hx hb dX2_next_23 rfl hl (by decide) rfl (fun ls hl => ?_)
  refine lv_iload_n hx hb dX2_next_24 rfl (lv_at hl 3 rfl) ?_
  refine lv_istore (lv' := [(4, .int (zI (t9))), (3, .int (zI (L9))), (0, .ref ax), (1, .int (zI (k))), (2, .int (zI (t9)))]) hx hb dX2_next_25 hl (by decide) rfl (fun ls hl => ?_)
  have loop_27 : ∀ (fu : Nat) (a : Int), (t9 ≤ a ∧ a ≤ L9 + 1) → (xNx (fun t => xHit n m9 τ ζ k t) t9 (a - t9).toNat = -1) → L9 + 1 - a < (fu : Int) → ∀ (ls : Array Slot), lv_has ls 5 [(0, .ref ax), (1, .int (zI (k))), (3, .int (zI (L9))), (4, .int (zI (a)))] → W p l e (headSpec wsX2_next ({ frames := 7, cells := 2, slots := 12, locals := 152 })).room s m args below meth c s.heap [] 2 12 (vx_MQ below (zQc (some (.int (zI (xNx (fun t => xHit n m9 τ ζ k t) t9 ((if 99999 < t9 + 3000 then 99999 else t9 + 3000) + 1 - t9).toNat)))) ((0 ≤ k ∧ k < n) ∧ (0 ≤ t9 ∧ t9 ≤ 99999))) (zX (fun E => (E = zIO ∧ ¬ (0 ≤ k ∧ k < n)) ∨ (E = zIA ∧ (0 ≤ k ∧ k < n) ∧ ¬ (0 ≤ t9 ∧ t9 ≤ 99999)))) args s 2 12 (fun _ => False)) (F0 m 27 ls []) := by
    intro fu
    induction fu with
    | zero =>
      intro a ha0 hno hm
      exfalso; omega
    | succ fu ih =>
      intro a ha0 hno hm ls hl
      have ih_27 := ih
      refine lv_iload hx hb dX2_next_27 (lv_at hl 3 rfl) ?_
      refine lv_iload_n hx hb dX2_next_29 rfl (lv_at hl 2 rfl) ?_
      refine z_icmp_gt (tgt := 52) hx hb (by omega) dX2_next_30 (by decide) (fun c_3 => ?_) (fun c_3 => ?_)
      · refine lv_iconst (v := zI (-1)) hx hb dX2_next_52 rfl ?_
        exact zc_iret hx hb hr hlocks (by rw [← hL9, show L9 + 1 - t9 = a - t9 by omega]; exact hno.symm) (by omega) dX2_next_53 (Nat.le_of_ble_eq_true rfl) (Nat.le_of_ble_eq_true rfl)
      · refine lv_aload_n hx hb dX2_next_33 rfl (lv_at hl 0 rfl) ?_
        refine lv_iload_n hx hb dX2_next_34 rfl (lv_at hl 1 rfl) ?_
        refine lv_iload hx hb dX2_next_35 (lv_at hl 3 rfl) ?_
        refine z_call (va_runV (As := [.int (zI (k)), .int (zI (a))]) (rest := []) ⟨hx, hb, hml, hown, hts⟩ (kX2_makesHit l D G ax n m9 sp τ ζ g cs ss hOK (k) (a) (by omega) (by omega)) (cwV 2 hts gX2_next_X2_makesHit rfl rfl rfl (by decide +kernel) ⟨Nat.le_of_ble_eq_true rfl, Nat.le_of_ble_eq_true rfl⟩) (zPreV (va_recv hK hP (ci := 2) (q0 := 0) rfl rfl) hK hN (hW)) rfl rfl hl.1 rfl (lv_room (Nat.le_of_ble_eq_true rfl)) dX2_next_37 ⟨Nat.le_of_ble_eq_true rfl, Nat.le_of_ble_eq_true rfl⟩) ?_
        refine z_eqB (tgt := 46) hx hb dX2_next_40 (by decide) (fun c_4 => ?_) (fun c_4 => ?_)
        · refine lv_iinc (v := zI (a + 1)) (lv' := [(4, .int (zI (a + 1))), (0, .ref ax), (1, .int (zI (k))), (3, .int (zI (L9)))]) hx hb dX2_next_46 hl (k := 3) rfl (zI_add (a) (1)) (by decide) rfl (fun ls hl => ?_)
          refine lv_goto (tgt := 27) hx hb dX2_next_49 (by decide) ?_
          exact ih_27 (a + 1) (by omega) (xNx_f (P := fun t => xHit n m9 τ ζ k t) ha0.1 hno (by assumption)) (by omega) _ (lv_sub hl [1, 2, 3, 0] rfl)
        · refine lv_iload hx hb dX2_next_43 (lv_at hl 3 rfl) ?_
          exact zc_iret hx hb hr hlocks (by rw [← hL9]; exact xNx_ret (P := fun t => xHit n m9 τ ζ k t) (by omega) ha0.1 (by omega) hno (by assumption)) (by omega) dX2_next_45 (Nat.le_of_ble_eq_true rfl) (Nat.le_of_ble_eq_true rfl)
  exact loop_27 (3200) (t9) (by omega) (by rw [show t9 - t9 = 0 by omega]; rfl) (by rw [hL9] at *; split at hL8 <;> omega) ls (lv_sub hl [2, 3, 1, 0] rfl)

set_option maxHeartbeats 4000000 in
set_option maxRecDepth 100000 in
theorem kX2_count (l : Launch) (D : va_G) (G : Nat → ClassId) (hl9 : l.stackTraces = false) (ax : Nat) (n m9 sp : Int) (τ ζ : Nat → Nat → Int) (g : Nat → Nat → Nat) (cs ss : Nat → Nat → Int32) (hOK : XOK n m9 sp τ ζ) (k x y : Int) (hr0 : -2147483648 ≤ k ∧ k ≤ 2147483647) (hr1 : -2147483648 ≤ x ∧ x ≤ 2147483647) (hr2 : -2147483648 ≤ y ∧ y ≤ 2147483647) : vx_Met l yX2_count wsX2_count ({ frames := 7, cells := 2, slots := 12, locals := 152 }) (zPT [.ref ax, .int (zI (k)), .int (zI (x)), .int (zI (y))] D G (fun H => XW D G ax n m9 sp τ ζ g cs ss H)) (zQc (some (.int (zI (xCnt (fun t => xHit n m9 τ ζ k t ∧ xHit n m9 τ ζ k t) x (y - x).toNat)))) ((0 ≤ k ∧ k < n) ∧ ((0 ≤ x ∧ x ≤ 99999) ∧ (0 ≤ y ∧ y ≤ 99999) ∧ x ≤ y ∧ y - x ≤ 3000))) (zX (fun E => (E = zIO ∧ ¬ (0 ≤ k ∧ k < n)) ∨ (E = zIA ∧ (0 ≤ k ∧ k < n) ∧ ¬ ((0 ≤ x ∧ x ≤ 99999) ∧ (0 ≤ y ∧ y ≤ 99999) ∧ x ≤ y ∧ y - x ≤ 3000)))) 2 12 (fun _ => False) := by
  refine vx_ofW (cc := cX2_count) (maxL := 4) (ret := (some .int)) (by decide) rfl ?_
  intro p e s m args below meth c s₁ B hml htab hv
  obtain ⟨hav, hW, hK, hN, hT0⟩ := hv
  have hx := B.exec
  have hb := B.bytes
  have hr := B.returns
  have hts := atoms_spec (ws := wsX2_count) B.pre
  have hown : s.vm.findClass RX2 = some m.cls := findClass_of_methodNamed B.named
  have hlocks : meth.locks = false := B.notSynchronized
  obtain ⟨hP, hT, hZ⟩ := id hW
  have hB := id hOK
  obtain ⟨hn0, hn8, hm0, hm12, hsp0, hsp1, -⟩ := hB
  refine z_entry hav (Nat.le_of_ble_eq_true rfl) rfl (fun ls hl => ?_)
  have hl : lv_has ls 4 [(0, .ref ax), (1, .int (zI (k))), (2, .int (zI (x))), (3, .int (zI (y)))] := hl
  refine lv_aload_n hx hb dX2_count_0 rfl (lv_at hl 0 rfl) ?_
  refine lv_iload_n hx hb dX2_count_1 rfl (lv_at hl 1 rfl) ?_
  refine z_callX (vx_runV (As := [.int (zI (k))]) (rest := []) ⟨hx, hb, hml, hown, hts⟩ (kX2_existingTrack l D G hl9 ax n m9 sp τ ζ g cs ss hOK (k) (by omega)) (cwV 1 hts gX2_count_X2_existingTrack rfl rfl rfl (by decide +kernel) ⟨Nat.le_of_ble_eq_true rfl, Nat.le_of_ble_eq_true rfl⟩) (zPTreV (va_recv hK hP (ci := 2) (q0 := 0) rfl rfl) hK hN hT0 (hW)) rfl rfl hl.1 rfl (lv_room (Nat.le_of_ble_eq_true rfl)) dX2_count_2 ⟨Nat.le_of_ble_eq_true rfl, Nat.le_of_ble_eq_true rfl⟩) (fun E ce q9 H1 hco hz hk1 hce hcv hcl => ?_) (fun hp_1 => ?_)
  · exact zx_out htab hlocks hz hk1 hce hcv hcl (by first | exact (hco.2 trivial).elim | exact ⟨hco.1, by have h9 := hco.2; omega⟩ | exact Or.inl ⟨hco.1, by have h9 := hco.2; omega⟩ | exact Or.inr ⟨hco.1, by omega, by have h9 := hco.2; omega⟩) (Nat.le_of_ble_eq_true rfl) (Nat.le_of_ble_eq_true rfl)
  refine lv_pop hx hb dX2_count_5 rfl ?_
  refine lv_iload_n hx hb dX2_count_6 rfl (lv_at hl 2 rfl) ?_
  refine lv_iload_n hx hb dX2_count_7 rfl (lv_at hl 3 rfl) ?_
  refine z_call (va_runS (As := [.int (zI (x)), .int (zI (y))]) (rest := []) ⟨hx, hb, hml, hown, hts⟩ (kX2_isSpan l D G (x) (y) (by omega) (by omega)) (va_cwS 2 hts gX2_count_X2_isSpan rfl rfl rfl (by decide +kernel) ⟨Nat.le_of_ble_eq_true rfl, Nat.le_of_ble_eq_true rfl⟩) (zPreS hK hN (trivial)) rfl rfl hl.1 rfl (lv_room (Nat.le_of_ble_eq_true rfl)) dX2_count_8 ⟨Nat.le_of_ble_eq_true rfl, Nat.le_of_ble_eq_true rfl⟩) ?_
  refine z_callX (vx_runS (As := [.int (zB ((0 ≤ (x) ∧ (x) ≤ 99999) ∧ (0 ≤ (y) ∧ (y) ≤ 99999) ∧ (x) ≤ (y) ∧ (y) - (x) ≤ 3000))]) (rest := []) ⟨hx, hb, hml, hown, hts⟩ (kX2_checkArgument l D G hl9 ((0 ≤ (x) ∧ (x) ≤ 99999) ∧ (0 ≤ (y) ∧ (y) ≤ 99999) ∧ (x) ≤ (y) ∧ (y) - (x) ≤ 3000)) (va_cwS 1 hts gX2_count_X2_checkArgument rfl rfl rfl (by decide +kernel) ⟨Nat.le_of_ble_eq_true rfl, Nat.le_of_ble_eq_true rfl⟩) (zPTreS hK hN hT0 (trivial)) rfl rfl hl.1 rfl (lv_room (Nat.le_of_ble_eq_true rfl)) dX2_count_11 ⟨Nat.le_of_ble_eq_true rfl, Nat.le_of_ble_eq_true rfl⟩) (fun E ce q9 H1 hco hz hk1 hce hcv hcl => ?_) (fun hp_2 => ?_)
  · exact zx_out htab hlocks hz hk1 hce hcv hcl (by first | exact (hco.2 trivial).elim | exact ⟨hco.1, by have h9 := hco.2; omega⟩ | exact Or.inl ⟨hco.1, by have h9 := hco.2; omega⟩ | exact Or.inr ⟨hco.1, by omega, by have h9 := hco.2; omega⟩) (Nat.le_of_ble_eq_true rfl) (Nat.le_of_ble_eq_true rfl)
  refine lv_aload_n hx hb dX2_count_14 rfl (lv_at hl 0 rfl) ?_
  refine lv_iload_n hx hb dX2_count_15 rfl (lv_at hl 1 rfl) ?_
  refine lv_iload_n hx hb dX2_count_16 rfl (lv_at hl 1 rfl) ?_
  refine lv_iload_n hx hb dX2_count_17 rfl (lv_at hl 2 rfl) ?_
  refine lv_iload_n hx hb dX2_count_18 rfl (lv_at hl 3 rfl) ?_
  refine z_call (va_runV (As := [.int (zI (k)), .int (zI (k)), .int (zI (x)), .int (zI (y))]) (rest := []) ⟨hx, hb, hml, hown, hts⟩ (kX2_commonHits l D G ax n m9 sp τ ζ g cs ss hOK (k) (k) (x) (y) (by omega) (by omega) (by omega)) (cwV 4 hts gX2_count_X2_commonHits rfl rfl rfl (by decide +kernel) ⟨Nat.le_of_ble_eq_true rfl, Nat.le_of_ble_eq_true rfl⟩) (zPreV (va_recv hK hP (ci := 2) (q0 := 0) rfl rfl) hK hN (hW)) rfl rfl hl.1 rfl (lv_room (Nat.le_of_ble_eq_true rfl)) dX2_count_19 ⟨Nat.le_of_ble_eq_true rfl, Nat.le_of_ble_eq_true rfl⟩) ?_
  exact zc_iret hx hb hr hlocks (by first | rfl | omega) (by omega) dX2_count_22 (Nat.le_of_ble_eq_true rfl) (Nat.le_of_ble_eq_true rfl)

set_option maxHeartbeats 4000000 in
set_option maxRecDepth 100000 in
theorem kX2_seconds (l : Launch) (D : va_G) (G : Nat → ClassId) (hl9 : l.stackTraces = false) (ax : Nat) (n m9 sp : Int) (τ ζ : Nat → Nat → Int) (g : Nat → Nat → Nat) (cs ss : Nat → Nat → Int32) (hOK : XOK n m9 sp τ ζ) (t9 : Int) (hr0 : -2147483648 ≤ t9 ∧ t9 ≤ 2147483647) : vx_Met l yX2_seconds wsX2_seconds ({ frames := 7, cells := 1, slots := 6, locals := 150 }) (zPT [.ref ax, .int (zI (t9))] D G (fun H => XW D G ax n m9 sp τ ζ g cs ss H)) (zQc (some (.double (xSecs sp t9))) (0 ≤ t9 ∧ t9 ≤ 99999)) (zX (fun E => E = zIA ∧ ¬ (0 ≤ t9 ∧ t9 ≤ 99999))) 1 6 (fun _ => False) := by
  refine vx_ofW (cc := cX2_seconds) (maxL := 2) (ret := (some .double)) (by decide) rfl ?_
  intro p e s m args below meth c s₁ B hml htab hv
  obtain ⟨hav, hW, hK, hN, hT0⟩ := hv
  have hx := B.exec
  have hb := B.bytes
  have hr := B.returns
  have hts := atoms_spec (ws := wsX2_seconds) B.pre
  have hown : s.vm.findClass RX2 = some m.cls := findClass_of_methodNamed B.named
  have hlocks : meth.locks = false := B.notSynchronized
  have hin2 : ∀ w ∈ u_ws RX2 TX2 5, w ∈ wsX2_seconds := by decide +kernel
  obtain ⟨hP, hT, hZ⟩ := id hW
  have hB := id hOK
  obtain ⟨hn0, hn8, hm0, hm12, hsp0, hsp1, -⟩ := hB
  refine z_entry hav (Nat.le_of_ble_eq_true rfl) rfl (fun ls hl => ?_)
  have hl : lv_has ls 2 [(0, .ref ax), (1, .int (zI (t9)))] := hl
  refine lv_iload_n hx hb dX2_seconds_0 rfl (lv_at hl 1 rfl) ?_
  refine z_call (va_runS (As := [.int (zI (t9))]) (rest := []) ⟨hx, hb, hml, hown, hts⟩ (kX2_isTick l D G (t9) (by omega)) (va_cwS 1 hts gX2_seconds_X2_isTick rfl rfl rfl (by decide +kernel) ⟨Nat.le_of_ble_eq_true rfl, Nat.le_of_ble_eq_true rfl⟩) (zPreS hK hN (trivial)) rfl rfl hl.1 rfl (lv_room (Nat.le_of_ble_eq_true rfl)) dX2_seconds_1 ⟨Nat.le_of_ble_eq_true rfl, Nat.le_of_ble_eq_true rfl⟩) ?_
  refine z_callX (vx_runS (As := [.int (zB (0 ≤ (t9) ∧ (t9) ≤ 99999))]) (rest := []) ⟨hx, hb, hml, hown, hts⟩ (kX2_checkArgument l D G hl9 (0 ≤ (t9) ∧ (t9) ≤ 99999)) (va_cwS 1 hts gX2_seconds_X2_checkArgument rfl rfl rfl (by decide +kernel) ⟨Nat.le_of_ble_eq_true rfl, Nat.le_of_ble_eq_true rfl⟩) (zPTreS hK hN hT0 (trivial)) rfl rfl hl.1 rfl (lv_room (Nat.le_of_ble_eq_true rfl)) dX2_seconds_4 ⟨Nat.le_of_ble_eq_true rfl, Nat.le_of_ble_eq_true rfl⟩) (fun E ce q9 H1 hco hz hk1 hce hcv hcl => ?_) (fun hp_1 => ?_)
  · exact zx_out htab hlocks hz hk1 hce hcv hcl (by first | exact (hco.2 trivial).elim | exact ⟨hco.1, by have h9 := hco.2; omega⟩ | exact Or.inl ⟨hco.1, by have h9 := hco.2; omega⟩ | exact Or.inr ⟨hco.1, by omega, by have h9 := hco.2; omega⟩) (Nat.le_of_ble_eq_true rfl) (Nat.le_of_ble_eq_true rfl)
  refine lv_iload_n hx hb dX2_seconds_7 rfl (lv_at hl 1 rfl) ?_
  refine lv_i2d hx hb dX2_seconds_8 ?_
  refine lv_ldc2d (v := 4633641066610819072) hx hb hown (hts (.constantDouble RX2 181 (4633641066610819072)) (by decide +kernel)) dX2_seconds_9 ?_
  refine lv_dmul hx hb dX2_seconds_12 (zFn_n64 (zF_mul (zF_i2d (by omega)) zF_60)) ?_
  refine lv_aload_n hx hb dX2_seconds_13 rfl (lv_at hl 0 rfl) ?_
  refine va_get (D := D) (ci := 2) (v := .int (zI (sp))) (C := RX2) (T := TX2) (N := 5) hx hb hts hin2 hown hK hP 0 rfl rfl 4 (by decide) (hts (.fieldLink RX2 28 "PolyDrums" "beats" "I") (by decide +kernel)) (fun _ h9 => h9) rfl dX2_seconds_14 ?_
  refine lv_i2d hx hb dX2_seconds_17 ?_
  refine lv_ddiv hx hb dX2_seconds_18 (zFn_n64 (zF_div (zF_mul (zF_i2d (by omega)) zF_60) (zF_i2dp (by omega)))) ?_
  refine lv_ldc2d (v := 4627448617123184640) hx hb hown (hts (.constantDouble RX2 183 (4627448617123184640)) (by decide +kernel)) dX2_seconds_19 ?_
  refine lv_ddiv hx hb dX2_seconds_22 (zFn_n64 (zF_div (zF_div (zF_mul (zF_i2d (by omega)) zF_60) (zF_i2dp (by omega))) zF_24)) ?_
  exact zc_dret hx hb hr hlocks (rfl) (by omega) dX2_seconds_23 (Nat.le_of_ble_eq_true rfl) (Nat.le_of_ble_eq_true rfl)

set_option maxHeartbeats 4000000 in
set_option maxRecDepth 100000 in
theorem kX2_sounding (l : Launch) (D : va_G) (G : Nat → ClassId) (hl9 : l.stackTraces = false) (ax : Nat) (n m9 sp : Int) (τ ζ : Nat → Nat → Int) (g : Nat → Nat → Nat) (cs ss : Nat → Nat → Int32) (hOK : XOK n m9 sp τ ζ) (t9 : Int) (hr0 : -2147483648 ≤ t9 ∧ t9 ≤ 2147483647) : vx_Met l yX2_sounding wsX2_sounding ({ frames := 7, cells := 1, slots := 6, locals := 150 }) (zPT [.ref ax, .int (zI (t9))] D G (fun H => XW D G ax n m9 sp τ ζ g cs ss H)) (zQc (some (.int (zI ((xSet (fun j => xSnd n m9 τ ζ t9 (j : Int)) n.toNat : Nat))))) (0 ≤ t9 ∧ t9 ≤ 99999)) (zX (fun E => E = zIA ∧ ¬ (0 ≤ t9 ∧ t9 ≤ 99999))) 1 6 (fun _ => False) := by
  refine vx_ofW (cc := cX2_sounding) (maxL := 8) (ret := (some .int)) (by decide) rfl ?_
  intro p e s m args below meth c s₁ B hml htab hv
  obtain ⟨hav, hW, hK, hN, hT0⟩ := hv
  have hx := B.exec
  have hb := B.bytes
  have hr := B.returns
  have hts := atoms_spec (ws := wsX2_sounding) B.pre
  have hown : s.vm.findClass RX2 = some m.cls := findClass_of_methodNamed B.named
  have hlocks : meth.locks = false := B.notSynchronized
  have hin1 : ∀ w ∈ u_ws RX1 TX1 10, w ∈ wsX2_sounding := by decide +kernel
  have hin2 : ∀ w ∈ u_ws RX2 TX2 5, w ∈ wsX2_sounding := by decide +kernel
  obtain ⟨hP, hT, hZ⟩ := id hW
  have hB := id hOK
  obtain ⟨hn0, hn8, hm0, hm12, hsp0, hsp1, -⟩ := hB
  refine z_entry hav (Nat.le_of_ble_eq_true rfl) rfl (fun ls hl => ?_)
  have hl : lv_has ls 8 [(0, .ref ax), (1, .int (zI (t9)))] := hl
  refine lv_iload_n hx hb dX2_sounding_0 rfl (lv_at hl 1 rfl) ?_
  refine z_call (va_runS (As := [.int (zI (t9))]) (rest := []) ⟨hx, hb, hml, hown, hts⟩ (kX2_isTick l D G (t9) (by omega)) (va_cwS 1 hts gX2_sounding_X2_isTick rfl rfl rfl (by decide +kernel) ⟨Nat.le_of_ble_eq_true rfl, Nat.le_of_ble_eq_true rfl⟩) (zPreS hK hN (trivial)) rfl rfl hl.1 rfl (lv_room (Nat.le_of_ble_eq_true rfl)) dX2_sounding_1 ⟨Nat.le_of_ble_eq_true rfl, Nat.le_of_ble_eq_true rfl⟩) ?_
  refine z_callX (vx_runS (As := [.int (zB (0 ≤ (t9) ∧ (t9) ≤ 99999))]) (rest := []) ⟨hx, hb, hml, hown, hts⟩ (kX2_checkArgument l D G hl9 (0 ≤ (t9) ∧ (t9) ≤ 99999)) (va_cwS 1 hts gX2_sounding_X2_checkArgument rfl rfl rfl (by decide +kernel) ⟨Nat.le_of_ble_eq_true rfl, Nat.le_of_ble_eq_true rfl⟩) (zPTreS hK hN hT0 (trivial)) rfl rfl hl.1 rfl (lv_room (Nat.le_of_ble_eq_true rfl)) dX2_sounding_4 ⟨Nat.le_of_ble_eq_true rfl, Nat.le_of_ble_eq_true rfl⟩) (fun E ce q9 H1 hco hz hk1 hce hcv hcl => ?_) (fun hp_1 => ?_)
  · exact zx_out htab hlocks hz hk1 hce hcv hcl (by first | exact (hco.2 trivial).elim | exact ⟨hco.1, by have h9 := hco.2; omega⟩ | exact Or.inl ⟨hco.1, by have h9 := hco.2; omega⟩ | exact Or.inr ⟨hco.1, by omega, by have h9 := hco.2; omega⟩) (Nat.le_of_ble_eq_true rfl) (Nat.le_of_ble_eq_true rfl)
  refine lv_iconst (v := zI (0)) hx hb dX2_sounding_7 rfl ?_
  refine lv_istore_n (lv' := [(2, .int (zI (0))), (0, .ref ax), (1, .int (zI (t9)))]) hx hb dX2_sounding_8 rfl hl (by decide) rfl (fun ls hl => ?_)
  refine lv_iconst (v := zI (1)) hx hb dX2_sounding_9 rfl ?_
  refine lv_aload_n hx hb dX2_sounding_10 rfl (lv_at hl 1 rfl) ?_
  refine va_get (D := D) (ci := 2) (v := .int (zI (n))) (C := RX2) (T := TX2) (N := 5) hx hb hts hin2 hown hK hP 0 rfl rfl 1 (by decide) (hts (.fieldLink RX2 15 "PolyDrums" "trackCount" "I") (by decide +kernel)) (fun _ h9 => h9) rfl dX2_sounding_11 ?_
  refine lv_ishl hx hb dX2_sounding_14 ?_
  refine z_raw (y := zI ((2 ^ n.toNat : Nat) : Int)) (zI_shl (by omega)) ?_
  refine lv_iconst (v := zI (1)) hx hb dX2_sounding_15 rfl ?_
  refine z_isub hx hb dX2_sounding_16 ?_
  have hpw := Nat.two_pow_pos n.toNat
  have hpw2 : 2 ^ n.toNat ≤ 2 ^ 8 := Nat.pow_le_pow_right (by omega) (by omega)
  refine z_val (y := ((2 ^ n.toNat - 1 : Nat) : Int)) (by omega) ?_
  refine lv_istore_n (lv' := [(3, .int (zI (((2 ^ n.toNat - 1 : Nat) : Int)))), (2, .int (zI (0))), (0, .ref ax), (1, .int (zI (t9)))]) hx hb dX2_sounding_17 rfl hl (by decide) rfl (fun ls hl => ?_)
  refine lv_iconst (v := zI (0)) hx hb dX2_sounding_18 rfl ?_
  refine lv_istore (lv' := [(4, .int (zI (0))), (3, .int (zI (((2 ^ n.toNat - 1 : Nat) : Int)))), (2, .int (zI (0))), (0, .ref ax), (1, .int (zI (t9)))]) hx hb dX2_sounding_19 hl (by decide) rfl (fun ls hl => ?_)
  have loop_21 : ∀ (fu : Nat) (a : Int) (v9 : Nat) (o9 : Nat), (0 ≤ a ∧ a ≤ 200 ∧ a ≤ t9 + 1) → (v9 < 256) → (o9 < 256) → (yJO n (fun k b => xHit n m9 τ ζ k (t9 - b)) (fun k => τ k.toNat 4) a o9) → (yJS n (fun k b => xHit n m9 τ ζ k (t9 - b)) (fun k => τ k.toNat 4) (fun k => τ k.toNat 3) a v9) → 200 - a < (fu : Int) → ∀ (ls : Array Slot), lv_has ls 8 [(0, .ref ax), (1, .int (zI (t9))), (2, .int (zI ((v9 : Int)))), (3, .int (zI ((o9 : Int)))), (4, .int (zI (a)))] → W p l e (headSpec wsX2_sounding ({ frames := 7, cells := 1, slots := 6, locals := 150 })).room s m args below meth c s.heap [] 1 6 (vx_MQ below (zQc (some (.int (zI ((xSet (fun j => xSnd n m9 τ ζ t9 (j : Int)) n.toNat : Nat))))) (0 ≤ t9 ∧ t9 ≤ 99999)) (zX (fun E => E = zIA ∧ ¬ (0 ≤ t9 ∧ t9 ≤ 99999))) args s 1 6 (fun _ => False)) (F0 m 21 ls []) := by
    intro fu
    induction fu with
    | zero =>
      intro a v9 o9 ha0 hv8 ho8 hJO hJS hm
      exfalso; omega
    | succ fu ih =>
      intro a v9 o9 ha0 hv8 ho8 hJO hJS hm ls hl
      have ih_21 := ih
      refine lv_iload hx hb dX2_sounding_21 (lv_at hl 4 rfl) ?_
      refine lv_sipush (v := zI (200)) hx hb dX2_sounding_23 (by decide) ?_
      refine z_icmp_ge (tgt := 138) hx hb (by omega) dX2_sounding_26 (by decide) (fun c_2 => ?_) (fun c_2 => ?_)
      · refine lv_iload_n hx hb dX2_sounding_138 rfl (lv_at hl 2 rfl) ?_
        exact zc_iret hx hb hr hlocks (by rw [x_setEq (P := fun j => xSnd n m9 τ ζ t9 (j : Int)) (by omega) (fun k => y_end hJS hJO (fun j h1 h2 => (hOK.tb (k := j) ⟨h1, h2⟩).2.2.2.2.2.2.2.1) (by omega) ha0.2.2 ha0.1 k)]) (by omega) dX2_sounding_139 (Nat.le_of_ble_eq_true rfl) (Nat.le_of_ble_eq_true rfl)
      · refine lv_iload hx hb dX2_sounding_29 (lv_at hl 4 rfl) ?_
        refine lv_iload_n hx hb dX2_sounding_31 rfl (lv_at hl 1 rfl) ?_
        refine z_icmp_gt (tgt := 138) hx hb (by omega) dX2_sounding_32 (by decide) (fun c_3 => ?_) (fun c_3 => ?_)
        · refine lv_iload_n hx hb dX2_sounding_138 rfl (lv_at hl 2 rfl) ?_
          exact zc_iret hx hb hr hlocks (by rw [x_setEq (P := fun j => xSnd n m9 τ ζ t9 (j : Int)) (by omega) (fun k => y_end hJS hJO (fun j h1 h2 => (hOK.tb (k := j) ⟨h1, h2⟩).2.2.2.2.2.2.2.1) (by omega) ha0.2.2 ha0.1 k)]) (by omega) dX2_sounding_139 (Nat.le_of_ble_eq_true rfl) (Nat.le_of_ble_eq_true rfl)
        · refine lv_iload_n hx hb dX2_sounding_35 rfl (lv_at hl 3 rfl) ?_
          refine z_if_eq (tgt := 138) hx hb (by omega) dX2_sounding_36 (by decide) (fun c_4 => ?_) (fun c_4 => ?_)
          · refine lv_iload_n hx hb dX2_sounding_138 rfl (lv_at hl 2 rfl) ?_
            exact zc_iret hx hb hr hlocks (by rw [x_setEq (P := fun j => xSnd n m9 τ ζ t9 (j : Int)) (by omega) (fun k => y_end hJS hJO (fun j h1 h2 => (hOK.tb (k := j) ⟨h1, h2⟩).2.2.2.2.2.2.2.1) (by omega) ha0.2.2 ha0.1 k)]) (by omega) dX2_sounding_139 (Nat.le_of_ble_eq_true rfl) (Nat.le_of_ble_eq_true rfl)
          · refine lv_aload_n hx hb dX2_sounding_39 rfl (lv_at hl 0 rfl) ?_
            refine lv_iload_n hx hb dX2_sounding_40 rfl (lv_at hl 1 rfl) ?_
            refine lv_iload hx hb dX2_sounding_41 (lv_at hl 4 rfl) ?_
            refine z_isub hx hb dX2_sounding_43 ?_
            refine z_call (va_runV (As := [.int (zI ((t9) - (a)))]) (rest := []) ⟨hx, hb, hml, hown, hts⟩ (kX2_hitSet l D G ax n m9 sp τ ζ g cs ss hOK ((t9) - (a)) (by omega)) (cwV 1 hts gX2_sounding_X2_hitSet rfl rfl rfl (by decide +kernel) ⟨Nat.le_of_ble_eq_true rfl, Nat.le_of_ble_eq_true rfl⟩) (zPreV (va_recv hK hP (ci := 2) (q0 := 0) rfl rfl) hK hN (hW)) rfl rfl hl.1 rfl (lv_room (Nat.le_of_ble_eq_true rfl)) dX2_sounding_44 ⟨Nat.le_of_ble_eq_true rfl, Nat.le_of_ble_eq_true rfl⟩) ?_
            obtain ⟨h9, hh9⟩ : ∃ h9 : Nat, h9 = xSet (fun j => xHit n m9 τ ζ (j : Int) (t9 - a)) n.toNat := ⟨_, rfl⟩
            have hh8 : h9 < 256 := by rw [hh9]; exact Nat.lt_of_lt_of_le (xSet_b _ _) (show 2 ^ n.toNat ≤ 2 ^ 8 from Nat.pow_le_pow_right (by omega) (by omega))
            refine z_val (y := (h9 : Int)) (by rw [hh9]) ?_
            refine lv_istore (lv' := [(5, .int (zI ((h9 : Int)))), (0, .ref ax), (1, .int (zI (t9))), (2, .int (zI ((v9 : Int)))), (3, .int (zI ((o9 : Int)))), (4, .int (zI (a)))]) hx hb dX2_sounding_47 hl (by decide) rfl (fun ls hl => ?_)
            refine lv_aload_n hx hb dX2_sounding_49 rfl (lv_at hl 1 rfl) ?_
            refine va_get (D := D) (ci := 2) (v := .int (zI (n))) (C := RX2) (T := TX2) (N := 5) hx hb hts hin2 hown hK hP 0 rfl rfl 1 (by decide) (hts (.fieldLink RX2 15 "PolyDrums" "trackCount" "I") (by decide +kernel)) (fun _ h9 => h9) rfl dX2_sounding_50 ?_
            refine lv_iconst (v := zI (1)) hx hb dX2_sounding_53 rfl ?_
            refine z_isub hx hb dX2_sounding_54 ?_
            refine lv_istore (lv' := [(6, .int (zI ((n) - (1)))), (5, .int (zI ((h9 : Int)))), (0, .ref ax), (1, .int (zI (t9))), (2, .int (zI ((v9 : Int)))), (3, .int (zI ((o9 : Int)))), (4, .int (zI (a)))]) hx hb dX2_sounding_55 hl (by decide) rfl (fun ls hl => ?_)
            have loop_57 : ∀ (fu : Nat) (i : Int) (v9 : Nat) (o9 : Nat), (-1 ≤ i ∧ i < n) → (v9 < 256) → (o9 < 256) → (yIO n (fun k b => xHit n m9 τ ζ k (t9 - b)) (fun k => τ k.toNat 4) a i o9) → (yIS n (fun k b => xHit n m9 τ ζ k (t9 - b)) (fun k => τ k.toNat 4) (fun k => τ k.toNat 3) a i v9) → i + 1 < (fu : Int) → ∀ (ls : Array Slot), lv_has ls 8 [(0, .ref ax), (1, .int (zI (t9))), (2, .int (zI ((v9 : Int)))), (3, .int (zI ((o9 : Int)))), (4, .int (zI (a))), (5, .int (zI ((h9 : Int)))), (6, .int (zI (i)))] → W p l e (headSpec wsX2_sounding ({ frames := 7, cells := 1, slots := 6, locals := 150 })).room s m args below meth c s.heap [] 1 6 (vx_MQ below (zQc (some (.int (zI ((xSet (fun j => xSnd n m9 τ ζ t9 (j : Int)) n.toNat : Nat))))) (0 ≤ t9 ∧ t9 ≤ 99999)) (zX (fun E => E = zIA ∧ ¬ (0 ≤ t9 ∧ t9 ≤ 99999))) args s 1 6 (fun _ => False)) (F0 m 57 ls []) := by
              intro fu
              induction fu with
              | zero =>
                intro i v9 o9 hi0 hv8 ho8 hIO hIS hm
                exfalso; omega
              | succ fu ih =>
                intro i v9 o9 hi0 hv8 ho8 hIO hIS hm ls hl
                have ih_57 := ih
                refine lv_iload hx hb dX2_sounding_57 (lv_at hl 6 rfl) ?_
                refine z_if_lt (tgt := 132) hx hb (by omega) dX2_sounding_59 (by decide) (fun c_5 => ?_) (fun c_5 => ?_)
                · refine lv_iinc (v := zI (a + 1)) (lv' := [(4, .int (zI (a + 1))), (0, .ref ax), (1, .int (zI (t9))), (2, .int (zI ((v9 : Int)))), (3, .int (zI ((o9 : Int)))), (5, .int (zI ((h9 : Int)))), (6, .int (zI (i)))]) hx hb dX2_sounding_132 hl (k := 4) rfl (zI_add (a) (1)) (by decide) rfl (fun ls hl => ?_)
                  refine lv_goto (tgt := 21) hx hb dX2_sounding_135 (by decide) ?_
                  exact ih_21 (a + 1) (v9) (o9) (by omega) (by omega) (by omega) (y_out hIO (by omega) ha0.1) (y_outs hIS (by omega) ha0.1) (by omega) _ (lv_sub hl [1, 2, 3, 4, 0] rfl)
                · have htb := hOK.tb (k := i) (by omega)
                  refine lv_aload_n hx hb dX2_sounding_62 rfl (lv_at hl 0 rfl) ?_
                  refine lv_iload hx hb dX2_sounding_63 (lv_at hl 6 rfl) ?_
                  refine z_call (va_runV (As := [.int (zI (i))]) (rest := []) ⟨hx, hb, hml, hown, hts⟩ (kX2_trackOrNull l D G ax n m9 sp τ ζ g cs ss hOK (i) (by omega)) (cwV 1 hts gX2_sounding_X2_trackOrNull rfl rfl rfl (by decide +kernel) ⟨Nat.le_of_ble_eq_true rfl, Nat.le_of_ble_eq_true rfl⟩) (zPreV (va_recv hK hP (ci := 2) (q0 := 0) rfl rfl) hK hN (hW)) rfl rfl hl.1 rfl (lv_room (Nat.le_of_ble_eq_true rfl)) dX2_sounding_65 ⟨Nat.le_of_ble_eq_true rfl, Nat.le_of_ble_eq_true rfl⟩) ?_
                  refine z_top (w := .ref (g 1 ((i)).toNat)) (by rw [xOpt_t (by omega)]; rfl) ?_
                  refine lv_astore (lv' := [(7, .ref (g 1 ((i)).toNat)), (0, .ref ax), (1, .int (zI (t9))), (2, .int (zI ((v9 : Int)))), (3, .int (zI ((o9 : Int)))), (4, .int (zI (a))), (5, .int (zI ((h9 : Int)))), (6, .int (zI (i)))]) hx hb dX2_sounding_68 hl (by decide) rfl (fun ls hl => ?_)
                  refine lv_aload hx hb dX2_sounding_70 (lv_at hl 0 rfl) ?_
                  refine lv_ifnull hx hb dX2_sounding_72 ?_
                  refine lv_iload hx hb dX2_sounding_75 (lv_at hl 6 rfl) ?_
                  refine lv_iload_n hx hb dX2_sounding_77 rfl (lv_at hl 4 rfl) ?_
                  refine lv_iand hx hb dX2_sounding_78 ?_
                  have hho := x_and_le (M := o9) hh8
                  refine z_raw (y := zI ((h9 &&& o9 : Nat) : Int)) (zI_and h9 o9) ?_
                  refine lv_iload hx hb dX2_sounding_79 (lv_at hl 7 rfl) ?_
                  refine z_call (va_runS (As := [.int (zI (((h9 &&& o9 : Nat) : Int))), .int (zI (i))]) (rest := []) ⟨hx, hb, hml, hown, hts⟩ (kX2_isInSet l D G (((h9 &&& o9 : Nat) : Int)) (i) (by omega) (by omega)) (va_cwS 2 hts gX2_sounding_X2_isInSet rfl rfl rfl (by decide +kernel) ⟨Nat.le_of_ble_eq_true rfl, Nat.le_of_ble_eq_true rfl⟩) (zPreS hK hN (trivial)) rfl rfl hl.1 rfl (lv_room (Nat.le_of_ble_eq_true rfl)) dX2_sounding_81 ⟨Nat.le_of_ble_eq_true rfl, Nat.le_of_ble_eq_true rfl⟩) ?_
                  refine z_neB (tgt := 90) hx hb dX2_sounding_84 (by decide) (fun c_6 => ?_) (fun c_6 => ?_)
                  · simp only [xBit, Int.toNat_natCast, Nat.testBit_and, Bool.and_eq_true] at c_6
                    have hbb : xHit n m9 τ ζ i (t9 - a) ∧ o9.testBit i.toNat = true := ⟨by have h8 := c_6.1; rw [hh9, xSet_bit, Int.toNat_of_nonneg (by omega)] at h8; exact h8.2, c_6.2⟩
                    have hoc : ∀ k : Nat, (o9 &&& ((2 ^ i.toNat ||| xSet (fun j => τ i.toNat 4 ≠ 0 ∧ τ j 4 = τ i.toNat 4) n.toNat) ^^^ 4294967295)).testBit k = true ↔ (o9.testBit k = true ∧ ¬ ((k : Int) = i ∨ (τ i.toNat 4 ≠ 0 ∧ τ (k : Int).toNat 4 = τ i.toNat 4))) := x_oclr ho8 (by omega) (fun k hk => by have h8 := (hIO k).mp hk; omega)
                    refine lv_iload hx hb dX2_sounding_90 (lv_at hl 5 rfl) ?_
                    refine lv_aload hx hb dX2_sounding_92 (lv_at hl 0 rfl) ?_
                    refine va_getN (D := D) (ci := 1) (v := .int (zI ((τ ((i)).toNat) 3))) (C := RX1) (T := TX1) (N := 10) hx hb hts hin1 hown hK (hT ((i)).toNat (by omega)).1 0 rfl rfl 3 (by decide) (va_Nw.use rfl (hN.2.1 (81, RX1, "ring", "I") (by decide))) (fun _ h9 => h9) rfl dX2_sounding_94 ?_
                    refine z_icmp_ge (tgt := 107) hx hb (by omega) dX2_sounding_97 (by decide) (fun c_7 => ?_) (fun c_7 => ?_)
                    · refine lv_iload_n hx hb dX2_sounding_107 rfl (lv_at hl 4 rfl) ?_
                      refine lv_iconst (v := zI (1)) hx hb dX2_sounding_108 rfl ?_
                      refine lv_iload hx hb dX2_sounding_109 (lv_at hl 7 rfl) ?_
                      refine lv_ishl hx hb dX2_sounding_111 ?_
                      refine lv_aload_n hx hb dX2_sounding_112 rfl (lv_at hl 1 rfl) ?_
                      refine lv_aload hx hb dX2_sounding_113 (lv_at hl 0 rfl) ?_
                      refine va_getN (D := D) (ci := 1) (v := .int (zI ((τ ((i)).toNat) 4))) (C := RX1) (T := TX1) (N := 10) hx hb hts hin1 hown hK (hT ((i)).toNat (by omega)).1 0 rfl rfl 4 (by decide) (va_Nw.use rfl (hN.2.1 (84, RX1, "group", "I") (by decide))) (fun _ h9 => h9) rfl dX2_sounding_115 ?_
                      refine z_call (va_runV (As := [.int (zI ((τ ((i)).toNat) 4))]) (rest := [.int (zI (1) <<< (zI (i) &&& 31)), .int (zI ((o9 : Int)))]) ⟨hx, hb, hml, hown, hts⟩ (kX2_groupSet l D G ax n m9 sp τ ζ g cs ss hOK ((τ ((i)).toNat) 4) (by omega)) (cwV 1 hts gX2_sounding_X2_groupSet rfl rfl rfl (by decide +kernel) ⟨Nat.le_of_ble_eq_true rfl, Nat.le_of_ble_eq_true rfl⟩) (zPreV (va_recv hK hP (ci := 2) (q0 := 0) rfl rfl) hK hN (hW)) rfl rfl hl.1 rfl (lv_room (Nat.le_of_ble_eq_true rfl)) dX2_sounding_118 ⟨Nat.le_of_ble_eq_true rfl, Nat.le_of_ble_eq_true rfl⟩) ?_
                      refine lv_ior hx hb dX2_sounding_121 ?_
                      refine lv_iconst (v := zI (-1)) hx hb dX2_sounding_122 rfl ?_
                      refine lv_ixor hx hb dX2_sounding_123 ?_
                      refine lv_iand hx hb dX2_sounding_124 ?_
                      refine z_raw (y := zI ((o9 &&& ((2 ^ i.toNat ||| xSet (fun j => τ i.toNat 4 ≠ 0 ∧ τ j 4 = τ i.toNat 4) n.toNat) ^^^ 4294967295) : Nat) : Int)) (by rw [zI_shl (by omega), zI_or, zI_m1, zI_xor, zI_and]) ?_
                      refine lv_istore_n (lv' := [(3, .int (zI (((o9 &&& ((2 ^ i.toNat ||| xSet (fun j => τ i.toNat 4 ≠ 0 ∧ τ j 4 = τ i.toNat 4) n.toNat) ^^^ 4294967295) : Nat) : Int)))), (7, .ref (g 1 ((i)).toNat)), (0, .ref ax), (1, .int (zI (t9))), (2, .int (zI ((v9 : Int)))), (4, .int (zI (a))), (5, .int (zI ((h9 : Int)))), (6, .int (zI (i)))]) hx hb dX2_sounding_125 rfl hl (by decide) rfl (fun ls hl => ?_)
                      refine lv_iinc (v := zI (i - 1)) (lv' := [(6, .int (zI (i - 1))), (3, .int (zI (((o9 &&& ((2 ^ i.toNat ||| xSet (fun j => τ i.toNat 4 ≠ 0 ∧ τ j 4 = τ i.toNat 4) n.toNat) ^^^ 4294967295) : Nat) : Int)))), (7, .ref (g 1 ((i)).toNat)), (0, .ref ax), (1, .int (zI (t9))), (2, .int (zI ((v9 : Int)))), (4, .int (zI (a))), (5, .int (zI ((h9 : Int))))]) hx hb dX2_sounding_126 hl (k := 7) rfl (zI_add (i) (-1)) (by decide) rfl (fun ls hl => ?_)
                      refine lv_goto (tgt := 57) hx hb dX2_sounding_129 (by decide) ?_
                      exact ih_57 (i - 1) (v9) (o9 &&& ((2 ^ i.toNat ||| xSet (fun j => τ i.toNat 4 ≠ 0 ∧ τ j 4 = τ i.toNat 4) n.toNat) ^^^ 4294967295)) (by omega) (by first | exact hv8 | exact x_or_lt hv8 (by omega)) (by first | exact ho8 | exact x_and_le ho8) (y_hit hIO ⟨by omega, hi0.2⟩ hbb.1 hoc) (y_hits hIS hIO ⟨by omega, hi0.2⟩ hbb.1 hbb.2 (fun k => ⟨Or.inl, fun q => q.elim id (fun q => absurd q.2 (show ¬ a < τ i.toNat 3 by omega))⟩)) (by omega) _ (lv_sub hl [3, 4, 5, 1, 6, 7, 0] rfl)
                    · refine lv_iload_n hx hb dX2_sounding_100 rfl (lv_at hl 3 rfl) ?_
                      refine lv_iconst (v := zI (1)) hx hb dX2_sounding_101 rfl ?_
                      refine lv_iload hx hb dX2_sounding_102 (lv_at hl 7 rfl) ?_
                      refine lv_ishl hx hb dX2_sounding_104 ?_
                      refine lv_ior hx hb dX2_sounding_105 ?_
                      refine z_raw (y := zI ((v9 ||| 2 ^ i.toNat : Nat) : Int)) (by rw [zI_shl (by omega), zI_or]) ?_
                      refine lv_istore_n (lv' := [(2, .int (zI (((v9 ||| 2 ^ i.toNat : Nat) : Int)))), (7, .ref (g 1 ((i)).toNat)), (0, .ref ax), (1, .int (zI (t9))), (3, .int (zI ((o9 : Int)))), (4, .int (zI (a))), (5, .int (zI ((h9 : Int)))), (6, .int (zI (i)))]) hx hb dX2_sounding_106 rfl hl (by decide) rfl (fun ls hl => ?_)
                      refine lv_iload_n hx hb dX2_sounding_107 rfl (lv_at hl 4 rfl) ?_
                      refine lv_iconst (v := zI (1)) hx hb dX2_sounding_108 rfl ?_
                      refine lv_iload hx hb dX2_sounding_109 (lv_at hl 7 rfl) ?_
                      refine lv_ishl hx hb dX2_sounding_111 ?_
                      refine lv_aload_n hx hb dX2_sounding_112 rfl (lv_at hl 2 rfl) ?_
                      refine lv_aload hx hb dX2_sounding_113 (lv_at hl 1 rfl) ?_
                      refine va_getN (D := D) (ci := 1) (v := .int (zI ((τ ((i)).toNat) 4))) (C := RX1) (T := TX1) (N := 10) hx hb hts hin1 hown hK (hT ((i)).toNat (by omega)).1 0 rfl rfl 4 (by decide) (va_Nw.use rfl (hN.2.1 (84, RX1, "group", "I") (by decide))) (fun _ h9 => h9) rfl dX2_sounding_115 ?_
                      refine z_call (va_runV (As := [.int (zI ((τ ((i)).toNat) 4))]) (rest := [.int (zI (1) <<< (zI (i) &&& 31)), .int (zI ((o9 : Int)))]) ⟨hx, hb, hml, hown, hts⟩ (kX2_groupSet l D G ax n m9 sp τ ζ g cs ss hOK ((τ ((i)).toNat) 4) (by omega)) (cwV 1 hts gX2_sounding_X2_groupSet rfl rfl rfl (by decide +kernel) ⟨Nat.le_of_ble_eq_true rfl, Nat.le_of_ble_eq_true rfl⟩) (zPreV (va_recv hK hP (ci := 2) (q0 := 0) rfl rfl) hK hN (hW)) rfl rfl hl.1 rfl (lv_room (Nat.le_of_ble_eq_true rfl)) dX2_sounding_118 ⟨Nat.le_of_ble_eq_true rfl, Nat.le_of_ble_eq_true rfl⟩) ?_
                      refine lv_ior hx hb dX2_sounding_121 ?_
                      refine lv_iconst (v := zI (-1)) hx hb dX2_sounding_122 rfl ?_
                      refine lv_ixor hx hb dX2_sounding_123 ?_
                      refine lv_iand hx hb dX2_sounding_124 ?_
                      refine z_raw (y := zI ((o9 &&& ((2 ^ i.toNat ||| xSet (fun j => τ i.toNat 4 ≠ 0 ∧ τ j 4 = τ i.toNat 4) n.toNat) ^^^ 4294967295) : Nat) : Int)) (by rw [zI_shl (by omega), zI_or, zI_m1, zI_xor, zI_and]) ?_
                      refine lv_istore_n (lv' := [(3, .int (zI (((o9 &&& ((2 ^ i.toNat ||| xSet (fun j => τ i.toNat 4 ≠ 0 ∧ τ j 4 = τ i.toNat 4) n.toNat) ^^^ 4294967295) : Nat) : Int)))), (2, .int (zI (((v9 ||| 2 ^ i.toNat : Nat) : Int)))), (7, .ref (g 1 ((i)).toNat)), (0, .ref ax), (1, .int (zI (t9))), (4, .int (zI (a))), (5, .int (zI ((h9 : Int)))), (6, .int (zI (i)))]) hx hb dX2_sounding_125 rfl hl (by decide) rfl (fun ls hl => ?_)
                      refine lv_iinc (v := zI (i - 1)) (lv' := [(6, .int (zI (i - 1))), (3, .int (zI (((o9 &&& ((2 ^ i.toNat ||| xSet (fun j => τ i.toNat 4 ≠ 0 ∧ τ j 4 = τ i.toNat 4) n.toNat) ^^^ 4294967295) : Nat) : Int)))), (2, .int (zI (((v9 ||| 2 ^ i.toNat : Nat) : Int)))), (7, .ref (g 1 ((i)).toNat)), (0, .ref ax), (1, .int (zI (t9))), (4, .int (zI (a))), (5, .int (zI ((h9 : Int))))]) hx hb dX2_sounding_126 hl (k := 7) rfl (zI_add (i) (-1)) (by decide) rfl (fun ls hl => ?_)
                      refine lv_goto (tgt := 57) hx hb dX2_sounding_129 (by decide) ?_
                      exact ih_57 (i - 1) (v9 ||| 2 ^ i.toNat) (o9 &&& ((2 ^ i.toNat ||| xSet (fun j => τ i.toNat 4 ≠ 0 ∧ τ j 4 = τ i.toNat 4) n.toNat) ^^^ 4294967295)) (by omega) (by first | exact hv8 | exact x_or_lt hv8 (by omega)) (by first | exact ho8 | exact x_and_le ho8) (y_hit hIO ⟨by omega, hi0.2⟩ hbb.1 hoc) (y_hits hIS hIO ⟨by omega, hi0.2⟩ hbb.1 hbb.2 (fun k => by rw [x_orBit]; exact ⟨fun q => q.elim Or.inl (fun q => Or.inr ⟨by omega, show a < τ i.toNat 3 by omega⟩), fun q => q.elim Or.inl (fun q => Or.inr (by have := q.1; omega))⟩)) (by omega) _ (lv_sub hl [4, 5, 2, 1, 6, 7, 0] rfl)
                  · simp only [xBit, Int.toNat_natCast, Nat.testBit_and, Bool.and_eq_true] at c_6
                    have hbb : ¬ (xHit n m9 τ ζ i (t9 - a) ∧ o9.testBit i.toNat = true) := fun q => c_6 ⟨(by rw [hh9, xSet_bit]; exact ⟨by omega, by rw [Int.toNat_of_nonneg (by omega)]; exact q.1⟩), q.2⟩
                    refine lv_goto (tgt := 126) hx hb dX2_sounding_87 (by decide) ?_
                    refine lv_iinc (v := zI (i - 1)) (lv' := [(6, .int (zI (i - 1))), (7, .ref (g 1 ((i)).toNat)), (0, .ref ax), (1, .int (zI (t9))), (2, .int (zI ((v9 : Int)))), (3, .int (zI ((o9 : Int)))), (4, .int (zI (a))), (5, .int (zI ((h9 : Int))))]) hx hb dX2_sounding_126 hl (k := 7) rfl (zI_add (i) (-1)) (by decide) rfl (fun ls hl => ?_)
                    refine lv_goto (tgt := 57) hx hb dX2_sounding_129 (by decide) ?_
                    exact ih_57 (i - 1) (v9) (o9) (by omega) (by first | exact hv8 | exact x_or_lt hv8 (by omega)) (by first | exact ho8 | exact x_and_le ho8) (y_skip hIO ⟨by omega, hi0.2⟩ hbb) (y_skips hIS hIO ⟨by omega, hi0.2⟩ hbb) (by omega) _ (lv_sub hl [2, 3, 4, 5, 6, 7, 0] rfl)
            exact loop_57 (10) ((n) - (1)) (v9) (o9) (by omega) (by omega) (by omega) (y_in0 hJO) (y_in0s hJS) (by omega) ls (lv_sub hl [2, 3, 4, 5, 6, 1, 0] rfl)
  exact loop_21 (201) (0) (0) (2 ^ n.toNat - 1) (by omega) (by omega) (by omega) (fun k => by rw [Nat.testBit_two_pow_sub_one, decide_eq_true_eq]; exact ⟨fun q => ⟨by omega, fun b h1 h2 => by omega⟩, fun q => by omega⟩) (fun k => by rw [Nat.zero_testBit]; exact ⟨fun q => (Bool.noConfusion q), fun ⟨_, b, h1, h2, _⟩ => by omega⟩) (by omega) ls (lv_sub hl [3, 4, 2, 1, 0] rfl)
