set_option maxHeartbeats 4000000 in
set_option maxRecDepth 100000 in
theorem kX3_isIn (l : Launch) (D : va_G) (G : Nat → ClassId) (x lo hi : Int) (hx : -2147483648 ≤ x ∧ x ≤ 2147483647) (hlo : -2147483648 ≤ lo ∧ lo ≤ 2147483647) (hhi : -2147483648 ≤ hi ∧ hi ≤ 2147483647) : Met l yX3_isIn wsX3_isIn ({ frames := 0, cells := 0, slots := 0, locals := 0 }) (zP [.int (zI (x)), .int (zI (lo)), .int (zI (hi))] D G (fun H => True)) (zQ (some (.int (zB (lo ≤ x ∧ x ≤ hi))))) 0 0 (fun _ => False) := by
  refine Met.ofW (cc := cX3_isIn) (maxL := 3) (ret := (some .boolean)) (by decide) rfl ?_
  intro p e s m args below meth c s₁ B hml hv
  obtain ⟨hav, hP, hK, hN⟩ := hv
  have hx := B.exec
  have hb := B.bytes
  have hr := B.returns
  have hts := atoms_spec (ws := wsX3_isIn) B.pre
  have hown : s.vm.findClass RX3 = some m.cls := findClass_of_methodNamed B.named
  have hlocks : meth.locks = false := B.notSynchronized
  refine z_entry hav (Nat.le_of_ble_eq_true rfl) rfl (fun ls hl => ?_)
  have hl : lv_has ls 3 [(0, .int (zI (x))), (1, .int (zI (lo))), (2, .int (zI (hi)))] := hl
  refine lv_iload_n hx hb dX3_isIn_0 rfl (lv_at hl 0 rfl) ?_
  refine lv_iload_n hx hb dX3_isIn_1 rfl (lv_at hl 1 rfl) ?_
  refine z_icmp_lt (tgt := 14) hx hb (by omega) dX3_isIn_2 (by decide) (fun c_1 => ?_) (fun c_1 => ?_)
  · refine lv_iconst (v := zI (0)) hx hb dX3_isIn_14 rfl ?_
    exact z_zretF hx hb hr hlocks (by omega) dX3_isIn_15
  · refine lv_iload_n hx hb dX3_isIn_5 rfl (lv_at hl 0 rfl) ?_
    refine lv_iload_n hx hb dX3_isIn_6 rfl (lv_at hl 2 rfl) ?_
    refine z_icmp_gt (tgt := 14) hx hb (by omega) dX3_isIn_7 (by decide) (fun c_2 => ?_) (fun c_2 => ?_)
    · refine lv_iconst (v := zI (0)) hx hb dX3_isIn_14 rfl ?_
      exact z_zretF hx hb hr hlocks (by omega) dX3_isIn_15
    · refine lv_iconst (v := zI (1)) hx hb dX3_isIn_10 rfl ?_
      refine lv_goto (tgt := 15) hx hb dX3_isIn_11 (by decide) ?_
      exact z_zretT hx hb hr hlocks (by omega) dX3_isIn_15

set_option maxHeartbeats 4000000 in
set_option maxRecDepth 100000 in
theorem kX3_isTick (l : Launch) (D : va_G) (G : Nat → ClassId) (x : Int) (hx : -2147483648 ≤ x ∧ x ≤ 2147483647) : Met l yX3_isTick wsX3_isTick ({ frames := 1, cells := 0, slots := 0, locals := 22 }) (zP [.int (zI (x))] D G (fun H => True)) (zQ (some (.int (zB (0 ≤ x ∧ x ≤ 99999))))) 0 0 (fun _ => False) := by
  refine Met.ofW (cc := cX3_isTick) (maxL := 1) (ret := (some .boolean)) (by decide) rfl ?_
  intro p e s m args below meth c s₁ B hml hv
  obtain ⟨hav, hP, hK, hN⟩ := hv
  have hx := B.exec
  have hb := B.bytes
  have hr := B.returns
  have hts := atoms_spec (ws := wsX3_isTick) B.pre
  have hown : s.vm.findClass RX3 = some m.cls := findClass_of_methodNamed B.named
  have hlocks : meth.locks = false := B.notSynchronized
  refine z_entry hav (Nat.le_of_ble_eq_true rfl) rfl (fun ls hl => ?_)
  have hl : lv_has ls 1 [(0, .int (zI (x)))] := hl
  refine lv_iload_n hx hb dX3_isTick_0 rfl (lv_at hl 0 rfl) ?_
  refine lv_iconst (v := zI (0)) hx hb dX3_isTick_1 rfl ?_
  refine lv_ldc (v := 99999) hx hb hown (hts (.constant RX3 59 (99999)) (by decide +kernel)) dX3_isTick_2 ?_
  refine z_raw (y := zI 99999) (by decide) ?_
  refine z_call (va_runS (As := [.int (zI (x)), .int (zI (0)), .int (zI (99999))]) (rest := []) ⟨hx, hb, hml, hown, hts⟩ (kX3_isIn l D G (x) (0) (99999) (by omega) (by omega) (by omega)) (va_cwS 3 hts gX3_isTick_X3_isIn rfl rfl rfl (by decide +kernel) ⟨Nat.le_of_ble_eq_true rfl, Nat.le_of_ble_eq_true rfl⟩) (zPreS hK hN (trivial)) rfl rfl hl.1 rfl (lv_room (Nat.le_of_ble_eq_true rfl)) dX3_isTick_4 ⟨Nat.le_of_ble_eq_true rfl, Nat.le_of_ble_eq_true rfl⟩) ?_
  exact z_zret hx hb hr hlocks (Iff.rfl) dX3_isTick_7

set_option maxHeartbeats 4000000 in
set_option maxRecDepth 100000 in
theorem kX3_isSpan (l : Launch) (D : va_G) (G : Nat → ClassId) (x y : Int) (hx : -2147483648 ≤ x ∧ x ≤ 2147483647) (hy : -2147483648 ≤ y ∧ y ≤ 2147483647) : Met l yX3_isSpan wsX3_isSpan ({ frames := 2, cells := 0, slots := 0, locals := 42 }) (zP [.int (zI (x)), .int (zI (y))] D G (fun H => True)) (zQ (some (.int (zB ((0 ≤ x ∧ x ≤ 99999) ∧ (0 ≤ y ∧ y ≤ 99999) ∧ x ≤ y ∧ y - x ≤ 3000))))) 0 0 (fun _ => False) := by
  refine Met.ofW (cc := cX3_isSpan) (maxL := 2) (ret := (some .boolean)) (by decide) rfl ?_
  intro p e s m args below meth c s₁ B hml hv
  obtain ⟨hav, hP, hK, hN⟩ := hv
  have hx := B.exec
  have hb := B.bytes
  have hr := B.returns
  have hts := atoms_spec (ws := wsX3_isSpan) B.pre
  have hown : s.vm.findClass RX3 = some m.cls := findClass_of_methodNamed B.named
  have hlocks : meth.locks = false := B.notSynchronized
  refine z_entry hav (Nat.le_of_ble_eq_true rfl) rfl (fun ls hl => ?_)
  have hl : lv_has ls 2 [(0, .int (zI (x))), (1, .int (zI (y)))] := hl
  refine lv_iload_n hx hb dX3_isSpan_0 rfl (lv_at hl 0 rfl) ?_
  refine z_call (va_runS (As := [.int (zI (x))]) (rest := []) ⟨hx, hb, hml, hown, hts⟩ (kX3_isTick l D G (x) (by omega)) (va_cwS 1 hts gX3_isSpan_X3_isTick rfl rfl rfl (by decide +kernel) ⟨Nat.le_of_ble_eq_true rfl, Nat.le_of_ble_eq_true rfl⟩) (zPreS hK hN (trivial)) rfl rfl hl.1 rfl (lv_room (Nat.le_of_ble_eq_true rfl)) dX3_isSpan_1 ⟨Nat.le_of_ble_eq_true rfl, Nat.le_of_ble_eq_true rfl⟩) ?_
  refine z_eqB (tgt := 31) hx hb dX3_isSpan_4 (by decide) (fun c_1 => ?_) (fun c_1 => ?_)
  · refine lv_iconst (v := zI (0)) hx hb dX3_isSpan_31 rfl ?_
    exact z_zretF hx hb hr hlocks (by omega) dX3_isSpan_32
  · refine lv_iload_n hx hb dX3_isSpan_7 rfl (lv_at hl 1 rfl) ?_
    refine z_call (va_runS (As := [.int (zI (y))]) (rest := []) ⟨hx, hb, hml, hown, hts⟩ (kX3_isTick l D G (y) (by omega)) (va_cwS 1 hts gX3_isSpan_X3_isTick rfl rfl rfl (by decide +kernel) ⟨Nat.le_of_ble_eq_true rfl, Nat.le_of_ble_eq_true rfl⟩) (zPreS hK hN (trivial)) rfl rfl hl.1 rfl (lv_room (Nat.le_of_ble_eq_true rfl)) dX3_isSpan_8 ⟨Nat.le_of_ble_eq_true rfl, Nat.le_of_ble_eq_true rfl⟩) ?_
    refine z_eqB (tgt := 31) hx hb dX3_isSpan_11 (by decide) (fun c_2 => ?_) (fun c_2 => ?_)
    · refine lv_iconst (v := zI (0)) hx hb dX3_isSpan_31 rfl ?_
      exact z_zretF hx hb hr hlocks (by omega) dX3_isSpan_32
    · refine lv_iload_n hx hb dX3_isSpan_14 rfl (lv_at hl 1 rfl) ?_
      refine lv_iload_n hx hb dX3_isSpan_15 rfl (lv_at hl 0 rfl) ?_
      refine z_isub hx hb dX3_isSpan_16 ?_
      refine lv_iconst (v := zI (0)) hx hb dX3_isSpan_17 rfl ?_
      refine lv_sipush (v := zI (3000)) hx hb dX3_isSpan_18 (by decide) ?_
      refine z_call (va_runS (As := [.int (zI ((y) - (x))), .int (zI (0)), .int (zI (3000))]) (rest := []) ⟨hx, hb, hml, hown, hts⟩ (kX3_isIn l D G ((y) - (x)) (0) (3000) (by omega) (by omega) (by omega)) (va_cwS 3 hts gX3_isSpan_X3_isIn rfl rfl rfl (by decide +kernel) ⟨Nat.le_of_ble_eq_true rfl, Nat.le_of_ble_eq_true rfl⟩) (zPreS hK hN (trivial)) rfl rfl hl.1 rfl (lv_room (Nat.le_of_ble_eq_true rfl)) dX3_isSpan_21 ⟨Nat.le_of_ble_eq_true rfl, Nat.le_of_ble_eq_true rfl⟩) ?_
      refine z_eqB (tgt := 31) hx hb dX3_isSpan_24 (by decide) (fun c_3 => ?_) (fun c_3 => ?_)
      · refine lv_iconst (v := zI (0)) hx hb dX3_isSpan_31 rfl ?_
        exact z_zretF hx hb hr hlocks (by omega) dX3_isSpan_32
      · refine lv_iconst (v := zI (1)) hx hb dX3_isSpan_27 rfl ?_
        refine lv_goto (tgt := 32) hx hb dX3_isSpan_28 (by decide) ?_
        exact z_zretT hx hb hr hlocks (by omega) dX3_isSpan_32

set_option maxHeartbeats 4000000 in
set_option maxRecDepth 100000 in
theorem kX3_at (l : Launch) (D : va_G) (G : Nat → ClassId) (a b : Int)  : Met l yX3_at wsX3_at ({ frames := 0, cells := 0, slots := 0, locals := 0 }) (zP [.int (zI (a)), .int (zI (b))] D G (fun H => True)) (zQ (some (.int (zI (4 * (32 * a + b)))))) 0 0 (fun _ => False) := by
  refine Met.ofW (cc := cX3_at) (maxL := 2) (ret := (some .int)) (by decide) rfl ?_
  intro p e s m args below meth c s₁ B hml hv
  obtain ⟨hav, hP, hK, hN⟩ := hv
  have hx := B.exec
  have hb := B.bytes
  have hr := B.returns
  have hts := atoms_spec (ws := wsX3_at) B.pre
  have hown : s.vm.findClass RX3 = some m.cls := findClass_of_methodNamed B.named
  have hlocks : meth.locks = false := B.notSynchronized
  refine z_entry hav (Nat.le_of_ble_eq_true rfl) rfl (fun ls hl => ?_)
  have hl : lv_has ls 2 [(0, .int (zI (a))), (1, .int (zI (b)))] := hl
  refine lv_iconst (v := zI (4)) hx hb dX3_at_0 rfl ?_
  refine lv_bipush (v := zI (32)) hx hb dX3_at_1 (by decide) ?_
  refine lv_iload_n hx hb dX3_at_3 rfl (lv_at hl 0 rfl) ?_
  refine z_imul hx hb dX3_at_4 ?_
  refine lv_iload_n hx hb dX3_at_5 rfl (lv_at hl 1 rfl) ?_
  refine z_iadd hx hb dX3_at_6 ?_
  refine z_imul hx hb dX3_at_7 ?_
  exact z_iret hx hb hr hlocks (by first | rfl | omega) dX3_at_8

set_option maxHeartbeats 4000000 in
set_option maxRecDepth 100000 in
theorem kX3_isTrack (l : Launch) (D : va_G) (G : Nat → ClassId) (am : Nat) (th n m9 sp : Int) (τ ζ : Nat → Nat → Int) (h : Nat → Nat) (M : Nat → Nat → Int32) (hOK : XOK n m9 sp τ ζ) (hM : MR n m9 τ ζ M) (k : Int) (hr0 : -2147483648 ≤ k ∧ k ≤ 2147483647) : Met l yX3_isTrack wsX3_isTrack ({ frames := 1, cells := 0, slots := 0, locals := 22 }) (zP [.ref am, .int (zI (k))] D G (fun H => va_P D vwCl [(am, .inr (3, [.int (zI (th)), .int (zI (n)), .ref (h 0), .ref (h 1), .ref (h 2), .ref (h 3), .ref (h 4), .ref (h 5), .ref (h 6), .int (zI (m9)), .ref (h 7), .ref (h 8), .ref (h 9), .int (zI (sp))])), ((h 0), .inl (G 0, 8, .inl (M 0))), ((h 1), .inl (G 0, 8, .inl (M 1))), ((h 2), .inl (G 0, 8, .inl (M 2))), ((h 3), .inl (G 0, 8, .inl (M 3))), ((h 4), .inl (G 0, 8, .inl (M 4))), ((h 5), .inl (G 1, 24, .inl (M 5))), ((h 6), .inl (G 0, 1024, .inl (M 6))), ((h 7), .inl (G 0, 13, .inl (M 7))), ((h 8), .inl (G 0, 12, .inl (M 8))), ((h 9), .inl (G 1, 12, .inl (M 9)))] H)) (zQ (some (.int (zB (0 ≤ k ∧ k < n))))) 0 0 (fun _ => False) := by
  refine Met.ofW (cc := cX3_isTrack) (maxL := 2) (ret := (some .boolean)) (by decide) rfl ?_
  intro p e s m args below meth c s₁ B hml hv
  obtain ⟨hav, hP, hK, hN⟩ := hv
  have hx := B.exec
  have hb := B.bytes
  have hr := B.returns
  have hts := atoms_spec (ws := wsX3_isTrack) B.pre
  have hown : s.vm.findClass RX3 = some m.cls := findClass_of_methodNamed B.named
  have hlocks : meth.locks = false := B.notSynchronized
  have hin3 : ∀ w ∈ u_ws RX3 TX3 14, w ∈ wsX3_isTrack := by decide +kernel
  have hB := id hOK
  obtain ⟨hn0, hn8, hm0, hm12, hsp0, hsp1, -⟩ := hB
  refine z_entry hav (Nat.le_of_ble_eq_true rfl) rfl (fun ls hl => ?_)
  have hl : lv_has ls 2 [(0, .ref am), (1, .int (zI (k)))] := hl
  refine lv_iload_n hx hb dX3_isTrack_0 rfl (lv_at hl 1 rfl) ?_
  refine lv_iconst (v := zI (0)) hx hb dX3_isTrack_1 rfl ?_
  refine lv_aload_n hx hb dX3_isTrack_2 rfl (lv_at hl 0 rfl) ?_
  refine va_get (D := D) (ci := 3) (v := .int (zI (n))) (C := RX3) (T := TX3) (N := 14) hx hb hts hin3 hown hK hP 0 rfl rfl 1 (by decide) (hts (.fieldLink RX3 48 "PolyDrumsModel" "tracks" "I") (by decide +kernel)) (fun _ h9 => h9) rfl dX3_isTrack_3 ?_
  refine lv_iconst (v := zI (1)) hx hb dX3_isTrack_6 rfl ?_
  refine z_isub hx hb dX3_isTrack_7 ?_
  refine z_call (va_runS (As := [.int (zI (k)), .int (zI (0)), .int (zI ((n) - (1)))]) (rest := []) ⟨hx, hb, hml, hown, hts⟩ (kX3_isIn l D G (k) (0) ((n) - (1)) (by omega) (by omega) (by omega)) (va_cwS 3 hts gX3_isTrack_X3_isIn rfl rfl rfl (by decide +kernel) ⟨Nat.le_of_ble_eq_true rfl, Nat.le_of_ble_eq_true rfl⟩) (zPreS hK hN (trivial)) rfl rfl hl.1 rfl (lv_room (Nat.le_of_ble_eq_true rfl)) dX3_isTrack_8 ⟨Nat.le_of_ble_eq_true rfl, Nat.le_of_ble_eq_true rfl⟩) ?_
  exact z_zret hx hb hr hlocks (⟨fun q => by omega, fun q => by omega⟩) dX3_isTrack_11

set_option maxHeartbeats 4000000 in
set_option maxRecDepth 100000 in
theorem kX3_isStep (l : Launch) (D : va_G) (G : Nat → ClassId) (am : Nat) (th n m9 sp : Int) (τ ζ : Nat → Nat → Int) (h : Nat → Nat) (M : Nat → Nat → Int32) (hOK : XOK n m9 sp τ ζ) (hM : MR n m9 τ ζ M) (k s9 : Int) (hr0 : -2147483648 ≤ k ∧ k ≤ 2147483647) (hr1 : -2147483648 ≤ s9 ∧ s9 ≤ 2147483647) : Met l yX3_isStep wsX3_isStep ({ frames := 2, cells := 0, slots := 0, locals := 43 }) (zP [.ref am, .int (zI (k)), .int (zI (s9))] D G (fun H => va_P D vwCl [(am, .inr (3, [.int (zI (th)), .int (zI (n)), .ref (h 0), .ref (h 1), .ref (h 2), .ref (h 3), .ref (h 4), .ref (h 5), .ref (h 6), .int (zI (m9)), .ref (h 7), .ref (h 8), .ref (h 9), .int (zI (sp))])), ((h 0), .inl (G 0, 8, .inl (M 0))), ((h 1), .inl (G 0, 8, .inl (M 1))), ((h 2), .inl (G 0, 8, .inl (M 2))), ((h 3), .inl (G 0, 8, .inl (M 3))), ((h 4), .inl (G 0, 8, .inl (M 4))), ((h 5), .inl (G 1, 24, .inl (M 5))), ((h 6), .inl (G 0, 1024, .inl (M 6))), ((h 7), .inl (G 0, 13, .inl (M 7))), ((h 8), .inl (G 0, 12, .inl (M 8))), ((h 9), .inl (G 1, 12, .inl (M 9)))] H)) (zQ (some (.int (zB (0 ≤ k ∧ k < n ∧ 0 ≤ s9 ∧ s9 < τ k.toNat 0))))) 0 0 (fun _ => False) := by
  refine Met.ofW (cc := cX3_isStep) (maxL := 3) (ret := (some .boolean)) (by decide) rfl ?_
  intro p e s m args below meth c s₁ B hml hv
  obtain ⟨hav, hP, hK, hN⟩ := hv
  have hx := B.exec
  have hb := B.bytes
  have hr := B.returns
  have hts := atoms_spec (ws := wsX3_isStep) B.pre
  have hown : s.vm.findClass RX3 = some m.cls := findClass_of_methodNamed B.named
  have hlocks : meth.locks = false := B.notSynchronized
  have hin3 : ∀ w ∈ u_ws RX3 TX3 14, w ∈ wsX3_isStep := by decide +kernel
  have hB := id hOK
  obtain ⟨hn0, hn8, hm0, hm12, hsp0, hsp1, -⟩ := hB
  refine z_entry hav (Nat.le_of_ble_eq_true rfl) rfl (fun ls hl => ?_)
  have hl : lv_has ls 3 [(0, .ref am), (1, .int (zI (k))), (2, .int (zI (s9)))] := hl
  refine lv_aload_n hx hb dX3_isStep_0 rfl (lv_at hl 0 rfl) ?_
  refine lv_iload_n hx hb dX3_isStep_1 rfl (lv_at hl 1 rfl) ?_
  refine z_call (va_runV (As := [.int (zI (k))]) (rest := []) ⟨hx, hb, hml, hown, hts⟩ (kX3_isTrack l D G am (th) n m9 sp τ ζ h M hOK hM (k) (by omega)) (cwV 1 hts gX3_isStep_X3_isTrack rfl rfl rfl (by decide +kernel) ⟨Nat.le_of_ble_eq_true rfl, Nat.le_of_ble_eq_true rfl⟩) (zPreV (va_recv hK hP (ci := 3) (q0 := 0) rfl rfl) hK hN (hP)) rfl rfl hl.1 rfl (lv_room (Nat.le_of_ble_eq_true rfl)) dX3_isStep_2 ⟨Nat.le_of_ble_eq_true rfl, Nat.le_of_ble_eq_true rfl⟩) ?_
  refine z_eqB (tgt := 28) hx hb dX3_isStep_5 (by decide) (fun c_1 => ?_) (fun c_1 => ?_)
  · refine lv_iconst (v := zI (0)) hx hb dX3_isStep_28 rfl ?_
    exact z_zretF hx hb hr hlocks (by omega) dX3_isStep_29
  · have htb := hOK.tb (k := k) (by omega)
    refine lv_iload_n hx hb dX3_isStep_8 rfl (lv_at hl 2 rfl) ?_
    refine lv_iconst (v := zI (0)) hx hb dX3_isStep_9 rfl ?_
    refine lv_aload_n hx hb dX3_isStep_10 rfl (lv_at hl 0 rfl) ?_
    refine va_get (D := D) (ci := 3) (v := .ref (h 0)) (C := RX3) (T := TX3) (N := 14) hx hb hts hin3 hown hK hP 0 rfl rfl 2 (by decide) (hts (.fieldLink RX3 9 "PolyDrumsModel" "counts" "[I") (by decide +kernel)) (fun _ h9 => h9) rfl dX3_isStep_11 ?_
    refine lv_iload_n hx hb dX3_isStep_14 rfl (lv_at hl 1 rfl) ?_
    refine z_iald (x := zI (τ (k).toNat 0)) (D := D) hx hb hK hP 1 0 rfl rfl (by omega) (by omega) (hM.a (k := k) (by omega) 0 (by omega)) dX3_isStep_15 ?_
    refine lv_iconst (v := zI (1)) hx hb dX3_isStep_16 rfl ?_
    refine z_isub hx hb dX3_isStep_17 ?_
    refine z_call (va_runS (As := [.int (zI (s9)), .int (zI (0)), .int (zI ((τ (k).toNat 0) - (1)))]) (rest := []) ⟨hx, hb, hml, hown, hts⟩ (kX3_isIn l D G (s9) (0) ((τ (k).toNat 0) - (1)) (by omega) (by omega) (by omega)) (va_cwS 3 hts gX3_isStep_X3_isIn rfl rfl rfl (by decide +kernel) ⟨Nat.le_of_ble_eq_true rfl, Nat.le_of_ble_eq_true rfl⟩) (zPreS hK hN (trivial)) rfl rfl hl.1 rfl (lv_room (Nat.le_of_ble_eq_true rfl)) dX3_isStep_18 ⟨Nat.le_of_ble_eq_true rfl, Nat.le_of_ble_eq_true rfl⟩) ?_
    refine z_eqB (tgt := 28) hx hb dX3_isStep_21 (by decide) (fun c_2 => ?_) (fun c_2 => ?_)
    · refine lv_iconst (v := zI (0)) hx hb dX3_isStep_28 rfl ?_
      exact z_zretF hx hb hr hlocks (by omega) dX3_isStep_29
    · refine lv_iconst (v := zI (1)) hx hb dX3_isStep_24 rfl ?_
      refine lv_goto (tgt := 29) hx hb dX3_isStep_25 (by decide) ?_
      exact z_zretT hx hb hr hlocks (by omega) dX3_isStep_29

set_option maxHeartbeats 4000000 in
set_option maxRecDepth 100000 in
theorem kX3_delay (l : Launch) (D : va_G) (G : Nat → ClassId) (am : Nat) (th n m9 sp : Int) (τ ζ : Nat → Nat → Int) (h : Nat → Nat) (M : Nat → Nat → Int32) (hOK : XOK n m9 sp τ ζ) (hM : MR n m9 τ ζ M) (k s9 : Int) (hk : 0 ≤ k ∧ k < n) (hs : 0 ≤ s9 ∧ s9 ≤ 1000) : Met l yX3_delay wsX3_delay ({ frames := 0, cells := 0, slots := 0, locals := 0 }) (zP [.ref am, .int (zI (k)), .int (zI (s9))] D G (fun H => va_P D vwCl [(am, .inr (3, [.int (zI (th)), .int (zI (n)), .ref (h 0), .ref (h 1), .ref (h 2), .ref (h 3), .ref (h 4), .ref (h 5), .ref (h 6), .int (zI (m9)), .ref (h 7), .ref (h 8), .ref (h 9), .int (zI (sp))])), ((h 0), .inl (G 0, 8, .inl (M 0))), ((h 1), .inl (G 0, 8, .inl (M 1))), ((h 2), .inl (G 0, 8, .inl (M 2))), ((h 3), .inl (G 0, 8, .inl (M 3))), ((h 4), .inl (G 0, 8, .inl (M 4))), ((h 5), .inl (G 1, 24, .inl (M 5))), ((h 6), .inl (G 0, 1024, .inl (M 6))), ((h 7), .inl (G 0, 13, .inl (M 7))), ((h 8), .inl (G 0, 12, .inl (M 8))), ((h 9), .inl (G 1, 12, .inl (M 9)))] H)) (zQ (some (.int (zI (xDelay (τ k.toNat) s9))))) 0 0 (fun _ => False) := by
  refine Met.ofW (cc := cX3_delay) (maxL := 3) (ret := (some .int)) (by decide) rfl ?_
  intro p e s m args below meth c s₁ B hml hv
  obtain ⟨hav, hP, hK, hN⟩ := hv
  have hx := B.exec
  have hb := B.bytes
  have hr := B.returns
  have hts := atoms_spec (ws := wsX3_delay) B.pre
  have hown : s.vm.findClass RX3 = some m.cls := findClass_of_methodNamed B.named
  have hlocks : meth.locks = false := B.notSynchronized
  have hin3 : ∀ w ∈ u_ws RX3 TX3 14, w ∈ wsX3_delay := by decide +kernel
  have hB := id hOK
  obtain ⟨hn0, hn8, hm0, hm12, hsp0, hsp1, -⟩ := hB
  refine z_entry hav (Nat.le_of_ble_eq_true rfl) rfl (fun ls hl => ?_)
  have hl : lv_has ls 3 [(0, .ref am), (1, .int (zI (k))), (2, .int (zI (s9)))] := hl
  refine lv_iload_n hx hb dX3_delay_0 rfl (lv_at hl 2 rfl) ?_
  refine lv_iconst (v := zI (2)) hx hb dX3_delay_1 rfl ?_
  refine z_irem hx hb (by omega) dX3_delay_2 ?_
  refine lv_iconst (v := zI (1)) hx hb dX3_delay_3 rfl ?_
  refine z_icmp_ne (tgt := 16) hx hb (by omega) dX3_delay_4 (by decide) (fun c_1 => ?_) (fun c_1 => ?_)
  · refine lv_iconst (v := zI (0)) hx hb dX3_delay_16 rfl ?_
    exact z_iret hx hb hr hlocks (by unfold xDelay; rw [if_neg (by omega)]) dX3_delay_17
  · refine lv_aload_n hx hb dX3_delay_7 rfl (lv_at hl 0 rfl) ?_
    refine va_get (D := D) (ci := 3) (v := .ref (h 2)) (C := RX3) (T := TX3) (N := 14) hx hb hts hin3 hown hK hP 0 rfl rfl 4 (by decide) (hts (.fieldLink RX3 16 "PolyDrumsModel" "swings" "[I") (by decide +kernel)) (fun _ h9 => h9) rfl dX3_delay_8 ?_
    refine lv_iload_n hx hb dX3_delay_11 rfl (lv_at hl 1 rfl) ?_
    refine z_iald (x := zI (τ (k).toNat 2)) (D := D) hx hb hK hP 3 0 rfl rfl (by omega) (by omega) (hM.a (k := k) (by omega) 2 (by omega)) dX3_delay_12 ?_
    refine lv_goto (tgt := 17) hx hb dX3_delay_13 (by decide) ?_
    exact z_iret hx hb hr hlocks (by unfold xDelay; rw [if_pos (by omega)]) dX3_delay_17

set_option maxHeartbeats 4000000 in
set_option maxRecDepth 100000 in
theorem kX3_section (l : Launch) (D : va_G) (G : Nat → ClassId) (am : Nat) (th n m9 sp : Int) (τ ζ : Nat → Nat → Int) (h : Nat → Nat) (M : Nat → Nat → Int32) (hOK : XOK n m9 sp τ ζ) (hM : MR n m9 τ ζ M) (t9 : Int) (ht : 0 ≤ t9 ∧ t9 ≤ 99999) : Met l yX3_section wsX3_section ({ frames := 0, cells := 0, slots := 0, locals := 0 }) (zP [.ref am, .int (zI (t9))] D G (fun H => va_P D vwCl [(am, .inr (3, [.int (zI (th)), .int (zI (n)), .ref (h 0), .ref (h 1), .ref (h 2), .ref (h 3), .ref (h 4), .ref (h 5), .ref (h 6), .int (zI (m9)), .ref (h 7), .ref (h 8), .ref (h 9), .int (zI (sp))])), ((h 0), .inl (G 0, 8, .inl (M 0))), ((h 1), .inl (G 0, 8, .inl (M 1))), ((h 2), .inl (G 0, 8, .inl (M 2))), ((h 3), .inl (G 0, 8, .inl (M 3))), ((h 4), .inl (G 0, 8, .inl (M 4))), ((h 5), .inl (G 1, 24, .inl (M 5))), ((h 6), .inl (G 0, 1024, .inl (M 6))), ((h 7), .inl (G 0, 13, .inl (M 7))), ((h 8), .inl (G 0, 12, .inl (M 8))), ((h 9), .inl (G 1, 12, .inl (M 9)))] H)) (zQ (some (.int (zI (xSec ζ t9 m9.toNat))))) 0 0 (fun _ => False) := by
  refine Met.ofW (cc := cX3_section) (maxL := 3) (ret := (some .int)) (by decide) rfl ?_
  intro p e s m args below meth c s₁ B hml hv
  obtain ⟨hav, hP, hK, hN⟩ := hv
  have hx := B.exec
  have hb := B.bytes
  have hr := B.returns
  have hts := atoms_spec (ws := wsX3_section) B.pre
  have hown : s.vm.findClass RX3 = some m.cls := findClass_of_methodNamed B.named
  have hlocks : meth.locks = false := B.notSynchronized
  have hin3 : ∀ w ∈ u_ws RX3 TX3 14, w ∈ wsX3_section := by decide +kernel
  have hB := id hOK
  obtain ⟨hn0, hn8, hm0, hm12, hsp0, hsp1, -⟩ := hB
  refine z_entry hav (Nat.le_of_ble_eq_true rfl) rfl (fun ls hl => ?_)
  have hl : lv_has ls 3 [(0, .ref am), (1, .int (zI (t9)))] := hl
  refine lv_iconst (v := zI (0)) hx hb dX3_section_0 rfl ?_
  refine lv_istore_n (lv' := [(2, .int (zI (0))), (0, .ref am), (1, .int (zI (t9)))]) hx hb dX3_section_1 rfl hl (by decide) rfl (fun ls hl => ?_)
  have loop_2 : ∀ (fu : Nat) (k : Int), (0 ≤ k ∧ k ≤ m9) → (xSec ζ t9 k.toNat = -1) → m9 - k < (fu : Int) → ∀ (ls : Array Slot), lv_has ls 3 [(0, .ref am), (1, .int (zI (t9))), (2, .int (zI (k)))] → W p l e (headSpec wsX3_section ({ frames := 0, cells := 0, slots := 0, locals := 0 })).room s m args below meth c s.heap [] 0 0 (MQ below (zQ (some (.int (zI (xSec ζ t9 m9.toNat))))) args s 0 0 (fun _ => False)) (F0 m 2 ls []) := by
    intro fu
    induction fu with
    | zero =>
      intro k hk0 hno hm
      exfalso; omega
    | succ fu ih =>
      intro k hk0 hno hm ls hl
      have ih_2 := ih
      refine lv_iload_n hx hb dX3_section_2 rfl (lv_at hl 2 rfl) ?_
      refine lv_aload_n hx hb dX3_section_3 rfl (lv_at hl 0 rfl) ?_
      refine va_get (D := D) (ci := 3) (v := .int (zI (m9))) (C := RX3) (T := TX3) (N := 14) hx hb hts hin3 hown hK hP 0 rfl rfl 9 (by decide) (hts (.fieldLink RX3 111 "PolyDrumsModel" "sections" "I") (by decide +kernel)) (fun _ h9 => h9) rfl dX3_section_4 ?_
      refine z_icmp_ge (tgt := 30) hx hb (by omega) dX3_section_7 (by decide) (fun c_1 => ?_) (fun c_1 => ?_)
      · refine lv_iconst (v := zI (-1)) hx hb dX3_section_30 rfl ?_
        exact z_iret hx hb hr hlocks (by rw [show k = m9 by omega] at hno; exact hno.symm) dX3_section_31
      · have hzb := hOK.zb' (k := k) (by omega)
        refine lv_iload_n hx hb dX3_section_10 rfl (lv_at hl 1 rfl) ?_
        refine lv_aload_n hx hb dX3_section_11 rfl (lv_at hl 0 rfl) ?_
        refine va_get (D := D) (ci := 3) (v := .ref (h 7)) (C := RX3) (T := TX3) (N := 14) hx hb hts hin3 hown hK hP 0 rfl rfl 10 (by decide) (hts (.fieldLink RX3 32 "PolyDrumsModel" "begins" "[I") (by decide +kernel)) (fun _ h9 => h9) rfl dX3_section_12 ?_
        refine lv_iload_n hx hb dX3_section_15 rfl (lv_at hl 2 rfl) ?_
        refine lv_iconst (v := zI (1)) hx hb dX3_section_16 rfl ?_
        refine z_iadd hx hb dX3_section_17 ?_
        refine z_iald (x := zI (ζ (k).toNat 0 + ζ (k).toNat 1)) (D := D) hx hb hK hP 8 0 rfl rfl (by omega) (by omega) (hM.e (k := k) (by omega) rfl) dX3_section_18 ?_
        refine z_icmp_ge (tgt := 24) hx hb (by omega) dX3_section_19 (by decide) (fun c_2 => ?_) (fun c_2 => ?_)
        · refine lv_iinc (v := zI (k + 1)) (lv' := [(2, .int (zI (k + 1))), (0, .ref am), (1, .int (zI (t9)))]) hx hb dX3_section_24 hl (k := 2) rfl (zI_add (k) (1)) (by decide) rfl (fun ls hl => ?_)
          refine lv_goto (tgt := 2) hx hb dX3_section_27 (by decide) ?_
          exact ih_2 (k + 1) (by omega) (by rw [xSec_s hk0.1 hno, if_neg (by omega)]) (by omega) _ (lv_sub hl [1, 2, 0] rfl)
        · refine lv_iload_n hx hb dX3_section_22 rfl (lv_at hl 2 rfl) ?_
          exact z_iret hx hb hr hlocks (xSec_ret hk0.1 (by omega) hno (by omega)) dX3_section_23
  exact loop_2 (13) (0) (by omega) (rfl) (by omega) ls (lv_sub hl [1, 2, 0] rfl)
