set_option maxHeartbeats 4000000 in
set_option maxRecDepth 100000 in
theorem kX2_isWithin (l : Launch) (D : va_G) (G : Nat → ClassId) (x lo hi : Int) (hx : -2147483648 ≤ x ∧ x ≤ 2147483647) (hlo : -2147483648 ≤ lo ∧ lo ≤ 2147483647) (hhi : -2147483648 ≤ hi ∧ hi ≤ 2147483647) : Met l yX2_isWithin wsX2_isWithin ({ frames := 0, cells := 0, slots := 0, locals := 0 }) (zP [.int (zI (x)), .int (zI (lo)), .int (zI (hi))] D G (fun H => True)) (zQ (some (.int (zB (lo ≤ x ∧ x ≤ hi))))) 0 0 (fun _ => False) := by
  refine Met.ofW (cc := cX2_isWithin) (maxL := 3) (ret := (some .boolean)) (by decide) rfl ?_
  intro p e s m args below meth c s₁ B hml hv
  obtain ⟨hav, hP, hK, hN⟩ := hv
  have hx := B.exec
  have hb := B.bytes
  have hr := B.returns
  have hts := atoms_spec (ws := wsX2_isWithin) B.pre
  have hown : s.vm.findClass RX2 = some m.cls := findClass_of_methodNamed B.named
  have hlocks : meth.locks = false := B.notSynchronized
  refine z_entry hav (Nat.le_of_ble_eq_true rfl) rfl (fun ls hl => ?_)
  have hl : lv_has ls 3 [(0, .int (zI (x))), (1, .int (zI (lo))), (2, .int (zI (hi)))] := hl
  refine lv_iload_n hx hb dX2_isWithin_0 rfl (lv_at hl 0 rfl) ?_
  refine lv_iload_n hx hb dX2_isWithin_1 rfl (lv_at hl 1 rfl) ?_
  refine z_icmp_lt (tgt := 14) hx hb (by omega) dX2_isWithin_2 (by decide) (fun c_1 => ?_) (fun c_1 => ?_)
  · refine lv_iconst (v := zI (0)) hx hb dX2_isWithin_14 rfl ?_
    exact z_zretF hx hb hr hlocks (by omega) dX2_isWithin_15
  · refine lv_iload_n hx hb dX2_isWithin_5 rfl (lv_at hl 0 rfl) ?_
    refine lv_iload_n hx hb dX2_isWithin_6 rfl (lv_at hl 2 rfl) ?_
    refine z_icmp_gt (tgt := 14) hx hb (by omega) dX2_isWithin_7 (by decide) (fun c_2 => ?_) (fun c_2 => ?_)
    · refine lv_iconst (v := zI (0)) hx hb dX2_isWithin_14 rfl ?_
      exact z_zretF hx hb hr hlocks (by omega) dX2_isWithin_15
    · refine lv_iconst (v := zI (1)) hx hb dX2_isWithin_10 rfl ?_
      refine lv_goto (tgt := 15) hx hb dX2_isWithin_11 (by decide) ?_
      exact z_zretT hx hb hr hlocks (by omega) dX2_isWithin_15

set_option maxHeartbeats 4000000 in
set_option maxRecDepth 100000 in
theorem kX2_isTick (l : Launch) (D : va_G) (G : Nat → ClassId) (x : Int) (hx : -2147483648 ≤ x ∧ x ≤ 2147483647) : Met l yX2_isTick wsX2_isTick ({ frames := 1, cells := 0, slots := 0, locals := 22 }) (zP [.int (zI (x))] D G (fun H => True)) (zQ (some (.int (zB (0 ≤ x ∧ x ≤ 99999))))) 0 0 (fun _ => False) := by
  refine Met.ofW (cc := cX2_isTick) (maxL := 1) (ret := (some .boolean)) (by decide) rfl ?_
  intro p e s m args below meth c s₁ B hml hv
  obtain ⟨hav, hP, hK, hN⟩ := hv
  have hx := B.exec
  have hb := B.bytes
  have hr := B.returns
  have hts := atoms_spec (ws := wsX2_isTick) B.pre
  have hown : s.vm.findClass RX2 = some m.cls := findClass_of_methodNamed B.named
  have hlocks : meth.locks = false := B.notSynchronized
  refine z_entry hav (Nat.le_of_ble_eq_true rfl) rfl (fun ls hl => ?_)
  have hl : lv_has ls 1 [(0, .int (zI (x)))] := hl
  refine lv_iload_n hx hb dX2_isTick_0 rfl (lv_at hl 0 rfl) ?_
  refine lv_iconst (v := zI (0)) hx hb dX2_isTick_1 rfl ?_
  refine lv_ldc (v := 99999) hx hb hown (hts (.constant RX2 155 (99999)) (by decide +kernel)) dX2_isTick_2 ?_
  refine z_raw (y := zI 99999) (by decide) ?_
  refine z_call (va_runS (As := [.int (zI (x)), .int (zI (0)), .int (zI (99999))]) (rest := []) ⟨hx, hb, hml, hown, hts⟩ (kX2_isWithin l D G (x) (0) (99999) (by omega) (by omega) (by omega)) (va_cwS 3 hts gX2_isTick_X2_isWithin rfl rfl rfl (by decide +kernel) ⟨Nat.le_of_ble_eq_true rfl, Nat.le_of_ble_eq_true rfl⟩) (zPreS hK hN (trivial)) rfl rfl hl.1 rfl (lv_room (Nat.le_of_ble_eq_true rfl)) dX2_isTick_4 ⟨Nat.le_of_ble_eq_true rfl, Nat.le_of_ble_eq_true rfl⟩) ?_
  exact z_zret hx hb hr hlocks (Iff.rfl) dX2_isTick_7

set_option maxHeartbeats 4000000 in
set_option maxRecDepth 100000 in
theorem kX2_isSpan (l : Launch) (D : va_G) (G : Nat → ClassId) (x y : Int) (hx : -2147483648 ≤ x ∧ x ≤ 2147483647) (hy : -2147483648 ≤ y ∧ y ≤ 2147483647) : Met l yX2_isSpan wsX2_isSpan ({ frames := 2, cells := 0, slots := 0, locals := 42 }) (zP [.int (zI (x)), .int (zI (y))] D G (fun H => True)) (zQ (some (.int (zB ((0 ≤ x ∧ x ≤ 99999) ∧ (0 ≤ y ∧ y ≤ 99999) ∧ x ≤ y ∧ y - x ≤ 3000))))) 0 0 (fun _ => False) := by
  refine Met.ofW (cc := cX2_isSpan) (maxL := 2) (ret := (some .boolean)) (by decide) rfl ?_
  intro p e s m args below meth c s₁ B hml hv
  obtain ⟨hav, hP, hK, hN⟩ := hv
  have hx := B.exec
  have hb := B.bytes
  have hr := B.returns
  have hts := atoms_spec (ws := wsX2_isSpan) B.pre
  have hown : s.vm.findClass RX2 = some m.cls := findClass_of_methodNamed B.named
  have hlocks : meth.locks = false := B.notSynchronized
  refine z_entry hav (Nat.le_of_ble_eq_true rfl) rfl (fun ls hl => ?_)
  have hl : lv_has ls 2 [(0, .int (zI (x))), (1, .int (zI (y)))] := hl
  refine lv_iload_n hx hb dX2_isSpan_0 rfl (lv_at hl 0 rfl) ?_
  refine z_call (va_runS (As := [.int (zI (x))]) (rest := []) ⟨hx, hb, hml, hown, hts⟩ (kX2_isTick l D G (x) (by omega)) (va_cwS 1 hts gX2_isSpan_X2_isTick rfl rfl rfl (by decide +kernel) ⟨Nat.le_of_ble_eq_true rfl, Nat.le_of_ble_eq_true rfl⟩) (zPreS hK hN (trivial)) rfl rfl hl.1 rfl (lv_room (Nat.le_of_ble_eq_true rfl)) dX2_isSpan_1 ⟨Nat.le_of_ble_eq_true rfl, Nat.le_of_ble_eq_true rfl⟩) ?_
  refine z_eqB (tgt := 32) hx hb dX2_isSpan_4 (by decide) (fun c_1 => ?_) (fun c_1 => ?_)
  · refine lv_iconst (v := zI (0)) hx hb dX2_isSpan_32 rfl ?_
    exact z_zretF hx hb hr hlocks (by omega) dX2_isSpan_33
  · refine lv_iload_n hx hb dX2_isSpan_7 rfl (lv_at hl 1 rfl) ?_
    refine z_call (va_runS (As := [.int (zI (y))]) (rest := []) ⟨hx, hb, hml, hown, hts⟩ (kX2_isTick l D G (y) (by omega)) (va_cwS 1 hts gX2_isSpan_X2_isTick rfl rfl rfl (by decide +kernel) ⟨Nat.le_of_ble_eq_true rfl, Nat.le_of_ble_eq_true rfl⟩) (zPreS hK hN (trivial)) rfl rfl hl.1 rfl (lv_room (Nat.le_of_ble_eq_true rfl)) dX2_isSpan_8 ⟨Nat.le_of_ble_eq_true rfl, Nat.le_of_ble_eq_true rfl⟩) ?_
    refine z_eqB (tgt := 32) hx hb dX2_isSpan_11 (by decide) (fun c_2 => ?_) (fun c_2 => ?_)
    · refine lv_iconst (v := zI (0)) hx hb dX2_isSpan_32 rfl ?_
      exact z_zretF hx hb hr hlocks (by omega) dX2_isSpan_33
    · refine lv_iload_n hx hb dX2_isSpan_14 rfl (lv_at hl 1 rfl) ?_
      refine lv_iload_n hx hb dX2_isSpan_15 rfl (lv_at hl 0 rfl) ?_
      refine z_icmp_lt (tgt := 32) hx hb (by omega) dX2_isSpan_16 (by decide) (fun c_3 => ?_) (fun c_3 => ?_)
      · refine lv_iconst (v := zI (0)) hx hb dX2_isSpan_32 rfl ?_
        exact z_zretF hx hb hr hlocks (by omega) dX2_isSpan_33
      · refine lv_iload_n hx hb dX2_isSpan_19 rfl (lv_at hl 1 rfl) ?_
        refine lv_iload_n hx hb dX2_isSpan_20 rfl (lv_at hl 0 rfl) ?_
        refine z_isub hx hb dX2_isSpan_21 ?_
        refine lv_sipush (v := zI (3000)) hx hb dX2_isSpan_22 (by decide) ?_
        refine z_icmp_gt (tgt := 32) hx hb (by omega) dX2_isSpan_25 (by decide) (fun c_4 => ?_) (fun c_4 => ?_)
        · refine lv_iconst (v := zI (0)) hx hb dX2_isSpan_32 rfl ?_
          exact z_zretF hx hb hr hlocks (by omega) dX2_isSpan_33
        · refine lv_iconst (v := zI (1)) hx hb dX2_isSpan_28 rfl ?_
          refine lv_goto (tgt := 33) hx hb dX2_isSpan_29 (by decide) ?_
          exact z_zretT hx hb hr hlocks (by omega) dX2_isSpan_33

set_option maxHeartbeats 4000000 in
set_option maxRecDepth 100000 in
theorem kX2_isInSet (l : Launch) (D : va_G) (G : Nat → ClassId) (z k : Int) (hz : 0 ≤ z ∧ z ≤ 2147483647) (hk : 0 ≤ k ∧ k ≤ 31) : Met l yX2_isInSet wsX2_isInSet ({ frames := 0, cells := 0, slots := 0, locals := 0 }) (zP [.int (zI (z)), .int (zI (k))] D G (fun H => True)) (zQ (some (.int (zB (xBit z k))))) 0 0 (fun _ => False) := by
  refine Met.ofW (cc := cX2_isInSet) (maxL := 2) (ret := (some .boolean)) (by decide) rfl ?_
  intro p e s m args below meth c s₁ B hml hv
  obtain ⟨hav, hP, hK, hN⟩ := hv
  have hx := B.exec
  have hb := B.bytes
  have hr := B.returns
  have hts := atoms_spec (ws := wsX2_isInSet) B.pre
  have hown : s.vm.findClass RX2 = some m.cls := findClass_of_methodNamed B.named
  have hlocks : meth.locks = false := B.notSynchronized
  refine z_entry hav (Nat.le_of_ble_eq_true rfl) rfl (fun ls hl => ?_)
  have hl : lv_has ls 2 [(0, .int (zI (z))), (1, .int (zI (k)))] := hl
  refine lv_iload_n hx hb dX2_isInSet_0 rfl (lv_at hl 0 rfl) ?_
  refine lv_iload_n hx hb dX2_isInSet_1 rfl (lv_at hl 1 rfl) ?_
  refine lv_ishr hx hb dX2_isInSet_2 ?_
  refine lv_iconst (v := zI (1)) hx hb dX2_isInSet_3 rfl ?_
  refine lv_iand hx hb dX2_isInSet_4 ?_
  refine z_raw (y := zB (xBit z k)) (xBit_shr hz hk) ?_
  refine lv_iconst (v := zI (1)) hx hb dX2_isInSet_5 rfl ?_
  refine z_ne1B (tgt := 13) hx hb dX2_isInSet_6 (by decide) (fun c_1 => ?_) (fun c_1 => ?_)
  · refine lv_iconst (v := zI (0)) hx hb dX2_isInSet_13 rfl ?_
    exact z_zretF hx hb hr hlocks (c_1) dX2_isInSet_14
  · refine lv_iconst (v := zI (1)) hx hb dX2_isInSet_9 rfl ?_
    refine lv_goto (tgt := 14) hx hb dX2_isInSet_10 (by decide) ?_
    exact z_zretT hx hb hr hlocks (c_1) dX2_isInSet_14

set_option maxHeartbeats 4000000 in
set_option maxRecDepth 100000 in
theorem kX2_quotient (l : Launch) (D : va_G) (G : Nat → ClassId) (x d : Int) (hx0 : 0 ≤ x ∧ x ≤ 2147483647) (hd : 0 < d ∧ d ≤ 2147483647) : Met l yX2_quotient wsX2_quotient ({ frames := 0, cells := 0, slots := 0, locals := 0 }) (zP [.int (zI (x)), .int (zI (d))] D G (fun H => True)) (zQ (some (.int (zI (x / d))))) 0 0 (fun _ => False) := by
  refine Met.ofW (cc := cX2_quotient) (maxL := 2) (ret := (some .int)) (by decide) rfl ?_
  intro p e s m args below meth c s₁ B hml hv
  obtain ⟨hav, hP, hK, hN⟩ := hv
  have hx := B.exec
  have hb := B.bytes
  have hr := B.returns
  have hts := atoms_spec (ws := wsX2_quotient) B.pre
  have hown : s.vm.findClass RX2 = some m.cls := findClass_of_methodNamed B.named
  have hlocks : meth.locks = false := B.notSynchronized
  refine z_entry hav (Nat.le_of_ble_eq_true rfl) rfl (fun ls hl => ?_)
  have hl : lv_has ls 2 [(0, .int (zI (x))), (1, .int (zI (d)))] := hl
  refine lv_iload_n hx hb dX2_quotient_0 rfl (lv_at hl 1 rfl) ?_
  refine z_if_le (tgt := 10) hx hb (by omega) dX2_quotient_1 (by decide) (fun c_1 => ?_) (fun c_1 => ?_)
  · exfalso; omega
  · refine lv_iload_n hx hb dX2_quotient_4 rfl (lv_at hl 0 rfl) ?_
    refine lv_iload_n hx hb dX2_quotient_5 rfl (lv_at hl 1 rfl) ?_
    refine z_idiv hx hb (by omega) dX2_quotient_6 ?_
    refine lv_goto (tgt := 11) hx hb dX2_quotient_7 (by decide) ?_
    exact z_iret hx hb hr hlocks (by first | rfl | omega) dX2_quotient_11

set_option maxHeartbeats 4000000 in
set_option maxRecDepth 100000 in
theorem kX2_rest (l : Launch) (D : va_G) (G : Nat → ClassId) (x d : Int) (hx0 : 0 ≤ x ∧ x ≤ 2147483647) (hd : 0 < d ∧ d ≤ 2147483647) : Met l yX2_rest wsX2_rest ({ frames := 0, cells := 0, slots := 0, locals := 0 }) (zP [.int (zI (x)), .int (zI (d))] D G (fun H => True)) (zQ (some (.int (zI (x % d))))) 0 0 (fun _ => False) := by
  refine Met.ofW (cc := cX2_rest) (maxL := 2) (ret := (some .int)) (by decide) rfl ?_
  intro p e s m args below meth c s₁ B hml hv
  obtain ⟨hav, hP, hK, hN⟩ := hv
  have hx := B.exec
  have hb := B.bytes
  have hr := B.returns
  have hts := atoms_spec (ws := wsX2_rest) B.pre
  have hown : s.vm.findClass RX2 = some m.cls := findClass_of_methodNamed B.named
  have hlocks : meth.locks = false := B.notSynchronized
  refine z_entry hav (Nat.le_of_ble_eq_true rfl) rfl (fun ls hl => ?_)
  have hl : lv_has ls 2 [(0, .int (zI (x))), (1, .int (zI (d)))] := hl
  refine lv_iload_n hx hb dX2_rest_0 rfl (lv_at hl 1 rfl) ?_
  refine z_if_le (tgt := 10) hx hb (by omega) dX2_rest_1 (by decide) (fun c_1 => ?_) (fun c_1 => ?_)
  · exfalso; omega
  · refine lv_iload_n hx hb dX2_rest_4 rfl (lv_at hl 0 rfl) ?_
    refine lv_iload_n hx hb dX2_rest_5 rfl (lv_at hl 1 rfl) ?_
    refine z_irem hx hb (by omega) dX2_rest_6 ?_
    refine lv_goto (tgt := 11) hx hb dX2_rest_7 (by decide) ?_
    exact z_iret hx hb hr hlocks (by first | rfl | omega) dX2_rest_11

set_option maxHeartbeats 4000000 in
set_option maxRecDepth 100000 in
theorem kX2_read (l : Launch) (D : va_G) (G : Nat → ClassId) (ra n : Nat) (cn : Nat → Int32) (i : Int) (x : Int32) (hi : 0 ≤ i ∧ i < (n : Int)) (hn : n ≤ 100000) (hv : cn i.toNat = x) : Met l yX2_read wsX2_read ({ frames := 0, cells := 0, slots := 0, locals := 0 }) (zP [.ref ra, .int (zI (i))] D G (fun H => va_P D vwCl [(ra, .inl (G 0, n, .inl (cn)))] H)) (zQ (some (.int (x)))) 0 0 (fun _ => False) := by
  refine Met.ofW (cc := cX2_read) (maxL := 2) (ret := (some .int)) (by decide) rfl ?_
  intro p e s m args below meth c s₁ B hml hv
  obtain ⟨hav, hP, hK, hN⟩ := hv
  have hx := B.exec
  have hb := B.bytes
  have hr := B.returns
  have hts := atoms_spec (ws := wsX2_read) B.pre
  have hown : s.vm.findClass RX2 = some m.cls := findClass_of_methodNamed B.named
  have hlocks : meth.locks = false := B.notSynchronized
  refine z_entry hav (Nat.le_of_ble_eq_true rfl) rfl (fun ls hl => ?_)
  have hl : lv_has ls 2 [(0, .ref ra), (1, .int (zI (i)))] := hl
  refine lv_iload_n hx hb dX2_read_0 rfl (lv_at hl 1 rfl) ?_
  refine z_if_lt (tgt := 16) hx hb (by omega) dX2_read_1 (by decide) (fun c_1 => ?_) (fun c_1 => ?_)
  · exfalso; omega
  · refine lv_iload_n hx hb dX2_read_4 rfl (lv_at hl 1 rfl) ?_
    refine lv_aload_n hx hb dX2_read_5 rfl (lv_at hl 0 rfl) ?_
    refine va_alen (D := D) hx hb hK hP 0 0 rfl rfl (v := zI n) rfl dX2_read_6 ?_
    refine z_icmp_ge (tgt := 16) hx hb (by omega) dX2_read_7 (by decide) (fun c_2 => ?_) (fun c_2 => ?_)
    · exfalso; omega
    · refine lv_aload_n hx hb dX2_read_10 rfl (lv_at hl 0 rfl) ?_
      refine lv_iload_n hx hb dX2_read_11 rfl (lv_at hl 1 rfl) ?_
      refine z_iald (x := x) (D := D) hx hb hK hP 0 0 rfl rfl (by omega) (by omega) (hv) dX2_read_12 ?_
      refine lv_goto (tgt := 17) hx hb dX2_read_13 (by decide) ?_
      exact z_rret hx hb hr hlocks (rfl) dX2_read_17

set_option maxHeartbeats 4000000 in
set_option maxRecDepth 100000 in
theorem kX2_write (l : Launch) (D : va_G) (G : Nat → ClassId) (ra n : Nat) (cn : Nat → Int32) (i : Int) (x : Int32) (hnd : [ra].Nodup) (hi : 0 ≤ i ∧ i < (n : Int)) (hn : n ≤ 100000) : Met l yX2_write wsX2_write ({ frames := 0, cells := 0, slots := 0, locals := 0 }) (zP [.ref ra, .int (zI (i)), .int (x)] D G (fun H => va_P D vwCl [(ra, .inl (G 0, n, .inl (cn)))] H)) (zM none (fun H => va_P D vwCl [(ra, .inl (G 0, n, .inl (upd cn i.toNat x)))] H) (zA [ra])) 0 0 (zA [ra]) := by
  refine Met.ofW (cc := cX2_write) (maxL := 3) (ret := none) (by decide) rfl ?_
  intro p e s m args below meth c s₁ B hml hv
  obtain ⟨hav, hP, hK, hN⟩ := hv
  have hx := B.exec
  have hb := B.bytes
  have hr := B.returns
  have hts := atoms_spec (ws := wsX2_write) B.pre
  have hown : s.vm.findClass RX2 = some m.cls := findClass_of_methodNamed B.named
  have hlocks : meth.locks = false := B.notSynchronized
  have hS : va_S (zA [ra]) s.heap s.heap [] := va_S.rf
  have hnd' := hnd
  simp only [List.nodup_cons, List.mem_cons, List.not_mem_nil, or_false, List.nodup_nil, and_true, not_or, not_false_eq_true] at hnd'
  have hD : va_D (zA [ra]) [(ra, .inl (G 0, n, .inl (cn)))] := z_Dof hnd rfl
  refine z_entry hav (Nat.le_of_ble_eq_true rfl) rfl (fun ls hl => ?_)
  have hl : lv_has ls 3 [(0, .ref ra), (1, .int (zI (i))), (2, .int (x))] := hl
  refine lv_iload_n hx hb dX2_write_0 rfl (lv_at hl 1 rfl) ?_
  refine z_if_lt (tgt := 14) hx hb (by omega) dX2_write_1 (by decide) (fun c_1 => ?_) (fun c_1 => ?_)
  · exfalso; omega
  · refine lv_iload_n hx hb dX2_write_4 rfl (lv_at hl 1 rfl) ?_
    refine lv_aload_n hx hb dX2_write_5 rfl (lv_at hl 0 rfl) ?_
    refine va_alen (D := D) hx hb hK hP 0 0 rfl rfl (v := zI n) rfl dX2_write_6 ?_
    refine z_icmp_ge (tgt := 14) hx hb (by omega) dX2_write_7 (by decide) (fun c_2 => ?_) (fun c_2 => ?_)
    · exfalso; omega
    · refine lv_aload_n hx hb dX2_write_10 rfl (lv_at hl 0 rfl) ?_
      refine lv_iload_n hx hb dX2_write_11 rfl (lv_at hl 1 rfl) ?_
      refine lv_iload_n hx hb dX2_write_12 rfl (lv_at hl 2 rfl) ?_
      refine z_iast (D := D) hx hb hK hP hD hS 0 0 rfl rfl (by omega) (by omega) dX2_write_13 (fun H locs hP hD hS => ?_)
      have hP : va_P D vwCl [(ra, .inl (G 0, n, .inl (upd (cn) (i).toNat ((x)))))] H := hP
      have hD : va_D (zA [ra]) [(ra, .inl (G 0, n, .inl (upd (cn) (i).toNat ((x)))))] := hD
      exact zm_vret hx hb hr hlocks hS (hP) dX2_write_14

set_option maxHeartbeats 4000000 in
set_option maxRecDepth 100000 in
theorem kX2_mix (l : Launch) (D : va_G) (G : Nat → ClassId) (a x : Int64)  : Met l yX2_mix wsX2_mix ({ frames := 0, cells := 0, slots := 0, locals := 0 }) (zP [.long (a), .long (x)] D G (fun H => True)) (zQ (some (.long (a * 31 + x)))) 0 0 (fun _ => False) := by
  refine Met.ofW (cc := cX2_mix) (maxL := 4) (ret := (some .long)) (by decide) rfl ?_
  intro p e s m args below meth c s₁ B hml hv
  obtain ⟨hav, hP, hK, hN⟩ := hv
  have hx := B.exec
  have hb := B.bytes
  have hr := B.returns
  have hts := atoms_spec (ws := wsX2_mix) B.pre
  have hown : s.vm.findClass RX2 = some m.cls := findClass_of_methodNamed B.named
  have hlocks : meth.locks = false := B.notSynchronized
  refine z_entry hav (Nat.le_of_ble_eq_true rfl) rfl (fun ls hl => ?_)
  have hl : lv_has ls 4 [(0, .long (a)), (2, .long (x))] := hl
  refine lv_lload_n hx hb dX2_mix_0 rfl (lv_at hl 0 rfl) ?_
  refine lv_ldc2 (v := 31) hx hb hown (hts (.constantLong RX2 250 (31)) (by decide +kernel)) dX2_mix_1 ?_
  refine lv_lmul hx hb dX2_mix_4 ?_
  refine lv_lload_n hx hb dX2_mix_5 rfl (lv_at hl 1 rfl) ?_
  refine lv_ladd hx hb dX2_mix_6 ?_
  exact z_lret hx hb hr hlocks (rfl) dX2_mix_7
