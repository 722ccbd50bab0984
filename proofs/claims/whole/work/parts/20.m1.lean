set_option maxHeartbeats 4000000 in
set_option maxRecDepth 100000 in
theorem kX2_isWithin (l : Launch) (D : va_G) (G : Nat → ClassId) (x lo hi : Int) (hx : -2147483648 ≤ x ∧ x ≤ 2147483647) (hlo : -2147483648 ≤ lo ∧ lo ≤ 2147483647) (hhi : -2147483648 ≤ hi ∧ hi ≤ 2147483647) : Met l yX2_isWithin wsX2_isWithin ({ frames := 0, cells := 0, slots := 0, locals := 0 }) (zP [.int (zI (x)), .int (zI (lo)), .int (zI (hi))] D G (fun H => True)) (zQ (some (.int (zB (lo ≤ x ∧ x ≤ hi))))) 0 0 (fun _ => False) := by
  refine Met.ofW (cc := cX2_isWithin) (maxL := 3) (ret := (some .boolean)) (by decide) rfl ?_
  intro p e s m args below meth c s₁ B hml hv
  obtain ⟨hav, hP, hK, hN⟩ := hv
  have hx := B.exec
  have hb := B.bytes
  have hr := B.returns
  have hts := atoms_spec (ws := wsX2_isWithin) B.pre
  have hown : s.vm.findClass RX2 = some m.cls := findClass_of_methodNamed B.named
  have hlocks : meth.locks = false := B.notSynchronized
  refine z_entry hav (Nat.le_of_ble_eq_true rfl) rfl (fun ls hl => ?_)
  have hl : lv_has ls 3 [(0, .int (zI (x))), (1, .int (zI (lo))), (2, .int (zI (hi)))] := hl
  refine lv_iload_n hx hb dX2_isWithin_0 rfl (lv_at hl 0 rfl) ?_
  refine lv_iload_n hx hb dX2_isWithin_1 rfl (lv_at hl 1 rfl) ?_
  refine z_icmp_lt (tgt := 14) hx hb (by omega) dX2_isWithin_2 (by decide) (fun c_1 => ?_) (fun c_1 => ?_)
  · refine lv_iconst (v := zI (0)) hx hb dX2_isWithin_14 rfl ?_
    exact z_zretF hx hb hr hlocks (by omega) dX2_isWithin_15
  · refine lv_iload_n hx hb dX2_isWithin_5 rfl (lv_at hl 0 rfl) ?_
    refine lv_iload_n hx hb dX2_isWithin_6 rfl (lv_at hl 2 rfl) ?_
    refine z_icmp_gt (tgt := 14) hx hb (by omega) dX2_isWithin_7 (by decide) (fun c_2 => ?_) (fun c_2 => ?_)
    · refine lv_iconst (v := zI (0)) hx hb dX2_isWithin_14 rfl ?_
      exact z_zretF hx hb hr hlocks (by omega) dX2_isWithin_15
    · refine lv_iconst (v := zI (1)) hx hb dX2_isWithin_10 rfl ?_
      refine lv_goto (tgt := 15) hx hb dX2_isWithin_11 (by decide) ?_
      exact z_zretT hx hb hr hlocks (by omega) dX2_isWithin_15

set_option maxHeartbeats 4000000 in
set_option maxRecDepth 100000 in
theorem kX2_isTick (l : Launch) (D : va_G) (G : Nat → ClassId) (x : Int) (hx : -2147483648 ≤ x ∧ x ≤ 2147483647) : Met l yX2_isTick wsX2_isTick ({ frames := 1, cells := 0, slots := 0, locals := 22 }) (zP [.int (zI (x))] D G (fun H => True)) (zQ (some (.int (zB (0 ≤ x ∧ x ≤ 99999))))) 0 0 (fun _ => False) := by
  refine Met.ofW (cc := cX2_isTick) (maxL := 1) (ret := (some .boolean)) (by decide) rfl ?_
  intro p e s m args below meth c s₁ B hml hv
  obtain ⟨hav, hP, hK, hN⟩ := hv
  have hx := B.exec
  have hb := B.bytes
  have hr := B.returns
  have hts := atoms_spec (ws := wsX2_isTick) B.pre
  have hown : s.vm.findClass RX2 = some m.cls := findClass_of_methodNamed B.named
  have hlocks : meth.locks = false := B.notSynchronized
  refine z_entry hav (Nat.le_of_ble_eq_true rfl) rfl (fun ls hl => ?_)
  have hl : lv_has ls 1 [(0, .int (zI (x)))] := hl
  refine lv_iload_n hx hb dX2_isTick_0 rfl (lv_at hl 0 rfl) ?_
  refine lv_iconst (v := zI (0)) hx hb dX2_isTick_1 rfl ?_
  refine lv_ldc (v := 99999) hx hb hown (hts (.constant RX2 155 (99999)) (by decide +kernel)) dX2_isTick_2 ?_
  refine z_raw (y := zI 99999) (by decide) ?_
  refine z_call (va_runS (As := [.int (zI (x)), .int (zI (0)), .int (zI (99999))]) (rest := []) ⟨hx, hb, hml, hown, hts⟩ (kX2_isWithin l D G (x) (0) (99999) (by omega) (by omega) (by omega)) (va_cwS 3 hts gX2_isTick_X2_isWithin rfl rfl rfl (by decide +kernel) ⟨Nat.le_of_ble_eq_true rfl, Nat.le_of_ble_eq_true rfl⟩) (zPreS hK hN (trivial)) rfl rfl hl.1 rfl (lv_room (Nat.le_of_ble_eq_true rfl)) dX2_isTick_4 ⟨Nat.le_of_ble_eq_true rfl, Nat.le_of_ble_eq_true rfl⟩) ?_
  exact z_zret hx hb hr hlocks (Iff.rfl) dX2_isTick_7

set_option maxHeartbeats 4000000 in
set_option maxRecDepth 100000 in
theorem kX2_isSpan (l : Launch) (D : va_G) (G : Nat → ClassId) (x y : Int) (hx : -2147483648 ≤ x ∧ x ≤ 2147483647) (hy : -2147483648 ≤ y ∧ y ≤ 2147483647) : Met l yX2_isSpan wsX2_isSpan ({ frames := 2, cells := 0, slots := 0, locals := 42 }) (zP [.int (zI (x)), .int (zI (y))] D G (fun H => True)) (zQ (some (.int (zB ((0 ≤ x ∧ x ≤ 99999) ∧ (0 ≤ y ∧ y ≤ 99999) ∧ x ≤ y ∧ y - x ≤ 3000))))) 0 0 (fun _ => False) := by
  refine Met.ofW (cc := cX2_isSpan) (maxL := 2) (ret := (some .boolean)) (by decide) rfl ?_
  intro p e s m args below meth c s₁ B hml hv
  obtain ⟨hav, hP, hK, hN⟩ := hv
  have hx := B.exec
  have hb := B.bytes
  have hr := B.returns
  have hts := atoms_spec (ws := wsX2_isSpan) B.pre
  have hown : s.vm.findClass RX2 = some m.cls := findClass_of_methodNamed B.named
  have hlocks : meth.locks = false := B.notSynchronized
  refine z_entry hav (Nat.le_of_ble_eq_true rfl) rfl (fun ls hl => ?_)
  have hl : lv_has ls 2 [(0, .int (zI (x))), (1, .int (zI (y)))] := hl
  refine lv_iload_n hx hb dX2_isSpan_0 rfl (lv_at hl 0 rfl) ?_
  refine z_call (va_runS (As := [.int (zI (x))]) (rest := []) ⟨hx, hb, hml, hown, hts⟩ (kX2_isTick l D G (x) (by omega)) (va_cwS 1 hts gX2_isSpan_X2_isTick rfl rfl rfl (by decide +kernel) ⟨Nat.le_of_ble_eq_true rfl, Nat.le_of_ble_eq_true rfl⟩) (zPreS hK hN (trivial)) rfl rfl hl.1 rfl (lv_room (Nat.le_of_ble_eq_true rfl)) dX2_isSpan_1 ⟨Nat.le_of_ble_eq_true rfl, Nat.le_of_ble_eq_true rfl⟩) ?_
  refine z_eqB (tgt := 32) hx hb dX2_isSpan_4 (by decide) (fun c_1 => ?_) (fun c_1 => ?_)
  · refine lv_iconst (v := zI (0)) hx hb dX2_isSpan_32 rfl ?_
    exact z_zretF hx hb hr hlocks (by omega) dX2_isSpan_33
  · refine lv_iload_n hx hb dX2_isSpan_7 rfl (lv_at hl 1 rfl) ?_
    refine z_call (va_runS (As := [.int (zI (y))]) (rest := []) ⟨hx, hb, hml, hown, hts⟩ (kX2_isTick l D G (y) (by omega)) (va_cwS 1 hts gX2_isSpan_X2_isTick rfl rfl rfl (by decide +kernel) ⟨Nat.le_of_ble_eq_true rfl, Nat.le_of_ble_eq_true rfl⟩) (zPreS hK hN (trivial)) rfl rfl hl.1 rfl (lv_room (Nat.le_of_ble_eq_true rfl)) dX2_isSpan_8 ⟨Nat.le_of_ble_eq_true rfl, Nat.le_of_ble_eq_true rfl⟩) ?_
    refine z_eqB (tgt := 32) hx hb dX2_isSpan_11 (by decide) (fun c_2 => ?_) (fun c_2 => ?_)
    · refine lv_iconst (v := zI (0)) hx hb dX2_isSpan_32 rfl ?_
      exact z_zretF hx hb hr hlocks (by omega) dX2_isSpan_33
    · refine lv_iload_n hx hb dX2_isSpan_14 rfl (lv_at hl 1 rfl) ?_
      refine lv_iload_n hx hb dX2_isSpan_15 rfl (lv_at hl 0 rfl) ?_
      refine z_icmp_lt (tgt := 32) hx hb (by omega) dX2_isSpan_16 (by decide) (fun c_3 => ?_) (fun c_3 => ?_)
      · refine lv_iconst (v := zI (0)) hx hb dX2_isSpan_32 rfl ?_
        exact z_zretF hx hb hr hlocks (by omega) dX2_isSpan_33
      · refine lv_iload_n hx hb dX2_isSpan_19 rfl (lv_at hl 1 rfl) ?_
        refine lv_iload_n hx hb dX2_isSpan_20 rfl (lv_at hl 0 rfl) ?_
        refine z_isub hx hb dX2_isSpan_21 ?_
        refine lv_sipush (v := zI (3000)) hx hb dX2_isSpan_22 (by decide) ?_
        refine z_icmp_gt (tgt := 32) hx hb (by omega) dX2_isSpan_25 (by decide) (fun c_4 => ?_) (fun c_4 => ?_)
        · refine lv_iconst (v := zI (0)) hx hb dX2_isSpan_32 rfl ?_
          exact z_zretF hx hb hr hlocks (by omega) dX2_isSpan_33
        · refine lv_iconst (v := zI (1)) hx hb dX2_isSpan_28 rfl ?_
          refine lv_goto (tgt := 33) hx hb dX2_isSpan_29 (by decide) ?_
          exact z_zretT hx hb hr hlocks (by omega) dX2_isSpan_33

set_option maxHeartbeats 4000000 in
set_option maxRecDepth 100000 in
theorem kX2_isInSet (l : Launch) (D : va_G) (G : Nat → ClassId) (z k : Int) (hz : 0 ≤ z ∧ z ≤ 2147483647) (hk : 0 ≤ k ∧ k ≤ 31) : Met l yX2_isInSet wsX2_isInSet ({ frames := 0, cells := 0, slots := 0, locals := 0 }) (zP [.int (zI (z)), .int (zI (k))] D G (fun H => True)) (zQ (some (.int (zB (xBit z k))))) 0 0 (fun _ => False) := by
  refine Met.ofW (cc := cX2_isInSet) (maxL := 2) (ret := (some .boolean)) (by decide) rfl ?_
  intro p e s m args below meth c s₁ B hml hv
  obtain ⟨hav, hP, hK, hN⟩ := hv
  have hx := B.exec
  have hb := B.bytes
  have hr := B.returns
  have hts := atoms_spec (ws := wsX2_isInSet) B.pre
  have hown : s.vm.findClass RX2 = some m.cls := findClass_of_methodNamed B.named
  have hlocks : meth.locks = false := B.notSynchronized
  refine z_entry hav (Nat.le_of_ble_eq_true rfl) rfl (fun ls hl => ?_)
  have hl : lv_has ls 2 [(0, .int (zI (z))), (1, .int (zI (k)))] := hl
  refine lv_iload_n hx hb dX2_isInSet_0 rfl (lv_at hl 0 rfl) ?_
  refine lv_iload_n hx hb dX2_isInSet_1 rfl (lv_at hl 1 rfl) ?_
  refine lv_ishr hx hb dX2_isInSet_2 ?_
  refine lv_iconst (v := zI (1)) hx hb dX2_isInSet_3 rfl ?_
  refine lv_iand hx hb dX2_isInSet_4 ?_
  refine z_raw (y := zB (xBit z k)) (xBit_shr hz hk) ?_
  refine lv_iconst (v := zI (1)) hx hb dX2_isInSet_5 rfl ?_
  refine z_ne1B (tgt := 13) hx hb dX2_isInSet_6 (by decide) (fun c_1 => ?_) (fun c_1 => ?_)
  · refine lv_iconst (v := zI (0)) hx hb dX2_isInSet_13 rfl ?_
    exact z_zretF hx hb hr hlocks (c_1) dX2_isInSet_14
  · refine lv_iconst (v := zI (1)) hx hb dX2_isInSet_9 rfl ?_
    refine lv_goto (tgt := 14) hx hb dX2_isInSet_10 (by decide) ?_
    exact z_zretT hx hb hr hlocks (c_1) dX2_isInSet_14

set_option maxHeartbeats 4000000 in
set_option maxRecDepth 100000 in
theorem kX2_quotient (l : Launch) (D : va_G) (G : Nat → ClassId) (x d : Int) (hx0 : 0 ≤ x ∧ x ≤ 2147483647) (hd : 0 < d ∧ d ≤ 2147483647) : Met l yX2_quotient wsX2_quotient ({ frames := 0, cells := 0, slots := 0, locals := 0 }) (zP [.int (zI (x)), .int (zI (d))] D G (fun H => True)) (zQ (some (.int (zI (x / d))))) 0 0 (fun _ => False) := by
  refine Met.ofW (cc := cX2_quotient) (maxL := 2) (ret := (some .int)) (by decide) rfl ?_
  intro p e s m args below meth c s₁ B hml hv
  obtain ⟨hav, hP, hK, hN⟩ := hv
  have hx := B.exec
  have hb := B.bytes
  have hr := B.returns
  have hts := atoms_spec (ws := wsX2_quotient) B.pre
  have hown : s.vm.findClass RX2 = some m.cls := findClass_of_methodNamed B.named
  have hlocks : meth.locks = false := B.notSynchronized
  refine z_entry hav (Nat.le_of_ble_eq_true rfl) rfl (fun ls hl => ?_)
  have hl : lv_has ls 2 [(0, .int (zI (x))), (1, .int (zI (d)))] := hl
  refine lv_iload_n hx hb dX2_quotient_0 rfl (lv_at hl 1 rfl) ?_
  refine z_if_le (tgt := 10) hx hb (by omega) dX2_quotient_1 (by decide) (fun c_1 => ?_) (fun c_1 => ?_)
  · exfalso; omega
  · refine lv_iload_n hx hb dX2_quotient_4 rfl (lv_at hl 0 rfl) ?_
    refine lv_iload_n hx hb dX2_quotient_5 rfl (lv_at hl 1 rfl) ?_
    refine z_idiv hx hb (by omega) dX2_quotient_6 ?_
    refine lv_goto (tgt := 11) hx hb dX2_quotient_7 (by decide) ?_
    exact z_iret hx hb hr hlocks (by first | rfl | omega) dX2_quotient_11

set_option maxHeartbeats 4000000 in
set_option maxRecDepth 100000 in
theorem kX2_rest (l : Launch) (D : va_G) (G : Nat → ClassId) (x d : Int) (hx0 : 0 ≤ x ∧ x ≤ 2147483647) (hd : 0 < d ∧ d ≤ 2147483647) : Met l yX2_rest wsX2_rest ({ frames := 0, cells := 0, slots := 0, locals := 0 }) (zP [.int (zI (x)), .int (zI (d))] D G (fun H => True)) (zQ (some (.int (zI (x % d))))) 0 0 (fun _ => False) := by
  refine Met.ofW (cc := cX2_rest) (maxL := 2) (ret := (some .int)) (by decide) rfl ?_
  intro p e s m args below meth c s₁ B hml hv
  obtain ⟨hav, hP, hK, hN⟩ := hv
  have hx := B.exec
  have hb := B.bytes
  have hr := B.returns
  have hts := atoms_spec (ws := wsX2_rest) B.pre
  have hown : s.vm.findClass RX2 = some m.cls := findClass_of_methodNamed B.named
  have hlocks : meth.locks = false := B.notSynchronized
  refine z_entry hav (Nat.le_of_ble_eq_true rfl) rfl (fun ls hl => ?_)
  have hl : lv_has ls 2 [(0, .int (zI (x))), (1, .int (zI (d)))] := hl
  refine lv_iload_n hx hb dX2_rest_0 rfl (lv_at hl 1 rfl) ?_
  refine z_if_le (tgt := 10) hx hb (by omega) dX2_rest_1 (by decide) (fun c_1 => ?_) (fun c_1 => ?_)
  · exfalso; omega
  · refine lv_iload_n hx hb dX2_rest_4 rfl (lv_at hl 0 rfl) ?_
    refine lv_iload_n hx hb dX2_rest_5 rfl (lv_at hl 1 rfl) ?_
    refine z_irem hx hb (by omega) dX2_rest_6 ?_
    refine lv_goto (tgt := 11) hx hb dX2_rest_7 (by decide) ?_
    exact z_iret hx hb hr hlocks (by first | rfl | omega) dX2_rest_11

set_option maxHeartbeats 4000000 in
set_option maxRecDepth 100000 in
theorem kX2_read (l : Launch) (D : va_G) (G : Nat → ClassId) (ra n : Nat) (cn : Nat → Int32) (i : Int) (x : Int32) (hi : 0 ≤ i ∧ i < (n : Int)) (hn : n ≤ 100000) (hv : cn i.toNat = x) : Met l yX2_read wsX2_read ({ frames := 0, cells := 0, slots := 0, locals := 0 }) (zP [.ref ra, .int (zI (i))] D G (fun H => va_P D vwCl [(ra, .inl (G 0, n, .inl (cn)))] H)) (zQ (some (.int (x)))) 0 0 (fun _ => False) := by
  refine Met.ofW (cc := cX2_read) (maxL := 2) (ret := (some .int)) (by decide) rfl ?_
  intro p e s m args below meth c s₁ B hml hv
  obtain ⟨hav, hP, hK, hN⟩ := hv
  have hx := B.exec
  have hb := B.bytes
  have hr := B.returns
  have hts := atoms_spec (ws := wsX2_read) B.pre
  have hown : s.vm.findClass RX2 = some m.cls := findClass_of_methodNamed B.named
  have hlocks : meth.locks = false := B.notSynchronized
  refine z_entry hav (Nat.le_of_ble_eq_true rfl) rfl (fun ls hl => ?_)
  have hl : lv_has ls 2 [(0, .ref ra), (1, .int (zI (i)))] := hl
  refine lv_iload_n hx hb dX2_read_0 rfl (lv_at hl 1 rfl) ?_
  refine z_if_lt (tgt := 16) hx hb (by omega) dX2_read_1 (by decide) (fun c_1 => ?_) (fun c_1 => ?_)
  · exfalso; omega
  · refine lv_iload_n hx hb dX2_read_4 rfl (lv_at hl 1 rfl) ?_
    refine lv_aload_n hx hb dX2_read_5 rfl (lv_at hl 0 rfl) ?_
    refine va_alen (D := D) hx hb hK hP 0 0 rfl rfl (v := zI n) rfl dX2_read_6 ?_
    refine z_icmp_ge (tgt := 16) hx hb (by omega) dX2_read_7 (by decide) (fun c_2 => ?_) (fun c_2 => ?_)
    · exfalso; omega
    · refine lv_aload_n hx hb dX2_read_10 rfl (lv_at hl 0 rfl) ?_
      refine lv_iload_n hx hb dX2_read_11 rfl (lv_at hl 1 rfl) ?_
      refine z_iald (x := x) (D := D) hx hb hK hP 0 0 rfl rfl (by omega) (by omega) (hv) dX2_read_12 ?_
      refine lv_goto (tgt := 17) hx hb dX2_read_13 (by decide) ?_
      exact z_rret hx hb hr hlocks (rfl) dX2_read_17

set_option maxHeartbeats 4000000 in
set_option maxRecDepth 100000 in
theorem kX2_write (l : Launch) (D : va_G) (G : Nat → ClassId) (ra n : Nat) (cn : Nat → Int32) (i : Int) (x : Int32) (hnd : [ra].Nodup) (hi : 0 ≤ i ∧ i < (n : Int)) (hn : n ≤ 100000) : Met l yX2_write wsX2_write ({ frames := 0, cells := 0, slots := 0, locals := 0 }) (zP [.ref ra, .int (zI (i)), .int (x)] D G (fun H => va_P D vwCl [(ra, .inl (G 0, n, .inl (cn)))] H)) (zM none (fun H => va_P D vwCl [(ra, .inl (G 0, n, .inl (upd cn i.toNat x)))] H) (zA [ra])) 0 0 (zA [ra]) := by
  refine Met.ofW (cc := cX2_write) (maxL := 3) (ret := none) (by decide) rfl ?_
  intro p e s m args below meth c s₁ B hml hv
  obtain ⟨hav, hP, hK, hN⟩ := hv
  have hx := B.exec
  have hb := B.bytes
  have hr := B.returns
  have hts := atoms_spec (ws := wsX2_write) B.pre
  have hown : s.vm.findClass RX2 = some m.cls := findClass_of_methodNamed B.named
  have hlocks : meth.locks = false := B.notSynchronized
  have hS : va_S (zA [ra]) s.heap s.heap [] := va_S.rf
  have hnd' := hnd
  simp only [List.nodup_cons, List.mem_cons, List.not_mem_nil, or_false, List.nodup_nil, and_true, not_or, not_false_eq_true] at hnd'
  have hD : va_D (zA [ra]) [(ra, .inl (G 0, n, .inl (cn)))] := z_Dof hnd rfl
  refine z_entry hav (Nat.le_of_ble_eq_true rfl) rfl (fun ls hl => ?_)
  have hl : lv_has ls 3 [(0, .ref ra), (1, .int (zI (i))), (2, .int (x))] := hl
  refine lv_iload_n hx hb dX2_write_0 rfl (lv_at hl 1 rfl) ?_
  refine z_if_lt (tgt := 14) hx hb (by omega) dX2_write_1 (by decide) (fun c_1 => ?_) (fun c_1 => ?_)
  · exfalso; omega
  · refine lv_iload_n hx hb dX2_write_4 rfl (lv_at hl 1 rfl) ?_
    refine lv_aload_n hx hb dX2_write_5 rfl (lv_at hl 0 rfl) ?_
    refine va_alen (D := D) hx hb hK hP 0 0 rfl rfl (v := zI n) rfl dX2_write_6 ?_
    refine z_icmp_ge (tgt := 14) hx hb (by omega) dX2_write_7 (by decide) (fun c_2 => ?_) (fun c_2 => ?_)
    · exfalso; omega
    · refine lv_aload_n hx hb dX2_write_10 rfl (lv_at hl 0 rfl) ?_
      refine lv_iload_n hx hb dX2_write_11 rfl (lv_at hl 1 rfl) ?_
      refine lv_iload_n hx hb dX2_write_12 rfl (lv_at hl 2 rfl) ?_
      refine z_iast (D := D) hx hb hK hP hD hS 0 0 rfl rfl (by omega) (by omega) dX2_write_13 (fun H locs hP hD hS => ?_)
      have hP : va_P D vwCl [(ra, .inl (G 0, n, .inl (upd (cn) (i).toNat ((x)))))] H := hP
      have hD : va_D (zA [ra]) [(ra, .inl (G 0, n, .inl (upd (cn) (i).toNat ((x)))))] := hD
      exact zm_vret hx hb hr hlocks hS (hP) dX2_write_14

set_option maxHeartbeats 4000000 in
set_option maxRecDepth 100000 in
theorem kX2_mix (l : Launch) (D : va_G) (G : Nat → ClassId) (a x : Int64)  : Met l yX2_mix wsX2_mix ({ frames := 0, cells := 0, slots := 0, locals := 0 }) (zP [.long (a), .long (x)] D G (fun H => True)) (zQ (some (.long (a * 31 + x)))) 0 0 (fun _ => False) := by
  refine Met.ofW (cc := cX2_mix) (maxL := 4) (ret := (some .long)) (by decide) rfl ?_
  intro p e s m args below meth c s₁ B hml hv
  obtain ⟨hav, hP, hK, hN⟩ := hv
  have hx := B.exec
  have hb := B.bytes
  have hr := B.returns
  have hts := atoms_spec (ws := wsX2_mix) B.pre
  have hown : s.vm.findClass RX2 = some m.cls := findClass_of_methodNamed B.named
  have hlocks : meth.locks = false := B.notSynchronized
  refine z_entry hav (Nat.le_of_ble_eq_true rfl) rfl (fun ls hl => ?_)
  have hl : lv_has ls 4 [(0, .long (a)), (2, .long (x))] := hl
  refine lv_lload_n hx hb dX2_mix_0 rfl (lv_at hl 0 rfl) ?_
  refine lv_ldc2 (v := 31) hx hb hown (hts (.constantLong RX2 250 (31)) (by decide +kernel)) dX2_mix_1 ?_
  refine lv_lmul hx hb dX2_mix_4 ?_
  refine lv_lload_n hx hb dX2_mix_5 rfl (lv_at hl 1 rfl) ?_
  refine lv_ladd hx hb dX2_mix_6 ?_
  exact z_lret hx hb hr hlocks (rfl) dX2_mix_7

set_option maxHeartbeats 4000000 in
set_option maxRecDepth 100000 in
theorem kX2_greatestCommonDivisor (l : Launch) (D : va_G) (G : Nat → ClassId) (a b : Nat) (ha : a < 4611686018427387904) (hb0 : b < 4611686018427387904) : Met l yX2_greatestCommonDivisor wsX2_greatestCommonDivisor ({ frames := 0, cells := 0, slots := 0, locals := 0 }) (zP [.long (lN (a)), .long (lN (b))] D G (fun H => True)) (zQ (some (.long (lN (Nat.gcd a b))))) 0 0 (fun _ => False) := by
  refine Met.ofW (cc := cX2_greatestCommonDivisor) (maxL := 11) (ret := (some .long)) (by decide) rfl ?_
  intro p e s m args below meth c s₁ B hml hv
  obtain ⟨hav, hP, hK, hN⟩ := hv
  have hx := B.exec
  have hb := B.bytes
  have hr := B.returns
  have hts := atoms_spec (ws := wsX2_greatestCommonDivisor) B.pre
  have hown : s.vm.findClass RX2 = some m.cls := findClass_of_methodNamed B.named
  have hlocks : meth.locks = false := B.notSynchronized
  refine z_entry hav (Nat.le_of_ble_eq_true rfl) rfl (fun ls hl => ?_)
  have hl : lv_has ls 11 [(0, .long (lN (a))), (2, .long (lN (b)))] := hl
  refine lv_lload_n hx hb dX2_greatestCommonDivisor_0 rfl (lv_at hl 0 rfl) ?_
  refine lv_lstore (lv' := [(4, .long (lN (a))), (0, .long (lN (a))), (2, .long (lN (b)))]) hx hb dX2_greatestCommonDivisor_1 hl (by decide) rfl (fun ls hl => ?_)
  refine lv_lload_n hx hb dX2_greatestCommonDivisor_3 rfl (lv_at hl 2 rfl) ?_
  refine lv_lstore (lv' := [(6, .long (lN (b))), (4, .long (lN (a))), (0, .long (lN (a))), (2, .long (lN (b)))]) hx hb dX2_greatestCommonDivisor_4 hl (by decide) rfl (fun ls hl => ?_)
  refine lv_iconst (v := zI (0)) hx hb dX2_greatestCommonDivisor_6 rfl ?_
  refine lv_istore (lv' := [(8, .int (zI (0))), (6, .long (lN (b))), (4, .long (lN (a))), (0, .long (lN (a))), (2, .long (lN (b)))]) hx hb dX2_greatestCommonDivisor_7 hl (by decide) rfl (fun ls hl => ?_)
  have loop_9 : ∀ (fu : Nat) (x : Nat) (y : Nat) (t : Nat) (i : Int), (Nat.gcd x y = Nat.gcd a b) → (x < 4611686018427387904) → (y < 4611686018427387904) → (0 ≤ i) → (x * y < 2 ^ t) → ((y ≤ x ∧ i + (t : Int) ≤ 131) ∨ i + (t : Int) ≤ 130) → (131 : Int) - i < (fu : Int) → ∀ (ls : Array Slot), lv_has ls 11 [(4, .long (lN (x))), (6, .long (lN (y))), (8, .int (zI (i)))] → W p l e (headSpec wsX2_greatestCommonDivisor ({ frames := 0, cells := 0, slots := 0, locals := 0 })).room s m args below meth c s.heap [] 0 0 (MQ below (zQ (some (.long (lN (Nat.gcd a b))))) args s 0 0 (fun _ => False)) (F0 m 9 ls []) := by
    intro fu
    induction fu with
    | zero =>
      intro x y t i hg hx1 hy1 hi0 ht hor hm
      exfalso; omega
    | succ fu ih =>
      intro x y t i hg hx1 hy1 hi0 ht hor hm ls hl
      have ih_9 := ih
      refine lv_iload hx hb dX2_greatestCommonDivisor_9 (lv_at hl 2 rfl) ?_
      refine lv_ldc (v := 1000000) hx hb hown (hts (.constant RX2 246 (1000000)) (by decide +kernel)) dX2_greatestCommonDivisor_11 ?_
      refine z_raw (y := zI 1000000) (by decide) ?_
      refine z_icmp_ge (tgt := 44) hx hb (by omega) dX2_greatestCommonDivisor_13 (by decide) (fun c_1 => ?_) (fun c_1 => ?_)
      · exfalso; omega
      · refine lv_lload hx hb dX2_greatestCommonDivisor_16 (lv_at hl 1 rfl) ?_
        refine lv_lconst (v := lN 0) hx hb dX2_greatestCommonDivisor_18 (by decide) ?_
        refine W.lcmp hx hb dX2_greatestCommonDivisor_19 ?_
        refine lv_if_le (tgt := 44) hx hb dX2_greatestCommonDivisor_20 (by decide) (fun c_2 => ?_) (fun c_2 => ?_)
        · have hy0 : y = 0 := by have h9 := (lg_cmp_le _ _).mp c_2; rw [pk_lLE (by omega) (by omega)] at h9; omega
          refine lv_lload hx hb dX2_greatestCommonDivisor_44 (lv_at hl 0 rfl) ?_
          exact z_lret hx hb hr hlocks (by subst hy0; rw [Nat.gcd_zero_right] at hg; rw [hg]) dX2_greatestCommonDivisor_46
        · have hy0 : 0 < y := by
            have h9 := mt (lg_cmp_le _ _).mpr c_2
            rw [pk_lLE (by omega) (by omega)] at h9
            omega
          obtain ⟨t', ht', hor'⟩ := x_gcd_t hy0 ht hor
          refine lv_lload hx hb dX2_greatestCommonDivisor_23 (lv_at hl 0 rfl) ?_
          refine lv_lload hx hb dX2_greatestCommonDivisor_25 (lv_at hl 1 rfl) ?_
          refine lv_lrem hx hb dX2_greatestCommonDivisor_27 (by intro q; rw [show (0 : Int64) = lN 0 from rfl, pk_lEQ (by omega) (by omega)] at q; omega) ?_
          refine z_top (w := .long (lN (x % y))) (by rw [pk_lRem (by omega) hy0 (by omega)]) ?_
          refine lv_lstore (lv' := [(9, .long (lN (x % y))), (4, .long (lN (x))), (6, .long (lN (y))), (8, .int (zI (i)))]) hx hb dX2_greatestCommonDivisor_28 hl (by decide) rfl (fun ls hl => ?_)
          refine lv_lload hx hb dX2_greatestCommonDivisor_30 (lv_at hl 2 rfl) ?_
          refine lv_lstore (lv' := [(4, .long (lN (y))), (9, .long (lN (x % y))), (6, .long (lN (y))), (8, .int (zI (i)))]) hx hb dX2_greatestCommonDivisor_32 hl (by decide) rfl (fun ls hl => ?_)
          refine lv_lload hx hb dX2_greatestCommonDivisor_34 (lv_at hl 1 rfl) ?_
          refine lv_lstore (lv' := [(6, .long (lN (x % y))), (4, .long (lN (y))), (9, .long (lN (x % y))), (8, .int (zI (i)))]) hx hb dX2_greatestCommonDivisor_36 hl (by decide) rfl (fun ls hl => ?_)
          refine lv_iinc (v := zI (i + 1)) (lv' := [(8, .int (zI (i + 1))), (6, .long (lN (x % y))), (4, .long (lN (y))), (9, .long (lN (x % y)))]) hx hb dX2_greatestCommonDivisor_38 hl (k := 3) rfl (zI_add (i) (1)) (by decide) rfl (fun ls hl => ?_)
          refine lv_goto (tgt := 9) hx hb dX2_greatestCommonDivisor_41 (by decide) ?_
          exact ih_9 (y) (x % y) (t') (i + 1) (by rw [x_gcd_step]; exact hg) (by omega) (by have := Nat.mod_lt x hy0; omega) (by omega) (ht') (hor') (by omega) _ (lv_sub hl [2, 1, 0] rfl)
  exact loop_9 (132) (a) (b) (124) (0) (rfl) (by omega) (by omega) (by omega) (x_b126 ha hb0) (Or.inr (by omega)) (by omega) ls (lv_sub hl [2, 1, 0] rfl)

set_option maxHeartbeats 4000000 in
set_option maxRecDepth 100000 in
theorem kX2_leastCommonMultiple (l : Launch) (D : va_G) (G : Nat → ClassId) (a b : Nat) (ha : 0 < a ∧ a < 2147483648) (hb0 : 0 < b ∧ b < 2147483648) : Met l yX2_leastCommonMultiple wsX2_leastCommonMultiple ({ frames := 1, cells := 0, slots := 0, locals := 30 }) (zP [.long (lN (a)), .long (lN (b))] D G (fun H => True)) (zQ (some (.long (lN (Nat.lcm a b))))) 0 0 (fun _ => False) := by
  refine Met.ofW (cc := cX2_leastCommonMultiple) (maxL := 6) (ret := (some .long)) (by decide) rfl ?_
  intro p e s m args below meth c s₁ B hml hv
  obtain ⟨hav, hP, hK, hN⟩ := hv
  have hx := B.exec
  have hb := B.bytes
  have hr := B.returns
  have hts := atoms_spec (ws := wsX2_leastCommonMultiple) B.pre
  have hown : s.vm.findClass RX2 = some m.cls := findClass_of_methodNamed B.named
  have hlocks : meth.locks = false := B.notSynchronized
  have hg0 : 0 < Nat.gcd a b := Nat.gcd_pos_of_pos_left b ha.1
  have hg1 : Nat.gcd a b ≤ a := Nat.gcd_le_left b ha.1
  refine z_entry hav (Nat.le_of_ble_eq_true rfl) rfl (fun ls hl => ?_)
  have hl : lv_has ls 6 [(0, .long (lN (a))), (2, .long (lN (b)))] := hl
  refine lv_lload_n hx hb dX2_leastCommonMultiple_0 rfl (lv_at hl 0 rfl) ?_
  refine lv_lload_n hx hb dX2_leastCommonMultiple_1 rfl (lv_at hl 1 rfl) ?_
  refine z_call (va_runS (As := [.long (lN (a)), .long (lN (b))]) (rest := []) ⟨hx, hb, hml, hown, hts⟩ (kX2_greatestCommonDivisor l D G (a) (b) (by omega) (by omega)) (va_cwS 2 hts gX2_leastCommonMultiple_X2_greatestCommonDivisor rfl rfl rfl (by decide +kernel) ⟨Nat.le_of_ble_eq_true rfl, Nat.le_of_ble_eq_true rfl⟩) (zPreS hK hN (trivial)) rfl rfl hl.1 rfl (lv_room (Nat.le_of_ble_eq_true rfl)) dX2_leastCommonMultiple_2 ⟨Nat.le_of_ble_eq_true rfl, Nat.le_of_ble_eq_true rfl⟩) ?_
  refine lv_lstore (lv' := [(4, .long (lN (Nat.gcd (a) (b)))), (0, .long (lN (a))), (2, .long (lN (b)))]) hx hb dX2_leastCommonMultiple_5 hl (by decide) rfl (fun ls hl => ?_)
  refine lv_lload hx hb dX2_leastCommonMultiple_7 (lv_at hl 0 rfl) ?_
  refine lv_lconst (v := lN 0) hx hb dX2_leastCommonMultiple_9 (by decide) ?_
  refine W.lcmp hx hb dX2_leastCommonMultiple_10 ?_
  refine lv_if_le (tgt := 23) hx hb dX2_leastCommonMultiple_11 (by decide) (fun c_1 => ?_) (fun c_1 => ?_)
  · exfalso; have h9 := (lg_cmp_le _ _).mp c_1; rw [pk_lLE (by omega) (by omega)] at h9; omega
  · refine lv_lload_n hx hb dX2_leastCommonMultiple_14 rfl (lv_at hl 1 rfl) ?_
    refine lv_lload hx hb dX2_leastCommonMultiple_15 (lv_at hl 0 rfl) ?_
    refine lv_ldiv hx hb dX2_leastCommonMultiple_17 (by intro q; rw [show (0 : Int64) = lN 0 from rfl, pk_lEQ (by omega) (by omega)] at q; omega) ?_
    refine z_top (w := .long (lN (a / Nat.gcd a b))) (by rw [pk_lDiv (by omega) hg0 (by omega)]) ?_
    refine lv_lload_n hx hb dX2_leastCommonMultiple_18 rfl (lv_at hl 2 rfl) ?_
    refine lv_lmul hx hb dX2_leastCommonMultiple_19 ?_
    refine z_top (w := .long (lN (Nat.lcm a b))) (by rw [lN_mul, x_lcm ha.1]) ?_
    refine lv_goto (tgt := 24) hx hb dX2_leastCommonMultiple_20 (by decide) ?_
    exact z_lret hx hb hr hlocks (rfl) dX2_leastCommonMultiple_24

set_option maxHeartbeats 4000000 in
set_option maxRecDepth 100000 in
theorem kX3_divisor (l : Launch) (D : va_G) (G : Nat → ClassId) (a b : Nat) (ha : a < 4611686018427387904) (hb0 : b < 4611686018427387904) : Met l yX3_divisor wsX3_divisor ({ frames := 0, cells := 0, slots := 0, locals := 0 }) (zP [.long (lN (a)), .long (lN (b))] D G (fun H => True)) (zQ (some (.long (lN (Nat.gcd a b))))) 0 0 (fun _ => False) := by
  refine Met.ofW (cc := cX3_divisor) (maxL := 10) (ret := (some .long)) (by decide) rfl ?_
  intro p e s m args below meth c s₁ B hml hv
  obtain ⟨hav, hP, hK, hN⟩ := hv
  have hx := B.exec
  have hb := B.bytes
  have hr := B.returns
  have hts := atoms_spec (ws := wsX3_divisor) B.pre
  have hown : s.vm.findClass RX3 = some m.cls := findClass_of_methodNamed B.named
  have hlocks : meth.locks = false := B.notSynchronized
  refine z_entry hav (Nat.le_of_ble_eq_true rfl) rfl (fun ls hl => ?_)
  have hl : lv_has ls 10 [(0, .long (lN (a))), (2, .long (lN (b)))] := hl
  refine lv_lload_n hx hb dX3_divisor_0 rfl (lv_at hl 0 rfl) ?_
  refine lv_lstore (lv' := [(4, .long (lN (a))), (0, .long (lN (a))), (2, .long (lN (b)))]) hx hb dX3_divisor_1 hl (by decide) rfl (fun ls hl => ?_)
  refine lv_lload_n hx hb dX3_divisor_3 rfl (lv_at hl 2 rfl) ?_
  refine lv_lstore (lv' := [(6, .long (lN (b))), (4, .long (lN (a))), (0, .long (lN (a))), (2, .long (lN (b)))]) hx hb dX3_divisor_4 hl (by decide) rfl (fun ls hl => ?_)
  have loop_6 : ∀ (fu : Nat) (x : Nat) (y : Nat), (Nat.gcd x y = Nat.gcd a b) → (x < 4611686018427387904) → (y < 4611686018427387904) → (y : Int) < (fu : Int) → ∀ (ls : Array Slot), lv_has ls 10 [(4, .long (lN (x))), (6, .long (lN (y)))] → W p l e (headSpec wsX3_divisor ({ frames := 0, cells := 0, slots := 0, locals := 0 })).room s m args below meth c s.heap [] 0 0 (MQ below (zQ (some (.long (lN (Nat.gcd a b))))) args s 0 0 (fun _ => False)) (F0 m 6 ls []) := by
    intro fu
    induction fu with
    | zero =>
      intro x y hg hx1 hy1 hm
      exfalso; omega
    | succ fu ih =>
      intro x y hg hx1 hy1 hm ls hl
      have ih_6 := ih
      refine lv_lload hx hb dX3_divisor_6 (lv_at hl 1 rfl) ?_
      refine lv_lconst (v := lN 0) hx hb dX3_divisor_8 (by decide) ?_
      refine W.lcmp hx hb dX3_divisor_9 ?_
      refine lv_if_eq (tgt := 31) hx hb dX3_divisor_10 (by decide) (fun c_1 => ?_) (fun c_1 => ?_)
      · have hy0 : y = 0 := by have h9 := (lg_cmp_eq _ _).mp c_1; rw [pk_lEQ (by omega) (by omega)] at h9; omega
        refine lv_lload hx hb dX3_divisor_31 (lv_at hl 0 rfl) ?_
        exact z_lret hx hb hr hlocks (by subst hy0; rw [Nat.gcd_zero_right] at hg; rw [hg]) dX3_divisor_33
      · have hy0 : 0 < y := by
          have h9 := mt (lg_cmp_eq _ _).mpr c_1
          rw [pk_lEQ (by omega) (by omega)] at h9
          omega
        refine lv_lload hx hb dX3_divisor_13 (lv_at hl 0 rfl) ?_
        refine lv_lload hx hb dX3_divisor_15 (lv_at hl 1 rfl) ?_
        refine lv_lrem hx hb dX3_divisor_17 (by intro q; rw [show (0 : Int64) = lN 0 from rfl, pk_lEQ (by omega) (by omega)] at q; omega) ?_
        refine z_top (w := .long (lN (x % y))) (by rw [pk_lRem (by omega) hy0 (by omega)]) ?_
        refine lv_lstore (lv' := [(8, .long (lN (x % y))), (4, .long (lN (x))), (6, .long (lN (y)))]) hx hb dX3_divisor_18 hl (by decide) rfl (fun ls hl => ?_)
        refine lv_lload hx hb dX3_divisor_20 (lv_at hl 2 rfl) ?_
        refine lv_lstore (lv' := [(4, .long (lN (y))), (8, .long (lN (x % y))), (6, .long (lN (y)))]) hx hb dX3_divisor_22 hl (by decide) rfl (fun ls hl => ?_)
        refine lv_lload hx hb dX3_divisor_24 (lv_at hl 1 rfl) ?_
        refine lv_lstore (lv' := [(6, .long (lN (x % y))), (4, .long (lN (y))), (8, .long (lN (x % y)))]) hx hb dX3_divisor_26 hl (by decide) rfl (fun ls hl => ?_)
        refine lv_goto (tgt := 6) hx hb dX3_divisor_28 (by decide) ?_
        exact ih_6 (y) (x % y) (by rw [x_gcd_step]; exact hg) (by omega) (by have := Nat.mod_lt x hy0; omega) (by have := Nat.mod_lt x hy0; omega) _ (lv_sub hl [1, 0] rfl)
  exact loop_6 (b + 1) (a) (b) (rfl) (by omega) (by omega) (by omega) ls (lv_sub hl [1, 0] rfl)
