set_option maxHeartbeats 4000000 in
set_option maxRecDepth 100000 in
theorem kX1_cell (l : Launch) (D : va_G) (G : Nat → ClassId) (ta ca pa : Nat) (f : Nat → Int) (cn : Nat → Int32) (k w : Int) (hf : f 0 ≤ 32) (hR : TR f cn) (hs : 0 ≤ k ∧ k < f 0) (hw : 0 ≤ w ∧ w < 4) : Met l yX1_cell wsX1_cell ({ frames := 1, cells := 0, slots := 0, locals := 21 }) (zP [.ref ta, .int (zI (k)), .int (zI (w))] D G (fun H => va_P D vwCl [(ta, .inr (1, [.int (zI (f 1)), .int (zI (f 0)), .int (zI (f 2)), .int (zI (f 3)), .int (zI (f 4)), .int (zI (f 5)), .int (zI (f 6)), .int (zI (f 7)), .ref ca, .ref pa])), (ca, .inl (G 0, 128, .inl (cn)))] H)) (zQ (some (.int (zI (xC f k w))))) 0 0 (fun _ => False) := by
  refine Met.ofW (cc := cX1_cell) (maxL := 3) (ret := (some .int)) (by decide) rfl ?_
  intro p e s m args below meth c s₁ B hml hv
  obtain ⟨hav, hP, hK, hN⟩ := hv
  have hx := B.exec
  have hb := B.bytes
  have hr := B.returns
  have hts := atoms_spec (ws := wsX1_cell) B.pre
  have hown : s.vm.findClass RX1 = some m.cls := findClass_of_methodNamed B.named
  have hlocks : meth.locks = false := B.notSynchronized
  have hin1 : ∀ w ∈ u_ws RX1 TX1 10, w ∈ wsX1_cell := by decide +kernel
  refine z_entry hav (Nat.le_of_ble_eq_true rfl) rfl (fun ls hl => ?_)
  have hl : lv_has ls 3 [(0, .ref ta), (1, .int (zI (k))), (2, .int (zI (w)))] := hl
  refine lv_aload_n hx hb dX1_cell_0 rfl (lv_at hl 0 rfl) ?_
  refine va_get (D := D) (ci := 1) (v := .ref ca) (C := RX1) (T := TX1) (N := 10) hx hb hts hin1 hown hK hP 0 rfl rfl 8 (by decide) (hts (.fieldLink RX1 31 "PolyDrums$Track" "cells" "[I") (by decide +kernel)) (fun _ h9 => h9) rfl dX1_cell_1 ?_
  refine lv_iload_n hx hb dX1_cell_4 rfl (lv_at hl 1 rfl) ?_
  refine lv_iconst (v := zI (4)) hx hb dX1_cell_5 rfl ?_
  refine z_imul hx hb dX1_cell_6 ?_
  refine lv_iload_n hx hb dX1_cell_7 rfl (lv_at hl 2 rfl) ?_
  refine z_iadd hx hb dX1_cell_8 ?_
  refine z_call (va_runSN (As := [.ref ca, .int (zI (((k) * (4)) + (w)))]) (rest := []) ⟨hx, hb, hml, hown, hts⟩ (kX2_read l D G ca 128 cn (((k) * (4)) + (w)) (zI (xC f k w)) (by omega) (by omega) (by rw [show k * 4 + w = 4 * k + w by omega]; exact hR k w hs.1 hs.2 hw.1 hw.2)) ⟨va_cnB 2 hts gX1_cell_X2_read_n48 rfl rfl rfl (hN.1 (RX1, 48, yX2_read) (by decide +kernel)) (hts (.initialized RX2) (by decide +kernel)) (by decide +kernel) ⟨Nat.le_of_ble_eq_true rfl, Nat.le_of_ble_eq_true rfl⟩, hts (.static yX2_read) (by decide +kernel), trivial⟩ (zPreS hK hN (hP.sub [1] rfl)) rfl rfl hl.1 rfl (lv_room (Nat.le_of_ble_eq_true rfl)) dX1_cell_9 ⟨Nat.le_of_ble_eq_true rfl, Nat.le_of_ble_eq_true rfl⟩) ?_
  exact z_iret hx hb hr hlocks (by first | rfl | omega) dX1_cell_12

set_option maxHeartbeats 4000000 in
set_option maxRecDepth 100000 in
theorem kX1_delay (l : Launch) (D : va_G) (G : Nat → ClassId) (ta ca pa : Nat) (f : Nat → Int) (k : Int) (hs : 0 ≤ k ∧ k ≤ 1000) : Met l yX1_delay wsX1_delay ({ frames := 0, cells := 0, slots := 0, locals := 0 }) (zP [.ref ta, .int (zI (k))] D G (fun H => va_P D vwCl [(ta, .inr (1, [.int (zI (f 1)), .int (zI (f 0)), .int (zI (f 2)), .int (zI (f 3)), .int (zI (f 4)), .int (zI (f 5)), .int (zI (f 6)), .int (zI (f 7)), .ref ca, .ref pa]))] H)) (zQ (some (.int (zI (xDelay f k))))) 0 0 (fun _ => False) := by
  refine Met.ofW (cc := cX1_delay) (maxL := 2) (ret := (some .int)) (by decide) rfl ?_
  intro p e s m args below meth c s₁ B hml hv
  obtain ⟨hav, hP, hK, hN⟩ := hv
  have hx := B.exec
  have hb := B.bytes
  have hr := B.returns
  have hts := atoms_spec (ws := wsX1_delay) B.pre
  have hown : s.vm.findClass RX1 = some m.cls := findClass_of_methodNamed B.named
  have hlocks : meth.locks = false := B.notSynchronized
  have hin1 : ∀ w ∈ u_ws RX1 TX1 10, w ∈ wsX1_delay := by decide +kernel
  refine z_entry hav (Nat.le_of_ble_eq_true rfl) rfl (fun ls hl => ?_)
  have hl : lv_has ls 2 [(0, .ref ta), (1, .int (zI (k)))] := hl
  refine lv_iload_n hx hb dX1_delay_0 rfl (lv_at hl 1 rfl) ?_
  refine lv_iconst (v := zI (2)) hx hb dX1_delay_1 rfl ?_
  refine z_irem hx hb (by omega) dX1_delay_2 ?_
  refine lv_iconst (v := zI (1)) hx hb dX1_delay_3 rfl ?_
  refine z_icmp_ne (tgt := 14) hx hb (by omega) dX1_delay_4 (by decide) (fun c_1 => ?_) (fun c_1 => ?_)
  · refine lv_iconst (v := zI (0)) hx hb dX1_delay_14 rfl ?_
    exact z_iret hx hb hr hlocks (by unfold xDelay; rw [if_neg (by omega)]) dX1_delay_15
  · refine lv_aload_n hx hb dX1_delay_7 rfl (lv_at hl 0 rfl) ?_
    refine va_get (D := D) (ci := 1) (v := .int (zI (f 2))) (C := RX1) (T := TX1) (N := 10) hx hb hts hin1 hown hK hP 0 rfl rfl 2 (by decide) (hts (.fieldLink RX1 9 "PolyDrums$Track" "swing" "I") (by decide +kernel)) (fun _ h9 => h9) rfl dX1_delay_8 ?_
    refine lv_goto (tgt := 15) hx hb dX1_delay_11 (by decide) ?_
    exact z_iret hx hb hr hlocks (by unfold xDelay; rw [if_pos (by omega)]) dX1_delay_15

set_option maxHeartbeats 4000000 in
set_option maxRecDepth 100000 in
theorem kX1_roundTicks (l : Launch) (D : va_G) (G : Nat → ClassId) (ta ca pa : Nat) (f : Nat → Int)  : Met l yX1_roundTicks wsX1_roundTicks ({ frames := 0, cells := 0, slots := 0, locals := 0 }) (zP [.ref ta] D G (fun H => va_P D vwCl [(ta, .inr (1, [.int (zI (f 1)), .int (zI (f 0)), .int (zI (f 2)), .int (zI (f 3)), .int (zI (f 4)), .int (zI (f 5)), .int (zI (f 6)), .int (zI (f 7)), .ref ca, .ref pa]))] H)) (zQ (some (.int (zI (f 0 * f 1))))) 0 0 (fun _ => False) := by
  refine Met.ofW (cc := cX1_roundTicks) (maxL := 1) (ret := (some .int)) (by decide) rfl ?_
  intro p e s m args below meth c s₁ B hml hv
  obtain ⟨hav, hP, hK, hN⟩ := hv
  have hx := B.exec
  have hb := B.bytes
  have hr := B.returns
  have hts := atoms_spec (ws := wsX1_roundTicks) B.pre
  have hown : s.vm.findClass RX1 = some m.cls := findClass_of_methodNamed B.named
  have hlocks : meth.locks = false := B.notSynchronized
  have hin1 : ∀ w ∈ u_ws RX1 TX1 10, w ∈ wsX1_roundTicks := by decide +kernel
  refine z_entry hav (Nat.le_of_ble_eq_true rfl) rfl (fun ls hl => ?_)
  have hl : lv_has ls 1 [(0, .ref ta)] := hl
  refine lv_aload_n hx hb dX1_roundTicks_0 rfl (lv_at hl 0 rfl) ?_
  refine va_get (D := D) (ci := 1) (v := .int (zI (f 0))) (C := RX1) (T := TX1) (N := 10) hx hb hts hin1 hown hK hP 0 rfl rfl 1 (by decide) (hts (.fieldLink RX1 38 "PolyDrums$Track" "steps" "I") (by decide +kernel)) (fun _ h9 => h9) rfl dX1_roundTicks_1 ?_
  refine lv_aload_n hx hb dX1_roundTicks_4 rfl (lv_at hl 0 rfl) ?_
  refine va_get (D := D) (ci := 1) (v := .int (zI (f 1))) (C := RX1) (T := TX1) (N := 10) hx hb hts hin1 hown hK hP 0 rfl rfl 0 (by decide) (hts (.fieldLink RX1 41 "PolyDrums$Track" "stepTicks" "I") (by decide +kernel)) (fun _ h9 => h9) rfl dX1_roundTicks_5 ?_
  refine z_imul hx hb dX1_roundTicks_8 ?_
  exact z_iret hx hb hr hlocks (by first | rfl | omega) dX1_roundTicks_9

set_option maxHeartbeats 4000000 in
set_option maxRecDepth 100000 in
theorem kX1_isStroke (l : Launch) (D : va_G) (G : Nat → ClassId) (t span r : Int) (ht : -1000 ≤ t ∧ t ≤ 100000) (hsp : 0 ≤ span ∧ span ≤ 48) (hr4 : 1 ≤ r ∧ r ≤ 4) : Met l yX1_isStroke wsX1_isStroke ({ frames := 1, cells := 0, slots := 0, locals := 21 }) (zP [.int (zI (t)), .int (zI (span)), .int (zI (r))] D G (fun H => True)) (zQ (some (.int (zB (xStroke t span r))))) 0 0 (fun _ => False) := by
  refine Met.ofW (cc := cX1_isStroke) (maxL := 4) (ret := (some .boolean)) (by decide) rfl ?_
  intro p e s m args below meth c s₁ B hml hv
  obtain ⟨hav, hP, hK, hN⟩ := hv
  have hx := B.exec
  have hb := B.bytes
  have hr := B.returns
  have hts := atoms_spec (ws := wsX1_isStroke) B.pre
  have hown : s.vm.findClass RX1 = some m.cls := findClass_of_methodNamed B.named
  have hlocks : meth.locks = false := B.notSynchronized
  refine z_entry hav (Nat.le_of_ble_eq_true rfl) rfl (fun ls hl => ?_)
  have hl : lv_has ls 4 [(0, .int (zI (t))), (1, .int (zI (span))), (2, .int (zI (r)))] := hl
  refine lv_iconst (v := zI (0)) hx hb dX1_isStroke_0 rfl ?_
  refine lv_istore_n (lv' := [(3, .int (zI (0))), (0, .int (zI (t))), (1, .int (zI (span))), (2, .int (zI (r)))]) hx hb dX1_isStroke_1 rfl hl (by decide) rfl (fun ls hl => ?_)
  have loop_2 : ∀ (fu : Nat) (i : Int), (0 ≤ i ∧ i ≤ r) → (∀ j : Int, 0 ≤ j → j < i → ¬ t = j * span / r) → r - i < (fu : Int) → ∀ (ls : Array Slot), lv_has ls 4 [(0, .int (zI (t))), (1, .int (zI (span))), (2, .int (zI (r))), (3, .int (zI (i)))] → W p l e (headSpec wsX1_isStroke ({ frames := 1, cells := 0, slots := 0, locals := 21 })).room s m args below meth c s.heap [] 0 0 (MQ below (zQ (some (.int (zB (xStroke t span r))))) args s 0 0 (fun _ => False)) (F0 m 2 ls []) := by
    intro fu
    induction fu with
    | zero =>
      intro i hi0 hno hm
      exfalso; omega
    | succ fu ih =>
      intro i hi0 hno hm ls hl
      have hm := x_mulb 4 48 hi0.1 (by omega) hsp.1 hsp.2
      have hq := x_divb (r := r) hm.1 (by omega)
      have ih_2 := ih
      refine lv_iload_n hx hb dX1_isStroke_2 rfl (lv_at hl 3 rfl) ?_
      refine lv_iload_n hx hb dX1_isStroke_3 rfl (lv_at hl 2 rfl) ?_
      refine z_icmp_ge (tgt := 26) hx hb (by omega) dX1_isStroke_4 (by decide) (fun c_1 => ?_) (fun c_1 => ?_)
      · refine lv_iconst (v := zI (0)) hx hb dX1_isStroke_26 rfl ?_
        exact z_zretF hx hb hr hlocks (fun ⟨j, h1, h2, h3⟩ => hno j h1 (by omega) h3) dX1_isStroke_27
      · refine lv_iload_n hx hb dX1_isStroke_7 rfl (lv_at hl 0 rfl) ?_
        refine lv_iload_n hx hb dX1_isStroke_8 rfl (lv_at hl 3 rfl) ?_
        refine lv_iload_n hx hb dX1_isStroke_9 rfl (lv_at hl 1 rfl) ?_
        refine z_imul hx hb dX1_isStroke_10 ?_
        refine lv_iload_n hx hb dX1_isStroke_11 rfl (lv_at hl 2 rfl) ?_
        refine z_call (va_runSN (As := [.int (zI ((i) * (span))), .int (zI (r))]) (rest := [.int (zI (t))]) ⟨hx, hb, hml, hown, hts⟩ (kX2_quotient l D G ((i) * (span)) (r) (by omega) (by omega)) ⟨va_cnB 2 hts gX1_isStroke_X2_quotient_n92 rfl rfl rfl (hN.1 (RX1, 92, yX2_quotient) (by decide +kernel)) (hts (.initialized RX2) (by decide +kernel)) (by decide +kernel) ⟨Nat.le_of_ble_eq_true rfl, Nat.le_of_ble_eq_true rfl⟩, hts (.static yX2_quotient) (by decide +kernel), trivial⟩ (zPreS hK hN (trivial)) rfl rfl hl.1 rfl (lv_room (Nat.le_of_ble_eq_true rfl)) dX1_isStroke_12 ⟨Nat.le_of_ble_eq_true rfl, Nat.le_of_ble_eq_true rfl⟩) ?_
        refine z_icmp_ne (tgt := 20) hx hb (by omega) dX1_isStroke_15 (by decide) (fun c_2 => ?_) (fun c_2 => ?_)
        · refine lv_iinc (v := zI (i + 1)) (lv' := [(3, .int (zI (i + 1))), (0, .int (zI (t))), (1, .int (zI (span))), (2, .int (zI (r)))]) hx hb dX1_isStroke_20 hl (k := 3) rfl (zI_add (i) (1)) (by decide) rfl (fun ls hl => ?_)
          refine lv_goto (tgt := 2) hx hb dX1_isStroke_23 (by decide) ?_
          exact ih_2 (i + 1) (by omega) (x_lts hno c_2) (by omega) _ (lv_sub hl [1, 2, 3, 0] rfl)
        · refine lv_iconst (v := zI (1)) hx hb dX1_isStroke_18 rfl ?_
          exact z_zretT hx hb hr hlocks (⟨i, hi0.1, by omega, c_2⟩) dX1_isStroke_19
  exact loop_2 (5) (0) (by omega) (fun j h1 h2 => by omega) (by omega) ls (lv_sub hl [1, 2, 3, 0] rfl)

set_option maxHeartbeats 4000000 in
set_option maxRecDepth 100000 in
theorem kX1_forceAt (l : Launch) (D : va_G) (G : Nat → ClassId) (ta ca pa : Nat) (f : Nat → Int) (cn : Nat → Int32) (u : Int) (hf : TOK f) (hR : TR f cn) (hu : 0 ≤ u ∧ u ≤ 99999) : Met l yX1_forceAt wsX1_forceAt ({ frames := 2, cells := 0, slots := 0, locals := 44 }) (zP [.ref ta, .int (zI (u))] D G (fun H => va_P D vwCl [(ta, .inr (1, [.int (zI (f 1)), .int (zI (f 0)), .int (zI (f 2)), .int (zI (f 3)), .int (zI (f 4)), .int (zI (f 5)), .int (zI (f 6)), .int (zI (f 7)), .ref ca, .ref pa])), (ca, .inl (G 0, 128, .inl (cn)))] H)) (zQ (some (.int (zI (xForce f u))))) 0 0 (fun _ => False) := by
  refine Met.ofW (cc := cX1_forceAt) (maxL := 8) (ret := (some .int)) (by decide) rfl ?_
  intro p e s m args below meth c s₁ B hml hv
  obtain ⟨hav, hP, hK, hN⟩ := hv
  have hx := B.exec
  have hb := B.bytes
  have hr := B.returns
  have hts := atoms_spec (ws := wsX1_forceAt) B.pre
  have hown : s.vm.findClass RX1 = some m.cls := findClass_of_methodNamed B.named
  have hlocks : meth.locks = false := B.notSynchronized
  have hin1 : ∀ w ∈ u_ws RX1 TX1 10, w ∈ wsX1_forceAt := by decide +kernel
  have hr1 := x_round hf
  have hp1 := x_place hf u
  have hd1 := xDelay_b hf (xS f u)
  have hf1 : f 0 ≤ 32 ∧ 1 ≤ f 1 ∧ f 1 ≤ 48 := by unfold TOK at hf; omega
  have hc1 := hf.2.2.2.2.2.2.2.2.2.2.2.2.2 (xS f u) hp1.2.2.1 hp1.2.2.2.1
  have hq1 := x_divb (a := u) (r := f 0 * f 1) hu.1 (by omega)
  have hm1 := x_modb (a := u / (f 0 * f 1)) (r := xC f (xS f u) 3) (by omega)
  refine z_entry hav (Nat.le_of_ble_eq_true rfl) rfl (fun ls hl => ?_)
  have hl : lv_has ls 8 [(0, .ref ta), (1, .int (zI (u)))] := hl
  refine lv_iload_n hx hb dX1_forceAt_0 rfl (lv_at hl 1 rfl) ?_
  refine lv_aload_n hx hb dX1_forceAt_1 rfl (lv_at hl 0 rfl) ?_
  refine z_call (va_runV (As := []) (rest := [.int (zI (u))]) ⟨hx, hb, hml, hown, hts⟩ (kX1_roundTicks l D G ta ca pa f) (cwV 0 hts gX1_forceAt_X1_roundTicks rfl rfl rfl (by decide +kernel) ⟨Nat.le_of_ble_eq_true rfl, Nat.le_of_ble_eq_true rfl⟩) (zPreV (va_recv hK hP (ci := 1) (q0 := 0) rfl rfl) hK hN (hP.sub [0] rfl)) rfl rfl hl.1 rfl (lv_room (Nat.le_of_ble_eq_true rfl)) dX1_forceAt_2 ⟨Nat.le_of_ble_eq_true rfl, Nat.le_of_ble_eq_true rfl⟩) ?_
  refine z_call (va_runSN (As := [.int (zI (u)), .int (zI (f 0 * f 1))]) (rest := []) ⟨hx, hb, hml, hown, hts⟩ (kX2_quotient l D G (u) (f 0 * f 1) (by omega) (by omega)) ⟨va_cnB 2 hts gX1_forceAt_X2_quotient_n92 rfl rfl rfl (hN.1 (RX1, 92, yX2_quotient) (by decide +kernel)) (hts (.initialized RX2) (by decide +kernel)) (by decide +kernel) ⟨Nat.le_of_ble_eq_true rfl, Nat.le_of_ble_eq_true rfl⟩, hts (.static yX2_quotient) (by decide +kernel), trivial⟩ (zPreS hK hN (trivial)) rfl rfl hl.1 rfl (lv_room (Nat.le_of_ble_eq_true rfl)) dX1_forceAt_5 ⟨Nat.le_of_ble_eq_true rfl, Nat.le_of_ble_eq_true rfl⟩) ?_
  refine lv_istore_n (lv' := [(2, .int (zI ((u) / (f 0 * f 1)))), (0, .ref ta), (1, .int (zI (u)))]) hx hb dX1_forceAt_8 rfl hl (by decide) rfl (fun ls hl => ?_)
  refine lv_iload_n hx hb dX1_forceAt_9 rfl (lv_at hl 2 rfl) ?_
  refine lv_aload_n hx hb dX1_forceAt_10 rfl (lv_at hl 1 rfl) ?_
  refine z_call (va_runV (As := []) (rest := [.int (zI (u))]) ⟨hx, hb, hml, hown, hts⟩ (kX1_roundTicks l D G ta ca pa f) (cwV 0 hts gX1_forceAt_X1_roundTicks rfl rfl rfl (by decide +kernel) ⟨Nat.le_of_ble_eq_true rfl, Nat.le_of_ble_eq_true rfl⟩) (zPreV (va_recv hK hP (ci := 1) (q0 := 0) rfl rfl) hK hN (hP.sub [0] rfl)) rfl rfl hl.1 rfl (lv_room (Nat.le_of_ble_eq_true rfl)) dX1_forceAt_11 ⟨Nat.le_of_ble_eq_true rfl, Nat.le_of_ble_eq_true rfl⟩) ?_
  refine z_call (va_runSN (As := [.int (zI (u)), .int (zI (f 0 * f 1))]) (rest := []) ⟨hx, hb, hml, hown, hts⟩ (kX2_rest l D G (u) (f 0 * f 1) (by omega) (by omega)) ⟨va_cnB 2 hts gX1_forceAt_X2_rest_n60 rfl rfl rfl (hN.1 (RX1, 60, yX2_rest) (by decide +kernel)) (hts (.initialized RX2) (by decide +kernel)) (by decide +kernel) ⟨Nat.le_of_ble_eq_true rfl, Nat.le_of_ble_eq_true rfl⟩, hts (.static yX2_rest) (by decide +kernel), trivial⟩ (zPreS hK hN (trivial)) rfl rfl hl.1 rfl (lv_room (Nat.le_of_ble_eq_true rfl)) dX1_forceAt_14 ⟨Nat.le_of_ble_eq_true rfl, Nat.le_of_ble_eq_true rfl⟩) ?_
  refine z_val (y := xP f u) (rfl) ?_
  refine lv_istore_n (lv' := [(3, .int (zI (xP f u))), (2, .int (zI ((u) / (f 0 * f 1)))), (0, .ref ta), (1, .int (zI (u)))]) hx hb dX1_forceAt_17 rfl hl (by decide) rfl (fun ls hl => ?_)
  refine lv_iload_n hx hb dX1_forceAt_18 rfl (lv_at hl 0 rfl) ?_
  refine lv_aload_n hx hb dX1_forceAt_19 rfl (lv_at hl 2 rfl) ?_
  refine va_get (D := D) (ci := 1) (v := .int (zI (f 1))) (C := RX1) (T := TX1) (N := 10) hx hb hts hin1 hown hK hP 0 rfl rfl 0 (by decide) (hts (.fieldLink RX1 41 "PolyDrums$Track" "stepTicks" "I") (by decide +kernel)) (fun _ h9 => h9) rfl dX1_forceAt_20 ?_
  refine z_call (va_runSN (As := [.int (zI (xP f u)), .int (zI (f 1))]) (rest := []) ⟨hx, hb, hml, hown, hts⟩ (kX2_quotient l D G (xP f u) (f 1) (by omega) (by omega)) ⟨va_cnB 2 hts gX1_forceAt_X2_quotient_n92 rfl rfl rfl (hN.1 (RX1, 92, yX2_quotient) (by decide +kernel)) (hts (.initialized RX2) (by decide +kernel)) (by decide +kernel) ⟨Nat.le_of_ble_eq_true rfl, Nat.le_of_ble_eq_true rfl⟩, hts (.static yX2_quotient) (by decide +kernel), trivial⟩ (zPreS hK hN (trivial)) rfl rfl hl.1 rfl (lv_room (Nat.le_of_ble_eq_true rfl)) dX1_forceAt_23 ⟨Nat.le_of_ble_eq_true rfl, Nat.le_of_ble_eq_true rfl⟩) ?_
  refine z_val (y := xS f u) (rfl) ?_
  refine lv_istore (lv' := [(4, .int (zI (xS f u))), (3, .int (zI (xP f u))), (2, .int (zI ((u) / (f 0 * f 1)))), (0, .ref ta), (1, .int (zI (u)))]) hx hb dX1_forceAt_26 hl (by decide) rfl (fun ls hl => ?_)
  refine lv_iload_n hx hb dX1_forceAt_28 rfl (lv_at hl 2 rfl) ?_
  refine lv_aload_n hx hb dX1_forceAt_29 rfl (lv_at hl 3 rfl) ?_
  refine lv_iload hx hb dX1_forceAt_30 (lv_at hl 0 rfl) ?_
  refine lv_iconst (v := zI (3)) hx hb dX1_forceAt_32 rfl ?_
  refine z_call (va_runV (As := [.int (zI (xS f u)), .int (zI (3))]) (rest := [.int (zI ((u) / (f 0 * f 1)))]) ⟨hx, hb, hml, hown, hts⟩ (kX1_cell l D G ta ca pa f cn (xS f u) (3) (by have := hf; unfold TOK at this; omega) hR (by omega) (by omega)) (cwV 2 hts gX1_forceAt_X1_cell rfl rfl rfl (by decide +kernel) ⟨Nat.le_of_ble_eq_true rfl, Nat.le_of_ble_eq_true rfl⟩) (zPreV (va_recv hK hP (ci := 1) (q0 := 0) rfl rfl) hK hN (hP.sub [0, 1] rfl)) rfl rfl hl.1 rfl (lv_room (Nat.le_of_ble_eq_true rfl)) dX1_forceAt_33 ⟨Nat.le_of_ble_eq_true rfl, Nat.le_of_ble_eq_true rfl⟩) ?_
  refine z_call (va_runSN (As := [.int (zI ((u) / (f 0 * f 1))), .int (zI (xC f (xS f u) 3))]) (rest := []) ⟨hx, hb, hml, hown, hts⟩ (kX2_rest l D G ((u) / (f 0 * f 1)) (xC f (xS f u) 3) (by omega) (by omega)) ⟨va_cnB 2 hts gX1_forceAt_X2_rest_n60 rfl rfl rfl (hN.1 (RX1, 60, yX2_rest) (by decide +kernel)) (hts (.initialized RX2) (by decide +kernel)) (by decide +kernel) ⟨Nat.le_of_ble_eq_true rfl, Nat.le_of_ble_eq_true rfl⟩, hts (.static yX2_rest) (by decide +kernel), trivial⟩ (zPreS hK hN (trivial)) rfl rfl hl.1 rfl (lv_room (Nat.le_of_ble_eq_true rfl)) dX1_forceAt_36 ⟨Nat.le_of_ble_eq_true rfl, Nat.le_of_ble_eq_true rfl⟩) ?_
  refine lv_aload_n hx hb dX1_forceAt_39 rfl (lv_at hl 3 rfl) ?_
  refine lv_iload hx hb dX1_forceAt_40 (lv_at hl 0 rfl) ?_
  refine lv_iconst (v := zI (2)) hx hb dX1_forceAt_42 rfl ?_
  refine z_call (va_runV (As := [.int (zI (xS f u)), .int (zI (2))]) (rest := [.int (zI (((u) / (f 0 * f 1)) % (xC f (xS f u) 3)))]) ⟨hx, hb, hml, hown, hts⟩ (kX1_cell l D G ta ca pa f cn (xS f u) (2) (by have := hf; unfold TOK at this; omega) hR (by omega) (by omega)) (cwV 2 hts gX1_forceAt_X1_cell rfl rfl rfl (by decide +kernel) ⟨Nat.le_of_ble_eq_true rfl, Nat.le_of_ble_eq_true rfl⟩) (zPreV (va_recv hK hP (ci := 1) (q0 := 0) rfl rfl) hK hN (hP.sub [0, 1] rfl)) rfl rfl hl.1 rfl (lv_room (Nat.le_of_ble_eq_true rfl)) dX1_forceAt_43 ⟨Nat.le_of_ble_eq_true rfl, Nat.le_of_ble_eq_true rfl⟩) ?_
  refine z_icmp_eq (tgt := 51) hx hb (by omega) dX1_forceAt_46 (by decide) (fun c_1 => ?_) (fun c_1 => ?_)
  · refine lv_aload_n hx hb dX1_forceAt_51 rfl (lv_at hl 3 rfl) ?_
    refine lv_iload hx hb dX1_forceAt_52 (lv_at hl 0 rfl) ?_
    refine z_call (va_runV (As := [.int (zI (xS f u))]) (rest := []) ⟨hx, hb, hml, hown, hts⟩ (kX1_delay l D G ta ca pa f (xS f u) (by omega)) (cwV 1 hts gX1_forceAt_X1_delay rfl rfl rfl (by decide +kernel) ⟨Nat.le_of_ble_eq_true rfl, Nat.le_of_ble_eq_true rfl⟩) (zPreV (va_recv hK hP (ci := 1) (q0 := 0) rfl rfl) hK hN (hP.sub [0] rfl)) rfl rfl hl.1 rfl (lv_room (Nat.le_of_ble_eq_true rfl)) dX1_forceAt_54 ⟨Nat.le_of_ble_eq_true rfl, Nat.le_of_ble_eq_true rfl⟩) ?_
    refine lv_istore (lv' := [(5, .int (zI (xDelay f (xS f u)))), (4, .int (zI (xS f u))), (3, .int (zI (xP f u))), (2, .int (zI ((u) / (f 0 * f 1)))), (0, .ref ta), (1, .int (zI (u)))]) hx hb dX1_forceAt_57 hl (by decide) rfl (fun ls hl => ?_)
    refine lv_iload_n hx hb dX1_forceAt_59 rfl (lv_at hl 2 rfl) ?_
    refine lv_iload hx hb dX1_forceAt_60 (lv_at hl 1 rfl) ?_
    refine lv_aload_n hx hb dX1_forceAt_62 rfl (lv_at hl 4 rfl) ?_
    refine va_get (D := D) (ci := 1) (v := .int (zI (f 1))) (C := RX1) (T := TX1) (N := 10) hx hb hts hin1 hown hK hP 0 rfl rfl 0 (by decide) (hts (.fieldLink RX1 41 "PolyDrums$Track" "stepTicks" "I") (by decide +kernel)) (fun _ h9 => h9) rfl dX1_forceAt_63 ?_
    refine z_imul hx hb dX1_forceAt_66 ?_
    refine z_isub hx hb dX1_forceAt_67 ?_
    refine lv_iload hx hb dX1_forceAt_68 (lv_at hl 0 rfl) ?_
    refine z_isub hx hb dX1_forceAt_70 ?_
    refine lv_istore (lv' := [(6, .int (zI (((xP f u) - ((xS f u) * (f 1))) - (xDelay f (xS f u))))), (5, .int (zI (xDelay f (xS f u)))), (4, .int (zI (xS f u))), (3, .int (zI (xP f u))), (2, .int (zI ((u) / (f 0 * f 1)))), (0, .ref ta), (1, .int (zI (u)))]) hx hb dX1_forceAt_71 hl (by decide) rfl (fun ls hl => ?_)
    refine lv_iload hx hb dX1_forceAt_73 (lv_at hl 0 rfl) ?_
    refine lv_aload_n hx hb dX1_forceAt_75 rfl (lv_at hl 5 rfl) ?_
    refine va_get (D := D) (ci := 1) (v := .int (zI (f 1))) (C := RX1) (T := TX1) (N := 10) hx hb hts hin1 hown hK hP 0 rfl rfl 0 (by decide) (hts (.fieldLink RX1 41 "PolyDrums$Track" "stepTicks" "I") (by decide +kernel)) (fun _ h9 => h9) rfl dX1_forceAt_76 ?_
    refine lv_iload hx hb dX1_forceAt_79 (lv_at hl 1 rfl) ?_
    refine z_isub hx hb dX1_forceAt_81 ?_
    refine lv_aload_n hx hb dX1_forceAt_82 rfl (lv_at hl 5 rfl) ?_
    refine lv_iload hx hb dX1_forceAt_83 (lv_at hl 2 rfl) ?_
    refine lv_iconst (v := zI (1)) hx hb dX1_forceAt_85 rfl ?_
    refine z_call (va_runV (As := [.int (zI (xS f u)), .int (zI (1))]) (rest := [.int (zI ((f 1) - (xDelay f (xS f u)))), .int (zI (((xP f u) - ((xS f u) * (f 1))) - (xDelay f (xS f u))))]) ⟨hx, hb, hml, hown, hts⟩ (kX1_cell l D G ta ca pa f cn (xS f u) (1) (by have := hf; unfold TOK at this; omega) hR (by omega) (by omega)) (cwV 2 hts gX1_forceAt_X1_cell rfl rfl rfl (by decide +kernel) ⟨Nat.le_of_ble_eq_true rfl, Nat.le_of_ble_eq_true rfl⟩) (zPreV (va_recv hK hP (ci := 1) (q0 := 0) rfl rfl) hK hN (hP.sub [0, 1] rfl)) rfl rfl hl.1 rfl (lv_room (Nat.le_of_ble_eq_true rfl)) dX1_forceAt_86 ⟨Nat.le_of_ble_eq_true rfl, Nat.le_of_ble_eq_true rfl⟩) ?_
    refine z_call (va_runS (As := [.int (zI (((xP f u) - ((xS f u) * (f 1))) - (xDelay f (xS f u)))), .int (zI ((f 1) - (xDelay f (xS f u)))), .int (zI (xC f (xS f u) 1))]) (rest := []) ⟨hx, hb, hml, hown, hts⟩ (kX1_isStroke l D G (((xP f u) - ((xS f u) * (f 1))) - (xDelay f (xS f u))) ((f 1) - (xDelay f (xS f u))) (xC f (xS f u) 1) (by omega) (by omega) (by omega)) (va_cwS 3 hts gX1_forceAt_X1_isStroke rfl rfl rfl (by decide +kernel) ⟨Nat.le_of_ble_eq_true rfl, Nat.le_of_ble_eq_true rfl⟩) (zPreS hK hN (trivial)) rfl rfl hl.1 rfl (lv_room (Nat.le_of_ble_eq_true rfl)) dX1_forceAt_89 ⟨Nat.le_of_ble_eq_true rfl, Nat.le_of_ble_eq_true rfl⟩) ?_
    refine lv_istore (lv' := [(7, .int (zB (xStroke (((xP f u) - ((xS f u) * (f 1))) - (xDelay f (xS f u))) ((f 1) - (xDelay f (xS f u))) (xC f (xS f u) 1)))), (6, .int (zI (((xP f u) - ((xS f u) * (f 1))) - (xDelay f (xS f u))))), (5, .int (zI (xDelay f (xS f u)))), (4, .int (zI (xS f u))), (3, .int (zI (xP f u))), (2, .int (zI ((u) / (f 0 * f 1)))), (0, .ref ta), (1, .int (zI (u)))]) hx hb dX1_forceAt_92 hl (by decide) rfl (fun ls hl => ?_)
    refine lv_iload hx hb dX1_forceAt_94 (lv_at hl 0 rfl) ?_
    refine z_eqB (tgt := 109) hx hb dX1_forceAt_96 (by decide) (fun c_2 => ?_) (fun c_2 => ?_)
    · refine lv_iconst (v := zI (0)) hx hb dX1_forceAt_109 rfl ?_
      exact z_iret hx hb hr hlocks ((xForce_f (fun q => c_2 q.2)).symm) dX1_forceAt_110
    · refine lv_aload_n hx hb dX1_forceAt_99 rfl (lv_at hl 6 rfl) ?_
      refine lv_iload hx hb dX1_forceAt_100 (lv_at hl 3 rfl) ?_
      refine lv_iconst (v := zI (0)) hx hb dX1_forceAt_102 rfl ?_
      refine z_call (va_runV (As := [.int (zI (xS f u)), .int (zI (0))]) (rest := []) ⟨hx, hb, hml, hown, hts⟩ (kX1_cell l D G ta ca pa f cn (xS f u) (0) (by have := hf; unfold TOK at this; omega) hR (by omega) (by omega)) (cwV 2 hts gX1_forceAt_X1_cell rfl rfl rfl (by decide +kernel) ⟨Nat.le_of_ble_eq_true rfl, Nat.le_of_ble_eq_true rfl⟩) (zPreV (va_recv hK hP (ci := 1) (q0 := 0) rfl rfl) hK hN (hP.sub [0, 1] rfl)) rfl rfl hl.1 rfl (lv_room (Nat.le_of_ble_eq_true rfl)) dX1_forceAt_103 ⟨Nat.le_of_ble_eq_true rfl, Nat.le_of_ble_eq_true rfl⟩) ?_
      refine lv_goto (tgt := 110) hx hb dX1_forceAt_106 (by decide) ?_
      exact z_iret hx hb hr hlocks ((xForce_t ⟨c_1, c_2⟩).symm) dX1_forceAt_110
  · refine lv_iconst (v := zI (0)) hx hb dX1_forceAt_49 rfl ?_
    exact z_iret hx hb hr hlocks ((xForce_f (fun q => c_1 q.1)).symm) dX1_forceAt_50
