set_option maxHeartbeats 4000000 in
set_option maxRecDepth 100000 in
theorem kX1_mixInto (l : Launch) (D : va_G) (G : Nat → ClassId) (ta ca pa : Nat) (f : Nat → Int) (cn : Nat → Int32) (d : Int64) (hf : TOK f) (hR : TR f cn) : Met l yX1_mixInto wsX1_mixInto ({ frames := 2, cells := 0, slots := 0, locals := 43 }) (zP [.ref ta, .long (d)] D G (fun H => va_P D vwCl [(ta, .inr (1, [.int (zI (f 1)), .int (zI (f 0)), .int (zI (f 2)), .int (zI (f 3)), .int (zI (f 4)), .int (zI (f 5)), .int (zI (f 6)), .int (zI (f 7)), .ref ca, .ref pa])), (ca, .inl (G 0, 128, .inl (cn)))] H)) (zQ (some (.long (xMt f d)))) 0 0 (fun _ => False) := by
  refine Met.ofW (cc := cX1_mixInto) (maxL := 7) (ret := (some .long)) (by decide) rfl ?_
  intro p e s m args below meth c s₁ B hml hv
  obtain ⟨hav, hP, hK, hN⟩ := hv
  have hx := B.exec
  have hb := B.bytes
  have hr := B.returns
  have hts := atoms_spec (ws := wsX1_mixInto) B.pre
  have hown : s.vm.findClass RX1 = some m.cls := findClass_of_methodNamed B.named
  have hlocks : meth.locks = false := B.notSynchronized
  have hin1 : ∀ w ∈ u_ws RX1 TX1 10, w ∈ wsX1_mixInto := by decide +kernel
  have hf1 : 1 ≤ f 0 ∧ f 0 ≤ 32 ∧ (f 5 = 0 ∨ f 5 = 1) ∧ (f 6 = 0 ∨ f 6 = 1) ∧ (f 7 = 0 ∨ f 7 = 1) := by unfold TOK at hf; omega
  refine z_entry hav (Nat.le_of_ble_eq_true rfl) rfl (fun ls hl => ?_)
  have hl : lv_has ls 7 [(0, .ref ta), (1, .long (d))] := hl
  refine lv_lload_n hx hb dX1_mixInto_0 rfl (lv_at hl 1 rfl) ?_
  refine lv_lstore_n (lv' := [(3, .long (d)), (0, .ref ta), (1, .long (d))]) hx hb dX1_mixInto_1 rfl hl (by decide) rfl (fun ls hl => ?_)
  refine lv_iconst (v := zI (0)) hx hb dX1_mixInto_2 rfl ?_
  refine lv_istore (lv' := [(5, .int (zI (0))), (3, .long (d)), (0, .ref ta), (1, .long (d))]) hx hb dX1_mixInto_3 hl (by decide) rfl (fun ls hl => ?_)
  have loop_5 : ∀ (fu : Nat) (k : Int) (g : Int64), (0 ≤ k ∧ k ≤ 8) → (g = xMs f d k.toNat) → 8 - k < (fu : Int) → ∀ (ls : Array Slot), lv_has ls 7 [(0, .ref ta), (3, .long (g)), (5, .int (zI (k)))] → W p l e (headSpec wsX1_mixInto ({ frames := 2, cells := 0, slots := 0, locals := 43 })).room s m args below meth c s.heap [] 0 0 (MQ below (zQ (some (.long (xMt f d)))) args s 0 0 (fun _ => False)) (F0 m 5 ls []) := by
    intro fu
    induction fu with
    | zero =>
      intro k g hk0 hg hm
      exfalso; omega
    | succ fu ih =>
      intro k g hk0 hg hm ls hl
      have ih_5 := ih
      refine lv_iload hx hb dX1_mixInto_5 (lv_at hl 2 rfl) ?_
      refine lv_bipush (v := zI (7)) hx hb dX1_mixInto_7 (by decide) ?_
      refine z_icmp_gt (tgt := 30) hx hb (by omega) dX1_mixInto_9 (by decide) (fun c_1 => ?_) (fun c_1 => ?_)
      · refine lv_iconst (v := zI (0)) hx hb dX1_mixInto_30 rfl ?_
        refine lv_istore (lv' := [(5, .int (zI (0))), (0, .ref ta), (3, .long (g))]) hx hb dX1_mixInto_31 hl (by decide) rfl (fun ls hl => ?_)
        have loop_33 : ∀ (fu : Nat) (k : Int) (g : Int64), (0 ≤ k ∧ k ≤ f 0) → (g = xMc f (xMs f d 8) (4 * k).toNat) → f 0 - k < (fu : Int) → ∀ (ls : Array Slot), lv_has ls 7 [(0, .ref ta), (3, .long (g)), (5, .int (zI (k)))] → W p l e (headSpec wsX1_mixInto ({ frames := 2, cells := 0, slots := 0, locals := 43 })).room s m args below meth c s.heap [] 0 0 (MQ below (zQ (some (.long (xMt f d)))) args s 0 0 (fun _ => False)) (F0 m 33 ls []) := by
          intro fu
          induction fu with
          | zero =>
            intro k g hk0 hg hm
            exfalso; omega
          | succ fu ih =>
            intro k g hk0 hg hm ls hl
            have ih_33 := ih
            refine lv_iload hx hb dX1_mixInto_33 (lv_at hl 2 rfl) ?_
            refine lv_aload_n hx hb dX1_mixInto_35 rfl (lv_at hl 0 rfl) ?_
            refine va_get (D := D) (ci := 1) (v := .int (zI (f 0))) (C := RX1) (T := TX1) (N := 10) hx hb hts hin1 hown hK hP 0 rfl rfl 1 (by decide) (hts (.fieldLink RX1 38 "PolyDrums$Track" "steps" "I") (by decide +kernel)) (fun _ h9 => h9) rfl dX1_mixInto_36 ?_
            refine z_icmp_ge (tgt := 77) hx hb (by omega) dX1_mixInto_39 (by decide) (fun c_2 => ?_) (fun c_2 => ?_)
            · refine lv_lload_n hx hb dX1_mixInto_77 rfl (lv_at hl 1 rfl) ?_
              exact z_lret hx hb hr hlocks (by unfold xMt; rw [hg, show k = f 0 by omega]) dX1_mixInto_78
            · refine lv_iconst (v := zI (0)) hx hb dX1_mixInto_42 rfl ?_
              refine lv_istore (lv' := [(6, .int (zI (0))), (0, .ref ta), (3, .long (g)), (5, .int (zI (k)))]) hx hb dX1_mixInto_43 hl (by decide) rfl (fun ls hl => ?_)
              have loop_45 : ∀ (fu : Nat) (w : Int) (g : Int64), (0 ≤ w ∧ w ≤ 4) → (g = xMc f (xMs f d 8) (4 * k + w).toNat) → 4 - w < (fu : Int) → ∀ (ls : Array Slot), lv_has ls 7 [(0, .ref ta), (3, .long (g)), (5, .int (zI (k))), (6, .int (zI (w)))] → W p l e (headSpec wsX1_mixInto ({ frames := 2, cells := 0, slots := 0, locals := 43 })).room s m args below meth c s.heap [] 0 0 (MQ below (zQ (some (.long (xMt f d)))) args s 0 0 (fun _ => False)) (F0 m 45 ls []) := by
                intro fu
                induction fu with
                | zero =>
                  intro w g hw0 hg hm
                  exfalso; omega
                | succ fu ih =>
                  intro w g hw0 hg hm ls hl
                  have ih_45 := ih
                  refine lv_iload hx hb dX1_mixInto_45 (lv_at hl 3 rfl) ?_
                  refine lv_iconst (v := zI (4)) hx hb dX1_mixInto_47 rfl ?_
                  refine z_icmp_ge (tgt := 71) hx hb (by omega) dX1_mixInto_48 (by decide) (fun c_3 => ?_) (fun c_3 => ?_)
                  · refine lv_iinc (v := zI (k + 1)) (lv' := [(5, .int (zI (k + 1))), (0, .ref ta), (3, .long (g)), (6, .int (zI (w)))]) hx hb dX1_mixInto_71 hl (k := 2) rfl (zI_add (k) (1)) (by decide) rfl (fun ls hl => ?_)
                    refine lv_goto (tgt := 33) hx hb dX1_mixInto_74 (by decide) ?_
                    exact ih_33 (k + 1) (g) (by omega) (by rw [hg, show 4 * k + w = 4 * (k + 1) by omega]) (by omega) _ (lv_sub hl [1, 2, 0] rfl)
                  · refine lv_lload_n hx hb dX1_mixInto_51 rfl (lv_at hl 1 rfl) ?_
                    refine lv_aload_n hx hb dX1_mixInto_52 rfl (lv_at hl 0 rfl) ?_
                    refine lv_iload hx hb dX1_mixInto_53 (lv_at hl 2 rfl) ?_
                    refine lv_iload hx hb dX1_mixInto_55 (lv_at hl 3 rfl) ?_
                    refine z_call (va_runV (As := [.int (zI (k)), .int (zI (w))]) (rest := [.long (g)]) ⟨hx, hb, hml, hown, hts⟩ (kX1_cell l D G ta ca pa f cn (k) (w) (by have := hf; unfold TOK at this; omega) hR (by omega) (by omega)) (cwV 2 hts gX1_mixInto_X1_cell rfl rfl rfl (by decide +kernel) ⟨Nat.le_of_ble_eq_true rfl, Nat.le_of_ble_eq_true rfl⟩) (zPreV (va_recv hK hP (ci := 1) (q0 := 0) rfl rfl) hK hN (hP.sub [0, 1] rfl)) rfl rfl hl.1 rfl (lv_room (Nat.le_of_ble_eq_true rfl)) dX1_mixInto_57 ⟨Nat.le_of_ble_eq_true rfl, Nat.le_of_ble_eq_true rfl⟩) ?_
                    refine lv_i2l (v := (zI (xC f (k) w)).toInt64) hx hb dX1_mixInto_60 rfl ?_
                    refine z_call (va_runSN (As := [.long (g), .long ((zI (xC f (k) w)).toInt64)]) (rest := []) ⟨hx, hb, hml, hown, hts⟩ (kX2_mix l D G (g) ((zI (xC f (k) w)).toInt64)) ⟨va_cnB 2 hts gX1_mixInto_X2_mix_n106 rfl rfl rfl (hN.1 (RX1, 106, yX2_mix) (by decide +kernel)) (hts (.initialized RX2) (by decide +kernel)) (by decide +kernel) ⟨Nat.le_of_ble_eq_true rfl, Nat.le_of_ble_eq_true rfl⟩, hts (.static yX2_mix) (by decide +kernel), trivial⟩ (zPreS hK hN (trivial)) rfl rfl hl.1 rfl (lv_room (Nat.le_of_ble_eq_true rfl)) dX1_mixInto_61 ⟨Nat.le_of_ble_eq_true rfl, Nat.le_of_ble_eq_true rfl⟩) ?_
                    refine lv_lstore_n (lv' := [(3, .long ((g) * 31 + ((zI (xC f (k) w)).toInt64))), (0, .ref ta), (5, .int (zI (k))), (6, .int (zI (w)))]) hx hb dX1_mixInto_64 rfl hl (by decide) rfl (fun ls hl => ?_)
                    refine lv_iinc (v := zI (w + 1)) (lv' := [(6, .int (zI (w + 1))), (3, .long ((g) * 31 + ((zI (xC f (k) w)).toInt64))), (0, .ref ta), (5, .int (zI (k)))]) hx hb dX1_mixInto_65 hl (k := 3) rfl (zI_add (w) (1)) (by decide) rfl (fun ls hl => ?_)
                    refine lv_goto (tgt := 45) hx hb dX1_mixInto_68 (by decide) ?_
                    exact ih_45 (w + 1) ((g) * 31 + ((zI (xC f (k) w)).toInt64)) (by omega) (by rw [xMc_s hk0.1 hw0.1, hg]) (by omega) _ (lv_sub hl [2, 1, 3, 0] rfl)
              exact loop_45 (5) (0) (g) (by omega) (by rw [hg, Int.add_zero]) (by omega) ls (lv_sub hl [1, 2, 3, 0] rfl)
        exact loop_33 (33) (0) (g) (by omega) (by rw [hg, show k = 8 by omega]; rfl) (by omega) ls (lv_sub hl [1, 2, 0] rfl)
      · refine lv_lload_n hx hb dX1_mixInto_12 rfl (lv_at hl 1 rfl) ?_
        refine lv_aload_n hx hb dX1_mixInto_13 rfl (lv_at hl 0 rfl) ?_
        refine lv_iload hx hb dX1_mixInto_14 (lv_at hl 2 rfl) ?_
        refine z_call (va_runV (As := [.int (zI (k))]) (rest := [.long (g)]) ⟨hx, hb, hml, hown, hts⟩ (kX1_setting l D G ta ca pa f (k) (by omega) (by have := hf; unfold TOK at this; omega)) (cwV 1 hts gX1_mixInto_X1_setting rfl rfl rfl (by decide +kernel) ⟨Nat.le_of_ble_eq_true rfl, Nat.le_of_ble_eq_true rfl⟩) (zPreV (va_recv hK hP (ci := 1) (q0 := 0) rfl rfl) hK hN (hP.sub [0] rfl)) rfl rfl hl.1 rfl (lv_room (Nat.le_of_ble_eq_true rfl)) dX1_mixInto_16 ⟨Nat.le_of_ble_eq_true rfl, Nat.le_of_ble_eq_true rfl⟩) ?_
        refine lv_i2l (v := (zI (f (k).toNat)).toInt64) hx hb dX1_mixInto_19 rfl ?_
        refine z_call (va_runSN (As := [.long (g), .long ((zI (f (k).toNat)).toInt64)]) (rest := []) ⟨hx, hb, hml, hown, hts⟩ (kX2_mix l D G (g) ((zI (f (k).toNat)).toInt64)) ⟨va_cnB 2 hts gX1_mixInto_X2_mix_n106 rfl rfl rfl (hN.1 (RX1, 106, yX2_mix) (by decide +kernel)) (hts (.initialized RX2) (by decide +kernel)) (by decide +kernel) ⟨Nat.le_of_ble_eq_true rfl, Nat.le_of_ble_eq_true rfl⟩, hts (.static yX2_mix) (by decide +kernel), trivial⟩ (zPreS hK hN (trivial)) rfl rfl hl.1 rfl (lv_room (Nat.le_of_ble_eq_true rfl)) dX1_mixInto_20 ⟨Nat.le_of_ble_eq_true rfl, Nat.le_of_ble_eq_true rfl⟩) ?_
        refine lv_lstore_n (lv' := [(3, .long ((g) * 31 + ((zI (f (k).toNat)).toInt64))), (0, .ref ta), (5, .int (zI (k)))]) hx hb dX1_mixInto_23 rfl hl (by decide) rfl (fun ls hl => ?_)
        refine lv_iinc (v := zI (k + 1)) (lv' := [(5, .int (zI (k + 1))), (3, .long ((g) * 31 + ((zI (f (k).toNat)).toInt64))), (0, .ref ta)]) hx hb dX1_mixInto_24 hl (k := 2) rfl (zI_add (k) (1)) (by decide) rfl (fun ls hl => ?_)
        refine lv_goto (tgt := 5) hx hb dX1_mixInto_27 (by decide) ?_
        exact ih_5 (k + 1) ((g) * 31 + ((zI (f (k).toNat)).toInt64)) (by omega) (by rw [xMs_s hk0.1, hg]) (by omega) _ (lv_sub hl [2, 1, 0] rfl)
  exact loop_5 (9) (0) (d) (by omega) (rfl) (by omega) ls (lv_sub hl [2, 1, 0] rfl)

set_option maxHeartbeats 4000000 in
set_option maxRecDepth 100000 in
theorem kX1_switchTo (l : Launch) (D : va_G) (G : Nat → ClassId) (ta ca pa : Nat) (f : Nat → Int) (k v : Int) (hnd : [ta].Nodup) (hk : 5 ≤ k ∧ k ≤ 7) (hv : v = 0 ∨ v = 1) : Met l yX1_switchTo wsX1_switchTo ({ frames := 0, cells := 0, slots := 0, locals := 0 }) (zP [.ref ta, .int (zI (k)), .int (zI (v))] D G (fun H => va_P D vwCl [(ta, .inr (1, [.int (zI (f 1)), .int (zI (f 0)), .int (zI (f 2)), .int (zI (f 3)), .int (zI (f 4)), .int (zI (f 5)), .int (zI (f 6)), .int (zI (f 7)), .ref ca, .ref pa]))] H)) (zM none (fun H => va_P D vwCl [(ta, .inr (1, [.int (zI ((va_up f k.toNat v) 1)), .int (zI ((va_up f k.toNat v) 0)), .int (zI ((va_up f k.toNat v) 2)), .int (zI ((va_up f k.toNat v) 3)), .int (zI ((va_up f k.toNat v) 4)), .int (zI ((va_up f k.toNat v) 5)), .int (zI ((va_up f k.toNat v) 6)), .int (zI ((va_up f k.toNat v) 7)), .ref ca, .ref pa]))] H) (zA [ta])) 0 0 (zA [ta]) := by
  refine Met.ofW (cc := cX1_switchTo) (maxL := 3) (ret := none) (by decide) rfl ?_
  intro p e s m args below meth c s₁ B hml hv
  obtain ⟨hav, hP, hK, hN⟩ := hv
  have hx := B.exec
  have hb := B.bytes
  have hr := B.returns
  have hts := atoms_spec (ws := wsX1_switchTo) B.pre
  have hown : s.vm.findClass RX1 = some m.cls := findClass_of_methodNamed B.named
  have hlocks : meth.locks = false := B.notSynchronized
  have hin1 : ∀ w ∈ u_ws RX1 TX1 10, w ∈ wsX1_switchTo := by decide +kernel
  have hS : va_S (zA [ta]) s.heap s.heap [] := va_S.rf
  have hnd' := hnd
  simp only [List.nodup_cons, List.mem_cons, List.not_mem_nil, or_false, List.nodup_nil, and_true, not_or, not_false_eq_true] at hnd'
  have hD : va_D (zA [ta]) [(ta, .inr (1, [.int (zI (f 1)), .int (zI (f 0)), .int (zI (f 2)), .int (zI (f 3)), .int (zI (f 4)), .int (zI (f 5)), .int (zI (f 6)), .int (zI (f 7)), .ref ca, .ref pa]))] := z_Dof hnd rfl
  refine z_entry hav (Nat.le_of_ble_eq_true rfl) rfl (fun ls hl => ?_)
  have hl : lv_has ls 3 [(0, .ref ta), (1, .int (zI (k))), (2, .int (zI (v)))] := hl
  refine lv_iload_n hx hb dX1_switchTo_0 rfl (lv_at hl 1 rfl) ?_
  rcases (show k = 5 ∨ k = 6 ∨ k = 7 by omega) with rfl | rfl | rfl
  · refine lv_lookup (off := 27) (tgt := 28) hx hb dX1_switchTo_1 (by decide) (by decide) (by decide) ?_
    refine lv_aload_n hx hb dX1_switchTo_28 rfl (lv_at hl 0 rfl) ?_
    refine lv_iload_n hx hb dX1_switchTo_29 rfl (lv_at hl 2 rfl) ?_
    refine va_put (D := D) (ci := 1) (v := .int (zI (v))) (ty := .boolean) (C := RX1) (T := TX1) (N := 10) hx hb hts hin1 tyX1 tyX1_ok nmX1 hown hK hP hD hS 0 rfl rfl 5 (by decide) (hts (.fieldLink RX1 21 "PolyDrums$Track" "isMuted" "Z") (by decide +kernel)) (fun _ h9 => h9) rfl (by decide +kernel) (zi_nar hv) (zi_fit hv) (Nat.le_of_ble_eq_true rfl) dX1_switchTo_30 (fun H locs hP hD hS => ?_)
    have hP : va_P D vwCl [(ta, .inr (1, [.int (zI (f 1)), .int (zI (f 0)), .int (zI (f 2)), .int (zI (f 3)), .int (zI (f 4)), .int (zI (v)), .int (zI (f 6)), .int (zI (f 7)), .ref ca, .ref pa]))] H := hP
    have hD : va_D (zA [ta]) [(ta, .inr (1, [.int (zI (f 1)), .int (zI (f 0)), .int (zI (f 2)), .int (zI (f 3)), .int (zI (f 4)), .int (zI (v)), .int (zI (f 6)), .int (zI (f 7)), .ref ca, .ref pa]))] := hD
    refine lv_goto (tgt := 49) hx hb dX1_switchTo_33 (by decide) ?_
    exact zm_vret hx hb hr hlocks hS (hP) dX1_switchTo_49
  · refine lv_lookup (off := 35) (tgt := 36) hx hb dX1_switchTo_1 (by decide) (by decide) (by decide) ?_
    refine lv_aload_n hx hb dX1_switchTo_36 rfl (lv_at hl 0 rfl) ?_
    refine lv_iload_n hx hb dX1_switchTo_37 rfl (lv_at hl 2 rfl) ?_
    refine va_put (D := D) (ci := 1) (v := .int (zI (v))) (ty := .boolean) (C := RX1) (T := TX1) (N := 10) hx hb hts hin1 tyX1 tyX1_ok nmX1 hown hK hP hD hS 0 rfl rfl 6 (by decide) (hts (.fieldLink RX1 25 "PolyDrums$Track" "isSolo" "Z") (by decide +kernel)) (fun _ h9 => h9) rfl (by decide +kernel) (zi_nar hv) (zi_fit hv) (Nat.le_of_ble_eq_true rfl) dX1_switchTo_38 (fun H locs hP hD hS => ?_)
    have hP : va_P D vwCl [(ta, .inr (1, [.int (zI (f 1)), .int (zI (f 0)), .int (zI (f 2)), .int (zI (f 3)), .int (zI (f 4)), .int (zI (f 5)), .int (zI (v)), .int (zI (f 7)), .ref ca, .ref pa]))] H := hP
    have hD : va_D (zA [ta]) [(ta, .inr (1, [.int (zI (f 1)), .int (zI (f 0)), .int (zI (f 2)), .int (zI (f 3)), .int (zI (f 4)), .int (zI (f 5)), .int (zI (v)), .int (zI (f 7)), .ref ca, .ref pa]))] := hD
    refine lv_goto (tgt := 49) hx hb dX1_switchTo_41 (by decide) ?_
    exact zm_vret hx hb hr hlocks hS (hP) dX1_switchTo_49
  · refine lv_lookup (off := 43) (tgt := 44) hx hb dX1_switchTo_1 (by decide) (by decide) (by decide) ?_
    refine lv_aload_n hx hb dX1_switchTo_44 rfl (lv_at hl 0 rfl) ?_
    refine lv_iload_n hx hb dX1_switchTo_45 rfl (lv_at hl 2 rfl) ?_
    refine va_put (D := D) (ci := 1) (v := .int (zI (v))) (ty := .boolean) (C := RX1) (T := TX1) (N := 10) hx hb hts hin1 tyX1 tyX1_ok nmX1 hown hK hP hD hS 0 rfl rfl 7 (by decide) (hts (.fieldLink RX1 28 "PolyDrums$Track" "isAccent" "Z") (by decide +kernel)) (fun _ h9 => h9) rfl (by decide +kernel) (zi_nar hv) (zi_fit hv) (Nat.le_of_ble_eq_true rfl) dX1_switchTo_46 (fun H locs hP hD hS => ?_)
    have hP : va_P D vwCl [(ta, .inr (1, [.int (zI (f 1)), .int (zI (f 0)), .int (zI (f 2)), .int (zI (f 3)), .int (zI (f 4)), .int (zI (f 5)), .int (zI (f 6)), .int (zI (v)), .ref ca, .ref pa]))] H := hP
    have hD : va_D (zA [ta]) [(ta, .inr (1, [.int (zI (f 1)), .int (zI (f 0)), .int (zI (f 2)), .int (zI (f 3)), .int (zI (f 4)), .int (zI (f 5)), .int (zI (f 6)), .int (zI (v)), .ref ca, .ref pa]))] := hD
    exact zm_vret hx hb hr hlocks hS (hP) dX1_switchTo_49

set_option maxHeartbeats 4000000 in
set_option maxRecDepth 100000 in
theorem kX1_init (l : Launch) (D : va_G) (G : Nat → ClassId) (ta sz : Nat) (n d : Int) (hn : 1 ≤ n ∧ n ≤ 32) (hd : 1 ≤ d ∧ d ≤ 48) : Met l yX1_init wsX1_init ({ frames := 3, cells := 2, slots := 256, locals := 67 }) (zP [.ref ta, .int (zI (n)), .int (zI (d))] D G (fun H => H.size = sz ∧ va_P D vwCl [(ta, .inr (1, [.int (0), .int (0), .int (0), .int (0), .int (0), .int (0), .int (0), .int (0), .null, .null]))] H)) (zM none (fun H => ∃ (ca pa : Nat) (cn sn : Nat → Int32), va_P D vwCl [(ta, .inr (1, [.int (zI ((xF0 n d) 1)), .int (zI ((xF0 n d) 0)), .int (zI ((xF0 n d) 2)), .int (zI ((xF0 n d) 3)), .int (zI ((xF0 n d) 4)), .int (zI ((xF0 n d) 5)), .int (zI ((xF0 n d) 6)), .int (zI ((xF0 n d) 7)), .ref ca, .ref pa])), (ca, .inl (G 0, 128, .inl (cn))), (pa, .inl (G 0, 128, .inl (sn)))] H ∧ [ta, ca, pa].Nodup ∧ sz ≤ ca ∧ sz ≤ pa ∧ TR (xF0 n d) cn) (zAn [ta] sz)) 2 256 (zAn [ta] sz) := by
  refine Met.ofW (cc := cX1_init) (maxL := 4) (ret := none) (by decide) rfl ?_
  intro p e s m args below meth c s₁ B hml hv
  obtain ⟨hav, ⟨hsz, hP⟩, hK, hN⟩ := hv
  have hx := B.exec
  have hb := B.bytes
  have hr := B.returns
  have hts := atoms_spec (ws := wsX1_init) B.pre
  have hown : s.vm.findClass RX1 = some m.cls := findClass_of_methodNamed B.named
  have hlocks : meth.locks = false := B.notSynchronized
  have hin1 : ∀ w ∈ u_ws RX1 TX1 10, w ∈ wsX1_init := by decide +kernel
  have hin_ : meth.name = "<init>" := (name_of_methodNamed B.named B.method).1
  have hS : va_S (zAn [ta] sz) s.heap s.heap [] := va_S.rf
  have hD : va_D (zAn [ta] sz) [(ta, .inr (1, [.int (0), .int (0), .int (0), .int (0), .int (0), .int (0), .int (0), .int (0), .null, .null]))] := z_Dofn (by simp) rfl
  have hA : ∀ q : Nat, s.heap.size ≤ q → zAn [ta] sz q := fun q h => Or.inr (by omega)
  refine z_entry hav (Nat.le_of_ble_eq_true rfl) rfl (fun ls hl => ?_)
  have hl : lv_has ls 4 [(0, .ref ta), (1, .int (zI (n))), (2, .int (zI (d)))] := hl
  refine lv_aload_n hx hb dX1_init_0 rfl (lv_at hl 0 rfl) ?_
  refine W.objInit hx hb hown (hts (.methodLink RX1 3 objectInit) (by decide +kernel)) (hts (.instanceMethod objectInit) (by decide +kernel)) (hts (.code objectInit ⟨#[0xb1]⟩ 1 none) (by decide +kernel)) rfl (hl.1.trans hml.symm) rfl dX1_init_1 (Nat.le_of_ble_eq_true rfl) (Nat.le_of_ble_eq_true rfl) ?_
  refine W.eq (g2 := F0 m 4 ls []) rfl ?_
  refine lv_aload_n hx hb dX1_init_4 rfl (lv_at hl 0 rfl) ?_
  refine lv_iconst (v := zI (0)) hx hb dX1_init_5 rfl ?_
  refine va_put (D := D) (ci := 1) (v := .int (zI (0))) (ty := .int) (C := RX1) (T := TX1) (N := 10) hx hb hts hin1 tyX1 tyX1_ok nmX1 hown hK hP hD hS 0 rfl rfl 2 (by decide) (hts (.fieldLink RX1 9 "PolyDrums$Track" "swing" "I") (by decide +kernel)) (fun _ h9 => h9) rfl (by decide +kernel) rfl rfl (Nat.le_of_ble_eq_true rfl) dX1_init_6 (fun H locs hP hD hS => ?_)
  have hP : va_P D vwCl [(ta, .inr (1, [.int (0), .int (0), .int (zI (0)), .int (0), .int (0), .int (0), .int (0), .int (0), .null, .null]))] H := hP
  have hD : va_D (zAn [ta] sz) [(ta, .inr (1, [.int (0), .int (0), .int (zI (0)), .int (0), .int (0), .int (0), .int (0), .int (0), .null, .null]))] := hD
  refine lv_aload_n hx hb dX1_init_9 rfl (lv_at hl 0 rfl) ?_
  refine lv_bipush (v := zI (10)) hx hb dX1_init_10 (by decide) ?_
  refine va_put (D := D) (ci := 1) (v := .int (zI (10))) (ty := .int) (C := RX1) (T := TX1) (N := 10) hx hb hts hin1 tyX1 tyX1_ok nmX1 hown hK hP hD hS 0 rfl rfl 3 (by decide) (hts (.fieldLink RX1 15 "PolyDrums$Track" "ring" "I") (by decide +kernel)) (fun _ h9 => h9) rfl (by decide +kernel) rfl rfl (Nat.le_of_ble_eq_true rfl) dX1_init_12 (fun H locs hP hD hS => ?_)
  have hP : va_P D vwCl [(ta, .inr (1, [.int (0), .int (0), .int (zI (0)), .int (zI (10)), .int (0), .int (0), .int (0), .int (0), .null, .null]))] H := hP
  have hD : va_D (zAn [ta] sz) [(ta, .inr (1, [.int (0), .int (0), .int (zI (0)), .int (zI (10)), .int (0), .int (0), .int (0), .int (0), .null, .null]))] := hD
  refine lv_aload_n hx hb dX1_init_15 rfl (lv_at hl 0 rfl) ?_
  refine lv_iconst (v := zI (0)) hx hb dX1_init_16 rfl ?_
  refine va_put (D := D) (ci := 1) (v := .int (zI (0))) (ty := .int) (C := RX1) (T := TX1) (N := 10) hx hb hts hin1 tyX1 tyX1_ok nmX1 hown hK hP hD hS 0 rfl rfl 4 (by decide) (hts (.fieldLink RX1 18 "PolyDrums$Track" "group" "I") (by decide +kernel)) (fun _ h9 => h9) rfl (by decide +kernel) rfl rfl (Nat.le_of_ble_eq_true rfl) dX1_init_17 (fun H locs hP hD hS => ?_)
  have hP : va_P D vwCl [(ta, .inr (1, [.int (0), .int (0), .int (zI (0)), .int (zI (10)), .int (zI (0)), .int (0), .int (0), .int (0), .null, .null]))] H := hP
  have hD : va_D (zAn [ta] sz) [(ta, .inr (1, [.int (0), .int (0), .int (zI (0)), .int (zI (10)), .int (zI (0)), .int (0), .int (0), .int (0), .null, .null]))] := hD
  refine lv_aload_n hx hb dX1_init_20 rfl (lv_at hl 0 rfl) ?_
  refine lv_iconst (v := zI (0)) hx hb dX1_init_21 rfl ?_
  refine va_put (D := D) (ci := 1) (v := .int (zI (0))) (ty := .boolean) (C := RX1) (T := TX1) (N := 10) hx hb hts hin1 tyX1 tyX1_ok nmX1 hown hK hP hD hS 0 rfl rfl 5 (by decide) (hts (.fieldLink RX1 21 "PolyDrums$Track" "isMuted" "Z") (by decide +kernel)) (fun _ h9 => h9) rfl (by decide +kernel) rfl rfl (Nat.le_of_ble_eq_true rfl) dX1_init_22 (fun H locs hP hD hS => ?_)
  have hP : va_P D vwCl [(ta, .inr (1, [.int (0), .int (0), .int (zI (0)), .int (zI (10)), .int (zI (0)), .int (zI (0)), .int (0), .int (0), .null, .null]))] H := hP
  have hD : va_D (zAn [ta] sz) [(ta, .inr (1, [.int (0), .int (0), .int (zI (0)), .int (zI (10)), .int (zI (0)), .int (zI (0)), .int (0), .int (0), .null, .null]))] := hD
  refine lv_aload_n hx hb dX1_init_25 rfl (lv_at hl 0 rfl) ?_
  refine lv_iconst (v := zI (0)) hx hb dX1_init_26 rfl ?_
  refine va_put (D := D) (ci := 1) (v := .int (zI (0))) (ty := .boolean) (C := RX1) (T := TX1) (N := 10) hx hb hts hin1 tyX1 tyX1_ok nmX1 hown hK hP hD hS 0 rfl rfl 6 (by decide) (hts (.fieldLink RX1 25 "PolyDrums$Track" "isSolo" "Z") (by decide +kernel)) (fun _ h9 => h9) rfl (by decide +kernel) rfl rfl (Nat.le_of_ble_eq_true rfl) dX1_init_27 (fun H locs hP hD hS => ?_)
  have hP : va_P D vwCl [(ta, .inr (1, [.int (0), .int (0), .int (zI (0)), .int (zI (10)), .int (zI (0)), .int (zI (0)), .int (zI (0)), .int (0), .null, .null]))] H := hP
  have hD : va_D (zAn [ta] sz) [(ta, .inr (1, [.int (0), .int (0), .int (zI (0)), .int (zI (10)), .int (zI (0)), .int (zI (0)), .int (zI (0)), .int (0), .null, .null]))] := hD
  refine lv_aload_n hx hb dX1_init_30 rfl (lv_at hl 0 rfl) ?_
  refine lv_iconst (v := zI (0)) hx hb dX1_init_31 rfl ?_
  refine va_put (D := D) (ci := 1) (v := .int (zI (0))) (ty := .boolean) (C := RX1) (T := TX1) (N := 10) hx hb hts hin1 tyX1 tyX1_ok nmX1 hown hK hP hD hS 0 rfl rfl 7 (by decide) (hts (.fieldLink RX1 28 "PolyDrums$Track" "isAccent" "Z") (by decide +kernel)) (fun _ h9 => h9) rfl (by decide +kernel) rfl rfl (Nat.le_of_ble_eq_true rfl) dX1_init_32 (fun H locs hP hD hS => ?_)
  have hP : va_P D vwCl [(ta, .inr (1, [.int (0), .int (0), .int (zI (0)), .int (zI (10)), .int (zI (0)), .int (zI (0)), .int (zI (0)), .int (zI (0)), .null, .null]))] H := hP
  have hD : va_D (zAn [ta] sz) [(ta, .inr (1, [.int (0), .int (0), .int (zI (0)), .int (zI (10)), .int (zI (0)), .int (zI (0)), .int (zI (0)), .int (zI (0)), .null, .null]))] := hD
  refine lv_aload_n hx hb dX1_init_35 rfl (lv_at hl 0 rfl) ?_
  refine lv_sipush (v := zI (128)) hx hb dX1_init_36 (by decide) ?_
  refine z_newa (D := D) (atype := .int) (ty := .int) hx hb (hts (.arrayClass .int) (by decide +kernel)) rfl hK hP hD hS hA 0 rfl (N' := 128) (a0 := (128, .inl (fun _ => 0))) (fun _ => rfl) rfl ⟨Nat.le_of_ble_eq_true rfl, Nat.le_of_ble_eq_true rfl⟩ (Nat.le_of_ble_eq_true rfl) (Nat.le_of_ble_eq_true rfl) dX1_init_39 (fun q_1 H hP hD hS hq_1 => ?_)
  have hP : va_P D vwCl [(ta, .inr (1, [.int (0), .int (0), .int (zI (0)), .int (zI (10)), .int (zI (0)), .int (zI (0)), .int (zI (0)), .int (zI (0)), .null, .null])), (q_1, .inl (G 0, 128, .inl (fun _ => 0)))] H := hP
  have hD : va_D (zAn [ta] sz) [(ta, .inr (1, [.int (0), .int (0), .int (zI (0)), .int (zI (10)), .int (zI (0)), .int (zI (0)), .int (zI (0)), .int (zI (0)), .null, .null])), (q_1, .inl (G 0, 128, .inl (fun _ => 0)))] := hD
  refine va_putF (D := D) (ci := 1) (v := .ref q_1) (ty := .array .int) (C := RX1) (T := TX1) (N := 10) hx hb hts hin1 tyX1 tyX1_ok nmX1 hown hK hP hD hS 0 rfl rfl 8 (by decide) (hts (.fieldLink RX1 31 "PolyDrums$Track" "cells" "[I") (by decide +kernel)) (fun _ h9 => h9) rfl hin_ rfl (by decide +kernel) rfl rfl (Nat.le_of_ble_eq_true rfl) dX1_init_41 (fun H locs hP hD hS => ?_)
  have hP : va_P D vwCl [(ta, .inr (1, [.int (0), .int (0), .int (zI (0)), .int (zI (10)), .int (zI (0)), .int (zI (0)), .int (zI (0)), .int (zI (0)), .ref q_1, .null])), (q_1, .inl (G 0, 128, .inl (fun _ => 0)))] H := hP
  have hD : va_D (zAn [ta] sz) [(ta, .inr (1, [.int (0), .int (0), .int (zI (0)), .int (zI (10)), .int (zI (0)), .int (zI (0)), .int (zI (0)), .int (zI (0)), .ref q_1, .null])), (q_1, .inl (G 0, 128, .inl (fun _ => 0)))] := hD
  refine lv_aload_n hx hb dX1_init_44 rfl (lv_at hl 0 rfl) ?_
  refine lv_sipush (v := zI (128)) hx hb dX1_init_45 (by decide) ?_
  refine z_newa (D := D) (atype := .int) (ty := .int) hx hb (hts (.arrayClass .int) (by decide +kernel)) rfl hK hP hD hS hA 0 rfl (N' := 128) (a0 := (128, .inl (fun _ => 0))) (fun _ => rfl) rfl ⟨Nat.le_of_ble_eq_true rfl, Nat.le_of_ble_eq_true rfl⟩ (Nat.le_of_ble_eq_true rfl) (Nat.le_of_ble_eq_true rfl) dX1_init_48 (fun q_2 H hP hD hS hq_2 => ?_)
  have hP : va_P D vwCl [(ta, .inr (1, [.int (0), .int (0), .int (zI (0)), .int (zI (10)), .int (zI (0)), .int (zI (0)), .int (zI (0)), .int (zI (0)), .ref q_1, .null])), (q_1, .inl (G 0, 128, .inl (fun _ => 0))), (q_2, .inl (G 0, 128, .inl (fun _ => 0)))] H := hP
  have hD : va_D (zAn [ta] sz) [(ta, .inr (1, [.int (0), .int (0), .int (zI (0)), .int (zI (10)), .int (zI (0)), .int (zI (0)), .int (zI (0)), .int (zI (0)), .ref q_1, .null])), (q_1, .inl (G 0, 128, .inl (fun _ => 0))), (q_2, .inl (G 0, 128, .inl (fun _ => 0)))] := hD
  refine va_putF (D := D) (ci := 1) (v := .ref q_2) (ty := .array .int) (C := RX1) (T := TX1) (N := 10) hx hb hts hin1 tyX1 tyX1_ok nmX1 hown hK hP hD hS 0 rfl rfl 9 (by decide) (hts (.fieldLink RX1 35 "PolyDrums$Track" "spare" "[I") (by decide +kernel)) (fun _ h9 => h9) rfl hin_ rfl (by decide +kernel) rfl rfl (Nat.le_of_ble_eq_true rfl) dX1_init_50 (fun H locs hP hD hS => ?_)
  have hP : va_P D vwCl [(ta, .inr (1, [.int (0), .int (0), .int (zI (0)), .int (zI (10)), .int (zI (0)), .int (zI (0)), .int (zI (0)), .int (zI (0)), .ref q_1, .ref q_2])), (q_1, .inl (G 0, 128, .inl (fun _ => 0))), (q_2, .inl (G 0, 128, .inl (fun _ => 0)))] H := hP
  have hD : va_D (zAn [ta] sz) [(ta, .inr (1, [.int (0), .int (0), .int (zI (0)), .int (zI (10)), .int (zI (0)), .int (zI (0)), .int (zI (0)), .int (zI (0)), .ref q_1, .ref q_2])), (q_1, .inl (G 0, 128, .inl (fun _ => 0))), (q_2, .inl (G 0, 128, .inl (fun _ => 0)))] := hD
  refine lv_aload_n hx hb dX1_init_53 rfl (lv_at hl 0 rfl) ?_
  refine lv_iload_n hx hb dX1_init_54 rfl (lv_at hl 1 rfl) ?_
  refine va_put (D := D) (ci := 1) (v := .int (zI (n))) (ty := .int) (C := RX1) (T := TX1) (N := 10) hx hb hts hin1 tyX1 tyX1_ok nmX1 hown hK hP hD hS 0 rfl rfl 1 (by decide) (hts (.fieldLink RX1 38 "PolyDrums$Track" "steps" "I") (by decide +kernel)) (fun _ h9 => h9) rfl (by decide +kernel) rfl rfl (Nat.le_of_ble_eq_true rfl) dX1_init_55 (fun H locs hP hD hS => ?_)
  have hP : va_P D vwCl [(ta, .inr (1, [.int (0), .int (zI (n)), .int (zI (0)), .int (zI (10)), .int (zI (0)), .int (zI (0)), .int (zI (0)), .int (zI (0)), .ref q_1, .ref q_2])), (q_1, .inl (G 0, 128, .inl (fun _ => 0))), (q_2, .inl (G 0, 128, .inl (fun _ => 0)))] H := hP
  have hD : va_D (zAn [ta] sz) [(ta, .inr (1, [.int (0), .int (zI (n)), .int (zI (0)), .int (zI (10)), .int (zI (0)), .int (zI (0)), .int (zI (0)), .int (zI (0)), .ref q_1, .ref q_2])), (q_1, .inl (G 0, 128, .inl (fun _ => 0))), (q_2, .inl (G 0, 128, .inl (fun _ => 0)))] := hD
  refine lv_aload_n hx hb dX1_init_58 rfl (lv_at hl 0 rfl) ?_
  refine lv_iload_n hx hb dX1_init_59 rfl (lv_at hl 2 rfl) ?_
  refine va_putF (D := D) (ci := 1) (v := .int (zI (d))) (ty := .int) (C := RX1) (T := TX1) (N := 10) hx hb hts hin1 tyX1 tyX1_ok nmX1 hown hK hP hD hS 0 rfl rfl 0 (by decide) (hts (.fieldLink RX1 41 "PolyDrums$Track" "stepTicks" "I") (by decide +kernel)) (fun _ h9 => h9) rfl hin_ rfl (by decide +kernel) rfl rfl (Nat.le_of_ble_eq_true rfl) dX1_init_60 (fun H locs hP hD hS => ?_)
  have hP : va_P D vwCl [(ta, .inr (1, [.int (zI (d)), .int (zI (n)), .int (zI (0)), .int (zI (10)), .int (zI (0)), .int (zI (0)), .int (zI (0)), .int (zI (0)), .ref q_1, .ref q_2])), (q_1, .inl (G 0, 128, .inl (fun _ => 0))), (q_2, .inl (G 0, 128, .inl (fun _ => 0)))] H := hP
  have hD : va_D (zAn [ta] sz) [(ta, .inr (1, [.int (zI (d)), .int (zI (n)), .int (zI (0)), .int (zI (10)), .int (zI (0)), .int (zI (0)), .int (zI (0)), .int (zI (0)), .ref q_1, .ref q_2])), (q_1, .inl (G 0, 128, .inl (fun _ => 0))), (q_2, .inl (G 0, 128, .inl (fun _ => 0)))] := hD
  have hP : va_P D vwCl [(ta, .inr (1, [.int (zI ((xF0 n d) 1)), .int (zI ((xF0 n d) 0)), .int (zI ((xF0 n d) 2)), .int (zI ((xF0 n d) 3)), .int (zI ((xF0 n d) 4)), .int (zI ((xF0 n d) 5)), .int (zI ((xF0 n d) 6)), .int (zI ((xF0 n d) 7)), .ref q_1, .ref q_2])), (q_1, .inl (G 0, 128, .inl (fun _ => 0))), (q_2, .inl (G 0, 128, .inl (fun _ => 0)))] H := hP
  have hnd := z_nd hD (L := [ta, q_1, q_2]) rfl
  have hnd' := hnd
  simp only [List.nodup_cons, List.mem_cons, List.not_mem_nil, or_false, List.nodup_nil, and_true, not_or, not_false_eq_true] at hnd'
  have hc9 : sz ≤ q_1 := by have h9 := hD.2 1 _ rfl; simp only [zAn, List.mem_cons, List.not_mem_nil, or_false] at h9; omega
  have hp9 : sz ≤ q_2 := by have h9 := hD.2 2 _ rfl; simp only [zAn, List.mem_cons, List.not_mem_nil, or_false] at h9; omega
  refine lv_iconst (v := zI (0)) hx hb dX1_init_63 rfl ?_
  refine lv_istore_n (lv' := [(3, .int (zI (0))), (0, .ref ta), (1, .int (zI (n))), (2, .int (zI (d)))]) hx hb dX1_init_64 rfl hl (by decide) rfl (fun ls hl => ?_)
  have loop_65 : ∀ (fu : Nat) (k : Int) (dn : Nat → Int32), (0 ≤ k ∧ k ≤ 32) → (∀ t : Int, 0 ≤ t → t < k → dn (4 * t + 0).toNat = zI 0 ∧ dn (4 * t + 1).toNat = zI 1 ∧ dn (4 * t + 2).toNat = zI 0 ∧ dn (4 * t + 3).toNat = zI 1) → 32 - k < (fu : Int) → ∀ (H : Heap) (locs : List Loc), va_P D vwCl [(ta, .inr (1, [.int (zI ((xF0 n d) 1)), .int (zI ((xF0 n d) 0)), .int (zI ((xF0 n d) 2)), .int (zI ((xF0 n d) 3)), .int (zI ((xF0 n d) 4)), .int (zI ((xF0 n d) 5)), .int (zI ((xF0 n d) 6)), .int (zI ((xF0 n d) 7)), .ref q_1, .ref q_2])), (q_1, .inl (G 0, 128, .inl (dn))), (q_2, .inl (G 0, 128, .inl (fun _ => 0)))] H → va_S (zAn [ta] sz) s.heap H locs → ∀ (ls : Array Slot), lv_has ls 4 [(0, .ref ta), (3, .int (zI (k)))] → W p l e (headSpec wsX1_init ({ frames := 3, cells := 2, slots := 256, locals := 67 })).room s m args below meth c H locs 2 256 (MQ below (zM none (fun H => ∃ (ca pa : Nat) (cn sn : Nat → Int32), va_P D vwCl [(ta, .inr (1, [.int (zI ((xF0 n d) 1)), .int (zI ((xF0 n d) 0)), .int (zI ((xF0 n d) 2)), .int (zI ((xF0 n d) 3)), .int (zI ((xF0 n d) 4)), .int (zI ((xF0 n d) 5)), .int (zI ((xF0 n d) 6)), .int (zI ((xF0 n d) 7)), .ref ca, .ref pa])), (ca, .inl (G 0, 128, .inl (cn))), (pa, .inl (G 0, 128, .inl (sn)))] H ∧ [ta, ca, pa].Nodup ∧ sz ≤ ca ∧ sz ≤ pa ∧ TR (xF0 n d) cn) (zAn [ta] sz)) args s 2 256 (zAn [ta] sz)) (F0 m 65 ls []) := by
    intro fu
    induction fu with
    | zero =>
      intro k dn hk0 hd9 hm
      exfalso; omega
    | succ fu ih =>
      intro k dn hk0 hd9 hm H locs hP hS ls hl
      have ih_65 := ih
      refine lv_iload_n hx hb dX1_init_65 rfl (lv_at hl 1 rfl) ?_
      refine lv_bipush (v := zI (32)) hx hb dX1_init_66 (by decide) ?_
      refine z_icmp_ge (tgt := 83) hx hb (by omega) dX1_init_68 (by decide) (fun c_3 => ?_) (fun c_3 => ?_)
      · exact zm_vret hx hb hr hlocks hS (⟨q_1, q_2, dn, _, hP, hnd, hc9, hp9, xF0_tr (fun t h1 h2 => hd9 t h1 (by omega))⟩) dX1_init_83
      · refine lv_aload_n hx hb dX1_init_71 rfl (lv_at hl 0 rfl) ?_
        refine lv_iload_n hx hb dX1_init_72 rfl (lv_at hl 1 rfl) ?_
        refine lv_iconst (v := zI (0)) hx hb dX1_init_73 rfl ?_
        refine z_callM (va_runV (As := [.int (zI (k)), .int (zI (0))]) (rest := []) ⟨hx, hb, hml, hown, hts⟩ (kX1_clearStep l D G ta q_1 q_2 (xF0 n d) (dn) (k) (0) (by simp only [List.nodup_cons, List.mem_cons, List.not_mem_nil, or_false, List.nodup_nil, and_true, not_or, not_false_eq_true]; omega) (by omega)) (cwV 2 hts gX1_init_X1_clearStep rfl rfl rfl (by decide +kernel) ⟨Nat.le_of_ble_eq_true rfl, Nat.le_of_ble_eq_true rfl⟩) (zPreV (va_recv hK hP (ci := 1) (q0 := 0) rfl rfl) hK hN (hP.sub [0, 1] rfl)) rfl rfl hl.1 rfl (lv_room (Nat.le_of_ble_eq_true rfl)) dX1_init_74 ⟨Nat.le_of_ble_eq_true rfl, Nat.le_of_ble_eq_true rfl⟩) hS (by intro q hq9 hq; simp only [zA, zAn, List.mem_cons, List.not_mem_nil, or_false] at hq ⊢ <;> omega) (by intro q hq; simp only [zA, zAn, List.mem_cons, List.not_mem_nil, or_false] at hq ⊢ <;> omega) (fun H1 locs1 hp1 hz1 hk1 hS1 => ?_)
        have hP : va_P D vwCl [(ta, .inr (1, [.int (zI ((xF0 n d) 1)), .int (zI ((xF0 n d) 0)), .int (zI ((xF0 n d) 2)), .int (zI ((xF0 n d) 3)), .int (zI ((xF0 n d) 4)), .int (zI ((xF0 n d) 5)), .int (zI ((xF0 n d) 6)), .int (zI ((xF0 n d) 7)), .ref q_1, .ref q_2])), (q_1, .inl (G 0, 128, .inl (xClr (dn) (k) (0)))), (q_2, .inl (G 0, 128, .inl (fun _ => 0)))] H1 := z_merge hP hk1 (w1 := [(ta, .inr (1, [.int (zI ((xF0 n d) 1)), .int (zI ((xF0 n d) 0)), .int (zI ((xF0 n d) 2)), .int (zI ((xF0 n d) 3)), .int (zI ((xF0 n d) 4)), .int (zI ((xF0 n d) 5)), .int (zI ((xF0 n d) 6)), .int (zI ((xF0 n d) 7)), .ref q_1, .ref q_2])), (q_1, .inl (G 0, 128, .inl (xClr (dn) (k) (0))))]) (wr := [(q_2, .inl (G 0, 128, .inl (fun _ => 0)))]) hp1 [2] rfl (by intro q hq; simp only [List.map, List.mem_cons, List.not_mem_nil, or_false] at hq ⊢ <;> omega) [0, 1, 2] rfl
        have hS := hS1
        clear hS1
        refine lv_iinc (v := zI (k + 1)) (lv' := [(3, .int (zI (k + 1))), (0, .ref ta)]) hx hb dX1_init_77 hl (k := 1) rfl (zI_add (k) (1)) (by decide) rfl (fun ls hl => ?_)
        refine lv_goto (tgt := 65) hx hb dX1_init_80 (by decide) ?_
        exact ih_65 (k + 1) (xClr (dn) (k) (0)) (by omega) (x_clrs hd9 hk0.1) (by omega) _ _ (hP) hS _ (lv_sub hl [1, 0] rfl)
  exact loop_65 (33) (0) (fun _ => 0) (by omega) (fun t h1 h2 => by omega) (by omega) _ _ (hP) hS ls (lv_sub hl [1, 0] rfl)

set_option maxHeartbeats 4000000 in
set_option maxRecDepth 100000 in
theorem kX0_init (l : Launch) (D : va_G) (G : Nat → ClassId) (qa : Nat) (x0 x1 x2 x3 : Int) (hnd : [qa].Nodup) (hv : x3 = 0 ∨ x3 = 1) : Met l yX0_init wsX0_init ({ frames := 1, cells := 0, slots := 0, locals := 60 }) (zP [.ref qa, .int (zI (x0)), .int (zI (x1)), .int (zI (x2)), .int (zI (x3))] D G (fun H => va_P D vwCl [(qa, .inr (0, [.int (0), .int (0), .int (0), .int (0)]))] H)) (zM none (fun H => va_P D vwCl [(qa, .inr (0, [.int (zI (x0)), .int (zI (x1)), .int (zI (x2)), .int (zI (x3))]))] H) (zA [qa])) 0 0 (zA [qa]) := by
  refine Met.ofW (cc := cX0_init) (maxL := 5) (ret := none) (by decide) rfl ?_
  intro p e s m args below meth c s₁ B hml hv
  obtain ⟨hav, hP, hK, hN⟩ := hv
  have hx := B.exec
  have hb := B.bytes
  have hr := B.returns
  have hts := atoms_spec (ws := wsX0_init) B.pre
  have hown : s.vm.findClass RX0 = some m.cls := findClass_of_methodNamed B.named
  have hlocks : meth.locks = false := B.notSynchronized
  have hin0 : ∀ w ∈ u_ws RX0 TX0 4, w ∈ wsX0_init := by decide +kernel
  have hin_ : meth.name = "<init>" := (name_of_methodNamed B.named B.method).1
  have hS : va_S (zA [qa]) s.heap s.heap [] := va_S.rf
  have hnd' := hnd
  simp only [List.nodup_cons, List.mem_cons, List.not_mem_nil, or_false, List.nodup_nil, and_true, not_or, not_false_eq_true] at hnd'
  have hD : va_D (zA [qa]) [(qa, .inr (0, [.int (0), .int (0), .int (0), .int (0)]))] := z_Dof hnd rfl
  refine z_entry hav (Nat.le_of_ble_eq_true rfl) rfl (fun ls hl => ?_)
  have hl : lv_has ls 5 [(0, .ref qa), (1, .int (zI (x0))), (2, .int (zI (x1))), (3, .int (zI (x2))), (4, .int (zI (x3)))] := hl
  refine lv_aload_n hx hb dX0_init_0 rfl (lv_at hl 0 rfl) ?_
  refine W.objInit hx hb hown (hts (.methodLink RX0 1 objectInit) (by decide +kernel)) (hts (.instanceMethod objectInit) (by decide +kernel)) (hts (.code objectInit ⟨#[0xb1]⟩ 1 none) (by decide +kernel)) rfl (hl.1.trans hml.symm) rfl dX0_init_1 (Nat.le_of_ble_eq_true rfl) (Nat.le_of_ble_eq_true rfl) ?_
  refine W.eq (g2 := F0 m 4 ls []) rfl ?_
  refine lv_aload_n hx hb dX0_init_4 rfl (lv_at hl 0 rfl) ?_
  refine lv_iload_n hx hb dX0_init_5 rfl (lv_at hl 1 rfl) ?_
  refine va_putF (D := D) (ci := 0) (v := .int (zI (x0))) (ty := .int) (C := RX0) (T := TX0) (N := 4) hx hb hts hin0 tyX0 tyX0_ok nmX0 hown hK hP hD hS 0 rfl rfl 0 (by decide) (hts (.fieldLink RX0 7 "PolyDrums$Section" "begin" "I") (by decide +kernel)) (fun _ h9 => h9) rfl hin_ rfl (by decide +kernel) rfl rfl (Nat.le_of_ble_eq_true rfl) dX0_init_6 (fun H locs hP hD hS => ?_)
  have hP : va_P D vwCl [(qa, .inr (0, [.int (zI (x0)), .int (0), .int (0), .int (0)]))] H := hP
  have hD : va_D (zA [qa]) [(qa, .inr (0, [.int (zI (x0)), .int (0), .int (0), .int (0)]))] := hD
  refine lv_aload_n hx hb dX0_init_9 rfl (lv_at hl 0 rfl) ?_
  refine lv_iload_n hx hb dX0_init_10 rfl (lv_at hl 2 rfl) ?_
  refine va_putF (D := D) (ci := 0) (v := .int (zI (x1))) (ty := .int) (C := RX0) (T := TX0) (N := 4) hx hb hts hin0 tyX0 tyX0_ok nmX0 hown hK hP hD hS 0 rfl rfl 1 (by decide) (hts (.fieldLink RX0 13 "PolyDrums$Section" "length" "I") (by decide +kernel)) (fun _ h9 => h9) rfl hin_ rfl (by decide +kernel) rfl rfl (Nat.le_of_ble_eq_true rfl) dX0_init_11 (fun H locs hP hD hS => ?_)
  have hP : va_P D vwCl [(qa, .inr (0, [.int (zI (x0)), .int (zI (x1)), .int (0), .int (0)]))] H := hP
  have hD : va_D (zA [qa]) [(qa, .inr (0, [.int (zI (x0)), .int (zI (x1)), .int (0), .int (0)]))] := hD
  refine lv_aload_n hx hb dX0_init_14 rfl (lv_at hl 0 rfl) ?_
  refine lv_iload_n hx hb dX0_init_15 rfl (lv_at hl 3 rfl) ?_
  refine va_putF (D := D) (ci := 0) (v := .int (zI (x2))) (ty := .int) (C := RX0) (T := TX0) (N := 4) hx hb hts hin0 tyX0 tyX0_ok nmX0 hown hK hP hD hS 0 rfl rfl 2 (by decide) (hts (.fieldLink RX0 16 "PolyDrums$Section" "set" "I") (by decide +kernel)) (fun _ h9 => h9) rfl hin_ rfl (by decide +kernel) rfl rfl (Nat.le_of_ble_eq_true rfl) dX0_init_16 (fun H locs hP hD hS => ?_)
  have hP : va_P D vwCl [(qa, .inr (0, [.int (zI (x0)), .int (zI (x1)), .int (zI (x2)), .int (0)]))] H := hP
  have hD : va_D (zA [qa]) [(qa, .inr (0, [.int (zI (x0)), .int (zI (x1)), .int (zI (x2)), .int (0)]))] := hD
  refine lv_aload_n hx hb dX0_init_19 rfl (lv_at hl 0 rfl) ?_
  refine lv_iload hx hb dX0_init_20 (lv_at hl 4 rfl) ?_
  refine va_putF (D := D) (ci := 0) (v := .int (zI (x3))) (ty := .boolean) (C := RX0) (T := TX0) (N := 4) hx hb hts hin0 tyX0 tyX0_ok nmX0 hown hK hP hD hS 0 rfl rfl 3 (by decide) (hts (.fieldLink RX0 19 "PolyDrums$Section" "isNew" "Z") (by decide +kernel)) (fun _ h9 => h9) rfl hin_ rfl (by decide +kernel) (zi_nar hv) (zi_fit hv) (Nat.le_of_ble_eq_true rfl) dX0_init_22 (fun H locs hP hD hS => ?_)
  have hP : va_P D vwCl [(qa, .inr (0, [.int (zI (x0)), .int (zI (x1)), .int (zI (x2)), .int (zI (x3))]))] H := hP
  have hD : va_D (zA [qa]) [(qa, .inr (0, [.int (zI (x0)), .int (zI (x1)), .int (zI (x2)), .int (zI (x3))]))] := hD
  exact zm_vret hx hb hr hlocks hS (hP) dX0_init_25
