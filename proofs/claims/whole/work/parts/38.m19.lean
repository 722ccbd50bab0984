set_option maxHeartbeats 4000000 in
set_option maxRecDepth 100000 in
theorem kX3_density (l : Launch) (D : va_G) (G : Nat → ClassId) (am : Nat) (th n m9 sp : Int) (τ ζ : Nat → Nat → Int) (h : Nat → Nat) (M : Nat → Nat → Int32) (hOK : XOK n m9 sp τ ζ) (hM : MR n m9 τ ζ M) (hnm : [am, h 0, h 1, h 2, h 3, h 4, h 5, h 6, h 7, h 8, h 9].Nodup) (k : Int) (hr0 : -2147483648 ≤ k ∧ k ≤ 2147483647) : Met l yX3_density wsX3_density ({ frames := 2, cells := 0, slots := 0, locals := 43 }) (zP [.ref am, .int (zI (k))] D G (fun H => va_P D vwCl [(am, .inr (3, [.int (zI (th)), .int (zI (n)), .ref (h 0), .ref (h 1), .ref (h 2), .ref (h 3), .ref (h 4), .ref (h 5), .ref (h 6), .int (zI (m9)), .ref (h 7), .ref (h 8), .ref (h 9), .int (zI (sp))])), ((h 0), .inl (G 0, 8, .inl (M 0))), ((h 1), .inl (G 0, 8, .inl (M 1))), ((h 2), .inl (G 0, 8, .inl (M 2))), ((h 3), .inl (G 0, 8, .inl (M 3))), ((h 4), .inl (G 0, 8, .inl (M 4))), ((h 5), .inl (G 1, 24, .inl (M 5))), ((h 6), .inl (G 0, 1024, .inl (M 6))), ((h 7), .inl (G 0, 13, .inl (M 7))), ((h 8), .inl (G 0, 12, .inl (M 8))), ((h 9), .inl (G 1, 12, .inl (M 9)))] H)) (zM (some (.double (if 0 ≤ k ∧ k < n then xDen (τ k.toNat) (τ k.toNat 0).toNat else FP.dconst0))) (fun H => va_P D vwCl [(am, .inr (3, [.int (zI (if 0 ≤ k ∧ k < n then 0 else 1)), .int (zI (n)), .ref (h 0), .ref (h 1), .ref (h 2), .ref (h 3), .ref (h 4), .ref (h 5), .ref (h 6), .int (zI (m9)), .ref (h 7), .ref (h 8), .ref (h 9), .int (zI (sp))])), ((h 0), .inl (G 0, 8, .inl (M 0))), ((h 1), .inl (G 0, 8, .inl (M 1))), ((h 2), .inl (G 0, 8, .inl (M 2))), ((h 3), .inl (G 0, 8, .inl (M 3))), ((h 4), .inl (G 0, 8, .inl (M 4))), ((h 5), .inl (G 1, 24, .inl (M 5))), ((h 6), .inl (G 0, 1024, .inl (M 6))), ((h 7), .inl (G 0, 13, .inl (M 7))), ((h 8), .inl (G 0, 12, .inl (M 8))), ((h 9), .inl (G 1, 12, .inl (M 9)))] H) (zA [am, h 0, h 1, h 2, h 3, h 4, h 5, h 6, h 7, h 8, h 9])) 0 0 (zA [am, h 0, h 1, h 2, h 3, h 4, h 5, h 6, h 7, h 8, h 9]) := by
  refine Met.ofW (cc := cX3_density) (maxL := 5) (ret := (some .double)) (by decide) rfl ?_
  intro p e s m args below meth c s₁ B hml hv
  obtain ⟨hav, hP, hK, hN⟩ := hv
  have hx := B.exec
  have hb := B.bytes
  have hr := B.returns
  have hts := atoms_spec (ws := wsX3_density) B.pre
  have hown : s.vm.findClass RX3 = some m.cls := findClass_of_methodNamed B.named
  have hlocks : meth.locks = false := B.notSynchronized
  have hin3 : ∀ w ∈ u_ws RX3 TX3 14, w ∈ wsX3_density := by decide +kernel
  have hS : va_S (zA [am, h 0, h 1, h 2, h 3, h 4, h 5, h 6, h 7, h 8, h 9]) s.heap s.heap [] := va_S.rf
  have hD : va_D (zA [am, h 0, h 1, h 2, h 3, h 4, h 5, h 6, h 7, h 8, h 9]) [(am, .inr (3, [.int (zI (th)), .int (zI (n)), .ref (h 0), .ref (h 1), .ref (h 2), .ref (h 3), .ref (h 4), .ref (h 5), .ref (h 6), .int (zI (m9)), .ref (h 7), .ref (h 8), .ref (h 9), .int (zI (sp))])), ((h 0), .inl (G 0, 8, .inl (M 0))), ((h 1), .inl (G 0, 8, .inl (M 1))), ((h 2), .inl (G 0, 8, .inl (M 2))), ((h 3), .inl (G 0, 8, .inl (M 3))), ((h 4), .inl (G 0, 8, .inl (M 4))), ((h 5), .inl (G 1, 24, .inl (M 5))), ((h 6), .inl (G 0, 1024, .inl (M 6))), ((h 7), .inl (G 0, 13, .inl (M 7))), ((h 8), .inl (G 0, 12, .inl (M 8))), ((h 9), .inl (G 1, 12, .inl (M 9)))] := z_Dof hnm rfl
  have hB := id hOK
  obtain ⟨hn0, hn8, hm0, hm12, hsp0, hsp1, -⟩ := hB
  refine z_entry hav (Nat.le_of_ble_eq_true rfl) rfl (fun ls hl => ?_)
  have hl : lv_has ls 5 [(0, .ref am), (1, .int (zI (k)))] := hl
  refine lv_aload_n hx hb dX3_density_0 rfl (lv_at hl 0 rfl) ?_
  refine lv_aload_n hx hb dX3_density_1 rfl (lv_at hl 0 rfl) ?_
  refine lv_iload_n hx hb dX3_density_2 rfl (lv_at hl 1 rfl) ?_
  refine z_call (va_runV (As := [.int (zI (k))]) (rest := [.ref am]) ⟨hx, hb, hml, hown, hts⟩ (kX3_isTrack l D G am (th) n m9 sp τ ζ h M hOK hM (k) (by omega)) (cwV 1 hts gX3_density_X3_isTrack rfl rfl rfl (by decide +kernel) ⟨Nat.le_of_ble_eq_true rfl, Nat.le_of_ble_eq_true rfl⟩) (zPreV (va_recv hK hP (ci := 3) (q0 := 0) rfl rfl) hK hN (hP)) rfl rfl hl.1 rfl (lv_room (Nat.le_of_ble_eq_true rfl)) dX3_density_3 ⟨Nat.le_of_ble_eq_true rfl, Nat.le_of_ble_eq_true rfl⟩) ?_
  refine z_eqB (tgt := 13) hx hb dX3_density_6 (by decide) (fun c_1 => ?_) (fun c_1 => ?_)
  · refine lv_iconst (v := zI (1)) hx hb dX3_density_13 rfl ?_
    refine va_put (D := D) (ci := 3) (v := .int (zI (1))) (ty := .int) (C := RX3) (T := TX3) (N := 14) hx hb hts hin3 tyX3 tyX3_ok nmX3 hown hK hP hD hS 0 rfl rfl 0 (by decide) (hts (.fieldLink RX3 45 "PolyDrumsModel" "thrown" "I") (by decide +kernel)) (fun _ h9 => h9) rfl (by decide +kernel) rfl rfl (Nat.le_of_ble_eq_true rfl) dX3_density_14 (fun H locs hP hD hS => ?_)
    have hP : va_P D vwCl [(am, .inr (3, [.int (zI (1)), .int (zI (n)), .ref (h 0), .ref (h 1), .ref (h 2), .ref (h 3), .ref (h 4), .ref (h 5), .ref (h 6), .int (zI (m9)), .ref (h 7), .ref (h 8), .ref (h 9), .int (zI (sp))])), ((h 0), .inl (G 0, 8, .inl (M 0))), ((h 1), .inl (G 0, 8, .inl (M 1))), ((h 2), .inl (G 0, 8, .inl (M 2))), ((h 3), .inl (G 0, 8, .inl (M 3))), ((h 4), .inl (G 0, 8, .inl (M 4))), ((h 5), .inl (G 1, 24, .inl (M 5))), ((h 6), .inl (G 0, 1024, .inl (M 6))), ((h 7), .inl (G 0, 13, .inl (M 7))), ((h 8), .inl (G 0, 12, .inl (M 8))), ((h 9), .inl (G 1, 12, .inl (M 9)))] H := hP
    have hD : va_D (zA [am, h 0, h 1, h 2, h 3, h 4, h 5, h 6, h 7, h 8, h 9]) [(am, .inr (3, [.int (zI (1)), .int (zI (n)), .ref (h 0), .ref (h 1), .ref (h 2), .ref (h 3), .ref (h 4), .ref (h 5), .ref (h 6), .int (zI (m9)), .ref (h 7), .ref (h 8), .ref (h 9), .int (zI (sp))])), ((h 0), .inl (G 0, 8, .inl (M 0))), ((h 1), .inl (G 0, 8, .inl (M 1))), ((h 2), .inl (G 0, 8, .inl (M 2))), ((h 3), .inl (G 0, 8, .inl (M 3))), ((h 4), .inl (G 0, 8, .inl (M 4))), ((h 5), .inl (G 1, 24, .inl (M 5))), ((h 6), .inl (G 0, 1024, .inl (M 6))), ((h 7), .inl (G 0, 13, .inl (M 7))), ((h 8), .inl (G 0, 12, .inl (M 8))), ((h 9), .inl (G 1, 12, .inl (M 9)))] := hD
    refine lv_dconst0 hx hb dX3_density_17 ?_
    refine lv_dstore_n (lv' := [(2, .double (FP.dconst0)), (0, .ref am), (1, .int (zI (k)))]) hx hb dX3_density_18 rfl hl (by decide) rfl (fun ls hl => ?_)
    refine lv_iconst (v := zI (0)) hx hb dX3_density_19 rfl ?_
    refine lv_istore (lv' := [(4, .int (zI (0))), (2, .double (FP.dconst0)), (0, .ref am), (1, .int (zI (k)))]) hx hb dX3_density_20 hl (by decide) rfl (fun ls hl => ?_)
    have loop_22 : ∀ (fu : Nat) (a : Int) (g : UInt64), (0 ≤ a ∧ (a = 0 ∨ a ≤ τ k.toNat 0)) → ((0 ≤ k ∧ k < n) ∨ a = 0) → (g = xDen (τ k.toNat) a.toNat) → 33 - a < (fu : Int) → ∀ (ls : Array Slot), lv_has ls 5 [(0, .ref am), (1, .int (zI (k))), (2, .double (g)), (4, .int (zI (a)))] → W p l e (headSpec wsX3_density ({ frames := 2, cells := 0, slots := 0, locals := 43 })).room s m args below meth c H locs 0 0 (MQ below (zM (some (.double (if 0 ≤ k ∧ k < n then xDen (τ k.toNat) (τ k.toNat 0).toNat else FP.dconst0))) (fun H => va_P D vwCl [(am, .inr (3, [.int (zI (if 0 ≤ k ∧ k < n then 0 else 1)), .int (zI (n)), .ref (h 0), .ref (h 1), .ref (h 2), .ref (h 3), .ref (h 4), .ref (h 5), .ref (h 6), .int (zI (m9)), .ref (h 7), .ref (h 8), .ref (h 9), .int (zI (sp))])), ((h 0), .inl (G 0, 8, .inl (M 0))), ((h 1), .inl (G 0, 8, .inl (M 1))), ((h 2), .inl (G 0, 8, .inl (M 2))), ((h 3), .inl (G 0, 8, .inl (M 3))), ((h 4), .inl (G 0, 8, .inl (M 4))), ((h 5), .inl (G 1, 24, .inl (M 5))), ((h 6), .inl (G 0, 1024, .inl (M 6))), ((h 7), .inl (G 0, 13, .inl (M 7))), ((h 8), .inl (G 0, 12, .inl (M 8))), ((h 9), .inl (G 1, 12, .inl (M 9)))] H) (zA [am, h 0, h 1, h 2, h 3, h 4, h 5, h 6, h 7, h 8, h 9])) args s 0 0 (zA [am, h 0, h 1, h 2, h 3, h 4, h 5, h 6, h 7, h 8, h 9])) (F0 m 22 ls []) := by
      intro fu
      induction fu with
      | zero =>
        intro a g ha0 hz hg hm
        exfalso; omega
      | succ fu ih =>
        intro a g ha0 hz hg hm ls hl
        have ih_22 := ih
        refine lv_aload_n hx hb dX3_density_22 rfl (lv_at hl 0 rfl) ?_
        refine va_get (D := D) (ci := 3) (v := .int (zI (1))) (C := RX3) (T := TX3) (N := 14) hx hb hts hin3 hown hK hP 0 rfl rfl 0 (by decide) (hts (.fieldLink RX3 45 "PolyDrumsModel" "thrown" "I") (by decide +kernel)) (fun _ h9 => h9) rfl dX3_density_23 ?_
        refine z_if_ne (tgt := 94) hx hb (by omega) dX3_density_26 (by decide) (fun c_2 => ?_) (fun c_2 => ?_)
        · refine lv_dload_n hx hb dX3_density_94 rfl (lv_at hl 2 rfl) ?_
          exact zm_dret hx hb hr hlocks hS (by first | exact hP | (rw [if_pos (by omega)]; exact hP) | (rw [if_neg (by omega)]; exact hP) | (rw [if_pos (by omega), if_pos (by omega)]; exact hP) | (rw [if_pos (by omega), if_neg (by omega)]; exact hP)) (by rw [if_neg (by omega), hg, show a = 0 by omega]; rfl) dX3_density_95
        · exfalso; omega
    exact loop_22 (34) (0) (FP.dconst0) (by omega) (by omega) (rfl) (by omega) ls (lv_sub hl [2, 3, 1, 0] rfl)
  · have htb := hOK.tb (k := k) (by omega)
    have hft := hOK.t (k := k) (by omega)
    refine lv_iconst (v := zI (0)) hx hb dX3_density_9 rfl ?_
    refine lv_goto (tgt := 14) hx hb dX3_density_10 (by decide) ?_
    refine va_put (D := D) (ci := 3) (v := .int (zI (0))) (ty := .int) (C := RX3) (T := TX3) (N := 14) hx hb hts hin3 tyX3 tyX3_ok nmX3 hown hK hP hD hS 0 rfl rfl 0 (by decide) (hts (.fieldLink RX3 45 "PolyDrumsModel" "thrown" "I") (by decide +kernel)) (fun _ h9 => h9) rfl (by decide +kernel) rfl rfl (Nat.le_of_ble_eq_true rfl) dX3_density_14 (fun H locs hP hD hS => ?_)
    have hP : va_P D vwCl [(am, .inr (3, [.int (zI (0)), .int (zI (n)), .ref (h 0), .ref (h 1), .ref (h 2), .ref (h 3), .ref (h 4), .ref (h 5), .ref (h 6), .int (zI (m9)), .ref (h 7), .ref (h 8), .ref (h 9), .int (zI (sp))])), ((h 0), .inl (G 0, 8, .inl (M 0))), ((h 1), .inl (G 0, 8, .inl (M 1))), ((h 2), .inl (G 0, 8, .inl (M 2))), ((h 3), .inl (G 0, 8, .inl (M 3))), ((h 4), .inl (G 0, 8, .inl (M 4))), ((h 5), .inl (G 1, 24, .inl (M 5))), ((h 6), .inl (G 0, 1024, .inl (M 6))), ((h 7), .inl (G 0, 13, .inl (M 7))), ((h 8), .inl (G 0, 12, .inl (M 8))), ((h 9), .inl (G 1, 12, .inl (M 9)))] H := hP
    have hD : va_D (zA [am, h 0, h 1, h 2, h 3, h 4, h 5, h 6, h 7, h 8, h 9]) [(am, .inr (3, [.int (zI (0)), .int (zI (n)), .ref (h 0), .ref (h 1), .ref (h 2), .ref (h 3), .ref (h 4), .ref (h 5), .ref (h 6), .int (zI (m9)), .ref (h 7), .ref (h 8), .ref (h 9), .int (zI (sp))])), ((h 0), .inl (G 0, 8, .inl (M 0))), ((h 1), .inl (G 0, 8, .inl (M 1))), ((h 2), .inl (G 0, 8, .inl (M 2))), ((h 3), .inl (G 0, 8, .inl (M 3))), ((h 4), .inl (G 0, 8, .inl (M 4))), ((h 5), .inl (G 1, 24, .inl (M 5))), ((h 6), .inl (G 0, 1024, .inl (M 6))), ((h 7), .inl (G 0, 13, .inl (M 7))), ((h 8), .inl (G 0, 12, .inl (M 8))), ((h 9), .inl (G 1, 12, .inl (M 9)))] := hD
    refine lv_dconst0 hx hb dX3_density_17 ?_
    refine lv_dstore_n (lv' := [(2, .double (FP.dconst0)), (0, .ref am), (1, .int (zI (k)))]) hx hb dX3_density_18 rfl hl (by decide) rfl (fun ls hl => ?_)
    refine lv_iconst (v := zI (0)) hx hb dX3_density_19 rfl ?_
    refine lv_istore (lv' := [(4, .int (zI (0))), (2, .double (FP.dconst0)), (0, .ref am), (1, .int (zI (k)))]) hx hb dX3_density_20 hl (by decide) rfl (fun ls hl => ?_)
    have loop_22 : ∀ (fu : Nat) (a : Int) (g : UInt64), (0 ≤ a ∧ (a = 0 ∨ a ≤ τ k.toNat 0)) → ((0 ≤ k ∧ k < n) ∨ a = 0) → (g = xDen (τ k.toNat) a.toNat) → 33 - a < (fu : Int) → ∀ (ls : Array Slot), lv_has ls 5 [(0, .ref am), (1, .int (zI (k))), (2, .double (g)), (4, .int (zI (a)))] → W p l e (headSpec wsX3_density ({ frames := 2, cells := 0, slots := 0, locals := 43 })).room s m args below meth c H locs 0 0 (MQ below (zM (some (.double (if 0 ≤ k ∧ k < n then xDen (τ k.toNat) (τ k.toNat 0).toNat else FP.dconst0))) (fun H => va_P D vwCl [(am, .inr (3, [.int (zI (if 0 ≤ k ∧ k < n then 0 else 1)), .int (zI (n)), .ref (h 0), .ref (h 1), .ref (h 2), .ref (h 3), .ref (h 4), .ref (h 5), .ref (h 6), .int (zI (m9)), .ref (h 7), .ref (h 8), .ref (h 9), .int (zI (sp))])), ((h 0), .inl (G 0, 8, .inl (M 0))), ((h 1), .inl (G 0, 8, .inl (M 1))), ((h 2), .inl (G 0, 8, .inl (M 2))), ((h 3), .inl (G 0, 8, .inl (M 3))), ((h 4), .inl (G 0, 8, .inl (M 4))), ((h 5), .inl (G 1, 24, .inl (M 5))), ((h 6), .inl (G 0, 1024, .inl (M 6))), ((h 7), .inl (G 0, 13, .inl (M 7))), ((h 8), .inl (G 0, 12, .inl (M 8))), ((h 9), .inl (G 1, 12, .inl (M 9)))] H) (zA [am, h 0, h 1, h 2, h 3, h 4, h 5, h 6, h 7, h 8, h 9])) args s 0 0 (zA [am, h 0, h 1, h 2, h 3, h 4, h 5, h 6, h 7, h 8, h 9])) (F0 m 22 ls []) := by
      intro fu
      induction fu with
      | zero =>
        intro a g ha0 hz hg hm
        exfalso; omega
      | succ fu ih =>
        intro a g ha0 hz hg hm ls hl
        have ih_22 := ih
        refine lv_aload_n hx hb dX3_density_22 rfl (lv_at hl 0 rfl) ?_
        refine va_get (D := D) (ci := 3) (v := .int (zI (0))) (C := RX3) (T := TX3) (N := 14) hx hb hts hin3 hown hK hP 0 rfl rfl 0 (by decide) (hts (.fieldLink RX3 45 "PolyDrumsModel" "thrown" "I") (by decide +kernel)) (fun _ h9 => h9) rfl dX3_density_23 ?_
        refine z_if_ne (tgt := 94) hx hb (by omega) dX3_density_26 (by decide) (fun c_3 => ?_) (fun c_3 => ?_)
        · exfalso; omega
        · refine lv_iload hx hb dX3_density_29 (lv_at hl 3 rfl) ?_
          refine lv_aload_n hx hb dX3_density_31 rfl (lv_at hl 0 rfl) ?_
          refine va_get (D := D) (ci := 3) (v := .ref (h 0)) (C := RX3) (T := TX3) (N := 14) hx hb hts hin3 hown hK hP 0 rfl rfl 2 (by decide) (hts (.fieldLink RX3 9 "PolyDrumsModel" "counts" "[I") (by decide +kernel)) (fun _ h9 => h9) rfl dX3_density_32 ?_
          refine lv_iload_n hx hb dX3_density_35 rfl (lv_at hl 1 rfl) ?_
          refine z_iald (x := zI (τ (k).toNat 0)) (D := D) hx hb hK hP 1 0 rfl rfl (by omega) (by omega) (hM.a (k := k) (by omega) 0 (by omega)) dX3_density_36 ?_
          refine z_icmp_ge (tgt := 94) hx hb (by omega) dX3_density_37 (by decide) (fun c_4 => ?_) (fun c_4 => ?_)
          · refine lv_dload_n hx hb dX3_density_94 rfl (lv_at hl 2 rfl) ?_
            exact zm_dret hx hb hr hlocks hS (by first | exact hP | (rw [if_pos (by omega)]; exact hP) | (rw [if_neg (by omega)]; exact hP) | (rw [if_pos (by omega), if_pos (by omega)]; exact hP) | (rw [if_pos (by omega), if_neg (by omega)]; exact hP)) (by rw [if_pos (by omega), hg, show a = τ k.toNat 0 by omega]) dX3_density_95
          · have hc1 := hft.2.2.2.2.2.2.2.2.2.2.2.2.2 a ha0.1 (by omega)
            have hgn : zFn g := by rw [hg]; exact xDen_n hft _ (by omega)
            refine lv_aload_n hx hb dX3_density_40 rfl (lv_at hl 0 rfl) ?_
            refine va_get (D := D) (ci := 3) (v := .ref (h 6)) (C := RX3) (T := TX3) (N := 14) hx hb hts hin3 hown hK hP 0 rfl rfl 8 (by decide) (hts (.fieldLink RX3 29 "PolyDrumsModel" "steps" "[I") (by decide +kernel)) (fun _ h9 => h9) rfl dX3_density_41 ?_
            refine lv_iload_n hx hb dX3_density_44 rfl (lv_at hl 1 rfl) ?_
            refine lv_iload hx hb dX3_density_45 (lv_at hl 3 rfl) ?_
            refine z_call (va_runS (As := [.int (zI (k)), .int (zI (a))]) (rest := [.ref (h 6)]) ⟨hx, hb, hml, hown, hts⟩ (kX3_at l D G (k) (a)) (va_cwS 2 hts gX3_density_X3_at rfl rfl rfl (by decide +kernel) ⟨Nat.le_of_ble_eq_true rfl, Nat.le_of_ble_eq_true rfl⟩) (zPreS hK hN (trivial)) rfl rfl hl.1 rfl (lv_room (Nat.le_of_ble_eq_true rfl)) dX3_density_47 ⟨Nat.le_of_ble_eq_true rfl, Nat.le_of_ble_eq_true rfl⟩) ?_
            refine lv_iconst (v := zI (0)) hx hb dX3_density_50 rfl ?_
            refine z_iadd hx hb dX3_density_51 ?_
            refine z_iald (x := zI (xC (τ (k).toNat) (a) 0)) (D := D) hx hb hK hP 7 0 rfl rfl (by have h32 := (hOK.tb (k := k) (by omega)).2.1; omega) (by omega) (hM.st (k := k) (s := a) (w := 0) (by omega) (by omega) (by omega) (by omega)) dX3_density_52 ?_
            refine z_if_le (tgt := 88) hx hb (by omega) dX3_density_53 (by decide) (fun c_5 => ?_) (fun c_5 => ?_)
            · refine lv_iinc (v := zI (a + 1)) (lv' := [(4, .int (zI (a + 1))), (0, .ref am), (1, .int (zI (k))), (2, .double (g))]) hx hb dX3_density_88 hl (k := 3) rfl (zI_add (a) (1)) (by decide) rfl (fun ls hl => ?_)
              refine lv_goto (tgt := 22) hx hb dX3_density_91 (by decide) ?_
              exact ih_22 (a + 1) (g) (by omega) (by omega) (by rw [xDen_s ha0.1]; first | (rw [if_pos (by omega), hg]; done) | (rw [if_neg (by omega), hg]; done)) (by omega) _ (lv_sub hl [1, 2, 3, 0] rfl)
            · have hdn := zF_div (zF_i2d (t := xC (τ k.toNat) a 1) (by omega)) (zF_i2dp (b := xC (τ k.toNat) a 3) (by omega))
              refine lv_dload_n hx hb dX3_density_56 rfl (lv_at hl 2 rfl) ?_
              refine lv_aload_n hx hb dX3_density_57 rfl (lv_at hl 0 rfl) ?_
              refine va_get (D := D) (ci := 3) (v := .ref (h 6)) (C := RX3) (T := TX3) (N := 14) hx hb hts hin3 hown hK hP 0 rfl rfl 8 (by decide) (hts (.fieldLink RX3 29 "PolyDrumsModel" "steps" "[I") (by decide +kernel)) (fun _ h9 => h9) rfl dX3_density_58 ?_
              refine lv_iload_n hx hb dX3_density_61 rfl (lv_at hl 1 rfl) ?_
              refine lv_iload hx hb dX3_density_62 (lv_at hl 3 rfl) ?_
              refine z_call (va_runS (As := [.int (zI (k)), .int (zI (a))]) (rest := [.ref (h 6), .double (g)]) ⟨hx, hb, hml, hown, hts⟩ (kX3_at l D G (k) (a)) (va_cwS 2 hts gX3_density_X3_at rfl rfl rfl (by decide +kernel) ⟨Nat.le_of_ble_eq_true rfl, Nat.le_of_ble_eq_true rfl⟩) (zPreS hK hN (trivial)) rfl rfl hl.1 rfl (lv_room (Nat.le_of_ble_eq_true rfl)) dX3_density_64 ⟨Nat.le_of_ble_eq_true rfl, Nat.le_of_ble_eq_true rfl⟩) ?_
              refine lv_iconst (v := zI (1)) hx hb dX3_density_67 rfl ?_
              refine z_iadd hx hb dX3_density_68 ?_
              refine z_iald (x := zI (xC (τ (k).toNat) (a) 1)) (D := D) hx hb hK hP 7 0 rfl rfl (by have h32 := (hOK.tb (k := k) (by omega)).2.1; omega) (by omega) (hM.st (k := k) (s := a) (w := 1) (by omega) (by omega) (by omega) (by omega)) dX3_density_69 ?_
              refine lv_i2d hx hb dX3_density_70 ?_
              refine lv_aload_n hx hb dX3_density_71 rfl (lv_at hl 0 rfl) ?_
              refine va_get (D := D) (ci := 3) (v := .ref (h 6)) (C := RX3) (T := TX3) (N := 14) hx hb hts hin3 hown hK hP 0 rfl rfl 8 (by decide) (hts (.fieldLink RX3 29 "PolyDrumsModel" "steps" "[I") (by decide +kernel)) (fun _ h9 => h9) rfl dX3_density_72 ?_
              refine lv_iload_n hx hb dX3_density_75 rfl (lv_at hl 1 rfl) ?_
              refine lv_iload hx hb dX3_density_76 (lv_at hl 3 rfl) ?_
              refine z_call (va_runS (As := [.int (zI (k)), .int (zI (a))]) (rest := [.ref (h 6), .double (FP.i2d (zI (xC (τ (k).toNat) (a) 1))), .double (g)]) ⟨hx, hb, hml, hown, hts⟩ (kX3_at l D G (k) (a)) (va_cwS 2 hts gX3_density_X3_at rfl rfl rfl (by decide +kernel) ⟨Nat.le_of_ble_eq_true rfl, Nat.le_of_ble_eq_true rfl⟩) (zPreS hK hN (trivial)) rfl rfl hl.1 rfl (lv_room (Nat.le_of_ble_eq_true rfl)) dX3_density_78 ⟨Nat.le_of_ble_eq_true rfl, Nat.le_of_ble_eq_true rfl⟩) ?_
              refine lv_iconst (v := zI (3)) hx hb dX3_density_81 rfl ?_
              refine z_iadd hx hb dX3_density_82 ?_
              refine z_iald (x := zI (xC (τ (k).toNat) (a) 3)) (D := D) hx hb hK hP 7 0 rfl rfl (by have h32 := (hOK.tb (k := k) (by omega)).2.1; omega) (by omega) (hM.st (k := k) (s := a) (w := 3) (by omega) (by omega) (by omega) (by omega)) dX3_density_83 ?_
              refine lv_i2d hx hb dX3_density_84 ?_
              refine lv_ddiv hx hb dX3_density_85 (zFn_n64 hdn) ?_
              refine lv_dadd hx hb dX3_density_86 (zFn_n64 (zF_add hgn hdn)) ?_
              refine lv_dstore_n (lv' := [(2, .double (FP.dadd (g) (FP.ddiv (FP.i2d (zI (xC (τ (k).toNat) (a) 1))) (FP.i2d (zI (xC (τ (k).toNat) (a) 3)))))), (0, .ref am), (1, .int (zI (k))), (4, .int (zI (a)))]) hx hb dX3_density_87 rfl hl (by decide) rfl (fun ls hl => ?_)
              refine lv_iinc (v := zI (a + 1)) (lv' := [(4, .int (zI (a + 1))), (2, .double (FP.dadd (g) (FP.ddiv (FP.i2d (zI (xC (τ (k).toNat) (a) 1))) (FP.i2d (zI (xC (τ (k).toNat) (a) 3)))))), (0, .ref am), (1, .int (zI (k)))]) hx hb dX3_density_88 hl (k := 3) rfl (zI_add (a) (1)) (by decide) rfl (fun ls hl => ?_)
              refine lv_goto (tgt := 22) hx hb dX3_density_91 (by decide) ?_
              exact ih_22 (a + 1) (FP.dadd (g) (FP.ddiv (FP.i2d (zI (xC (τ (k).toNat) (a) 1))) (FP.i2d (zI (xC (τ (k).toNat) (a) 3))))) (by omega) (by omega) (by rw [xDen_s ha0.1]; first | (rw [if_pos (by omega), hg]; done) | (rw [if_neg (by omega), hg]; done)) (by omega) _ (lv_sub hl [2, 3, 1, 0] rfl)
    exact loop_22 (34) (0) (FP.dconst0) (by omega) (by omega) (rfl) (by omega) ls (lv_sub hl [2, 3, 1, 0] rfl)

set_option maxHeartbeats 4000000 in
set_option maxRecDepth 100000 in
theorem kX3_seconds (l : Launch) (D : va_G) (G : Nat → ClassId) (am : Nat) (th n m9 sp : Int) (τ ζ : Nat → Nat → Int) (h : Nat → Nat) (M : Nat → Nat → Int32) (hOK : XOK n m9 sp τ ζ) (hM : MR n m9 τ ζ M) (hnm : [am, h 0, h 1, h 2, h 3, h 4, h 5, h 6, h 7, h 8, h 9].Nodup) (t9 : Int) (hr0 : -2147483648 ≤ t9 ∧ t9 ≤ 2147483647) : Met l yX3_seconds wsX3_seconds ({ frames := 2, cells := 0, slots := 0, locals := 42 }) (zP [.ref am, .int (zI (t9))] D G (fun H => va_P D vwCl [(am, .inr (3, [.int (zI (th)), .int (zI (n)), .ref (h 0), .ref (h 1), .ref (h 2), .ref (h 3), .ref (h 4), .ref (h 5), .ref (h 6), .int (zI (m9)), .ref (h 7), .ref (h 8), .ref (h 9), .int (zI (sp))])), ((h 0), .inl (G 0, 8, .inl (M 0))), ((h 1), .inl (G 0, 8, .inl (M 1))), ((h 2), .inl (G 0, 8, .inl (M 2))), ((h 3), .inl (G 0, 8, .inl (M 3))), ((h 4), .inl (G 0, 8, .inl (M 4))), ((h 5), .inl (G 1, 24, .inl (M 5))), ((h 6), .inl (G 0, 1024, .inl (M 6))), ((h 7), .inl (G 0, 13, .inl (M 7))), ((h 8), .inl (G 0, 12, .inl (M 8))), ((h 9), .inl (G 1, 12, .inl (M 9)))] H)) (zM (some (.double (if 0 ≤ t9 ∧ t9 ≤ 99999 then xSecs sp t9 else FP.dconst0))) (fun H => va_P D vwCl [(am, .inr (3, [.int (zI (if 0 ≤ t9 ∧ t9 ≤ 99999 then 0 else 1)), .int (zI (n)), .ref (h 0), .ref (h 1), .ref (h 2), .ref (h 3), .ref (h 4), .ref (h 5), .ref (h 6), .int (zI (m9)), .ref (h 7), .ref (h 8), .ref (h 9), .int (zI (sp))])), ((h 0), .inl (G 0, 8, .inl (M 0))), ((h 1), .inl (G 0, 8, .inl (M 1))), ((h 2), .inl (G 0, 8, .inl (M 2))), ((h 3), .inl (G 0, 8, .inl (M 3))), ((h 4), .inl (G 0, 8, .inl (M 4))), ((h 5), .inl (G 1, 24, .inl (M 5))), ((h 6), .inl (G 0, 1024, .inl (M 6))), ((h 7), .inl (G 0, 13, .inl (M 7))), ((h 8), .inl (G 0, 12, .inl (M 8))), ((h 9), .inl (G 1, 12, .inl (M 9)))] H) (zA [am, h 0, h 1, h 2, h 3, h 4, h 5, h 6, h 7, h 8, h 9])) 0 0 (zA [am, h 0, h 1, h 2, h 3, h 4, h 5, h 6, h 7, h 8, h 9]) := by
  refine Met.ofW (cc := cX3_seconds) (maxL := 2) (ret := (some .double)) (by decide) rfl ?_
  intro p e s m args below meth c s₁ B hml hv
  obtain ⟨hav, hP, hK, hN⟩ := hv
  have hx := B.exec
  have hb := B.bytes
  have hr := B.returns
  have hts := atoms_spec (ws := wsX3_seconds) B.pre
  have hown : s.vm.findClass RX3 = some m.cls := findClass_of_methodNamed B.named
  have hlocks : meth.locks = false := B.notSynchronized
  have hin3 : ∀ w ∈ u_ws RX3 TX3 14, w ∈ wsX3_seconds := by decide +kernel
  have hS : va_S (zA [am, h 0, h 1, h 2, h 3, h 4, h 5, h 6, h 7, h 8, h 9]) s.heap s.heap [] := va_S.rf
  have hD : va_D (zA [am, h 0, h 1, h 2, h 3, h 4, h 5, h 6, h 7, h 8, h 9]) [(am, .inr (3, [.int (zI (th)), .int (zI (n)), .ref (h 0), .ref (h 1), .ref (h 2), .ref (h 3), .ref (h 4), .ref (h 5), .ref (h 6), .int (zI (m9)), .ref (h 7), .ref (h 8), .ref (h 9), .int (zI (sp))])), ((h 0), .inl (G 0, 8, .inl (M 0))), ((h 1), .inl (G 0, 8, .inl (M 1))), ((h 2), .inl (G 0, 8, .inl (M 2))), ((h 3), .inl (G 0, 8, .inl (M 3))), ((h 4), .inl (G 0, 8, .inl (M 4))), ((h 5), .inl (G 1, 24, .inl (M 5))), ((h 6), .inl (G 0, 1024, .inl (M 6))), ((h 7), .inl (G 0, 13, .inl (M 7))), ((h 8), .inl (G 0, 12, .inl (M 8))), ((h 9), .inl (G 1, 12, .inl (M 9)))] := z_Dof hnm rfl
  have hB := id hOK
  obtain ⟨hn0, hn8, hm0, hm12, hsp0, hsp1, -⟩ := hB
  refine z_entry hav (Nat.le_of_ble_eq_true rfl) rfl (fun ls hl => ?_)
  have hl : lv_has ls 2 [(0, .ref am), (1, .int (zI (t9)))] := hl
  refine lv_aload_n hx hb dX3_seconds_0 rfl (lv_at hl 0 rfl) ?_
  refine lv_iload_n hx hb dX3_seconds_1 rfl (lv_at hl 1 rfl) ?_
  refine z_call (va_runS (As := [.int (zI (t9))]) (rest := [.ref am]) ⟨hx, hb, hml, hown, hts⟩ (kX3_isTick l D G (t9) (by omega)) (va_cwS 1 hts gX3_seconds_X3_isTick rfl rfl rfl (by decide +kernel) ⟨Nat.le_of_ble_eq_true rfl, Nat.le_of_ble_eq_true rfl⟩) (zPreS hK hN (trivial)) rfl rfl hl.1 rfl (lv_room (Nat.le_of_ble_eq_true rfl)) dX3_seconds_2 ⟨Nat.le_of_ble_eq_true rfl, Nat.le_of_ble_eq_true rfl⟩) ?_
  refine z_eqB (tgt := 12) hx hb dX3_seconds_5 (by decide) (fun c_1 => ?_) (fun c_1 => ?_)
  · refine lv_iconst (v := zI (1)) hx hb dX3_seconds_12 rfl ?_
    refine va_put (D := D) (ci := 3) (v := .int (zI (1))) (ty := .int) (C := RX3) (T := TX3) (N := 14) hx hb hts hin3 tyX3 tyX3_ok nmX3 hown hK hP hD hS 0 rfl rfl 0 (by decide) (hts (.fieldLink RX3 45 "PolyDrumsModel" "thrown" "I") (by decide +kernel)) (fun _ h9 => h9) rfl (by decide +kernel) rfl rfl (Nat.le_of_ble_eq_true rfl) dX3_seconds_13 (fun H locs hP hD hS => ?_)
    have hP : va_P D vwCl [(am, .inr (3, [.int (zI (1)), .int (zI (n)), .ref (h 0), .ref (h 1), .ref (h 2), .ref (h 3), .ref (h 4), .ref (h 5), .ref (h 6), .int (zI (m9)), .ref (h 7), .ref (h 8), .ref (h 9), .int (zI (sp))])), ((h 0), .inl (G 0, 8, .inl (M 0))), ((h 1), .inl (G 0, 8, .inl (M 1))), ((h 2), .inl (G 0, 8, .inl (M 2))), ((h 3), .inl (G 0, 8, .inl (M 3))), ((h 4), .inl (G 0, 8, .inl (M 4))), ((h 5), .inl (G 1, 24, .inl (M 5))), ((h 6), .inl (G 0, 1024, .inl (M 6))), ((h 7), .inl (G 0, 13, .inl (M 7))), ((h 8), .inl (G 0, 12, .inl (M 8))), ((h 9), .inl (G 1, 12, .inl (M 9)))] H := hP
    have hD : va_D (zA [am, h 0, h 1, h 2, h 3, h 4, h 5, h 6, h 7, h 8, h 9]) [(am, .inr (3, [.int (zI (1)), .int (zI (n)), .ref (h 0), .ref (h 1), .ref (h 2), .ref (h 3), .ref (h 4), .ref (h 5), .ref (h 6), .int (zI (m9)), .ref (h 7), .ref (h 8), .ref (h 9), .int (zI (sp))])), ((h 0), .inl (G 0, 8, .inl (M 0))), ((h 1), .inl (G 0, 8, .inl (M 1))), ((h 2), .inl (G 0, 8, .inl (M 2))), ((h 3), .inl (G 0, 8, .inl (M 3))), ((h 4), .inl (G 0, 8, .inl (M 4))), ((h 5), .inl (G 1, 24, .inl (M 5))), ((h 6), .inl (G 0, 1024, .inl (M 6))), ((h 7), .inl (G 0, 13, .inl (M 7))), ((h 8), .inl (G 0, 12, .inl (M 8))), ((h 9), .inl (G 1, 12, .inl (M 9)))] := hD
    refine lv_aload_n hx hb dX3_seconds_16 rfl (lv_at hl 0 rfl) ?_
    refine va_get (D := D) (ci := 3) (v := .int (zI (1))) (C := RX3) (T := TX3) (N := 14) hx hb hts hin3 hown hK hP 0 rfl rfl 0 (by decide) (hts (.fieldLink RX3 45 "PolyDrumsModel" "thrown" "I") (by decide +kernel)) (fun _ h9 => h9) rfl dX3_seconds_17 ?_
    refine z_if_ne (tgt := 42) hx hb (by omega) dX3_seconds_20 (by decide) (fun c_2 => ?_) (fun c_2 => ?_)
    · refine lv_dconst0 hx hb dX3_seconds_42 ?_
      exact zm_dret hx hb hr hlocks hS (by first | exact hP | (rw [if_pos (by omega)]; exact hP) | (rw [if_neg (by omega)]; exact hP) | (rw [if_pos (by omega), if_pos (by omega)]; exact hP) | (rw [if_pos (by omega), if_neg (by omega)]; exact hP)) (by rw [if_neg (by omega)]) dX3_seconds_43
    · exfalso; omega
  · refine lv_iconst (v := zI (0)) hx hb dX3_seconds_8 rfl ?_
    refine lv_goto (tgt := 13) hx hb dX3_seconds_9 (by decide) ?_
    refine va_put (D := D) (ci := 3) (v := .int (zI (0))) (ty := .int) (C := RX3) (T := TX3) (N := 14) hx hb hts hin3 tyX3 tyX3_ok nmX3 hown hK hP hD hS 0 rfl rfl 0 (by decide) (hts (.fieldLink RX3 45 "PolyDrumsModel" "thrown" "I") (by decide +kernel)) (fun _ h9 => h9) rfl (by decide +kernel) rfl rfl (Nat.le_of_ble_eq_true rfl) dX3_seconds_13 (fun H locs hP hD hS => ?_)
    have hP : va_P D vwCl [(am, .inr (3, [.int (zI (0)), .int (zI (n)), .ref (h 0), .ref (h 1), .ref (h 2), .ref (h 3), .ref (h 4), .ref (h 5), .ref (h 6), .int (zI (m9)), .ref (h 7), .ref (h 8), .ref (h 9), .int (zI (sp))])), ((h 0), .inl (G 0, 8, .inl (M 0))), ((h 1), .inl (G 0, 8, .inl (M 1))), ((h 2), .inl (G 0, 8, .inl (M 2))), ((h 3), .inl (G 0, 8, .inl (M 3))), ((h 4), .inl (G 0, 8, .inl (M 4))), ((h 5), .inl (G 1, 24, .inl (M 5))), ((h 6), .inl (G 0, 1024, .inl (M 6))), ((h 7), .inl (G 0, 13, .inl (M 7))), ((h 8), .inl (G 0, 12, .inl (M 8))), ((h 9), .inl (G 1, 12, .inl (M 9)))] H := hP
    have hD : va_D (zA [am, h 0, h 1, h 2, h 3, h 4, h 5, h 6, h 7, h 8, h 9]) [(am, .inr (3, [.int (zI (0)), .int (zI (n)), .ref (h 0), .ref (h 1), .ref (h 2), .ref (h 3), .ref (h 4), .ref (h 5), .ref (h 6), .int (zI (m9)), .ref (h 7), .ref (h 8), .ref (h 9), .int (zI (sp))])), ((h 0), .inl (G 0, 8, .inl (M 0))), ((h 1), .inl (G 0, 8, .inl (M 1))), ((h 2), .inl (G 0, 8, .inl (M 2))), ((h 3), .inl (G 0, 8, .inl (M 3))), ((h 4), .inl (G 0, 8, .inl (M 4))), ((h 5), .inl (G 1, 24, .inl (M 5))), ((h 6), .inl (G 0, 1024, .inl (M 6))), ((h 7), .inl (G 0, 13, .inl (M 7))), ((h 8), .inl (G 0, 12, .inl (M 8))), ((h 9), .inl (G 1, 12, .inl (M 9)))] := hD
    refine lv_aload_n hx hb dX3_seconds_16 rfl (lv_at hl 0 rfl) ?_
    refine va_get (D := D) (ci := 3) (v := .int (zI (0))) (C := RX3) (T := TX3) (N := 14) hx hb hts hin3 hown hK hP 0 rfl rfl 0 (by decide) (hts (.fieldLink RX3 45 "PolyDrumsModel" "thrown" "I") (by decide +kernel)) (fun _ h9 => h9) rfl dX3_seconds_17 ?_
    refine z_if_ne (tgt := 42) hx hb (by omega) dX3_seconds_20 (by decide) (fun c_3 => ?_) (fun c_3 => ?_)
    · exfalso; omega
    · refine lv_iload_n hx hb dX3_seconds_23 rfl (lv_at hl 1 rfl) ?_
      refine lv_i2d hx hb dX3_seconds_24 ?_
      refine lv_ldc2d (v := 4633641066610819072) hx hb hown (hts (.constantDouble RX3 145 (4633641066610819072)) (by decide +kernel)) dX3_seconds_25 ?_
      refine lv_dmul hx hb dX3_seconds_28 (zFn_n64 (zF_mul (zF_i2d (by omega)) zF_60)) ?_
      refine lv_aload_n hx hb dX3_seconds_29 rfl (lv_at hl 0 rfl) ?_
      refine va_get (D := D) (ci := 3) (v := .int (zI (sp))) (C := RX3) (T := TX3) (N := 14) hx hb hts hin3 hown hK hP 0 rfl rfl 13 (by decide) (hts (.fieldLink RX3 41 "PolyDrumsModel" "speed" "I") (by decide +kernel)) (fun _ h9 => h9) rfl dX3_seconds_30 ?_
      refine lv_i2d hx hb dX3_seconds_33 ?_
      refine lv_ddiv hx hb dX3_seconds_34 (zFn_n64 (zF_div (zF_mul (zF_i2d (by omega)) zF_60) (zF_i2dp (by omega)))) ?_
      refine lv_ldc2d (v := 4627448617123184640) hx hb hown (hts (.constantDouble RX3 147 (4627448617123184640)) (by decide +kernel)) dX3_seconds_35 ?_
      refine lv_ddiv hx hb dX3_seconds_38 (zFn_n64 (zF_div (zF_div (zF_mul (zF_i2d (by omega)) zF_60) (zF_i2dp (by omega))) zF_24)) ?_
      refine lv_goto (tgt := 43) hx hb dX3_seconds_39 (by decide) ?_
      exact zm_dret hx hb hr hlocks hS (by first | exact hP | (rw [if_pos (by omega)]; exact hP) | (rw [if_neg (by omega)]; exact hP) | (rw [if_pos (by omega), if_pos (by omega)]; exact hP) | (rw [if_pos (by omega), if_neg (by omega)]; exact hP)) (by rw [if_pos (by omega)]; rfl) dX3_seconds_43

set_option maxHeartbeats 4000000 in
set_option maxRecDepth 100000 in
theorem kX3_digest (l : Launch) (D : va_G) (G : Nat → ClassId) (am : Nat) (th n m9 sp : Int) (τ ζ : Nat → Nat → Int) (h : Nat → Nat) (M : Nat → Nat → Int32) (hOK : XOK n m9 sp τ ζ) (hM : MR n m9 τ ζ M) (hnm : [am, h 0, h 1, h 2, h 3, h 4, h 5, h 6, h 7, h 8, h 9].Nodup)   : Met l yX3_digest wsX3_digest ({ frames := 1, cells := 0, slots := 0, locals := 22 }) (zP [.ref am] D G (fun H => va_P D vwCl [(am, .inr (3, [.int (zI (th)), .int (zI (n)), .ref (h 0), .ref (h 1), .ref (h 2), .ref (h 3), .ref (h 4), .ref (h 5), .ref (h 6), .int (zI (m9)), .ref (h 7), .ref (h 8), .ref (h 9), .int (zI (sp))])), ((h 0), .inl (G 0, 8, .inl (M 0))), ((h 1), .inl (G 0, 8, .inl (M 1))), ((h 2), .inl (G 0, 8, .inl (M 2))), ((h 3), .inl (G 0, 8, .inl (M 3))), ((h 4), .inl (G 0, 8, .inl (M 4))), ((h 5), .inl (G 1, 24, .inl (M 5))), ((h 6), .inl (G 0, 1024, .inl (M 6))), ((h 7), .inl (G 0, 13, .inl (M 7))), ((h 8), .inl (G 0, 12, .inl (M 8))), ((h 9), .inl (G 1, 12, .inl (M 9)))] H)) (zM (some (.long (xDig n m9 sp τ ζ))) (fun H => va_P D vwCl [(am, .inr (3, [.int (zI (0)), .int (zI (n)), .ref (h 0), .ref (h 1), .ref (h 2), .ref (h 3), .ref (h 4), .ref (h 5), .ref (h 6), .int (zI (m9)), .ref (h 7), .ref (h 8), .ref (h 9), .int (zI (sp))])), ((h 0), .inl (G 0, 8, .inl (M 0))), ((h 1), .inl (G 0, 8, .inl (M 1))), ((h 2), .inl (G 0, 8, .inl (M 2))), ((h 3), .inl (G 0, 8, .inl (M 3))), ((h 4), .inl (G 0, 8, .inl (M 4))), ((h 5), .inl (G 1, 24, .inl (M 5))), ((h 6), .inl (G 0, 1024, .inl (M 6))), ((h 7), .inl (G 0, 13, .inl (M 7))), ((h 8), .inl (G 0, 12, .inl (M 8))), ((h 9), .inl (G 1, 12, .inl (M 9)))] H) (zA [am, h 0, h 1, h 2, h 3, h 4, h 5, h 6, h 7, h 8, h 9])) 0 0 (zA [am, h 0, h 1, h 2, h 3, h 4, h 5, h 6, h 7, h 8, h 9]) := by
  refine Met.ofW (cc := cX3_digest) (maxL := 5) (ret := (some .long)) (by decide) rfl ?_
  intro p e s m args below meth c s₁ B hml hv
  obtain ⟨hav, hP, hK, hN⟩ := hv
  have hx := B.exec
  have hb := B.bytes
  have hr := B.returns
  have hts := atoms_spec (ws := wsX3_digest) B.pre
  have hown : s.vm.findClass RX3 = some m.cls := findClass_of_methodNamed B.named
  have hlocks : meth.locks = false := B.notSynchronized
  have hin3 : ∀ w ∈ u_ws RX3 TX3 14, w ∈ wsX3_digest := by decide +kernel
  have hS : va_S (zA [am, h 0, h 1, h 2, h 3, h 4, h 5, h 6, h 7, h 8, h 9]) s.heap s.heap [] := va_S.rf
  have hD : va_D (zA [am, h 0, h 1, h 2, h 3, h 4, h 5, h 6, h 7, h 8, h 9]) [(am, .inr (3, [.int (zI (th)), .int (zI (n)), .ref (h 0), .ref (h 1), .ref (h 2), .ref (h 3), .ref (h 4), .ref (h 5), .ref (h 6), .int (zI (m9)), .ref (h 7), .ref (h 8), .ref (h 9), .int (zI (sp))])), ((h 0), .inl (G 0, 8, .inl (M 0))), ((h 1), .inl (G 0, 8, .inl (M 1))), ((h 2), .inl (G 0, 8, .inl (M 2))), ((h 3), .inl (G 0, 8, .inl (M 3))), ((h 4), .inl (G 0, 8, .inl (M 4))), ((h 5), .inl (G 1, 24, .inl (M 5))), ((h 6), .inl (G 0, 1024, .inl (M 6))), ((h 7), .inl (G 0, 13, .inl (M 7))), ((h 8), .inl (G 0, 12, .inl (M 8))), ((h 9), .inl (G 1, 12, .inl (M 9)))] := z_Dof hnm rfl
  have hB := id hOK
  obtain ⟨hn0, hn8, hm0, hm12, hsp0, hsp1, -⟩ := hB
  refine z_entry hav (Nat.le_of_ble_eq_true rfl) rfl (fun ls hl => ?_)
  have hl : lv_has ls 5 [(0, .ref am)] := hl
  refine lv_aload_n hx hb dX3_digest_0 rfl (lv_at hl 0 rfl) ?_
  refine lv_iconst (v := zI (0)) hx hb dX3_digest_1 rfl ?_
  refine va_put (D := D) (ci := 3) (v := .int (zI (0))) (ty := .int) (C := RX3) (T := TX3) (N := 14) hx hb hts hin3 tyX3 tyX3_ok nmX3 hown hK hP hD hS 0 rfl rfl 0 (by decide) (hts (.fieldLink RX3 45 "PolyDrumsModel" "thrown" "I") (by decide +kernel)) (fun _ h9 => h9) rfl (by decide +kernel) rfl rfl (Nat.le_of_ble_eq_true rfl) dX3_digest_2 (fun H locs hP hD hS => ?_)
  have hP : va_P D vwCl [(am, .inr (3, [.int (zI (0)), .int (zI (n)), .ref (h 0), .ref (h 1), .ref (h 2), .ref (h 3), .ref (h 4), .ref (h 5), .ref (h 6), .int (zI (m9)), .ref (h 7), .ref (h 8), .ref (h 9), .int (zI (sp))])), ((h 0), .inl (G 0, 8, .inl (M 0))), ((h 1), .inl (G 0, 8, .inl (M 1))), ((h 2), .inl (G 0, 8, .inl (M 2))), ((h 3), .inl (G 0, 8, .inl (M 3))), ((h 4), .inl (G 0, 8, .inl (M 4))), ((h 5), .inl (G 1, 24, .inl (M 5))), ((h 6), .inl (G 0, 1024, .inl (M 6))), ((h 7), .inl (G 0, 13, .inl (M 7))), ((h 8), .inl (G 0, 12, .inl (M 8))), ((h 9), .inl (G 1, 12, .inl (M 9)))] H := hP
  have hD : va_D (zA [am, h 0, h 1, h 2, h 3, h 4, h 5, h 6, h 7, h 8, h 9]) [(am, .inr (3, [.int (zI (0)), .int (zI (n)), .ref (h 0), .ref (h 1), .ref (h 2), .ref (h 3), .ref (h 4), .ref (h 5), .ref (h 6), .int (zI (m9)), .ref (h 7), .ref (h 8), .ref (h 9), .int (zI (sp))])), ((h 0), .inl (G 0, 8, .inl (M 0))), ((h 1), .inl (G 0, 8, .inl (M 1))), ((h 2), .inl (G 0, 8, .inl (M 2))), ((h 3), .inl (G 0, 8, .inl (M 3))), ((h 4), .inl (G 0, 8, .inl (M 4))), ((h 5), .inl (G 1, 24, .inl (M 5))), ((h 6), .inl (G 0, 1024, .inl (M 6))), ((h 7), .inl (G 0, 13, .inl (M 7))), ((h 8), .inl (G 0, 12, .inl (M 8))), ((h 9), .inl (G 1, 12, .inl (M 9)))] := hD
  refine lv_ldc2 (v := 9703) hx hb hown (hts (.constantLong RX3 149 (9703)) (by decide +kernel)) dX3_digest_5 ?_
  refine lv_aload_n hx hb dX3_digest_8 rfl (lv_at hl 0 rfl) ?_
  refine va_get (D := D) (ci := 3) (v := .int (zI (sp))) (C := RX3) (T := TX3) (N := 14) hx hb hts hin3 hown hK hP 0 rfl rfl 13 (by decide) (hts (.fieldLink RX3 41 "PolyDrumsModel" "speed" "I") (by decide +kernel)) (fun _ h9 => h9) rfl dX3_digest_9 ?_
  refine lv_i2l (v := (zI (sp)).toInt64) hx hb dX3_digest_12 rfl ?_
  refine lv_ladd hx hb dX3_digest_13 ?_
  refine lv_ldc2 (v := 31) hx hb hown (hts (.constantLong RX3 151 (31)) (by decide +kernel)) dX3_digest_14 ?_
  refine lv_lmul hx hb dX3_digest_17 ?_
  refine lv_aload_n hx hb dX3_digest_18 rfl (lv_at hl 0 rfl) ?_
  refine va_get (D := D) (ci := 3) (v := .int (zI (n))) (C := RX3) (T := TX3) (N := 14) hx hb hts hin3 hown hK hP 0 rfl rfl 1 (by decide) (hts (.fieldLink RX3 48 "PolyDrumsModel" "tracks" "I") (by decide +kernel)) (fun _ h9 => h9) rfl dX3_digest_19 ?_
  refine lv_i2l (v := (zI (n)).toInt64) hx hb dX3_digest_22 rfl ?_
  refine lv_ladd hx hb dX3_digest_23 ?_
  refine z_top (w := .long (xMix (xMix 313 sp) n)) (by show Value.long _ = Value.long _; unfold xMix; rw [show (313 : Int64) * 31 = 9703 by decide]) ?_
  refine lv_lstore_n (lv' := [(1, .long (xMix (xMix 313 sp) n)), (0, .ref am)]) hx hb dX3_digest_24 rfl hl (by decide) rfl (fun ls hl => ?_)
  refine lv_iconst (v := zI (0)) hx hb dX3_digest_25 rfl ?_
  refine lv_istore_n (lv' := [(3, .int (zI (0))), (1, .long (xMix (xMix 313 sp) n)), (0, .ref am)]) hx hb dX3_digest_26 rfl hl (by decide) rfl (fun ls hl => ?_)
  have loop_27 : ∀ (fu : Nat) (k : Int) (v : Int64), (0 ≤ k ∧ k ≤ n) → (v = xDt τ (xMix (xMix 313 sp) n) k.toNat) → n - k < (fu : Int) → ∀ (ls : Array Slot), lv_has ls 5 [(0, .ref am), (1, .long (v)), (3, .int (zI (k)))] → W p l e (headSpec wsX3_digest ({ frames := 1, cells := 0, slots := 0, locals := 22 })).room s m args below meth c H locs 0 0 (MQ below (zM (some (.long (xDig n m9 sp τ ζ))) (fun H => va_P D vwCl [(am, .inr (3, [.int (zI (0)), .int (zI (n)), .ref (h 0), .ref (h 1), .ref (h 2), .ref (h 3), .ref (h 4), .ref (h 5), .ref (h 6), .int (zI (m9)), .ref (h 7), .ref (h 8), .ref (h 9), .int (zI (sp))])), ((h 0), .inl (G 0, 8, .inl (M 0))), ((h 1), .inl (G 0, 8, .inl (M 1))), ((h 2), .inl (G 0, 8, .inl (M 2))), ((h 3), .inl (G 0, 8, .inl (M 3))), ((h 4), .inl (G 0, 8, .inl (M 4))), ((h 5), .inl (G 1, 24, .inl (M 5))), ((h 6), .inl (G 0, 1024, .inl (M 6))), ((h 7), .inl (G 0, 13, .inl (M 7))), ((h 8), .inl (G 0, 12, .inl (M 8))), ((h 9), .inl (G 1, 12, .inl (M 9)))] H) (zA [am, h 0, h 1, h 2, h 3, h 4, h 5, h 6, h 7, h 8, h 9])) args s 0 0 (zA [am, h 0, h 1, h 2, h 3, h 4, h 5, h 6, h 7, h 8, h 9])) (F0 m 27 ls []) := by
    intro fu
    induction fu with
    | zero =>
      intro k v hk0 hv hm
      exfalso; omega
    | succ fu ih =>
      intro k v hk0 hv hm ls hl
      have ih_27 := ih
      refine lv_iload_n hx hb dX3_digest_27 rfl (lv_at hl 2 rfl) ?_
      refine lv_aload_n hx hb dX3_digest_28 rfl (lv_at hl 0 rfl) ?_
      refine va_get (D := D) (ci := 3) (v := .int (zI (n))) (C := RX3) (T := TX3) (N := 14) hx hb hts hin3 hown hK hP 0 rfl rfl 1 (by decide) (hts (.fieldLink RX3 48 "PolyDrumsModel" "tracks" "I") (by decide +kernel)) (fun _ h9 => h9) rfl dX3_digest_29 ?_
      refine z_icmp_ge (tgt := 115) hx hb (by omega) dX3_digest_32 (by decide) (fun c_1 => ?_) (fun c_1 => ?_)
      · refine lv_lload_n hx hb dX3_digest_115 rfl (lv_at hl 1 rfl) ?_
        refine lv_ldc2 (v := 31) hx hb hown (hts (.constantLong RX3 151 (31)) (by decide +kernel)) dX3_digest_116 ?_
        refine lv_lmul hx hb dX3_digest_119 ?_
        refine lv_aload_n hx hb dX3_digest_120 rfl (lv_at hl 0 rfl) ?_
        refine va_get (D := D) (ci := 3) (v := .int (zI (m9))) (C := RX3) (T := TX3) (N := 14) hx hb hts hin3 hown hK hP 0 rfl rfl 9 (by decide) (hts (.fieldLink RX3 111 "PolyDrumsModel" "sections" "I") (by decide +kernel)) (fun _ h9 => h9) rfl dX3_digest_121 ?_
        refine lv_i2l (v := (zI (m9)).toInt64) hx hb dX3_digest_124 rfl ?_
        refine lv_ladd hx hb dX3_digest_125 ?_
        refine z_top (w := .long (xMix (xDt τ (xMix (xMix 313 sp) n) n.toNat) m9)) (by rw [hv, show k = n by omega]; rfl) ?_
        refine lv_lstore_n (lv' := [(1, .long (xMix (xDt τ (xMix (xMix 313 sp) n) n.toNat) m9)), (0, .ref am), (3, .int (zI (k)))]) hx hb dX3_digest_126 rfl hl (by decide) rfl (fun ls hl => ?_)
        refine lv_iconst (v := zI (0)) hx hb dX3_digest_127 rfl ?_
        refine lv_istore_n (lv' := [(3, .int (zI (0))), (1, .long (xMix (xDt τ (xMix (xMix 313 sp) n) n.toNat) m9)), (0, .ref am)]) hx hb dX3_digest_128 rfl hl (by decide) rfl (fun ls hl => ?_)
        have loop_129 : ∀ (fu : Nat) (k2 : Int) (v2 : Int64), (0 ≤ k2 ∧ k2 ≤ m9) → (v2 = xDz ζ (xMix (xDt τ (xMix (xMix 313 sp) n) n.toNat) m9) k2.toNat) → m9 - k2 < (fu : Int) → ∀ (ls : Array Slot), lv_has ls 5 [(0, .ref am), (1, .long (v2)), (3, .int (zI (k2)))] → W p l e (headSpec wsX3_digest ({ frames := 1, cells := 0, slots := 0, locals := 22 })).room s m args below meth c H locs 0 0 (MQ below (zM (some (.long (xDig n m9 sp τ ζ))) (fun H => va_P D vwCl [(am, .inr (3, [.int (zI (0)), .int (zI (n)), .ref (h 0), .ref (h 1), .ref (h 2), .ref (h 3), .ref (h 4), .ref (h 5), .ref (h 6), .int (zI (m9)), .ref (h 7), .ref (h 8), .ref (h 9), .int (zI (sp))])), ((h 0), .inl (G 0, 8, .inl (M 0))), ((h 1), .inl (G 0, 8, .inl (M 1))), ((h 2), .inl (G 0, 8, .inl (M 2))), ((h 3), .inl (G 0, 8, .inl (M 3))), ((h 4), .inl (G 0, 8, .inl (M 4))), ((h 5), .inl (G 1, 24, .inl (M 5))), ((h 6), .inl (G 0, 1024, .inl (M 6))), ((h 7), .inl (G 0, 13, .inl (M 7))), ((h 8), .inl (G 0, 12, .inl (M 8))), ((h 9), .inl (G 1, 12, .inl (M 9)))] H) (zA [am, h 0, h 1, h 2, h 3, h 4, h 5, h 6, h 7, h 8, h 9])) args s 0 0 (zA [am, h 0, h 1, h 2, h 3, h 4, h 5, h 6, h 7, h 8, h 9])) (F0 m 129 ls []) := by
          intro fu
          induction fu with
          | zero =>
            intro k2 v2 hk2 hv2 hm
            exfalso; omega
          | succ fu ih =>
            intro k2 v2 hk2 hv2 hm ls hl
            have ih_129 := ih
            refine lv_iload_n hx hb dX3_digest_129 rfl (lv_at hl 2 rfl) ?_
            refine lv_aload_n hx hb dX3_digest_130 rfl (lv_at hl 0 rfl) ?_
            refine va_get (D := D) (ci := 3) (v := .int (zI (m9))) (C := RX3) (T := TX3) (N := 14) hx hb hts hin3 hown hK hP 0 rfl rfl 9 (by decide) (hts (.fieldLink RX3 111 "PolyDrumsModel" "sections" "I") (by decide +kernel)) (fun _ h9 => h9) rfl dX3_digest_131 ?_
            refine z_icmp_ge (tgt := 198) hx hb (by omega) dX3_digest_134 (by decide) (fun c_2 => ?_) (fun c_2 => ?_)
            · refine lv_lload_n hx hb dX3_digest_198 rfl (lv_at hl 1 rfl) ?_
              exact zm_lret hx hb hr hlocks hS (by first | exact hP | (rw [if_pos (by omega)]; exact hP) | (rw [if_neg (by omega)]; exact hP) | (rw [if_pos (by omega), if_pos (by omega)]; exact hP) | (rw [if_pos (by omega), if_neg (by omega)]; exact hP)) (by unfold xDig; rw [hv2, show k2 = m9 by omega]) dX3_digest_199
            · have hzb := hOK.zb' (k := k2) (by omega)
              refine lv_lload_n hx hb dX3_digest_137 rfl (lv_at hl 1 rfl) ?_
              refine lv_ldc2 (v := 31) hx hb hown (hts (.constantLong RX3 151 (31)) (by decide +kernel)) dX3_digest_138 ?_
              refine lv_lmul hx hb dX3_digest_141 ?_
              refine lv_aload_n hx hb dX3_digest_142 rfl (lv_at hl 0 rfl) ?_
              refine va_get (D := D) (ci := 3) (v := .ref (h 7)) (C := RX3) (T := TX3) (N := 14) hx hb hts hin3 hown hK hP 0 rfl rfl 10 (by decide) (hts (.fieldLink RX3 32 "PolyDrumsModel" "begins" "[I") (by decide +kernel)) (fun _ h9 => h9) rfl dX3_digest_143 ?_
              refine lv_iload_n hx hb dX3_digest_146 rfl (lv_at hl 2 rfl) ?_
              refine lv_iconst (v := zI (1)) hx hb dX3_digest_147 rfl ?_
              refine z_iadd hx hb dX3_digest_148 ?_
              refine z_iald (x := zI (ζ (k2).toNat 0 + ζ (k2).toNat 1)) (D := D) hx hb hK hP 8 0 rfl rfl (by omega) (by omega) (hM.e (k := k2) (by omega) rfl) dX3_digest_149 ?_
              refine lv_i2l (v := (zI (ζ (k2).toNat 0 + ζ (k2).toNat 1)).toInt64) hx hb dX3_digest_150 rfl ?_
              refine lv_ladd hx hb dX3_digest_151 ?_
              refine lv_aload_n hx hb dX3_digest_152 rfl (lv_at hl 0 rfl) ?_
              refine va_get (D := D) (ci := 3) (v := .ref (h 7)) (C := RX3) (T := TX3) (N := 14) hx hb hts hin3 hown hK hP 0 rfl rfl 10 (by decide) (hts (.fieldLink RX3 32 "PolyDrumsModel" "begins" "[I") (by decide +kernel)) (fun _ h9 => h9) rfl dX3_digest_153 ?_
              refine lv_iload_n hx hb dX3_digest_156 rfl (lv_at hl 2 rfl) ?_
              refine z_iald (x := zI (ζ (k2).toNat 0)) (D := D) hx hb hK hP 8 0 rfl rfl (by omega) (by omega) (hM.b (k := k2) (by omega)) dX3_digest_157 ?_
              refine lv_i2l (v := (zI (ζ (k2).toNat 0)).toInt64) hx hb dX3_digest_158 rfl ?_
              refine lv_lsub hx hb dX3_digest_159 ?_
              refine z_top (w := .long (xMix v2 (ζ (k2).toNat 1))) (by show Value.long _ = _; rw [m_dz (by omega) (by omega)]) ?_
              refine lv_ldc2 (v := 31) hx hb hown (hts (.constantLong RX3 151 (31)) (by decide +kernel)) dX3_digest_160 ?_
              refine lv_lmul hx hb dX3_digest_163 ?_
              refine lv_aload_n hx hb dX3_digest_164 rfl (lv_at hl 0 rfl) ?_
              refine va_get (D := D) (ci := 3) (v := .ref (h 8)) (C := RX3) (T := TX3) (N := 14) hx hb hts hin3 hown hK hP 0 rfl rfl 11 (by decide) (hts (.fieldLink RX3 35 "PolyDrumsModel" "sets" "[I") (by decide +kernel)) (fun _ h9 => h9) rfl dX3_digest_165 ?_
              refine lv_iload_n hx hb dX3_digest_168 rfl (lv_at hl 2 rfl) ?_
              refine z_iald (x := zI (ζ (k2).toNat 2)) (D := D) hx hb hK hP 9 0 rfl rfl (by omega) (by omega) (hM.z (k := k2) (by omega)) dX3_digest_169 ?_
              refine lv_i2l (v := (zI (ζ (k2).toNat 2)).toInt64) hx hb dX3_digest_170 rfl ?_
              refine lv_ladd hx hb dX3_digest_171 ?_
              refine lv_ldc2 (v := 31) hx hb hown (hts (.constantLong RX3 151 (31)) (by decide +kernel)) dX3_digest_172 ?_
              refine lv_lmul hx hb dX3_digest_175 ?_
              refine lv_aload_n hx hb dX3_digest_176 rfl (lv_at hl 0 rfl) ?_
              refine va_get (D := D) (ci := 3) (v := .ref (h 9)) (C := RX3) (T := TX3) (N := 14) hx hb hts hin3 hown hK hP 0 rfl rfl 12 (by decide) (hts (.fieldLink RX3 38 "PolyDrumsModel" "areNew" "[Z") (by decide +kernel)) (fun _ h9 => h9) rfl dX3_digest_177 ?_
              refine lv_iload_n hx hb dX3_digest_180 rfl (lv_at hl 2 rfl) ?_
              refine z_zald (x := zB (ζ (k2).toNat 3 = 1)) (D := D) hx hb hK hP 10 1 rfl rfl (by omega) (by omega) (hM.w hOK (k := k2) (by omega)) dX3_digest_181 ?_
              refine z_eqB (tgt := 189) hx hb dX3_digest_182 (by decide) (fun c_3 => ?_) (fun c_3 => ?_)
              · refine lv_lconst (v := lN 0) hx hb dX3_digest_189 (by decide) ?_
                refine lv_ladd hx hb dX3_digest_190 ?_
                refine lv_lstore_n (lv' := [(1, .long (((((xMix v2 (ζ (k2).toNat 1)) * (31)) + ((zI (ζ (k2).toNat 2)).toInt64)) * (31)) + (lN (0)))), (0, .ref am), (3, .int (zI (k2)))]) hx hb dX3_digest_191 rfl hl (by decide) rfl (fun ls hl => ?_)
                refine lv_iinc (v := zI (k2 + 1)) (lv' := [(3, .int (zI (k2 + 1))), (1, .long (((((xMix v2 (ζ (k2).toNat 1)) * (31)) + ((zI (ζ (k2).toNat 2)).toInt64)) * (31)) + (lN (0)))), (0, .ref am)]) hx hb dX3_digest_192 hl (k := 2) rfl (zI_add (k2) (1)) (by decide) rfl (fun ls hl => ?_)
                refine lv_goto (tgt := 129) hx hb dX3_digest_195 (by decide) ?_
                exact ih_129 (k2 + 1) (((((xMix v2 (ζ (k2).toNat 1)) * (31)) + ((zI (ζ (k2).toNat 2)).toInt64)) * (31)) + (lN (0))) (by omega) (by rw [xDz_s hk2.1, ← hv2]; first | (rw [show ζ k2.toNat 3 = 1 by omega]; rfl) | (rw [show ζ k2.toNat 3 = 0 by omega]; rfl)) (by omega) _ (lv_sub hl [2, 1, 0] rfl)
              · refine lv_lconst (v := lN 1) hx hb dX3_digest_185 (by decide) ?_
                refine lv_goto (tgt := 190) hx hb dX3_digest_186 (by decide) ?_
                refine lv_ladd hx hb dX3_digest_190 ?_
                refine lv_lstore_n (lv' := [(1, .long (((((xMix v2 (ζ (k2).toNat 1)) * (31)) + ((zI (ζ (k2).toNat 2)).toInt64)) * (31)) + (lN (1)))), (0, .ref am), (3, .int (zI (k2)))]) hx hb dX3_digest_191 rfl hl (by decide) rfl (fun ls hl => ?_)
                refine lv_iinc (v := zI (k2 + 1)) (lv' := [(3, .int (zI (k2 + 1))), (1, .long (((((xMix v2 (ζ (k2).toNat 1)) * (31)) + ((zI (ζ (k2).toNat 2)).toInt64)) * (31)) + (lN (1)))), (0, .ref am)]) hx hb dX3_digest_192 hl (k := 2) rfl (zI_add (k2) (1)) (by decide) rfl (fun ls hl => ?_)
                refine lv_goto (tgt := 129) hx hb dX3_digest_195 (by decide) ?_
                exact ih_129 (k2 + 1) (((((xMix v2 (ζ (k2).toNat 1)) * (31)) + ((zI (ζ (k2).toNat 2)).toInt64)) * (31)) + (lN (1))) (by omega) (by rw [xDz_s hk2.1, ← hv2]; first | (rw [show ζ k2.toNat 3 = 1 by omega]; rfl) | (rw [show ζ k2.toNat 3 = 0 by omega]; rfl)) (by omega) _ (lv_sub hl [2, 1, 0] rfl)
        exact loop_129 (13) (0) (xMix (xDt τ (xMix (xMix 313 sp) n) n.toNat) m9) (by omega) (rfl) (by omega) ls (lv_sub hl [2, 1, 0] rfl)
      · have htb := hOK.tb (k := k) (by omega)
        refine lv_iconst (v := zI (0)) hx hb dX3_digest_35 rfl ?_
        refine lv_istore (lv' := [(4, .int (zI (0))), (0, .ref am), (1, .long (v)), (3, .int (zI (k)))]) hx hb dX3_digest_36 hl (by decide) rfl (fun ls hl => ?_)
        have loop_38 : ∀ (fu : Nat) (a : Int) (g : Int64), (0 ≤ a ∧ a ≤ 8) → (g = xMs (τ k.toNat) v a.toNat) → 8 - a < (fu : Int) → ∀ (ls : Array Slot), lv_has ls 5 [(0, .ref am), (1, .long (g)), (3, .int (zI (k))), (4, .int (zI (a)))] → W p l e (headSpec wsX3_digest ({ frames := 1, cells := 0, slots := 0, locals := 22 })).room s m args below meth c H locs 0 0 (MQ below (zM (some (.long (xDig n m9 sp τ ζ))) (fun H => va_P D vwCl [(am, .inr (3, [.int (zI (0)), .int (zI (n)), .ref (h 0), .ref (h 1), .ref (h 2), .ref (h 3), .ref (h 4), .ref (h 5), .ref (h 6), .int (zI (m9)), .ref (h 7), .ref (h 8), .ref (h 9), .int (zI (sp))])), ((h 0), .inl (G 0, 8, .inl (M 0))), ((h 1), .inl (G 0, 8, .inl (M 1))), ((h 2), .inl (G 0, 8, .inl (M 2))), ((h 3), .inl (G 0, 8, .inl (M 3))), ((h 4), .inl (G 0, 8, .inl (M 4))), ((h 5), .inl (G 1, 24, .inl (M 5))), ((h 6), .inl (G 0, 1024, .inl (M 6))), ((h 7), .inl (G 0, 13, .inl (M 7))), ((h 8), .inl (G 0, 12, .inl (M 8))), ((h 9), .inl (G 1, 12, .inl (M 9)))] H) (zA [am, h 0, h 1, h 2, h 3, h 4, h 5, h 6, h 7, h 8, h 9])) args s 0 0 (zA [am, h 0, h 1, h 2, h 3, h 4, h 5, h 6, h 7, h 8, h 9])) (F0 m 38 ls []) := by
          intro fu
          induction fu with
          | zero =>
            intro a g ha0 hg hm
            exfalso; omega
          | succ fu ih =>
            intro a g ha0 hg hm ls hl
            have ih_38 := ih
            refine lv_iload hx hb dX3_digest_38 (lv_at hl 3 rfl) ?_
            refine lv_bipush (v := zI (8)) hx hb dX3_digest_40 (by decide) ?_
            refine z_icmp_ge (tgt := 66) hx hb (by omega) dX3_digest_42 (by decide) (fun c_4 => ?_) (fun c_4 => ?_)
            · refine lv_iconst (v := zI (0)) hx hb dX3_digest_66 rfl ?_
              refine lv_istore (lv' := [(4, .int (zI (0))), (0, .ref am), (1, .long (g)), (3, .int (zI (k)))]) hx hb dX3_digest_67 hl (by decide) rfl (fun ls hl => ?_)
              have loop_69 : ∀ (fu : Nat) (b : Int) (c9 : Int64), (0 ≤ b ∧ b ≤ 4 * τ k.toNat 0) → (c9 = xMc (τ k.toNat) (xMs (τ k.toNat) v 8) b.toNat) → 4 * τ k.toNat 0 - b < (fu : Int) → ∀ (ls : Array Slot), lv_has ls 5 [(0, .ref am), (1, .long (c9)), (3, .int (zI (k))), (4, .int (zI (b)))] → W p l e (headSpec wsX3_digest ({ frames := 1, cells := 0, slots := 0, locals := 22 })).room s m args below meth c H locs 0 0 (MQ below (zM (some (.long (xDig n m9 sp τ ζ))) (fun H => va_P D vwCl [(am, .inr (3, [.int (zI (0)), .int (zI (n)), .ref (h 0), .ref (h 1), .ref (h 2), .ref (h 3), .ref (h 4), .ref (h 5), .ref (h 6), .int (zI (m9)), .ref (h 7), .ref (h 8), .ref (h 9), .int (zI (sp))])), ((h 0), .inl (G 0, 8, .inl (M 0))), ((h 1), .inl (G 0, 8, .inl (M 1))), ((h 2), .inl (G 0, 8, .inl (M 2))), ((h 3), .inl (G 0, 8, .inl (M 3))), ((h 4), .inl (G 0, 8, .inl (M 4))), ((h 5), .inl (G 1, 24, .inl (M 5))), ((h 6), .inl (G 0, 1024, .inl (M 6))), ((h 7), .inl (G 0, 13, .inl (M 7))), ((h 8), .inl (G 0, 12, .inl (M 8))), ((h 9), .inl (G 1, 12, .inl (M 9)))] H) (zA [am, h 0, h 1, h 2, h 3, h 4, h 5, h 6, h 7, h 8, h 9])) args s 0 0 (zA [am, h 0, h 1, h 2, h 3, h 4, h 5, h 6, h 7, h 8, h 9])) (F0 m 69 ls []) := by
                intro fu
                induction fu with
                | zero =>
                  intro b c9 hb0 hc hm
                  exfalso; omega
                | succ fu ih =>
                  intro b c9 hb0 hc hm ls hl
                  have ih_69 := ih
                  refine lv_iload hx hb dX3_digest_69 (lv_at hl 3 rfl) ?_
                  refine lv_iconst (v := zI (4)) hx hb dX3_digest_71 rfl ?_
                  refine lv_aload_n hx hb dX3_digest_72 rfl (lv_at hl 0 rfl) ?_
                  refine va_get (D := D) (ci := 3) (v := .ref (h 0)) (C := RX3) (T := TX3) (N := 14) hx hb hts hin3 hown hK hP 0 rfl rfl 2 (by decide) (hts (.fieldLink RX3 9 "PolyDrumsModel" "counts" "[I") (by decide +kernel)) (fun _ h9 => h9) rfl dX3_digest_73 ?_
                  refine lv_iload_n hx hb dX3_digest_76 rfl (lv_at hl 2 rfl) ?_
                  refine z_iald (x := zI (τ (k).toNat 0)) (D := D) hx hb hK hP 1 0 rfl rfl (by omega) (by omega) (hM.a (k := k) (by omega) 0 (by omega)) dX3_digest_77 ?_
                  refine z_imul hx hb dX3_digest_78 ?_
                  refine z_icmp_ge (tgt := 109) hx hb (by omega) dX3_digest_79 (by decide) (fun c_5 => ?_) (fun c_5 => ?_)
                  · refine lv_iinc (v := zI (k + 1)) (lv' := [(3, .int (zI (k + 1))), (0, .ref am), (1, .long (c9)), (4, .int (zI (b)))]) hx hb dX3_digest_109 hl (k := 2) rfl (zI_add (k) (1)) (by decide) rfl (fun ls hl => ?_)
                    refine lv_goto (tgt := 27) hx hb dX3_digest_112 (by decide) ?_
                    exact ih_27 (k + 1) (c9) (by omega) (by rw [xDt_s hk0.1, ← hv, hc, show b = 4 * τ k.toNat 0 by omega]; rfl) (by omega) _ (lv_sub hl [1, 2, 0] rfl)
                  · refine lv_lload_n hx hb dX3_digest_82 rfl (lv_at hl 1 rfl) ?_
                    refine lv_ldc2 (v := 31) hx hb hown (hts (.constantLong RX3 151 (31)) (by decide +kernel)) dX3_digest_83 ?_
                    refine lv_lmul hx hb dX3_digest_86 ?_
                    refine lv_aload_n hx hb dX3_digest_87 rfl (lv_at hl 0 rfl) ?_
                    refine va_get (D := D) (ci := 3) (v := .ref (h 6)) (C := RX3) (T := TX3) (N := 14) hx hb hts hin3 hown hK hP 0 rfl rfl 8 (by decide) (hts (.fieldLink RX3 29 "PolyDrumsModel" "steps" "[I") (by decide +kernel)) (fun _ h9 => h9) rfl dX3_digest_88 ?_
                    refine lv_iload_n hx hb dX3_digest_91 rfl (lv_at hl 2 rfl) ?_
                    refine lv_iconst (v := zI (0)) hx hb dX3_digest_92 rfl ?_
                    refine z_call (va_runS (As := [.int (zI (k)), .int (zI (0))]) (rest := [.ref (h 6), .long ((c9) * (31))]) ⟨hx, hb, hml, hown, hts⟩ (kX3_at l D G (k) (0)) (va_cwS 2 hts gX3_digest_X3_at rfl rfl rfl (by decide +kernel) ⟨Nat.le_of_ble_eq_true rfl, Nat.le_of_ble_eq_true rfl⟩) (zPreS hK hN (trivial)) rfl rfl hl.1 rfl (lv_room (Nat.le_of_ble_eq_true rfl)) dX3_digest_93 ⟨Nat.le_of_ble_eq_true rfl, Nat.le_of_ble_eq_true rfl⟩) ?_
                    refine lv_iload hx hb dX3_digest_96 (lv_at hl 3 rfl) ?_
                    refine z_iadd hx hb dX3_digest_98 ?_
                    refine z_iald (x := zI (xC (τ k.toNat) (b / 4) (b % 4))) (D := D) hx hb hK hP 7 0 rfl rfl (by have h32 := (hOK.tb (k := k) (by omega)).2.1; omega) (by omega) (hM.st (k := k) (s := b / 4) (w := b % 4) (by omega) (by omega) (by omega) (by omega)) dX3_digest_99 ?_
                    refine lv_i2l (v := (zI (xC (τ k.toNat) (b / 4) (b % 4))).toInt64) hx hb dX3_digest_100 rfl ?_
                    refine lv_ladd hx hb dX3_digest_101 ?_
                    refine lv_lstore_n (lv' := [(1, .long (((c9) * (31)) + ((zI (xC (τ k.toNat) (b / 4) (b % 4))).toInt64))), (0, .ref am), (3, .int (zI (k))), (4, .int (zI (b)))]) hx hb dX3_digest_102 rfl hl (by decide) rfl (fun ls hl => ?_)
                    refine lv_iinc (v := zI (b + 1)) (lv' := [(4, .int (zI (b + 1))), (1, .long (((c9) * (31)) + ((zI (xC (τ k.toNat) (b / 4) (b % 4))).toInt64))), (0, .ref am), (3, .int (zI (k)))]) hx hb dX3_digest_103 hl (k := 3) rfl (zI_add (b) (1)) (by decide) rfl (fun ls hl => ?_)
                    refine lv_goto (tgt := 69) hx hb dX3_digest_106 (by decide) ?_
                    exact ih_69 (b + 1) (((c9) * (31)) + ((zI (xC (τ k.toNat) (b / 4) (b % 4))).toInt64)) (by omega) (by have h9 := xMc_s (f := τ k.toNat) (d := xMs (τ k.toNat) v 8) (k := b / 4) (w := b % 4) (by omega) (by omega); rw [show 4 * (b / 4) + (b % 4 + 1) = b + 1 by omega, show 4 * (b / 4) + b % 4 = b by omega] at h9; rw [h9, hc]) (by omega) _ (lv_sub hl [2, 1, 3, 0] rfl)
              exact loop_69 (130) (0) (g) (by omega) (by rw [hg, show a = 8 by omega]; rfl) (by omega) ls (lv_sub hl [1, 2, 3, 0] rfl)
            · refine lv_lload_n hx hb dX3_digest_45 rfl (lv_at hl 1 rfl) ?_
              refine lv_ldc2 (v := 31) hx hb hown (hts (.constantLong RX3 151 (31)) (by decide +kernel)) dX3_digest_46 ?_
              refine lv_lmul hx hb dX3_digest_49 ?_
              refine lv_aload_n hx hb dX3_digest_50 rfl (lv_at hl 0 rfl) ?_
              refine lv_iload_n hx hb dX3_digest_51 rfl (lv_at hl 2 rfl) ?_
              refine lv_iload hx hb dX3_digest_52 (lv_at hl 3 rfl) ?_
              refine z_call (va_runV (As := [.int (zI (k)), .int (zI (a))]) (rest := [.long ((g) * (31))]) ⟨hx, hb, hml, hown, hts⟩ (kX3_told l D G am (0) n m9 sp τ ζ h M hOK hM (k) (a) (by omega) (by omega)) (cwV 2 hts gX3_digest_X3_told rfl rfl rfl (by decide +kernel) ⟨Nat.le_of_ble_eq_true rfl, Nat.le_of_ble_eq_true rfl⟩) (zPreV (va_recv hK hP (ci := 3) (q0 := 0) rfl rfl) hK hN (hP)) rfl rfl hl.1 rfl (lv_room (Nat.le_of_ble_eq_true rfl)) dX3_digest_54 ⟨Nat.le_of_ble_eq_true rfl, Nat.le_of_ble_eq_true rfl⟩) ?_
              refine lv_i2l (v := (zI (τ ((k)).toNat ((a)).toNat)).toInt64) hx hb dX3_digest_57 rfl ?_
              refine lv_ladd hx hb dX3_digest_58 ?_
              refine lv_lstore_n (lv' := [(1, .long (((g) * (31)) + ((zI (τ ((k)).toNat ((a)).toNat)).toInt64))), (0, .ref am), (3, .int (zI (k))), (4, .int (zI (a)))]) hx hb dX3_digest_59 rfl hl (by decide) rfl (fun ls hl => ?_)
              refine lv_iinc (v := zI (a + 1)) (lv' := [(4, .int (zI (a + 1))), (1, .long (((g) * (31)) + ((zI (τ ((k)).toNat ((a)).toNat)).toInt64))), (0, .ref am), (3, .int (zI (k)))]) hx hb dX3_digest_60 hl (k := 3) rfl (zI_add (a) (1)) (by decide) rfl (fun ls hl => ?_)
              refine lv_goto (tgt := 38) hx hb dX3_digest_63 (by decide) ?_
              exact ih_38 (a + 1) (((g) * (31)) + ((zI (τ ((k)).toNat ((a)).toNat)).toInt64)) (by omega) (by rw [xMs_s ha0.1, hg]) (by omega) _ (lv_sub hl [2, 1, 3, 0] rfl)
        exact loop_38 (9) (0) (v) (by omega) (rfl) (by omega) ls (lv_sub hl [1, 2, 3, 0] rfl)
  exact loop_27 (9) (0) (xMix (xMix 313 sp) n) (by omega) (rfl) (by omega) ls (lv_sub hl [2, 1, 0] rfl)
