set_option maxHeartbeats 4000000 in
set_option maxRecDepth 100000 in
theorem kX3_thrown (l : Launch) (D : va_G) (G : Nat → ClassId) (am : Nat) (th n m9 sp : Int) (τ ζ : Nat → Nat → Int) (h : Nat → Nat) (M : Nat → Nat → Int32) (hOK : XOK n m9 sp τ ζ) (hM : MR n m9 τ ζ M)   : Met l yX3_thrown wsX3_thrown ({ frames := 0, cells := 0, slots := 0, locals := 0 }) (zP [.ref am] D G (fun H => va_P D vwCl [(am, .inr (3, [.int (zI (th)), .int (zI (n)), .ref (h 0), .ref (h 1), .ref (h 2), .ref (h 3), .ref (h 4), .ref (h 5), .ref (h 6), .int (zI (m9)), .ref (h 7), .ref (h 8), .ref (h 9), .int (zI (sp))])), ((h 0), .inl (G 0, 8, .inl (M 0))), ((h 1), .inl (G 0, 8, .inl (M 1))), ((h 2), .inl (G 0, 8, .inl (M 2))), ((h 3), .inl (G 0, 8, .inl (M 3))), ((h 4), .inl (G 0, 8, .inl (M 4))), ((h 5), .inl (G 1, 24, .inl (M 5))), ((h 6), .inl (G 0, 1024, .inl (M 6))), ((h 7), .inl (G 0, 13, .inl (M 7))), ((h 8), .inl (G 0, 12, .inl (M 8))), ((h 9), .inl (G 1, 12, .inl (M 9)))] H)) (zQ (some (.int (zI (th))))) 0 0 (fun _ => False) := by
  refine Met.ofW (cc := cX3_thrown) (maxL := 1) (ret := (some .int)) (by decide) rfl ?_
  intro p e s m args below meth c s₁ B hml hv
  obtain ⟨hav, hP, hK, hN⟩ := hv
  have hx := B.exec
  have hb := B.bytes
  have hr := B.returns
  have hts := atoms_spec (ws := wsX3_thrown) B.pre
  have hown : s.vm.findClass RX3 = some m.cls := findClass_of_methodNamed B.named
  have hlocks : meth.locks = false := B.notSynchronized
  have hin3 : ∀ w ∈ u_ws RX3 TX3 14, w ∈ wsX3_thrown := by decide +kernel
  have hB := id hOK
  obtain ⟨hn0, hn8, hm0, hm12, hsp0, hsp1, -⟩ := hB
  refine z_entry hav (Nat.le_of_ble_eq_true rfl) rfl (fun ls hl => ?_)
  have hl : lv_has ls 1 [(0, .ref am)] := hl
  refine lv_aload_n hx hb dX3_thrown_0 rfl (lv_at hl 0 rfl) ?_
  refine va_get (D := D) (ci := 3) (v := .int (zI (th))) (C := RX3) (T := TX3) (N := 14) hx hb hts hin3 hown hK hP 0 rfl rfl 0 (by decide) (hts (.fieldLink RX3 45 "PolyDrumsModel" "thrown" "I") (by decide +kernel)) (fun _ h9 => h9) rfl dX3_thrown_1 ?_
  exact z_iret hx hb hr hlocks (by first | rfl | omega) dX3_thrown_4

set_option maxHeartbeats 4000000 in
set_option maxRecDepth 100000 in
theorem kX3_loud (l : Launch) (D : va_G) (G : Nat → ClassId) (am : Nat) (th n m9 sp : Int) (τ ζ : Nat → Nat → Int) (h : Nat → Nat) (M : Nat → Nat → Int32) (hOK : XOK n m9 sp τ ζ) (hM : MR n m9 τ ζ M) (k : Int) (hk : 0 ≤ k ∧ k < n) : Met l yX3_loud wsX3_loud ({ frames := 1, cells := 0, slots := 0, locals := 21 }) (zP [.ref am, .int (zI (k))] D G (fun H => va_P D vwCl [(am, .inr (3, [.int (zI (th)), .int (zI (n)), .ref (h 0), .ref (h 1), .ref (h 2), .ref (h 3), .ref (h 4), .ref (h 5), .ref (h 6), .int (zI (m9)), .ref (h 7), .ref (h 8), .ref (h 9), .int (zI (sp))])), ((h 0), .inl (G 0, 8, .inl (M 0))), ((h 1), .inl (G 0, 8, .inl (M 1))), ((h 2), .inl (G 0, 8, .inl (M 2))), ((h 3), .inl (G 0, 8, .inl (M 3))), ((h 4), .inl (G 0, 8, .inl (M 4))), ((h 5), .inl (G 1, 24, .inl (M 5))), ((h 6), .inl (G 0, 1024, .inl (M 6))), ((h 7), .inl (G 0, 13, .inl (M 7))), ((h 8), .inl (G 0, 12, .inl (M 8))), ((h 9), .inl (G 1, 12, .inl (M 9)))] H)) (zQ (some (.int (zI (xLoud (τ k.toNat) (τ k.toNat 0).toNat))))) 0 0 (fun _ => False) := by
  refine Met.ofW (cc := cX3_loud) (maxL := 4) (ret := (some .int)) (by decide) rfl ?_
  intro p e s m args below meth c s₁ B hml hv
  obtain ⟨hav, hP, hK, hN⟩ := hv
  have hx := B.exec
  have hb := B.bytes
  have hr := B.returns
  have hts := atoms_spec (ws := wsX3_loud) B.pre
  have hown : s.vm.findClass RX3 = some m.cls := findClass_of_methodNamed B.named
  have hlocks : meth.locks = false := B.notSynchronized
  have hin3 : ∀ w ∈ u_ws RX3 TX3 14, w ∈ wsX3_loud := by decide +kernel
  have hB := id hOK
  obtain ⟨hn0, hn8, hm0, hm12, hsp0, hsp1, -⟩ := hB
  have htb := hOK.tb hk
  have hft := hOK.t hk
  refine z_entry hav (Nat.le_of_ble_eq_true rfl) rfl (fun ls hl => ?_)
  have hl : lv_has ls 4 [(0, .ref am), (1, .int (zI (k)))] := hl
  refine lv_iconst (v := zI (0)) hx hb dX3_loud_0 rfl ?_
  refine lv_istore_n (lv' := [(2, .int (zI (0))), (0, .ref am), (1, .int (zI (k)))]) hx hb dX3_loud_1 rfl hl (by decide) rfl (fun ls hl => ?_)
  refine lv_iconst (v := zI (0)) hx hb dX3_loud_2 rfl ?_
  refine lv_istore_n (lv' := [(3, .int (zI (0))), (2, .int (zI (0))), (0, .ref am), (1, .int (zI (k)))]) hx hb dX3_loud_3 rfl hl (by decide) rfl (fun ls hl => ?_)
  have loop_4 : ∀ (fu : Nat) (a : Int) (v : Int), (0 ≤ a ∧ a ≤ τ k.toNat 0) → (v = xLoud (τ k.toNat) a.toNat) → τ k.toNat 0 - a < (fu : Int) → ∀ (ls : Array Slot), lv_has ls 4 [(0, .ref am), (1, .int (zI (k))), (2, .int (zI (v))), (3, .int (zI (a)))] → W p l e (headSpec wsX3_loud ({ frames := 1, cells := 0, slots := 0, locals := 21 })).room s m args below meth c s.heap [] 0 0 (MQ below (zQ (some (.int (zI (xLoud (τ k.toNat) (τ k.toNat 0).toNat))))) args s 0 0 (fun _ => False)) (F0 m 4 ls []) := by
    intro fu
    induction fu with
    | zero =>
      intro a v ha0 hv hm
      exfalso; omega
    | succ fu ih =>
      intro a v ha0 hv hm ls hl
      have ih_4 := ih
      refine lv_iload_n hx hb dX3_loud_4 rfl (lv_at hl 3 rfl) ?_
      refine lv_aload_n hx hb dX3_loud_5 rfl (lv_at hl 0 rfl) ?_
      refine va_get (D := D) (ci := 3) (v := .ref (h 0)) (C := RX3) (T := TX3) (N := 14) hx hb hts hin3 hown hK hP 0 rfl rfl 2 (by decide) (hts (.fieldLink RX3 9 "PolyDrumsModel" "counts" "[I") (by decide +kernel)) (fun _ h9 => h9) rfl dX3_loud_6 ?_
      refine lv_iload_n hx hb dX3_loud_9 rfl (lv_at hl 1 rfl) ?_
      refine z_iald (x := zI (τ (k).toNat 0)) (D := D) hx hb hK hP 1 0 rfl rfl (by omega) (by omega) (hM.a (k := k) (by omega) 0 (by omega)) dX3_loud_10 ?_
      refine z_icmp_ge (tgt := 43) hx hb (by omega) dX3_loud_11 (by decide) (fun c_1 => ?_) (fun c_1 => ?_)
      · refine lv_iload_n hx hb dX3_loud_43 rfl (lv_at hl 2 rfl) ?_
        exact z_iret hx hb hr hlocks (by rw [hv, show a = τ k.toNat 0 by omega]) dX3_loud_44
      · have hc1 := hft.2.2.2.2.2.2.2.2.2.2.2.2.2 a ha0.1 (by omega)
        have hb1 := xLoud_b (τ k.toNat) a.toNat
        refine lv_iload_n hx hb dX3_loud_14 rfl (lv_at hl 2 rfl) ?_
        refine lv_aload_n hx hb dX3_loud_15 rfl (lv_at hl 0 rfl) ?_
        refine va_get (D := D) (ci := 3) (v := .ref (h 6)) (C := RX3) (T := TX3) (N := 14) hx hb hts hin3 hown hK hP 0 rfl rfl 8 (by decide) (hts (.fieldLink RX3 29 "PolyDrumsModel" "steps" "[I") (by decide +kernel)) (fun _ h9 => h9) rfl dX3_loud_16 ?_
        refine lv_iload_n hx hb dX3_loud_19 rfl (lv_at hl 1 rfl) ?_
        refine lv_iload_n hx hb dX3_loud_20 rfl (lv_at hl 3 rfl) ?_
        refine z_call (va_runS (As := [.int (zI (k)), .int (zI (a))]) (rest := [.ref (h 6), .int (zI (v))]) ⟨hx, hb, hml, hown, hts⟩ (kX3_at l D G (k) (a)) (va_cwS 2 hts gX3_loud_X3_at rfl rfl rfl (by decide +kernel) ⟨Nat.le_of_ble_eq_true rfl, Nat.le_of_ble_eq_true rfl⟩) (zPreS hK hN (trivial)) rfl rfl hl.1 rfl (lv_room (Nat.le_of_ble_eq_true rfl)) dX3_loud_21 ⟨Nat.le_of_ble_eq_true rfl, Nat.le_of_ble_eq_true rfl⟩) ?_
        refine lv_iconst (v := zI (0)) hx hb dX3_loud_24 rfl ?_
        refine z_iadd hx hb dX3_loud_25 ?_
        refine z_iald (x := zI (xC (τ (k).toNat) (a) 0)) (D := D) hx hb hK hP 7 0 rfl rfl (by have h32 := (hOK.tb (k := k) (by omega)).2.1; omega) (by omega) (hM.st (k := k) (s := a) (w := 0) (by omega) (by omega) (by omega) (by omega)) dX3_loud_26 ?_
        refine z_if_le (tgt := 34) hx hb (by omega) dX3_loud_27 (by decide) (fun c_2 => ?_) (fun c_2 => ?_)
        · refine lv_iconst (v := zI (0)) hx hb dX3_loud_34 rfl ?_
          refine z_iadd hx hb dX3_loud_35 ?_
          refine lv_istore_n (lv' := [(2, .int (zI ((v) + (0)))), (0, .ref am), (1, .int (zI (k))), (3, .int (zI (a)))]) hx hb dX3_loud_36 rfl hl (by decide) rfl (fun ls hl => ?_)
          refine lv_iinc (v := zI (a + 1)) (lv' := [(3, .int (zI (a + 1))), (2, .int (zI ((v) + (0)))), (0, .ref am), (1, .int (zI (k)))]) hx hb dX3_loud_37 hl (k := 3) rfl (zI_add (a) (1)) (by decide) rfl (fun ls hl => ?_)
          refine lv_goto (tgt := 4) hx hb dX3_loud_40 (by decide) ?_
          exact ih_4 (a + 1) ((v) + (0)) (by omega) (by rw [xLoud_s ha0.1]; split <;> omega) (by omega) _ (lv_sub hl [2, 3, 1, 0] rfl)
        · refine lv_iconst (v := zI (1)) hx hb dX3_loud_30 rfl ?_
          refine lv_goto (tgt := 35) hx hb dX3_loud_31 (by decide) ?_
          refine z_iadd hx hb dX3_loud_35 ?_
          refine lv_istore_n (lv' := [(2, .int (zI ((v) + (1)))), (0, .ref am), (1, .int (zI (k))), (3, .int (zI (a)))]) hx hb dX3_loud_36 rfl hl (by decide) rfl (fun ls hl => ?_)
          refine lv_iinc (v := zI (a + 1)) (lv' := [(3, .int (zI (a + 1))), (2, .int (zI ((v) + (1)))), (0, .ref am), (1, .int (zI (k)))]) hx hb dX3_loud_37 hl (k := 3) rfl (zI_add (a) (1)) (by decide) rfl (fun ls hl => ?_)
          refine lv_goto (tgt := 4) hx hb dX3_loud_40 (by decide) ?_
          exact ih_4 (a + 1) ((v) + (1)) (by omega) (by rw [xLoud_s ha0.1]; split <;> omega) (by omega) _ (lv_sub hl [2, 3, 1, 0] rfl)
  exact loop_4 (33) (0) (0) (by omega) (rfl) (by omega) ls (lv_sub hl [2, 3, 1, 0] rfl)

set_option maxHeartbeats 4000000 in
set_option maxRecDepth 100000 in
theorem kX3_roundsOf (l : Launch) (D : va_G) (G : Nat → ClassId) (am : Nat) (th n m9 sp : Int) (τ ζ : Nat → Nat → Int) (h : Nat → Nat) (M : Nat → Nat → Int32) (hOK : XOK n m9 sp τ ζ) (hM : MR n m9 τ ζ M) (k : Int) (hk : 0 ≤ k ∧ k < n) : Met l yX3_roundsOf wsX3_roundsOf ({ frames := 1, cells := 0, slots := 0, locals := 29 }) (zP [.ref am, .int (zI (k))] D G (fun H => va_P D vwCl [(am, .inr (3, [.int (zI (th)), .int (zI (n)), .ref (h 0), .ref (h 1), .ref (h 2), .ref (h 3), .ref (h 4), .ref (h 5), .ref (h 6), .int (zI (m9)), .ref (h 7), .ref (h 8), .ref (h 9), .int (zI (sp))])), ((h 0), .inl (G 0, 8, .inl (M 0))), ((h 1), .inl (G 0, 8, .inl (M 1))), ((h 2), .inl (G 0, 8, .inl (M 2))), ((h 3), .inl (G 0, 8, .inl (M 3))), ((h 4), .inl (G 0, 8, .inl (M 4))), ((h 5), .inl (G 1, 24, .inl (M 5))), ((h 6), .inl (G 0, 1024, .inl (M 6))), ((h 7), .inl (G 0, 13, .inl (M 7))), ((h 8), .inl (G 0, 12, .inl (M 8))), ((h 9), .inl (G 1, 12, .inl (M 9)))] H)) (zQ (some (.int (zI ((xRnd (τ k.toNat) (τ k.toNat 0).toNat : Int)))))) 0 0 (fun _ => False) := by
  refine Met.ofW (cc := cX3_roundsOf) (maxL := 7) (ret := (some .int)) (by decide) rfl ?_
  intro p e s m args below meth c s₁ B hml hv
  obtain ⟨hav, hP, hK, hN⟩ := hv
  have hx := B.exec
  have hb := B.bytes
  have hr := B.returns
  have hts := atoms_spec (ws := wsX3_roundsOf) B.pre
  have hown : s.vm.findClass RX3 = some m.cls := findClass_of_methodNamed B.named
  have hlocks : meth.locks = false := B.notSynchronized
  have hin3 : ∀ w ∈ u_ws RX3 TX3 14, w ∈ wsX3_roundsOf := by decide +kernel
  have hB := id hOK
  obtain ⟨hn0, hn8, hm0, hm12, hsp0, hsp1, -⟩ := hB
  have htb := hOK.tb hk
  have hft := hOK.t hk
  refine z_entry hav (Nat.le_of_ble_eq_true rfl) rfl (fun ls hl => ?_)
  have hl : lv_has ls 7 [(0, .ref am), (1, .int (zI (k)))] := hl
  refine lv_lconst (v := lN 1) hx hb dX3_roundsOf_0 (by decide) ?_
  refine lv_lstore_n (lv' := [(2, .long (lN (1))), (0, .ref am), (1, .int (zI (k)))]) hx hb dX3_roundsOf_1 rfl hl (by decide) rfl (fun ls hl => ?_)
  refine lv_iconst (v := zI (0)) hx hb dX3_roundsOf_2 rfl ?_
  refine lv_istore (lv' := [(4, .int (zI (0))), (2, .long (lN (1))), (0, .ref am), (1, .int (zI (k)))]) hx hb dX3_roundsOf_3 hl (by decide) rfl (fun ls hl => ?_)
  have loop_5 : ∀ (fu : Nat) (a : Int) (p9 : Nat), (0 ≤ a ∧ a ≤ τ k.toNat 0) → (p9 = xRnd (τ k.toNat) a.toNat) → τ k.toNat 0 - a < (fu : Int) → ∀ (ls : Array Slot), lv_has ls 7 [(0, .ref am), (1, .int (zI (k))), (2, .long (lN (p9))), (4, .int (zI (a)))] → W p l e (headSpec wsX3_roundsOf ({ frames := 1, cells := 0, slots := 0, locals := 29 })).room s m args below meth c s.heap [] 0 0 (MQ below (zQ (some (.int (zI ((xRnd (τ k.toNat) (τ k.toNat 0).toNat : Int)))))) args s 0 0 (fun _ => False)) (F0 m 5 ls []) := by
    intro fu
    induction fu with
    | zero =>
      intro a p9 ha0 hv hm
      exfalso; omega
    | succ fu ih =>
      intro a p9 ha0 hv hm ls hl
      have hb1 : 1 ≤ p9 ∧ p9 ≤ 840 := by rw [hv]; exact xRnd_b hft (by omega)
      have ih_5 := ih
      refine lv_iload hx hb dX3_roundsOf_5 (lv_at hl 3 rfl) ?_
      refine lv_aload_n hx hb dX3_roundsOf_7 rfl (lv_at hl 0 rfl) ?_
      refine va_get (D := D) (ci := 3) (v := .ref (h 0)) (C := RX3) (T := TX3) (N := 14) hx hb hts hin3 hown hK hP 0 rfl rfl 2 (by decide) (hts (.fieldLink RX3 9 "PolyDrumsModel" "counts" "[I") (by decide +kernel)) (fun _ h9 => h9) rfl dX3_roundsOf_8 ?_
      refine lv_iload_n hx hb dX3_roundsOf_11 rfl (lv_at hl 1 rfl) ?_
      refine z_iald (x := zI (τ (k).toNat 0)) (D := D) hx hb hK hP 1 0 rfl rfl (by omega) (by omega) (hM.a (k := k) (by omega) 0 (by omega)) dX3_roundsOf_12 ?_
      refine z_icmp_ge (tgt := 70) hx hb (by omega) dX3_roundsOf_13 (by decide) (fun c_1 => ?_) (fun c_1 => ?_)
      · refine lv_lload_n hx hb dX3_roundsOf_70 rfl (lv_at hl 2 rfl) ?_
        refine lv_l2i (v := (lN (p9)).toInt32) hx hb dX3_roundsOf_71 rfl ?_
        refine z_raw (y := zI (p9 : Int)) (by rw [lN_i]; rfl) ?_
        exact z_iret hx hb hr hlocks (by rw [hv, show a = τ k.toNat 0 by omega]) dX3_roundsOf_72
      · have hc1 := hft.2.2.2.2.2.2.2.2.2.2.2.2.2 a ha0.1 (by omega)
        refine lv_aload_n hx hb dX3_roundsOf_16 rfl (lv_at hl 0 rfl) ?_
        refine va_get (D := D) (ci := 3) (v := .ref (h 6)) (C := RX3) (T := TX3) (N := 14) hx hb hts hin3 hown hK hP 0 rfl rfl 8 (by decide) (hts (.fieldLink RX3 29 "PolyDrumsModel" "steps" "[I") (by decide +kernel)) (fun _ h9 => h9) rfl dX3_roundsOf_17 ?_
        refine lv_iload_n hx hb dX3_roundsOf_20 rfl (lv_at hl 1 rfl) ?_
        refine lv_iload hx hb dX3_roundsOf_21 (lv_at hl 3 rfl) ?_
        refine z_call (va_runS (As := [.int (zI (k)), .int (zI (a))]) (rest := [.ref (h 6)]) ⟨hx, hb, hml, hown, hts⟩ (kX3_at l D G (k) (a)) (va_cwS 2 hts gX3_roundsOf_X3_at rfl rfl rfl (by decide +kernel) ⟨Nat.le_of_ble_eq_true rfl, Nat.le_of_ble_eq_true rfl⟩) (zPreS hK hN (trivial)) rfl rfl hl.1 rfl (lv_room (Nat.le_of_ble_eq_true rfl)) dX3_roundsOf_23 ⟨Nat.le_of_ble_eq_true rfl, Nat.le_of_ble_eq_true rfl⟩) ?_
        refine lv_iconst (v := zI (0)) hx hb dX3_roundsOf_26 rfl ?_
        refine z_iadd hx hb dX3_roundsOf_27 ?_
        refine z_iald (x := zI (xC (τ (k).toNat) (a) 0)) (D := D) hx hb hK hP 7 0 rfl rfl (by have h32 := (hOK.tb (k := k) (by omega)).2.1; omega) (by omega) (hM.st (k := k) (s := a) (w := 0) (by omega) (by omega) (by omega) (by omega)) dX3_roundsOf_28 ?_
        refine z_if_le (tgt := 49) hx hb (by omega) dX3_roundsOf_29 (by decide) (fun c_2 => ?_) (fun c_2 => ?_)
        · refine lv_lconst (v := lN 1) hx hb dX3_roundsOf_49 (by decide) ?_
          refine lv_lstore (lv' := [(5, .long (lN (1))), (0, .ref am), (1, .int (zI (k))), (2, .long (lN (p9))), (4, .int (zI (a)))]) hx hb dX3_roundsOf_50 hl (by decide) rfl (fun ls hl => ?_)
          refine lv_lload_n hx hb dX3_roundsOf_52 rfl (lv_at hl 3 rfl) ?_
          have hgp : 0 < Nat.gcd p9 (1) ∧ Nat.gcd p9 (1) ≤ p9 := ⟨Nat.gcd_pos_of_pos_left _ (by omega), Nat.gcd_le_left _ (by omega)⟩
          refine lv_lload_n hx hb dX3_roundsOf_53 rfl (lv_at hl 3 rfl) ?_
          refine lv_lload hx hb dX3_roundsOf_54 (lv_at hl 0 rfl) ?_
          refine z_call (va_runS (As := [.long (lN (p9)), .long (lN (1))]) (rest := [.long (lN (p9))]) ⟨hx, hb, hml, hown, hts⟩ (kX3_divisor l D G (p9) (1) (by omega) (by omega)) (va_cwS 2 hts gX3_roundsOf_X3_divisor rfl rfl rfl (by decide +kernel) ⟨Nat.le_of_ble_eq_true rfl, Nat.le_of_ble_eq_true rfl⟩) (zPreS hK hN (trivial)) rfl rfl hl.1 rfl (lv_room (Nat.le_of_ble_eq_true rfl)) dX3_roundsOf_56 ⟨Nat.le_of_ble_eq_true rfl, Nat.le_of_ble_eq_true rfl⟩) ?_
          refine lv_ldiv hx hb dX3_roundsOf_59 (by intro q; rw [show (0 : Int64) = lN 0 from rfl, pk_lEQ (by omega) (by omega)] at q; omega) ?_
          refine z_top (w := .long (lN (p9 / Nat.gcd p9 (1)))) (by rw [pk_lDiv (by omega) hgp.1 (by omega)]) ?_
          refine lv_lload hx hb dX3_roundsOf_60 (lv_at hl 0 rfl) ?_
          refine lv_lmul hx hb dX3_roundsOf_62 ?_
          refine z_top (w := .long (lN (Nat.lcm p9 (1)))) (by rw [lN_mul, x_lcm (by omega)]) ?_
          refine lv_lstore_n (lv' := [(2, .long (lN (Nat.lcm p9 (1)))), (5, .long (lN (1))), (0, .ref am), (1, .int (zI (k))), (4, .int (zI (a)))]) hx hb dX3_roundsOf_63 rfl hl (by decide) rfl (fun ls hl => ?_)
          refine lv_iinc (v := zI (a + 1)) (lv' := [(4, .int (zI (a + 1))), (2, .long (lN (Nat.lcm p9 (1)))), (5, .long (lN (1))), (0, .ref am), (1, .int (zI (k)))]) hx hb dX3_roundsOf_64 hl (k := 4) rfl (zI_add (a) (1)) (by decide) rfl (fun ls hl => ?_)
          refine lv_goto (tgt := 5) hx hb dX3_roundsOf_67 (by decide) ?_
          exact ih_5 (a + 1) (Nat.lcm p9 (1)) (by omega) (by rw [xRnd_s ha0.1]; first | (rw [if_pos (by omega), hv]; done) | (rw [if_neg (by omega), hv, Nat.lcm_one_right]; done)) (by omega) _ (lv_sub hl [3, 4, 1, 0] rfl)
        · refine lv_aload_n hx hb dX3_roundsOf_32 rfl (lv_at hl 0 rfl) ?_
          refine va_get (D := D) (ci := 3) (v := .ref (h 6)) (C := RX3) (T := TX3) (N := 14) hx hb hts hin3 hown hK hP 0 rfl rfl 8 (by decide) (hts (.fieldLink RX3 29 "PolyDrumsModel" "steps" "[I") (by decide +kernel)) (fun _ h9 => h9) rfl dX3_roundsOf_33 ?_
          refine lv_iload_n hx hb dX3_roundsOf_36 rfl (lv_at hl 1 rfl) ?_
          refine lv_iload hx hb dX3_roundsOf_37 (lv_at hl 3 rfl) ?_
          refine z_call (va_runS (As := [.int (zI (k)), .int (zI (a))]) (rest := [.ref (h 6)]) ⟨hx, hb, hml, hown, hts⟩ (kX3_at l D G (k) (a)) (va_cwS 2 hts gX3_roundsOf_X3_at rfl rfl rfl (by decide +kernel) ⟨Nat.le_of_ble_eq_true rfl, Nat.le_of_ble_eq_true rfl⟩) (zPreS hK hN (trivial)) rfl rfl hl.1 rfl (lv_room (Nat.le_of_ble_eq_true rfl)) dX3_roundsOf_39 ⟨Nat.le_of_ble_eq_true rfl, Nat.le_of_ble_eq_true rfl⟩) ?_
          refine lv_iconst (v := zI (3)) hx hb dX3_roundsOf_42 rfl ?_
          refine z_iadd hx hb dX3_roundsOf_43 ?_
          refine z_iald (x := zI (xC (τ (k).toNat) (a) 3)) (D := D) hx hb hK hP 7 0 rfl rfl (by have h32 := (hOK.tb (k := k) (by omega)).2.1; omega) (by omega) (hM.st (k := k) (s := a) (w := 3) (by omega) (by omega) (by omega) (by omega)) dX3_roundsOf_44 ?_
          refine lv_i2l (v := (zI (xC (τ (k).toNat) (a) 3)).toInt64) hx hb dX3_roundsOf_45 rfl ?_
          refine z_top (w := .long (lN ((xC (τ k.toNat) a 3).toNat))) (by show Value.long _ = _; rw [← nI_l (by omega), zI_nI, Int.toNat_of_nonneg (by omega)]) ?_
          refine lv_goto (tgt := 50) hx hb dX3_roundsOf_46 (by decide) ?_
          refine lv_lstore (lv' := [(5, .long (lN ((xC (τ k.toNat) a 3).toNat))), (0, .ref am), (1, .int (zI (k))), (2, .long (lN (p9))), (4, .int (zI (a)))]) hx hb dX3_roundsOf_50 hl (by decide) rfl (fun ls hl => ?_)
          refine lv_lload_n hx hb dX3_roundsOf_52 rfl (lv_at hl 3 rfl) ?_
          have hgp : 0 < Nat.gcd p9 ((xC (τ k.toNat) a 3).toNat) ∧ Nat.gcd p9 ((xC (τ k.toNat) a 3).toNat) ≤ p9 := ⟨Nat.gcd_pos_of_pos_left _ (by omega), Nat.gcd_le_left _ (by omega)⟩
          refine lv_lload_n hx hb dX3_roundsOf_53 rfl (lv_at hl 3 rfl) ?_
          refine lv_lload hx hb dX3_roundsOf_54 (lv_at hl 0 rfl) ?_
          refine z_call (va_runS (As := [.long (lN (p9)), .long (lN ((xC (τ k.toNat) a 3).toNat))]) (rest := [.long (lN (p9))]) ⟨hx, hb, hml, hown, hts⟩ (kX3_divisor l D G (p9) ((xC (τ k.toNat) a 3).toNat) (by omega) (by omega)) (va_cwS 2 hts gX3_roundsOf_X3_divisor rfl rfl rfl (by decide +kernel) ⟨Nat.le_of_ble_eq_true rfl, Nat.le_of_ble_eq_true rfl⟩) (zPreS hK hN (trivial)) rfl rfl hl.1 rfl (lv_room (Nat.le_of_ble_eq_true rfl)) dX3_roundsOf_56 ⟨Nat.le_of_ble_eq_true rfl, Nat.le_of_ble_eq_true rfl⟩) ?_
          refine lv_ldiv hx hb dX3_roundsOf_59 (by intro q; rw [show (0 : Int64) = lN 0 from rfl, pk_lEQ (by omega) (by omega)] at q; omega) ?_
          refine z_top (w := .long (lN (p9 / Nat.gcd p9 ((xC (τ k.toNat) a 3).toNat)))) (by rw [pk_lDiv (by omega) hgp.1 (by omega)]) ?_
          refine lv_lload hx hb dX3_roundsOf_60 (lv_at hl 0 rfl) ?_
          refine lv_lmul hx hb dX3_roundsOf_62 ?_
          refine z_top (w := .long (lN (Nat.lcm p9 ((xC (τ k.toNat) a 3).toNat)))) (by rw [lN_mul, x_lcm (by omega)]) ?_
          refine lv_lstore_n (lv' := [(2, .long (lN (Nat.lcm p9 ((xC (τ k.toNat) a 3).toNat)))), (5, .long (lN ((xC (τ k.toNat) a 3).toNat))), (0, .ref am), (1, .int (zI (k))), (4, .int (zI (a)))]) hx hb dX3_roundsOf_63 rfl hl (by decide) rfl (fun ls hl => ?_)
          refine lv_iinc (v := zI (a + 1)) (lv' := [(4, .int (zI (a + 1))), (2, .long (lN (Nat.lcm p9 ((xC (τ k.toNat) a 3).toNat)))), (5, .long (lN ((xC (τ k.toNat) a 3).toNat))), (0, .ref am), (1, .int (zI (k)))]) hx hb dX3_roundsOf_64 hl (k := 4) rfl (zI_add (a) (1)) (by decide) rfl (fun ls hl => ?_)
          refine lv_goto (tgt := 5) hx hb dX3_roundsOf_67 (by decide) ?_
          exact ih_5 (a + 1) (Nat.lcm p9 ((xC (τ k.toNat) a 3).toNat)) (by omega) (by rw [xRnd_s ha0.1]; first | (rw [if_pos (by omega), hv]; done) | (rw [if_neg (by omega), hv, Nat.lcm_one_right]; done)) (by omega) _ (lv_sub hl [3, 4, 1, 0] rfl)
  exact loop_5 (33) (0) (1) (by omega) (rfl) (by omega) ls (lv_sub hl [2, 3, 1, 0] rfl)

set_option maxHeartbeats 4000000 in
set_option maxRecDepth 100000 in
theorem kX3_loud_ (l : Launch) (D : va_G) (G : Nat → ClassId) (am : Nat) (th n m9 sp : Int) (τ ζ : Nat → Nat → Int) (h : Nat → Nat) (M : Nat → Nat → Int32) (hOK : XOK n m9 sp τ ζ) (hM : MR n m9 τ ζ M) (k t9 : Int) (hk : 0 ≤ k ∧ k < n) (ht : 0 ≤ t9 ∧ t9 ≤ 99999) : Met l yX3_loud_ wsX3_loud_ ({ frames := 2, cells := 0, slots := 0, locals := 54 }) (zP [.ref am, .int (zI (k)), .int (zI (t9))] D G (fun H => va_P D vwCl [(am, .inr (3, [.int (zI (th)), .int (zI (n)), .ref (h 0), .ref (h 1), .ref (h 2), .ref (h 3), .ref (h 4), .ref (h 5), .ref (h 6), .int (zI (m9)), .ref (h 7), .ref (h 8), .ref (h 9), .int (zI (sp))])), ((h 0), .inl (G 0, 8, .inl (M 0))), ((h 1), .inl (G 0, 8, .inl (M 1))), ((h 2), .inl (G 0, 8, .inl (M 2))), ((h 3), .inl (G 0, 8, .inl (M 3))), ((h 4), .inl (G 0, 8, .inl (M 4))), ((h 5), .inl (G 1, 24, .inl (M 5))), ((h 6), .inl (G 0, 1024, .inl (M 6))), ((h 7), .inl (G 0, 13, .inl (M 7))), ((h 8), .inl (G 0, 12, .inl (M 8))), ((h 9), .inl (G 1, 12, .inl (M 9)))] H)) (zQ (some (.int (zI (xLn n m9 τ ζ k t9))))) 0 0 (fun _ => False) := by
  refine Met.ofW (cc := cX3_loud_) (maxL := 6) (ret := (some .int)) (by decide) rfl ?_
  intro p e s m args below meth c s₁ B hml hv
  obtain ⟨hav, hP, hK, hN⟩ := hv
  have hx := B.exec
  have hb := B.bytes
  have hr := B.returns
  have hts := atoms_spec (ws := wsX3_loud_) B.pre
  have hown : s.vm.findClass RX3 = some m.cls := findClass_of_methodNamed B.named
  have hlocks : meth.locks = false := B.notSynchronized
  have hin3 : ∀ w ∈ u_ws RX3 TX3 14, w ∈ wsX3_loud_ := by decide +kernel
  have hB := id hOK
  obtain ⟨hn0, hn8, hm0, hm12, hsp0, hsp1, -⟩ := hB
  have htb := hOK.tb hk
  have hsb := xStr_b hOK (t := t9) hk
  refine z_entry hav (Nat.le_of_ble_eq_true rfl) rfl (fun ls hl => ?_)
  have hl : lv_has ls 6 [(0, .ref am), (1, .int (zI (k))), (2, .int (zI (t9)))] := hl
  refine lv_aload_n hx hb dX3_loud__0 rfl (lv_at hl 0 rfl) ?_
  refine va_get (D := D) (ci := 3) (v := .ref (h 5)) (C := RX3) (T := TX3) (N := 14) hx hb hts hin3 hown hK hP 0 rfl rfl 7 (by decide) (hts (.fieldLink RX3 25 "PolyDrumsModel" "flags" "[Z") (by decide +kernel)) (fun _ h9 => h9) rfl dX3_loud__1 ?_
  refine lv_iconst (v := zI (3)) hx hb dX3_loud__4 rfl ?_
  refine lv_iload_n hx hb dX3_loud__5 rfl (lv_at hl 1 rfl) ?_
  refine z_imul hx hb dX3_loud__6 ?_
  refine lv_iconst (v := zI (2)) hx hb dX3_loud__7 rfl ?_
  refine z_iadd hx hb dX3_loud__8 ?_
  refine z_zald (x := zB (τ (k).toNat 7 = 1)) (D := D) hx hb hK hP 6 1 rfl rfl (by omega) (by omega) (hM.fl hOK (k := k) 2 (by omega) (by omega) (by omega)) dX3_loud__9 ?_
  refine z_eqB (tgt := 17) hx hb dX3_loud__10 (by decide) (fun c_1 => ?_) (fun c_1 => ?_)
  · refine lv_aload_n hx hb dX3_loud__17 rfl (lv_at hl 0 rfl) ?_
    refine lv_iload_n hx hb dX3_loud__18 rfl (lv_at hl 1 rfl) ?_
    refine lv_iload_n hx hb dX3_loud__19 rfl (lv_at hl 2 rfl) ?_
    refine z_call (va_runV (As := [.int (zI (k)), .int (zI (t9))]) (rest := []) ⟨hx, hb, hml, hown, hts⟩ (kX3_strike l D G am (th) n m9 sp τ ζ h M hOK hM (k) (t9) (by omega) (by omega)) (cwV 2 hts gX3_loud__X3_strike rfl rfl rfl (by decide +kernel) ⟨Nat.le_of_ble_eq_true rfl, Nat.le_of_ble_eq_true rfl⟩) (zPreV (va_recv hK hP (ci := 3) (q0 := 0) rfl rfl) hK hN (hP)) rfl rfl hl.1 rfl (lv_room (Nat.le_of_ble_eq_true rfl)) dX3_loud__20 ⟨Nat.le_of_ble_eq_true rfl, Nat.le_of_ble_eq_true rfl⟩) ?_
    refine lv_istore_n (lv' := [(3, .int (zI (xStr n m9 τ ζ ((k)) ((t9))))), (0, .ref am), (1, .int (zI (k))), (2, .int (zI (t9)))]) hx hb dX3_loud__23 rfl hl (by decide) rfl (fun ls hl => ?_)
    refine lv_iload_n hx hb dX3_loud__24 rfl (lv_at hl 0 rfl) ?_
    refine z_if_ne (tgt := 30) hx hb (by omega) dX3_loud__25 (by decide) (fun c_2 => ?_) (fun c_2 => ?_)
    · refine lv_iconst (v := zI (0)) hx hb dX3_loud__30 rfl ?_
      refine lv_istore (lv' := [(4, .int (zI (0))), (3, .int (zI (xStr n m9 τ ζ ((k)) ((t9))))), (0, .ref am), (1, .int (zI (k))), (2, .int (zI (t9)))]) hx hb dX3_loud__31 hl (by decide) rfl (fun ls hl => ?_)
      refine lv_iconst (v := zI (0)) hx hb dX3_loud__33 rfl ?_
      refine lv_istore (lv' := [(5, .int (zI (0))), (4, .int (zI (0))), (3, .int (zI (xStr n m9 τ ζ ((k)) ((t9))))), (0, .ref am), (1, .int (zI (k))), (2, .int (zI (t9)))]) hx hb dX3_loud__34 hl (by decide) rfl (fun ls hl => ?_)
      have loop_36 : ∀ (fu : Nat) (a : Int) (v : Int), (0 ≤ a ∧ a ≤ n) → (v = xAcc n m9 τ ζ t9 a.toNat) → n - a < (fu : Int) → ∀ (ls : Array Slot), lv_has ls 6 [(0, .ref am), (1, .int (zI (k))), (2, .int (zI (t9))), (3, .int (zI (xStr n m9 τ ζ (k) (t9)))), (4, .int (zI (v))), (5, .int (zI (a)))] → W p l e (headSpec wsX3_loud_ ({ frames := 2, cells := 0, slots := 0, locals := 54 })).room s m args below meth c s.heap [] 0 0 (MQ below (zQ (some (.int (zI (xLn n m9 τ ζ k t9))))) args s 0 0 (fun _ => False)) (F0 m 36 ls []) := by
        intro fu
        induction fu with
        | zero =>
          intro a v ha0 hv hm
          exfalso; omega
        | succ fu ih =>
          intro a v ha0 hv hm ls hl
          have hab := xAcc_b hOK t9 a.toNat (by omega)
          have ih_36 := ih
          refine lv_iload hx hb dX3_loud__36 (lv_at hl 5 rfl) ?_
          refine lv_aload_n hx hb dX3_loud__38 rfl (lv_at hl 0 rfl) ?_
          refine va_get (D := D) (ci := 3) (v := .int (zI (n))) (C := RX3) (T := TX3) (N := 14) hx hb hts hin3 hown hK hP 0 rfl rfl 1 (by decide) (hts (.fieldLink RX3 48 "PolyDrumsModel" "tracks" "I") (by decide +kernel)) (fun _ h9 => h9) rfl dX3_loud__39 ?_
          refine z_icmp_ge (tgt := 81) hx hb (by omega) dX3_loud__42 (by decide) (fun c_3 => ?_) (fun c_3 => ?_)
          · refine lv_bipush (v := zI (127)) hx hb dX3_loud__81 (by decide) ?_
            refine lv_iload_n hx hb dX3_loud__83 rfl (lv_at hl 3 rfl) ?_
            refine lv_iload hx hb dX3_loud__84 (lv_at hl 4 rfl) ?_
            refine lv_iconst (v := zI (4)) hx hb dX3_loud__86 rfl ?_
            refine z_idiv hx hb (by omega) dX3_loud__87 ?_
            refine z_iadd hx hb dX3_loud__88 ?_
            refine z_min hx hb (hml.trans hl.1.symm) hown (hts (.methodLink RX3 103 Lib.Math.min.name) (by decide +kernel)) (hts (.static Lib.Math.min.name) (by decide +kernel)) (hts (.initialized "java/lang/Math") (by decide +kernel)) (hts (.code Lib.Math.min.name Lib.Math.min.code 2 (some .int)) (by decide +kernel)) (Nat.le_of_ble_eq_true rfl) (Nat.le_of_ble_eq_true rfl) (Nat.le_of_ble_eq_true rfl) (Nat.le_of_ble_eq_true rfl) (by omega) dX3_loud__89 ?_
            exact z_iret hx hb hr hlocks (by unfold xLn; rw [if_pos (show xHit n m9 τ ζ k t9 from ⟨by omega, by omega⟩), hv, show a = n by omega]; split <;> split <;> omega) dX3_loud__92
          · have hta := hOK.tb (k := a) (by omega)
            have hsa := xStr_b hOK (k := a) (t := t9) (by omega)
            refine lv_iload hx hb dX3_loud__45 (lv_at hl 4 rfl) ?_
            refine lv_aload_n hx hb dX3_loud__47 rfl (lv_at hl 0 rfl) ?_
            refine va_get (D := D) (ci := 3) (v := .ref (h 5)) (C := RX3) (T := TX3) (N := 14) hx hb hts hin3 hown hK hP 0 rfl rfl 7 (by decide) (hts (.fieldLink RX3 25 "PolyDrumsModel" "flags" "[Z") (by decide +kernel)) (fun _ h9 => h9) rfl dX3_loud__48 ?_
            refine lv_iconst (v := zI (3)) hx hb dX3_loud__51 rfl ?_
            refine lv_iload hx hb dX3_loud__52 (lv_at hl 5 rfl) ?_
            refine z_imul hx hb dX3_loud__54 ?_
            refine lv_iconst (v := zI (2)) hx hb dX3_loud__55 rfl ?_
            refine z_iadd hx hb dX3_loud__56 ?_
            refine z_zald (x := zB (τ (a).toNat 7 = 1)) (D := D) hx hb hK hP 6 1 rfl rfl (by omega) (by omega) (hM.fl hOK (k := a) 2 (by omega) (by omega) (by omega)) dX3_loud__57 ?_
            refine z_eqB (tgt := 71) hx hb dX3_loud__58 (by decide) (fun c_4 => ?_) (fun c_4 => ?_)
            · refine lv_iconst (v := zI (0)) hx hb dX3_loud__71 rfl ?_
              refine z_iadd hx hb dX3_loud__72 ?_
              refine lv_istore (lv' := [(4, .int (zI ((v) + (0)))), (0, .ref am), (1, .int (zI (k))), (2, .int (zI (t9))), (3, .int (zI (xStr n m9 τ ζ (k) (t9)))), (5, .int (zI (a)))]) hx hb dX3_loud__73 hl (by decide) rfl (fun ls hl => ?_)
              refine lv_iinc (v := zI (a + 1)) (lv' := [(5, .int (zI (a + 1))), (4, .int (zI ((v) + (0)))), (0, .ref am), (1, .int (zI (k))), (2, .int (zI (t9))), (3, .int (zI (xStr n m9 τ ζ (k) (t9))))]) hx hb dX3_loud__75 hl (k := 5) rfl (zI_add (a) (1)) (by decide) rfl (fun ls hl => ?_)
              refine lv_goto (tgt := 36) hx hb dX3_loud__78 (by decide) ?_
              exact ih_36 (a + 1) ((v) + (0)) (by omega) (by rw [xAcc_s ha0.1, hv]; first | (rw [if_pos (by omega)]; done) | (rw [if_neg (by omega)]; omega)) (by omega) _ (lv_sub hl [2, 3, 4, 5, 1, 0] rfl)
            · refine lv_aload_n hx hb dX3_loud__61 rfl (lv_at hl 0 rfl) ?_
              refine lv_iload hx hb dX3_loud__62 (lv_at hl 5 rfl) ?_
              refine lv_iload_n hx hb dX3_loud__64 rfl (lv_at hl 2 rfl) ?_
              refine z_call (va_runV (As := [.int (zI (a)), .int (zI (t9))]) (rest := [.int (zI (v))]) ⟨hx, hb, hml, hown, hts⟩ (kX3_strike l D G am (th) n m9 sp τ ζ h M hOK hM (a) (t9) (by omega) (by omega)) (cwV 2 hts gX3_loud__X3_strike rfl rfl rfl (by decide +kernel) ⟨Nat.le_of_ble_eq_true rfl, Nat.le_of_ble_eq_true rfl⟩) (zPreV (va_recv hK hP (ci := 3) (q0 := 0) rfl rfl) hK hN (hP)) rfl rfl hl.1 rfl (lv_room (Nat.le_of_ble_eq_true rfl)) dX3_loud__65 ⟨Nat.le_of_ble_eq_true rfl, Nat.le_of_ble_eq_true rfl⟩) ?_
              refine lv_goto (tgt := 72) hx hb dX3_loud__68 (by decide) ?_
              refine z_iadd hx hb dX3_loud__72 ?_
              refine lv_istore (lv' := [(4, .int (zI ((v) + (xStr n m9 τ ζ ((a)) ((t9)))))), (0, .ref am), (1, .int (zI (k))), (2, .int (zI (t9))), (3, .int (zI (xStr n m9 τ ζ (k) (t9)))), (5, .int (zI (a)))]) hx hb dX3_loud__73 hl (by decide) rfl (fun ls hl => ?_)
              refine lv_iinc (v := zI (a + 1)) (lv' := [(5, .int (zI (a + 1))), (4, .int (zI ((v) + (xStr n m9 τ ζ ((a)) ((t9)))))), (0, .ref am), (1, .int (zI (k))), (2, .int (zI (t9))), (3, .int (zI (xStr n m9 τ ζ (k) (t9))))]) hx hb dX3_loud__75 hl (k := 5) rfl (zI_add (a) (1)) (by decide) rfl (fun ls hl => ?_)
              refine lv_goto (tgt := 36) hx hb dX3_loud__78 (by decide) ?_
              exact ih_36 (a + 1) ((v) + (xStr n m9 τ ζ ((a)) ((t9)))) (by omega) (by rw [xAcc_s ha0.1, hv]; first | (rw [if_pos (by omega)]; done) | (rw [if_neg (by omega)]; omega)) (by omega) _ (lv_sub hl [2, 3, 4, 5, 1, 0] rfl)
      exact loop_36 (9) (0) (0) (by omega) (rfl) (by omega) ls (lv_sub hl [3, 4, 5, 2, 1, 0] rfl)
    · refine lv_iconst (v := zI (0)) hx hb dX3_loud__28 rfl ?_
      exact z_iret hx hb hr hlocks (by unfold xLn; rw [if_neg (fun q : xHit n m9 τ ζ k t9 => by have := q.1; have := q.2; omega)]) dX3_loud__29
  · refine lv_iconst (v := zI (0)) hx hb dX3_loud__13 rfl ?_
    refine lv_goto (tgt := 23) hx hb dX3_loud__14 (by decide) ?_
    refine lv_istore_n (lv' := [(3, .int (zI (0))), (0, .ref am), (1, .int (zI (k))), (2, .int (zI (t9)))]) hx hb dX3_loud__23 rfl hl (by decide) rfl (fun ls hl => ?_)
    refine lv_iload_n hx hb dX3_loud__24 rfl (lv_at hl 0 rfl) ?_
    refine z_if_ne (tgt := 30) hx hb (by omega) dX3_loud__25 (by decide) (fun c_5 => ?_) (fun c_5 => ?_)
    · exfalso; omega
    · refine lv_iconst (v := zI (0)) hx hb dX3_loud__28 rfl ?_
      exact z_iret hx hb hr hlocks (by unfold xLn; rw [if_neg (fun q : xHit n m9 τ ζ k t9 => by have := q.1; have := q.2; omega)]) dX3_loud__29
