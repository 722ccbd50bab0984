set_option maxHeartbeats 4000000 in
set_option maxRecDepth 100000 in
theorem kX2_trackOrNull (l : Launch) (D : va_G) (G : Nat → ClassId) (ax : Nat) (n m9 sp : Int) (τ ζ : Nat → Nat → Int) (g : Nat → Nat → Nat) (cs ss : Nat → Nat → Int32) (hOK : XOK n m9 sp τ ζ) (k : Int) (hk : -2147483648 ≤ k ∧ k ≤ 2147483647) : Met l yX2_trackOrNull wsX2_trackOrNull ({ frames := 0, cells := 0, slots := 0, locals := 0 }) (zP [.ref ax, .int (zI (k))] D G (fun H => XW D G ax n m9 sp τ ζ g cs ss H)) (zQ (some (va_rf (xOpt n (g 1) (k))))) 0 0 (fun _ => False) := by
  refine Met.ofW (cc := cX2_trackOrNull) (maxL := 2) (ret := (some (.object "PolyDrums$Track"))) (by decide) rfl ?_
  intro p e s m args below meth c s₁ B hml hv
  obtain ⟨hav, hW, hK, hN⟩ := hv
  have hx := B.exec
  have hb := B.bytes
  have hr := B.returns
  have hts := atoms_spec (ws := wsX2_trackOrNull) B.pre
  have hown : s.vm.findClass RX2 = some m.cls := findClass_of_methodNamed B.named
  have hlocks : meth.locks = false := B.notSynchronized
  have hin2 : ∀ w ∈ u_ws RX2 TX2 5, w ∈ wsX2_trackOrNull := by decide +kernel
  obtain ⟨hP, hT, hZ⟩ := id hW
  have hB := id hOK
  obtain ⟨hn0, hn8, hm0, hm12, hsp0, hsp1, -⟩ := hB
  refine z_entry hav (Nat.le_of_ble_eq_true rfl) rfl (fun ls hl => ?_)
  have hl : lv_has ls 2 [(0, .ref ax), (1, .int (zI (k)))] := hl
  refine lv_iload_n hx hb dX2_trackOrNull_0 rfl (lv_at hl 1 rfl) ?_
  refine z_if_lt (tgt := 22) hx hb (by omega) dX2_trackOrNull_1 (by decide) (fun c_1 => ?_) (fun c_1 => ?_)
  · refine lv_null hx hb dX2_trackOrNull_22 ?_
    exact z_aret (x := none) hx hb hr hlocks ((xOpt_f (by omega)).symm) dX2_trackOrNull_23
  · refine lv_iload_n hx hb dX2_trackOrNull_4 rfl (lv_at hl 1 rfl) ?_
    refine lv_aload_n hx hb dX2_trackOrNull_5 rfl (lv_at hl 0 rfl) ?_
    refine va_get (D := D) (ci := 2) (v := .ref (g 0 0)) (C := RX2) (T := TX2) (N := 5) hx hb hts hin2 hown hK hP 0 rfl rfl 0 (by decide) (hts (.fieldLink RX2 11 "PolyDrums" "tracks" "[LPolyDrums$Track;") (by decide +kernel)) (fun _ h9 => h9) rfl dX2_trackOrNull_6 ?_
    refine va_alen (D := D) hx hb hK hP 1 4 rfl rfl (v := zI 8) rfl dX2_trackOrNull_9 ?_
    refine z_icmp_ge (tgt := 22) hx hb (by omega) dX2_trackOrNull_10 (by decide) (fun c_2 => ?_) (fun c_2 => ?_)
    · refine lv_null hx hb dX2_trackOrNull_22 ?_
      exact z_aret (x := none) hx hb hr hlocks ((xOpt_f (by omega)).symm) dX2_trackOrNull_23
    · refine lv_aload_n hx hb dX2_trackOrNull_13 rfl (lv_at hl 0 rfl) ?_
      refine va_get (D := D) (ci := 2) (v := .ref (g 0 0)) (C := RX2) (T := TX2) (N := 5) hx hb hts hin2 hown hK hP 0 rfl rfl 0 (by decide) (hts (.fieldLink RX2 11 "PolyDrums" "tracks" "[LPolyDrums$Track;") (by decide +kernel)) (fun _ h9 => h9) rfl dX2_trackOrNull_14 ?_
      refine lv_iload_n hx hb dX2_trackOrNull_17 rfl (lv_at hl 1 rfl) ?_
      refine z_aldq (x := xRef n (g 1) (k).toNat) (D := D) hx hb hK hP 1 4 rfl rfl (by omega) (by omega) (rfl) dX2_trackOrNull_18 ?_
      refine lv_goto (tgt := 23) hx hb dX2_trackOrNull_19 (by decide) ?_
      exact z_aret hx hb hr hlocks (xOpt_r (by omega)) dX2_trackOrNull_23

set_option maxHeartbeats 4000000 in
set_option maxRecDepth 100000 in
theorem kX2_sectionOrNull (l : Launch) (D : va_G) (G : Nat → ClassId) (ax : Nat) (n m9 sp : Int) (τ ζ : Nat → Nat → Int) (g : Nat → Nat → Nat) (cs ss : Nat → Nat → Int32) (hOK : XOK n m9 sp τ ζ) (k : Int) (hk : -2147483648 ≤ k ∧ k ≤ 2147483647) : Met l yX2_sectionOrNull wsX2_sectionOrNull ({ frames := 0, cells := 0, slots := 0, locals := 0 }) (zP [.ref ax, .int (zI (k))] D G (fun H => XW D G ax n m9 sp τ ζ g cs ss H)) (zQ (some (va_rf (xOpt m9 (g 4) (k))))) 0 0 (fun _ => False) := by
  refine Met.ofW (cc := cX2_sectionOrNull) (maxL := 2) (ret := (some (.object "PolyDrums$Section"))) (by decide) rfl ?_
  intro p e s m args below meth c s₁ B hml hv
  obtain ⟨hav, hW, hK, hN⟩ := hv
  have hx := B.exec
  have hb := B.bytes
  have hr := B.returns
  have hts := atoms_spec (ws := wsX2_sectionOrNull) B.pre
  have hown : s.vm.findClass RX2 = some m.cls := findClass_of_methodNamed B.named
  have hlocks : meth.locks = false := B.notSynchronized
  have hin2 : ∀ w ∈ u_ws RX2 TX2 5, w ∈ wsX2_sectionOrNull := by decide +kernel
  obtain ⟨hP, hT, hZ⟩ := id hW
  have hB := id hOK
  obtain ⟨hn0, hn8, hm0, hm12, hsp0, hsp1, -⟩ := hB
  refine z_entry hav (Nat.le_of_ble_eq_true rfl) rfl (fun ls hl => ?_)
  have hl : lv_has ls 2 [(0, .ref ax), (1, .int (zI (k)))] := hl
  refine lv_iload_n hx hb dX2_sectionOrNull_0 rfl (lv_at hl 1 rfl) ?_
  refine z_if_lt (tgt := 22) hx hb (by omega) dX2_sectionOrNull_1 (by decide) (fun c_1 => ?_) (fun c_1 => ?_)
  · refine lv_null hx hb dX2_sectionOrNull_22 ?_
    exact z_aret (x := none) hx hb hr hlocks ((xOpt_f (by omega)).symm) dX2_sectionOrNull_23
  · refine lv_iload_n hx hb dX2_sectionOrNull_4 rfl (lv_at hl 1 rfl) ?_
    refine lv_aload_n hx hb dX2_sectionOrNull_5 rfl (lv_at hl 0 rfl) ?_
    refine va_get (D := D) (ci := 2) (v := .ref (g 0 1)) (C := RX2) (T := TX2) (N := 5) hx hb hts hin2 hown hK hP 0 rfl rfl 2 (by decide) (hts (.fieldLink RX2 21 "PolyDrums" "sections" "[LPolyDrums$Section;") (by decide +kernel)) (fun _ h9 => h9) rfl dX2_sectionOrNull_6 ?_
    refine va_alen (D := D) hx hb hK hP 2 5 rfl rfl (v := zI 12) rfl dX2_sectionOrNull_9 ?_
    refine z_icmp_ge (tgt := 22) hx hb (by omega) dX2_sectionOrNull_10 (by decide) (fun c_2 => ?_) (fun c_2 => ?_)
    · refine lv_null hx hb dX2_sectionOrNull_22 ?_
      exact z_aret (x := none) hx hb hr hlocks ((xOpt_f (by omega)).symm) dX2_sectionOrNull_23
    · refine lv_aload_n hx hb dX2_sectionOrNull_13 rfl (lv_at hl 0 rfl) ?_
      refine va_get (D := D) (ci := 2) (v := .ref (g 0 1)) (C := RX2) (T := TX2) (N := 5) hx hb hts hin2 hown hK hP 0 rfl rfl 2 (by decide) (hts (.fieldLink RX2 21 "PolyDrums" "sections" "[LPolyDrums$Section;") (by decide +kernel)) (fun _ h9 => h9) rfl dX2_sectionOrNull_14 ?_
      refine lv_iload_n hx hb dX2_sectionOrNull_17 rfl (lv_at hl 1 rfl) ?_
      refine z_aldq (x := xRef m9 (g 4) (k).toNat) (D := D) hx hb hK hP 2 5 rfl rfl (by omega) (by omega) (rfl) dX2_sectionOrNull_18 ?_
      refine lv_goto (tgt := 23) hx hb dX2_sectionOrNull_19 (by decide) ?_
      exact z_aret hx hb hr hlocks (xOpt_r (by omega)) dX2_sectionOrNull_23

set_option maxHeartbeats 4000000 in
set_option maxRecDepth 100000 in
theorem kX2_sectionNumber (l : Launch) (D : va_G) (G : Nat → ClassId) (ax : Nat) (n m9 sp : Int) (τ ζ : Nat → Nat → Int) (g : Nat → Nat → Nat) (cs ss : Nat → Nat → Int32) (hOK : XOK n m9 sp τ ζ) (t9 : Int) (ht : 0 ≤ t9 ∧ t9 ≤ 99999) : Met l yX2_sectionNumber wsX2_sectionNumber ({ frames := 1, cells := 0, slots := 0, locals := 21 }) (zP [.ref ax, .int (zI (t9))] D G (fun H => XW D G ax n m9 sp τ ζ g cs ss H)) (zQ (some (.int (zI (xSec ζ t9 m9.toNat))))) 0 0 (fun _ => False) := by
  refine Met.ofW (cc := cX2_sectionNumber) (maxL := 4) (ret := (some .int)) (by decide) rfl ?_
  intro p e s m args below meth c s₁ B hml hv
  obtain ⟨hav, hW, hK, hN⟩ := hv
  have hx := B.exec
  have hb := B.bytes
  have hr := B.returns
  have hts := atoms_spec (ws := wsX2_sectionNumber) B.pre
  have hown : s.vm.findClass RX2 = some m.cls := findClass_of_methodNamed B.named
  have hlocks : meth.locks = false := B.notSynchronized
  have hin0 : ∀ w ∈ u_ws RX0 TX0 4, w ∈ wsX2_sectionNumber := by decide +kernel
  have hin2 : ∀ w ∈ u_ws RX2 TX2 5, w ∈ wsX2_sectionNumber := by decide +kernel
  obtain ⟨hP, hT, hZ⟩ := id hW
  have hB := id hOK
  obtain ⟨hn0, hn8, hm0, hm12, hsp0, hsp1, -⟩ := hB
  refine z_entry hav (Nat.le_of_ble_eq_true rfl) rfl (fun ls hl => ?_)
  have hl : lv_has ls 4 [(0, .ref ax), (1, .int (zI (t9)))] := hl
  refine lv_iconst (v := zI (0)) hx hb dX2_sectionNumber_0 rfl ?_
  refine lv_istore_n (lv' := [(2, .int (zI (0))), (0, .ref ax), (1, .int (zI (t9)))]) hx hb dX2_sectionNumber_1 rfl hl (by decide) rfl (fun ls hl => ?_)
  have loop_2 : ∀ (fu : Nat) (k : Int), (0 ≤ k ∧ k ≤ m9) → (xSec ζ t9 k.toNat = -1) → m9 - k < (fu : Int) → ∀ (ls : Array Slot), lv_has ls 4 [(0, .ref ax), (1, .int (zI (t9))), (2, .int (zI (k)))] → W p l e (headSpec wsX2_sectionNumber ({ frames := 1, cells := 0, slots := 0, locals := 21 })).room s m args below meth c s.heap [] 0 0 (MQ below (zQ (some (.int (zI (xSec ζ t9 m9.toNat))))) args s 0 0 (fun _ => False)) (F0 m 2 ls []) := by
    intro fu
    induction fu with
    | zero =>
      intro k hk0 hno hm
      exfalso; omega
    | succ fu ih =>
      intro k hk0 hno hm ls hl
      have ih_2 := ih
      refine lv_iload_n hx hb dX2_sectionNumber_2 rfl (lv_at hl 2 rfl) ?_
      refine lv_aload_n hx hb dX2_sectionNumber_3 rfl (lv_at hl 0 rfl) ?_
      refine va_get (D := D) (ci := 2) (v := .int (zI (m9))) (C := RX2) (T := TX2) (N := 5) hx hb hts hin2 hown hK hP 0 rfl rfl 3 (by decide) (hts (.fieldLink RX2 25 "PolyDrums" "sectionCount" "I") (by decide +kernel)) (fun _ h9 => h9) rfl dX2_sectionNumber_4 ?_
      refine z_icmp_ge (tgt := 41) hx hb (by omega) dX2_sectionNumber_7 (by decide) (fun c_1 => ?_) (fun c_1 => ?_)
      · refine lv_iconst (v := zI (-1)) hx hb dX2_sectionNumber_41 rfl ?_
        exact z_iret hx hb hr hlocks (by rw [show k = m9 by omega] at hno; exact hno.symm) dX2_sectionNumber_42
      · have hzb := hOK.zb' (k := k) (by omega)
        refine lv_aload_n hx hb dX2_sectionNumber_10 rfl (lv_at hl 0 rfl) ?_
        refine lv_iload_n hx hb dX2_sectionNumber_11 rfl (lv_at hl 2 rfl) ?_
        refine z_call (va_runV (As := [.int (zI (k))]) (rest := []) ⟨hx, hb, hml, hown, hts⟩ (kX2_sectionOrNull l D G ax n m9 sp τ ζ g cs ss hOK (k) (by omega)) (cwV 1 hts gX2_sectionNumber_X2_sectionOrNull rfl rfl rfl (by decide +kernel) ⟨Nat.le_of_ble_eq_true rfl, Nat.le_of_ble_eq_true rfl⟩) (zPreV (va_recv hK hP (ci := 2) (q0 := 0) rfl rfl) hK hN (hW)) rfl rfl hl.1 rfl (lv_room (Nat.le_of_ble_eq_true rfl)) dX2_sectionNumber_12 ⟨Nat.le_of_ble_eq_true rfl, Nat.le_of_ble_eq_true rfl⟩) ?_
        refine z_top (w := .ref (g 4 ((k)).toNat)) (by rw [xOpt_t (by omega)]; rfl) ?_
        refine lv_astore_n (lv' := [(3, .ref (g 4 ((k)).toNat)), (0, .ref ax), (1, .int (zI (t9))), (2, .int (zI (k)))]) hx hb dX2_sectionNumber_15 rfl hl (by decide) rfl (fun ls hl => ?_)
        refine lv_aload_n hx hb dX2_sectionNumber_16 rfl (lv_at hl 0 rfl) ?_
        refine lv_ifnull hx hb dX2_sectionNumber_17 ?_
        refine lv_iload_n hx hb dX2_sectionNumber_20 rfl (lv_at hl 2 rfl) ?_
        refine lv_aload_n hx hb dX2_sectionNumber_21 rfl (lv_at hl 0 rfl) ?_
        refine va_getN (D := D) (ci := 0) (v := .int (zI (ζ ((k)).toNat 0))) (C := RX0) (T := TX0) (N := 4) hx hb hts hin0 hown hK (hZ ((k)).toNat (by omega)) 0 rfl rfl 0 (by decide) (va_Nw.use rfl (hN.2.1 (220, RX0, "begin", "I") (by decide))) (fun _ h9 => h9) rfl dX2_sectionNumber_22 ?_
        refine lv_aload_n hx hb dX2_sectionNumber_25 rfl (lv_at hl 0 rfl) ?_
        refine va_getN (D := D) (ci := 0) (v := .int (zI (ζ ((k)).toNat 1))) (C := RX0) (T := TX0) (N := 4) hx hb hts hin0 hown hK (hZ ((k)).toNat (by omega)) 0 rfl rfl 1 (by decide) (va_Nw.use rfl (hN.2.1 (198, RX0, "length", "I") (by decide))) (fun _ h9 => h9) rfl dX2_sectionNumber_26 ?_
        refine z_iadd hx hb dX2_sectionNumber_29 ?_
        refine z_icmp_ge (tgt := 35) hx hb (by omega) dX2_sectionNumber_30 (by decide) (fun c_2 => ?_) (fun c_2 => ?_)
        · refine lv_iinc (v := zI (k + 1)) (lv' := [(2, .int (zI (k + 1))), (3, .ref (g 4 ((k)).toNat)), (0, .ref ax), (1, .int (zI (t9)))]) hx hb dX2_sectionNumber_35 hl (k := 3) rfl (zI_add (k) (1)) (by decide) rfl (fun ls hl => ?_)
          refine lv_goto (tgt := 2) hx hb dX2_sectionNumber_38 (by decide) ?_
          exact ih_2 (k + 1) (by omega) (by rw [xSec_s hk0.1 hno, if_neg (by omega)]) (by omega) _ (lv_sub hl [2, 3, 0] rfl)
        · refine lv_iload_n hx hb dX2_sectionNumber_33 rfl (lv_at hl 3 rfl) ?_
          exact z_iret hx hb hr hlocks (xSec_ret hk0.1 (by omega) hno (by omega)) dX2_sectionNumber_34
  exact loop_2 (13) (0) (by omega) (rfl) (by omega) ls (lv_sub hl [1, 2, 0] rfl)

set_option maxHeartbeats 4000000 in
set_option maxRecDepth 100000 in
theorem kX2_songTicks (l : Launch) (D : va_G) (G : Nat → ClassId) (ax : Nat) (n m9 sp : Int) (τ ζ : Nat → Nat → Int) (g : Nat → Nat → Nat) (cs ss : Nat → Nat → Int32) (hOK : XOK n m9 sp τ ζ)   : Met l yX2_songTicks wsX2_songTicks ({ frames := 1, cells := 0, slots := 0, locals := 21 }) (zP [.ref ax] D G (fun H => XW D G ax n m9 sp τ ζ g cs ss H)) (zQ (some (.int (zI (if m9 = 0 then 0 else ζ (m9 - 1).toNat 0 + ζ (m9 - 1).toNat 1))))) 0 0 (fun _ => False) := by
  refine Met.ofW (cc := cX2_songTicks) (maxL := 2) (ret := (some .int)) (by decide) rfl ?_
  intro p e s m args below meth c s₁ B hml hv
  obtain ⟨hav, hW, hK, hN⟩ := hv
  have hx := B.exec
  have hb := B.bytes
  have hr := B.returns
  have hts := atoms_spec (ws := wsX2_songTicks) B.pre
  have hown : s.vm.findClass RX2 = some m.cls := findClass_of_methodNamed B.named
  have hlocks : meth.locks = false := B.notSynchronized
  have hin0 : ∀ w ∈ u_ws RX0 TX0 4, w ∈ wsX2_songTicks := by decide +kernel
  have hin2 : ∀ w ∈ u_ws RX2 TX2 5, w ∈ wsX2_songTicks := by decide +kernel
  obtain ⟨hP, hT, hZ⟩ := id hW
  have hB := id hOK
  obtain ⟨hn0, hn8, hm0, hm12, hsp0, hsp1, -⟩ := hB
  refine z_entry hav (Nat.le_of_ble_eq_true rfl) rfl (fun ls hl => ?_)
  have hl : lv_has ls 2 [(0, .ref ax)] := hl
  refine lv_aload_n hx hb dX2_songTicks_0 rfl (lv_at hl 0 rfl) ?_
  refine lv_aload_n hx hb dX2_songTicks_1 rfl (lv_at hl 0 rfl) ?_
  refine va_get (D := D) (ci := 2) (v := .int (zI (m9))) (C := RX2) (T := TX2) (N := 5) hx hb hts hin2 hown hK hP 0 rfl rfl 3 (by decide) (hts (.fieldLink RX2 25 "PolyDrums" "sectionCount" "I") (by decide +kernel)) (fun _ h9 => h9) rfl dX2_songTicks_2 ?_
  refine lv_iconst (v := zI (1)) hx hb dX2_songTicks_5 rfl ?_
  refine z_isub hx hb dX2_songTicks_6 ?_
  refine z_call (va_runV (As := [.int (zI ((m9) - (1)))]) (rest := []) ⟨hx, hb, hml, hown, hts⟩ (kX2_sectionOrNull l D G ax n m9 sp τ ζ g cs ss hOK ((m9) - (1)) (by omega)) (cwV 1 hts gX2_songTicks_X2_sectionOrNull rfl rfl rfl (by decide +kernel) ⟨Nat.le_of_ble_eq_true rfl, Nat.le_of_ble_eq_true rfl⟩) (zPreV (va_recv hK hP (ci := 2) (q0 := 0) rfl rfl) hK hN (hW)) rfl rfl hl.1 rfl (lv_room (Nat.le_of_ble_eq_true rfl)) dX2_songTicks_7 ⟨Nat.le_of_ble_eq_true rfl, Nat.le_of_ble_eq_true rfl⟩) ?_
  rcases Classical.em (0 ≤ ((m9) - (1)) ∧ ((m9) - (1)) < m9) with hin | hin
  · refine z_top (w := .ref (g 4 (((m9) - (1))).toNat)) (by rw [xOpt_t hin]; rfl) ?_
    refine lv_astore_n (lv' := [(1, .ref (g 4 (((m9) - (1))).toNat)), (0, .ref ax)]) hx hb dX2_songTicks_10 rfl hl (by decide) rfl (fun ls hl => ?_)
    refine lv_aload_n hx hb dX2_songTicks_11 rfl (lv_at hl 0 rfl) ?_
    refine lv_ifnonnull (tgt := 19) hx hb dX2_songTicks_12 (by decide) ?_
    refine lv_aload_n hx hb dX2_songTicks_19 rfl (lv_at hl 0 rfl) ?_
    refine va_getN (D := D) (ci := 0) (v := .int (zI (ζ (((m9) - (1))).toNat 0))) (C := RX0) (T := TX0) (N := 4) hx hb hts hin0 hown hK (hZ (((m9) - (1))).toNat (by omega)) 0 rfl rfl 0 (by decide) (va_Nw.use rfl (hN.2.1 (220, RX0, "begin", "I") (by decide))) (fun _ h9 => h9) rfl dX2_songTicks_20 ?_
    refine lv_aload_n hx hb dX2_songTicks_23 rfl (lv_at hl 0 rfl) ?_
    refine va_getN (D := D) (ci := 0) (v := .int (zI (ζ (((m9) - (1))).toNat 1))) (C := RX0) (T := TX0) (N := 4) hx hb hts hin0 hown hK (hZ (((m9) - (1))).toNat (by omega)) 0 rfl rfl 1 (by decide) (va_Nw.use rfl (hN.2.1 (198, RX0, "length", "I") (by decide))) (fun _ h9 => h9) rfl dX2_songTicks_24 ?_
    refine z_iadd hx hb dX2_songTicks_27 ?_
    exact z_iret hx hb hr hlocks (by rw [if_neg (by omega)]) dX2_songTicks_28
  · refine z_top (w := .null) (by rw [xOpt_f hin]; rfl) ?_
    refine lv_astore_nN (lv' := [(1, .null), (0, .ref ax)]) hx hb dX2_songTicks_10 rfl hl (by decide) rfl (fun ls hl => ?_)
    refine lv_aload_nN hx hb dX2_songTicks_11 rfl (lv_at hl 0 rfl) ?_
    refine lv_ifnonnullN hx hb dX2_songTicks_12 ?_
    refine lv_iconst (v := zI (0)) hx hb dX2_songTicks_15 rfl ?_
    refine lv_goto (tgt := 28) hx hb dX2_songTicks_16 (by decide) ?_
    exact z_iret hx hb hr hlocks (by rw [if_pos (by omega)]) dX2_songTicks_28

set_option maxHeartbeats 4000000 in
set_option maxRecDepth 100000 in
theorem kX2_localTime (l : Launch) (D : va_G) (G : Nat → ClassId) (ax : Nat) (n m9 sp : Int) (τ ζ : Nat → Nat → Int) (g : Nat → Nat → Nat) (cs ss : Nat → Nat → Int32) (hOK : XOK n m9 sp τ ζ) (k t9 : Int) (hk : 0 ≤ k ∧ k ≤ 7) (ht : 0 ≤ t9 ∧ t9 ≤ 99999) : Met l yX2_localTime wsX2_localTime ({ frames := 2, cells := 0, slots := 0, locals := 44 }) (zP [.ref ax, .int (zI (k)), .int (zI (t9))] D G (fun H => XW D G ax n m9 sp τ ζ g cs ss H)) (zQ (some (.int (zI (xLoc m9 ζ k t9))))) 0 0 (fun _ => False) := by
  refine Met.ofW (cc := cX2_localTime) (maxL := 4) (ret := (some .int)) (by decide) rfl ?_
  intro p e s m args below meth c s₁ B hml hv
  obtain ⟨hav, hW, hK, hN⟩ := hv
  have hx := B.exec
  have hb := B.bytes
  have hr := B.returns
  have hts := atoms_spec (ws := wsX2_localTime) B.pre
  have hown : s.vm.findClass RX2 = some m.cls := findClass_of_methodNamed B.named
  have hlocks : meth.locks = false := B.notSynchronized
  have hin0 : ∀ w ∈ u_ws RX0 TX0 4, w ∈ wsX2_localTime := by decide +kernel
  have hin2 : ∀ w ∈ u_ws RX2 TX2 5, w ∈ wsX2_localTime := by decide +kernel
  obtain ⟨hP, hT, hZ⟩ := id hW
  have hB := id hOK
  obtain ⟨hn0, hn8, hm0, hm12, hsp0, hsp1, -⟩ := hB
  have hsb := xSec_b ζ t9 m9.toNat
  have hzb : 0 ≤ xSec ζ t9 m9.toNat ∧ xSec ζ t9 m9.toNat < m9 → _ := fun q => hOK.zb' q
  refine z_entry hav (Nat.le_of_ble_eq_true rfl) rfl (fun ls hl => ?_)
  have hl : lv_has ls 4 [(0, .ref ax), (1, .int (zI (k))), (2, .int (zI (t9)))] := hl
  refine lv_aload_n hx hb dX2_localTime_0 rfl (lv_at hl 0 rfl) ?_
  refine va_get (D := D) (ci := 2) (v := .int (zI (m9))) (C := RX2) (T := TX2) (N := 5) hx hb hts hin2 hown hK hP 0 rfl rfl 3 (by decide) (hts (.fieldLink RX2 25 "PolyDrums" "sectionCount" "I") (by decide +kernel)) (fun _ h9 => h9) rfl dX2_localTime_1 ?_
  refine z_if_ne (tgt := 9) hx hb (by omega) dX2_localTime_4 (by decide) (fun c_1 => ?_) (fun c_1 => ?_)
  · refine lv_aload_n hx hb dX2_localTime_9 rfl (lv_at hl 0 rfl) ?_
    refine lv_aload_n hx hb dX2_localTime_10 rfl (lv_at hl 0 rfl) ?_
    refine lv_iload_n hx hb dX2_localTime_11 rfl (lv_at hl 2 rfl) ?_
    refine z_call (va_runV (As := [.int (zI (t9))]) (rest := [.ref ax]) ⟨hx, hb, hml, hown, hts⟩ (kX2_sectionNumber l D G ax n m9 sp τ ζ g cs ss hOK (t9) (by omega)) (cwV 1 hts gX2_localTime_X2_sectionNumber rfl rfl rfl (by decide +kernel) ⟨Nat.le_of_ble_eq_true rfl, Nat.le_of_ble_eq_true rfl⟩) (zPreV (va_recv hK hP (ci := 2) (q0 := 0) rfl rfl) hK hN (hW)) rfl rfl hl.1 rfl (lv_room (Nat.le_of_ble_eq_true rfl)) dX2_localTime_12 ⟨Nat.le_of_ble_eq_true rfl, Nat.le_of_ble_eq_true rfl⟩) ?_
    refine z_call (va_runV (As := [.int (zI (xSec ζ (t9) m9.toNat))]) (rest := []) ⟨hx, hb, hml, hown, hts⟩ (kX2_sectionOrNull l D G ax n m9 sp τ ζ g cs ss hOK (xSec ζ (t9) m9.toNat) (by omega)) (cwV 1 hts gX2_localTime_X2_sectionOrNull rfl rfl rfl (by decide +kernel) ⟨Nat.le_of_ble_eq_true rfl, Nat.le_of_ble_eq_true rfl⟩) (zPreV (va_recv hK hP (ci := 2) (q0 := 0) rfl rfl) hK hN (hW)) rfl rfl hl.1 rfl (lv_room (Nat.le_of_ble_eq_true rfl)) dX2_localTime_15 ⟨Nat.le_of_ble_eq_true rfl, Nat.le_of_ble_eq_true rfl⟩) ?_
    rcases Classical.em (0 ≤ (xSec ζ (t9) m9.toNat) ∧ (xSec ζ (t9) m9.toNat) < m9) with hin | hin
    · refine z_top (w := .ref (g 4 ((xSec ζ (t9) m9.toNat)).toNat)) (by rw [xOpt_t hin]; rfl) ?_
      refine lv_astore_n (lv' := [(3, .ref (g 4 ((xSec ζ (t9) m9.toNat)).toNat)), (0, .ref ax), (1, .int (zI (k))), (2, .int (zI (t9)))]) hx hb dX2_localTime_18 rfl hl (by decide) rfl (fun ls hl => ?_)
      refine lv_aload_n hx hb dX2_localTime_19 rfl (lv_at hl 0 rfl) ?_
      refine lv_ifnull hx hb dX2_localTime_20 ?_
      refine lv_aload_n hx hb dX2_localTime_23 rfl (lv_at hl 0 rfl) ?_
      refine va_getN (D := D) (ci := 0) (v := .int (zI (ζ ((xSec ζ (t9) m9.toNat)).toNat 2))) (C := RX0) (T := TX0) (N := 4) hx hb hts hin0 hown hK (hZ ((xSec ζ (t9) m9.toNat)).toNat (by omega)) 0 rfl rfl 2 (by decide) (va_Nw.use rfl (hN.2.1 (201, RX0, "set", "I") (by decide))) (fun _ h9 => h9) rfl dX2_localTime_24 ?_
      refine lv_iload_n hx hb dX2_localTime_27 rfl (lv_at hl 2 rfl) ?_
      refine z_call (va_runS (As := [.int (zI (ζ ((xSec ζ (t9) m9.toNat)).toNat 2)), .int (zI (k))]) (rest := []) ⟨hx, hb, hml, hown, hts⟩ (kX2_isInSet l D G (ζ ((xSec ζ (t9) m9.toNat)).toNat 2) (k) (by omega) (by omega)) (va_cwS 2 hts gX2_localTime_X2_isInSet rfl rfl rfl (by decide +kernel) ⟨Nat.le_of_ble_eq_true rfl, Nat.le_of_ble_eq_true rfl⟩) (zPreS hK hN (trivial)) rfl rfl hl.1 rfl (lv_room (Nat.le_of_ble_eq_true rfl)) dX2_localTime_28 ⟨Nat.le_of_ble_eq_true rfl, Nat.le_of_ble_eq_true rfl⟩) ?_
      refine z_neB (tgt := 36) hx hb dX2_localTime_31 (by decide) (fun c_2 => ?_) (fun c_2 => ?_)
      · refine lv_aload_n hx hb dX2_localTime_36 rfl (lv_at hl 0 rfl) ?_
        refine va_getN (D := D) (ci := 0) (v := .int (zI (ζ ((xSec ζ (t9) m9.toNat)).toNat 3))) (C := RX0) (T := TX0) (N := 4) hx hb hts hin0 hown hK (hZ ((xSec ζ (t9) m9.toNat)).toNat (by omega)) 0 rfl rfl 3 (by decide) (va_Nw.use rfl (hN.2.1 (204, RX0, "isNew", "Z") (by decide))) (fun _ h9 => h9) rfl dX2_localTime_37 ?_
        refine z_if_eq (tgt := 52) hx hb (by omega) dX2_localTime_40 (by decide) (fun c_3 => ?_) (fun c_3 => ?_)
        · refine lv_iload_n hx hb dX2_localTime_52 rfl (lv_at hl 3 rfl) ?_
          exact z_iret hx hb hr hlocks (by unfold xLoc; rw [if_neg (by omega), if_neg (by omega), if_pos c_2, if_neg (by omega)]) dX2_localTime_53
        · refine lv_iload_n hx hb dX2_localTime_43 rfl (lv_at hl 3 rfl) ?_
          refine lv_aload_n hx hb dX2_localTime_44 rfl (lv_at hl 0 rfl) ?_
          refine va_getN (D := D) (ci := 0) (v := .int (zI (ζ ((xSec ζ (t9) m9.toNat)).toNat 0))) (C := RX0) (T := TX0) (N := 4) hx hb hts hin0 hown hK (hZ ((xSec ζ (t9) m9.toNat)).toNat (by omega)) 0 rfl rfl 0 (by decide) (va_Nw.use rfl (hN.2.1 (220, RX0, "begin", "I") (by decide))) (fun _ h9 => h9) rfl dX2_localTime_45 ?_
          refine z_isub hx hb dX2_localTime_48 ?_
          refine lv_goto (tgt := 53) hx hb dX2_localTime_49 (by decide) ?_
          exact z_iret hx hb hr hlocks (by unfold xLoc; rw [if_neg (by omega), if_neg (by omega), if_pos c_2, if_pos (by omega)]) dX2_localTime_53
      · refine lv_iconst (v := zI (-1)) hx hb dX2_localTime_34 rfl ?_
        exact z_iret hx hb hr hlocks (by unfold xLoc; rw [if_neg (by omega), if_neg (by omega), if_neg c_2]) dX2_localTime_35
    · refine z_top (w := .null) (by rw [xOpt_f hin]; rfl) ?_
      refine lv_astore_nN (lv' := [(3, .null), (0, .ref ax), (1, .int (zI (k))), (2, .int (zI (t9)))]) hx hb dX2_localTime_18 rfl hl (by decide) rfl (fun ls hl => ?_)
      refine lv_aload_nN hx hb dX2_localTime_19 rfl (lv_at hl 0 rfl) ?_
      refine lv_ifnullN (tgt := 34) hx hb dX2_localTime_20 (by decide) ?_
      refine lv_iconst (v := zI (-1)) hx hb dX2_localTime_34 rfl ?_
      exact z_iret hx hb hr hlocks (by unfold xLoc; rw [if_neg (by omega), if_pos (by omega)]) dX2_localTime_35
  · refine lv_iload_n hx hb dX2_localTime_7 rfl (lv_at hl 2 rfl) ?_
    exact z_iret hx hb hr hlocks (by unfold xLoc; rw [if_pos (by omega)]) dX2_localTime_8

set_option maxHeartbeats 4000000 in
set_option maxRecDepth 100000 in
theorem kX2_isAnySolo (l : Launch) (D : va_G) (G : Nat → ClassId) (ax : Nat) (n m9 sp : Int) (τ ζ : Nat → Nat → Int) (g : Nat → Nat → Nat) (cs ss : Nat → Nat → Int32) (hOK : XOK n m9 sp τ ζ)   : Met l yX2_isAnySolo wsX2_isAnySolo ({ frames := 1, cells := 0, slots := 0, locals := 21 }) (zP [.ref ax] D G (fun H => XW D G ax n m9 sp τ ζ g cs ss H)) (zQ (some (.int (zB (xSolo n τ))))) 0 0 (fun _ => False) := by
  refine Met.ofW (cc := cX2_isAnySolo) (maxL := 3) (ret := (some .boolean)) (by decide) rfl ?_
  intro p e s m args below meth c s₁ B hml hv
  obtain ⟨hav, hW, hK, hN⟩ := hv
  have hx := B.exec
  have hb := B.bytes
  have hr := B.returns
  have hts := atoms_spec (ws := wsX2_isAnySolo) B.pre
  have hown : s.vm.findClass RX2 = some m.cls := findClass_of_methodNamed B.named
  have hlocks : meth.locks = false := B.notSynchronized
  have hin1 : ∀ w ∈ u_ws RX1 TX1 10, w ∈ wsX2_isAnySolo := by decide +kernel
  have hin2 : ∀ w ∈ u_ws RX2 TX2 5, w ∈ wsX2_isAnySolo := by decide +kernel
  obtain ⟨hP, hT, hZ⟩ := id hW
  have hB := id hOK
  obtain ⟨hn0, hn8, hm0, hm12, hsp0, hsp1, -⟩ := hB
  refine z_entry hav (Nat.le_of_ble_eq_true rfl) rfl (fun ls hl => ?_)
  have hl : lv_has ls 3 [(0, .ref ax)] := hl
  refine lv_iconst (v := zI (0)) hx hb dX2_isAnySolo_0 rfl ?_
  refine lv_istore_n (lv' := [(1, .int (zI (0))), (0, .ref ax)]) hx hb dX2_isAnySolo_1 rfl hl (by decide) rfl (fun ls hl => ?_)
  have loop_2 : ∀ (fu : Nat) (k : Int), (0 ≤ k ∧ k ≤ n) → (∀ j : Int, 0 ≤ j → j < k → ¬ τ j.toNat 6 = 1) → n - k < (fu : Int) → ∀ (ls : Array Slot), lv_has ls 3 [(0, .ref ax), (1, .int (zI (k)))] → W p l e (headSpec wsX2_isAnySolo ({ frames := 1, cells := 0, slots := 0, locals := 21 })).room s m args below meth c s.heap [] 0 0 (MQ below (zQ (some (.int (zB (xSolo n τ))))) args s 0 0 (fun _ => False)) (F0 m 2 ls []) := by
    intro fu
    induction fu with
    | zero =>
      intro k hk0 hno hm
      exfalso; omega
    | succ fu ih =>
      intro k hk0 hno hm ls hl
      have ih_2 := ih
      refine lv_iload_n hx hb dX2_isAnySolo_2 rfl (lv_at hl 1 rfl) ?_
      refine lv_aload_n hx hb dX2_isAnySolo_3 rfl (lv_at hl 0 rfl) ?_
      refine va_get (D := D) (ci := 2) (v := .int (zI (n))) (C := RX2) (T := TX2) (N := 5) hx hb hts hin2 hown hK hP 0 rfl rfl 1 (by decide) (hts (.fieldLink RX2 15 "PolyDrums" "trackCount" "I") (by decide +kernel)) (fun _ h9 => h9) rfl dX2_isAnySolo_4 ?_
      refine z_icmp_ge (tgt := 35) hx hb (by omega) dX2_isAnySolo_7 (by decide) (fun c_1 => ?_) (fun c_1 => ?_)
      · refine lv_iconst (v := zI (0)) hx hb dX2_isAnySolo_35 rfl ?_
        exact z_zretF hx hb hr hlocks (fun ⟨j, h1, h2, h3⟩ => hno j h1 (by omega) h3) dX2_isAnySolo_36
      · have htb := hOK.tb (k := k) (by omega)
        refine lv_aload_n hx hb dX2_isAnySolo_10 rfl (lv_at hl 0 rfl) ?_
        refine lv_iload_n hx hb dX2_isAnySolo_11 rfl (lv_at hl 1 rfl) ?_
        refine z_call (va_runV (As := [.int (zI (k))]) (rest := []) ⟨hx, hb, hml, hown, hts⟩ (kX2_trackOrNull l D G ax n m9 sp τ ζ g cs ss hOK (k) (by omega)) (cwV 1 hts gX2_isAnySolo_X2_trackOrNull rfl rfl rfl (by decide +kernel) ⟨Nat.le_of_ble_eq_true rfl, Nat.le_of_ble_eq_true rfl⟩) (zPreV (va_recv hK hP (ci := 2) (q0 := 0) rfl rfl) hK hN (hW)) rfl rfl hl.1 rfl (lv_room (Nat.le_of_ble_eq_true rfl)) dX2_isAnySolo_12 ⟨Nat.le_of_ble_eq_true rfl, Nat.le_of_ble_eq_true rfl⟩) ?_
        refine z_top (w := .ref (g 1 ((k)).toNat)) (by rw [xOpt_t (by omega)]; rfl) ?_
        refine lv_astore_n (lv' := [(2, .ref (g 1 ((k)).toNat)), (0, .ref ax), (1, .int (zI (k)))]) hx hb dX2_isAnySolo_15 rfl hl (by decide) rfl (fun ls hl => ?_)
        refine lv_aload_n hx hb dX2_isAnySolo_16 rfl (lv_at hl 0 rfl) ?_
        refine lv_ifnull hx hb dX2_isAnySolo_17 ?_
        refine lv_aload_n hx hb dX2_isAnySolo_20 rfl (lv_at hl 0 rfl) ?_
        refine va_getN (D := D) (ci := 1) (v := .int (zI ((τ ((k)).toNat) 6))) (C := RX1) (T := TX1) (N := 10) hx hb hts hin1 hown hK (hT ((k)).toNat (by omega)).1 0 rfl rfl 6 (by decide) (va_Nw.use rfl (hN.2.1 (223, RX1, "isSolo", "Z") (by decide))) (fun _ h9 => h9) rfl dX2_isAnySolo_21 ?_
        refine z_if_eq (tgt := 29) hx hb (by omega) dX2_isAnySolo_24 (by decide) (fun c_2 => ?_) (fun c_2 => ?_)
        · refine lv_iinc (v := zI (k + 1)) (lv' := [(1, .int (zI (k + 1))), (2, .ref (g 1 ((k)).toNat)), (0, .ref ax)]) hx hb dX2_isAnySolo_29 hl (k := 2) rfl (zI_add (k) (1)) (by decide) rfl (fun ls hl => ?_)
          refine lv_goto (tgt := 2) hx hb dX2_isAnySolo_32 (by decide) ?_
          exact ih_2 (k + 1) (by omega) (x_lts hno (by omega)) (by omega) _ (lv_sub hl [2, 0] rfl)
        · refine lv_iconst (v := zI (1)) hx hb dX2_isAnySolo_27 rfl ?_
          exact z_zretT hx hb hr hlocks (⟨k, hk0.1, by omega, by omega⟩) dX2_isAnySolo_28
  exact loop_2 (9) (0) (by omega) (fun j h1 h2 => by omega) (by omega) ls (lv_sub hl [1, 0] rfl)

set_option maxHeartbeats 4000000 in
set_option maxRecDepth 100000 in
theorem kX2_isSilenced (l : Launch) (D : va_G) (G : Nat → ClassId) (ax : Nat) (n m9 sp : Int) (τ ζ : Nat → Nat → Int) (g : Nat → Nat → Nat) (cs ss : Nat → Nat → Int32) (hOK : XOK n m9 sp τ ζ) (k : Int) (hk : 0 ≤ k ∧ k < n) : Met l yX2_isSilenced wsX2_isSilenced ({ frames := 2, cells := 0, slots := 0, locals := 43 }) (zP [.ref ax, .ref (g 1 k.toNat)] D G (fun H => XW D G ax n m9 sp τ ζ g cs ss H)) (zQ (some (.int (zB (xSil n τ k))))) 0 0 (fun _ => False) := by
  refine Met.ofW (cc := cX2_isSilenced) (maxL := 2) (ret := (some .boolean)) (by decide) rfl ?_
  intro p e s m args below meth c s₁ B hml hv
  obtain ⟨hav, hW, hK, hN⟩ := hv
  have hx := B.exec
  have hb := B.bytes
  have hr := B.returns
  have hts := atoms_spec (ws := wsX2_isSilenced) B.pre
  have hown : s.vm.findClass RX2 = some m.cls := findClass_of_methodNamed B.named
  have hlocks : meth.locks = false := B.notSynchronized
  have hin1 : ∀ w ∈ u_ws RX1 TX1 10, w ∈ wsX2_isSilenced := by decide +kernel
  obtain ⟨hP, hT, hZ⟩ := id hW
  have hB := id hOK
  obtain ⟨hn0, hn8, hm0, hm12, hsp0, hsp1, -⟩ := hB
  have htb := hOK.tb hk
  refine z_entry hav (Nat.le_of_ble_eq_true rfl) rfl (fun ls hl => ?_)
  have hl : lv_has ls 2 [(0, .ref ax), (1, .ref (g 1 k.toNat))] := hl
  refine lv_aload_n hx hb dX2_isSilenced_0 rfl (lv_at hl 1 rfl) ?_
  refine va_getN (D := D) (ci := 1) (v := .int (zI ((τ k.toNat) 5))) (C := RX1) (T := TX1) (N := 10) hx hb hts hin1 hown hK (hT k.toNat (by omega)).1 0 rfl rfl 5 (by decide) (va_Nw.use rfl (hN.2.1 (226, RX1, "isMuted", "Z") (by decide))) (fun _ h9 => h9) rfl dX2_isSilenced_1 ?_
  refine z_if_ne (tgt := 21) hx hb (by omega) dX2_isSilenced_4 (by decide) (fun c_1 => ?_) (fun c_1 => ?_)
  · refine lv_iconst (v := zI (1)) hx hb dX2_isSilenced_21 rfl ?_
    refine lv_goto (tgt := 26) hx hb dX2_isSilenced_22 (by decide) ?_
    exact z_zretT hx hb hr hlocks (Or.inl (by omega)) dX2_isSilenced_26
  · refine lv_aload_n hx hb dX2_isSilenced_7 rfl (lv_at hl 1 rfl) ?_
    refine va_getN (D := D) (ci := 1) (v := .int (zI ((τ k.toNat) 6))) (C := RX1) (T := TX1) (N := 10) hx hb hts hin1 hown hK (hT k.toNat (by omega)).1 0 rfl rfl 6 (by decide) (va_Nw.use rfl (hN.2.1 (223, RX1, "isSolo", "Z") (by decide))) (fun _ h9 => h9) rfl dX2_isSilenced_8 ?_
    refine z_if_ne (tgt := 25) hx hb (by omega) dX2_isSilenced_11 (by decide) (fun c_2 => ?_) (fun c_2 => ?_)
    · refine lv_iconst (v := zI (0)) hx hb dX2_isSilenced_25 rfl ?_
      exact z_zretF hx hb hr hlocks (fun q => q.elim (fun q => by omega) (fun q => by have := q.1; omega)) dX2_isSilenced_26
    · refine lv_aload_n hx hb dX2_isSilenced_14 rfl (lv_at hl 0 rfl) ?_
      refine z_call (va_runV (As := []) (rest := []) ⟨hx, hb, hml, hown, hts⟩ (kX2_isAnySolo l D G ax n m9 sp τ ζ g cs ss hOK  ) (cwV 0 hts gX2_isSilenced_X2_isAnySolo rfl rfl rfl (by decide +kernel) ⟨Nat.le_of_ble_eq_true rfl, Nat.le_of_ble_eq_true rfl⟩) (zPreV (va_recv hK hP (ci := 2) (q0 := 0) rfl rfl) hK hN (hW)) rfl rfl hl.1 rfl (lv_room (Nat.le_of_ble_eq_true rfl)) dX2_isSilenced_15 ⟨Nat.le_of_ble_eq_true rfl, Nat.le_of_ble_eq_true rfl⟩) ?_
      refine z_eqB (tgt := 25) hx hb dX2_isSilenced_18 (by decide) (fun c_3 => ?_) (fun c_3 => ?_)
      · refine lv_iconst (v := zI (0)) hx hb dX2_isSilenced_25 rfl ?_
        exact z_zretF hx hb hr hlocks (fun q => q.elim (fun q => by omega) (fun q => c_3 q.2)) dX2_isSilenced_26
      · refine lv_iconst (v := zI (1)) hx hb dX2_isSilenced_21 rfl ?_
        refine lv_goto (tgt := 26) hx hb dX2_isSilenced_22 (by decide) ?_
        exact z_zretT hx hb hr hlocks (Or.inr ⟨by omega, c_3⟩) dX2_isSilenced_26

set_option maxHeartbeats 4000000 in
set_option maxRecDepth 100000 in
theorem kX2_struckForce (l : Launch) (D : va_G) (G : Nat → ClassId) (ax : Nat) (n m9 sp : Int) (τ ζ : Nat → Nat → Int) (g : Nat → Nat → Nat) (cs ss : Nat → Nat → Int32) (hOK : XOK n m9 sp τ ζ) (k t9 : Int) (hk : 0 ≤ k ∧ k < n) (ht : 0 ≤ t9 ∧ t9 ≤ 99999) : Met l yX2_struckForce wsX2_struckForce ({ frames := 3, cells := 0, slots := 0, locals := 71 }) (zP [.ref ax, .int (zI (k)), .int (zI (t9))] D G (fun H => XW D G ax n m9 sp τ ζ g cs ss H)) (zQ (some (.int (zI (xStr n m9 τ ζ k t9))))) 0 0 (fun _ => False) := by
  refine Met.ofW (cc := cX2_struckForce) (maxL := 5) (ret := (some .int)) (by decide) rfl ?_
  intro p e s m args below meth c s₁ B hml hv
  obtain ⟨hav, hW, hK, hN⟩ := hv
  have hx := B.exec
  have hb := B.bytes
  have hr := B.returns
  have hts := atoms_spec (ws := wsX2_struckForce) B.pre
  have hown : s.vm.findClass RX2 = some m.cls := findClass_of_methodNamed B.named
  have hlocks : meth.locks = false := B.notSynchronized
  obtain ⟨hP, hT, hZ⟩ := id hW
  have hB := id hOK
  obtain ⟨hn0, hn8, hm0, hm12, hsp0, hsp1, -⟩ := hB
  have hlb := xLoc_b hOK (k := k) ht
  refine z_entry hav (Nat.le_of_ble_eq_true rfl) rfl (fun ls hl => ?_)
  have hl : lv_has ls 5 [(0, .ref ax), (1, .int (zI (k))), (2, .int (zI (t9)))] := hl
  refine lv_aload_n hx hb dX2_struckForce_0 rfl (lv_at hl 0 rfl) ?_
  refine lv_iload_n hx hb dX2_struckForce_1 rfl (lv_at hl 1 rfl) ?_
  refine z_call (va_runV (As := [.int (zI (k))]) (rest := []) ⟨hx, hb, hml, hown, hts⟩ (kX2_trackOrNull l D G ax n m9 sp τ ζ g cs ss hOK (k) (by omega)) (cwV 1 hts gX2_struckForce_X2_trackOrNull rfl rfl rfl (by decide +kernel) ⟨Nat.le_of_ble_eq_true rfl, Nat.le_of_ble_eq_true rfl⟩) (zPreV (va_recv hK hP (ci := 2) (q0 := 0) rfl rfl) hK hN (hW)) rfl rfl hl.1 rfl (lv_room (Nat.le_of_ble_eq_true rfl)) dX2_struckForce_2 ⟨Nat.le_of_ble_eq_true rfl, Nat.le_of_ble_eq_true rfl⟩) ?_
  refine z_top (w := .ref (g 1 ((k)).toNat)) (by rw [xOpt_t (by omega)]; rfl) ?_
  refine lv_astore_n (lv' := [(3, .ref (g 1 ((k)).toNat)), (0, .ref ax), (1, .int (zI (k))), (2, .int (zI (t9)))]) hx hb dX2_struckForce_5 rfl hl (by decide) rfl (fun ls hl => ?_)
  refine lv_aload_n hx hb dX2_struckForce_6 rfl (lv_at hl 0 rfl) ?_
  refine lv_ifnull hx hb dX2_struckForce_7 ?_
  refine lv_aload_n hx hb dX2_struckForce_10 rfl (lv_at hl 1 rfl) ?_
  refine lv_aload_n hx hb dX2_struckForce_11 rfl (lv_at hl 0 rfl) ?_
  refine z_call (va_runV (As := [.ref (g 1 ((k)).toNat)]) (rest := []) ⟨hx, hb, hml, hown, hts⟩ (kX2_isSilenced l D G ax n m9 sp τ ζ g cs ss hOK ((k)) (by omega)) (cwV 1 hts gX2_struckForce_X2_isSilenced rfl rfl rfl (by decide +kernel) ⟨Nat.le_of_ble_eq_true rfl, Nat.le_of_ble_eq_true rfl⟩) (zPreV (va_recv hK hP (ci := 2) (q0 := 0) rfl rfl) hK hN (hW)) rfl rfl hl.1 rfl (lv_room (Nat.le_of_ble_eq_true rfl)) dX2_struckForce_12 ⟨Nat.le_of_ble_eq_true rfl, Nat.le_of_ble_eq_true rfl⟩) ?_
  refine z_eqB (tgt := 20) hx hb dX2_struckForce_15 (by decide) (fun c_1 => ?_) (fun c_1 => ?_)
  · refine lv_aload_n hx hb dX2_struckForce_20 rfl (lv_at hl 1 rfl) ?_
    refine lv_iload_n hx hb dX2_struckForce_21 rfl (lv_at hl 2 rfl) ?_
    refine lv_iload_n hx hb dX2_struckForce_22 rfl (lv_at hl 3 rfl) ?_
    refine z_call (va_runV (As := [.int (zI (k)), .int (zI (t9))]) (rest := []) ⟨hx, hb, hml, hown, hts⟩ (kX2_localTime l D G ax n m9 sp τ ζ g cs ss hOK (k) (t9) (by omega) (by omega)) (cwV 2 hts gX2_struckForce_X2_localTime rfl rfl rfl (by decide +kernel) ⟨Nat.le_of_ble_eq_true rfl, Nat.le_of_ble_eq_true rfl⟩) (zPreV (va_recv hK hP (ci := 2) (q0 := 0) rfl rfl) hK hN (hW)) rfl rfl hl.1 rfl (lv_room (Nat.le_of_ble_eq_true rfl)) dX2_struckForce_23 ⟨Nat.le_of_ble_eq_true rfl, Nat.le_of_ble_eq_true rfl⟩) ?_
    refine lv_istore (lv' := [(4, .int (zI (xLoc m9 ζ (k) (t9)))), (3, .ref (g 1 ((k)).toNat)), (0, .ref ax), (1, .int (zI (k))), (2, .int (zI (t9)))]) hx hb dX2_struckForce_26 hl (by decide) rfl (fun ls hl => ?_)
    refine lv_iload hx hb dX2_struckForce_28 (lv_at hl 0 rfl) ?_
    refine lv_iconst (v := zI (-1)) hx hb dX2_struckForce_30 rfl ?_
    refine z_icmp_ne (tgt := 38) hx hb (by omega) dX2_struckForce_31 (by decide) (fun c_2 => ?_) (fun c_2 => ?_)
    · refine lv_aload_n hx hb dX2_struckForce_38 rfl (lv_at hl 1 rfl) ?_
      refine lv_iload hx hb dX2_struckForce_39 (lv_at hl 0 rfl) ?_
      refine z_call (va_runVN (As := [.int (zI (xLoc m9 ζ (k) (t9)))]) (rest := []) ⟨hx, hb, hml, hown, hts⟩ (kX1_forceAt l D G (g 1 ((k)).toNat) (g 2 ((k)).toNat) (g 3 ((k)).toNat) (τ ((k)).toNat) (cs ((k)).toNat) (xLoc m9 ζ (k) (t9)) (hOK.t (k := (k)) (by omega)) (hT ((k)).toNat (by omega)).2 (by omega)) ⟨va_cnB 1 hts gX2_struckForce_X1_forceAt_n240 rfl rfl rfl (hN.1 (RX2, 240, yX1_forceAt) (by decide +kernel)) (hts (.initialized RX1) (by decide +kernel)) (by decide +kernel) ⟨Nat.le_of_ble_eq_true rfl, Nat.le_of_ble_eq_true rfl⟩, hts (.instanceMethod yX1_forceAt) (by decide +kernel), hts (.selects RX1 yX1_forceAt yX1_forceAt) (by decide +kernel)⟩ (zPreV (va_recv hK (hT ((k)).toNat (by omega)).1 (ci := 1) (q0 := 0) rfl rfl) hK hN ((hT ((k)).toNat (by omega)).1.sub [0, 1] rfl)) rfl rfl hl.1 rfl (lv_room (Nat.le_of_ble_eq_true rfl)) dX2_struckForce_41 ⟨Nat.le_of_ble_eq_true rfl, Nat.le_of_ble_eq_true rfl⟩) ?_
      exact z_iret hx hb hr hlocks (by unfold xStr; rw [if_neg c_1, if_neg (by omega)]) dX2_struckForce_44
    · refine lv_iconst (v := zI (0)) hx hb dX2_struckForce_34 rfl ?_
      refine lv_goto (tgt := 44) hx hb dX2_struckForce_35 (by decide) ?_
      exact z_iret hx hb hr hlocks (by unfold xStr; rw [if_neg c_1, if_pos (by omega)]) dX2_struckForce_44
  · refine lv_iconst (v := zI (0)) hx hb dX2_struckForce_18 rfl ?_
    exact z_iret hx hb hr hlocks (by unfold xStr; rw [if_pos c_1]) dX2_struckForce_19

set_option maxHeartbeats 4000000 in
set_option maxRecDepth 100000 in
theorem kX2_makesHit (l : Launch) (D : va_G) (G : Nat → ClassId) (ax : Nat) (n m9 sp : Int) (τ ζ : Nat → Nat → Int) (g : Nat → Nat → Nat) (cs ss : Nat → Nat → Int32) (hOK : XOK n m9 sp τ ζ) (k t9 : Int) (hk : 0 ≤ k ∧ k < n) (ht : 0 ≤ t9 ∧ t9 ≤ 99999) : Met l yX2_makesHit wsX2_makesHit ({ frames := 4, cells := 0, slots := 0, locals := 95 }) (zP [.ref ax, .int (zI (k)), .int (zI (t9))] D G (fun H => XW D G ax n m9 sp τ ζ g cs ss H)) (zQ (some (.int (zB (xHit n m9 τ ζ k t9))))) 0 0 (fun _ => False) := by
  refine Met.ofW (cc := cX2_makesHit) (maxL := 4) (ret := (some .boolean)) (by decide) rfl ?_
  intro p e s m args below meth c s₁ B hml hv
  obtain ⟨hav, hW, hK, hN⟩ := hv
  have hx := B.exec
  have hb := B.bytes
  have hr := B.returns
  have hts := atoms_spec (ws := wsX2_makesHit) B.pre
  have hown : s.vm.findClass RX2 = some m.cls := findClass_of_methodNamed B.named
  have hlocks : meth.locks = false := B.notSynchronized
  have hin1 : ∀ w ∈ u_ws RX1 TX1 10, w ∈ wsX2_makesHit := by decide +kernel
  obtain ⟨hP, hT, hZ⟩ := id hW
  have hB := id hOK
  obtain ⟨hn0, hn8, hm0, hm12, hsp0, hsp1, -⟩ := hB
  have htb := hOK.tb hk
  have hsb := xStr_b hOK (t := t9) hk
  refine z_entry hav (Nat.le_of_ble_eq_true rfl) rfl (fun ls hl => ?_)
  have hl : lv_has ls 4 [(0, .ref ax), (1, .int (zI (k))), (2, .int (zI (t9)))] := hl
  refine lv_aload_n hx hb dX2_makesHit_0 rfl (lv_at hl 0 rfl) ?_
  refine lv_iload_n hx hb dX2_makesHit_1 rfl (lv_at hl 1 rfl) ?_
  refine z_call (va_runV (As := [.int (zI (k))]) (rest := []) ⟨hx, hb, hml, hown, hts⟩ (kX2_trackOrNull l D G ax n m9 sp τ ζ g cs ss hOK (k) (by omega)) (cwV 1 hts gX2_makesHit_X2_trackOrNull rfl rfl rfl (by decide +kernel) ⟨Nat.le_of_ble_eq_true rfl, Nat.le_of_ble_eq_true rfl⟩) (zPreV (va_recv hK hP (ci := 2) (q0 := 0) rfl rfl) hK hN (hW)) rfl rfl hl.1 rfl (lv_room (Nat.le_of_ble_eq_true rfl)) dX2_makesHit_2 ⟨Nat.le_of_ble_eq_true rfl, Nat.le_of_ble_eq_true rfl⟩) ?_
  refine z_top (w := .ref (g 1 ((k)).toNat)) (by rw [xOpt_t (by omega)]; rfl) ?_
  refine lv_astore_n (lv' := [(3, .ref (g 1 ((k)).toNat)), (0, .ref ax), (1, .int (zI (k))), (2, .int (zI (t9)))]) hx hb dX2_makesHit_5 rfl hl (by decide) rfl (fun ls hl => ?_)
  refine lv_aload_n hx hb dX2_makesHit_6 rfl (lv_at hl 0 rfl) ?_
  refine lv_ifnull hx hb dX2_makesHit_7 ?_
  refine lv_aload_n hx hb dX2_makesHit_10 rfl (lv_at hl 0 rfl) ?_
  refine va_getN (D := D) (ci := 1) (v := .int (zI ((τ ((k)).toNat) 7))) (C := RX1) (T := TX1) (N := 10) hx hb hts hin1 hown hK (hT ((k)).toNat (by omega)).1 0 rfl rfl 7 (by decide) (va_Nw.use rfl (hN.2.1 (243, RX1, "isAccent", "Z") (by decide))) (fun _ h9 => h9) rfl dX2_makesHit_11 ?_
  refine z_if_ne (tgt := 30) hx hb (by omega) dX2_makesHit_14 (by decide) (fun c_1 => ?_) (fun c_1 => ?_)
  · refine lv_iconst (v := zI (0)) hx hb dX2_makesHit_30 rfl ?_
    exact z_zretF hx hb hr hlocks (fun q => by have := q.1; have := q.2; omega) dX2_makesHit_31
  · refine lv_aload_n hx hb dX2_makesHit_17 rfl (lv_at hl 1 rfl) ?_
    refine lv_iload_n hx hb dX2_makesHit_18 rfl (lv_at hl 2 rfl) ?_
    refine lv_iload_n hx hb dX2_makesHit_19 rfl (lv_at hl 3 rfl) ?_
    refine z_call (va_runV (As := [.int (zI (k)), .int (zI (t9))]) (rest := []) ⟨hx, hb, hml, hown, hts⟩ (kX2_struckForce l D G ax n m9 sp τ ζ g cs ss hOK (k) (t9) (by omega) (by omega)) (cwV 2 hts gX2_makesHit_X2_struckForce rfl rfl rfl (by decide +kernel) ⟨Nat.le_of_ble_eq_true rfl, Nat.le_of_ble_eq_true rfl⟩) (zPreV (va_recv hK hP (ci := 2) (q0 := 0) rfl rfl) hK hN (hW)) rfl rfl hl.1 rfl (lv_room (Nat.le_of_ble_eq_true rfl)) dX2_makesHit_20 ⟨Nat.le_of_ble_eq_true rfl, Nat.le_of_ble_eq_true rfl⟩) ?_
    refine z_if_le (tgt := 30) hx hb (by omega) dX2_makesHit_23 (by decide) (fun c_2 => ?_) (fun c_2 => ?_)
    · refine lv_iconst (v := zI (0)) hx hb dX2_makesHit_30 rfl ?_
      exact z_zretF hx hb hr hlocks (fun q => by have := q.1; have := q.2; omega) dX2_makesHit_31
    · refine lv_iconst (v := zI (1)) hx hb dX2_makesHit_26 rfl ?_
      refine lv_goto (tgt := 31) hx hb dX2_makesHit_27 (by decide) ?_
      exact z_zretT hx hb hr hlocks (⟨by omega, by omega⟩) dX2_makesHit_31

set_option maxHeartbeats 4000000 in
set_option maxRecDepth 100000 in
theorem kX2_accentForce (l : Launch) (D : va_G) (G : Nat → ClassId) (ax : Nat) (n m9 sp : Int) (τ ζ : Nat → Nat → Int) (g : Nat → Nat → Nat) (cs ss : Nat → Nat → Int32) (hOK : XOK n m9 sp τ ζ) (t9 : Int) (ht : 0 ≤ t9 ∧ t9 ≤ 99999) : Met l yX2_accentForce wsX2_accentForce ({ frames := 4, cells := 0, slots := 0, locals := 95 }) (zP [.ref ax, .int (zI (t9))] D G (fun H => XW D G ax n m9 sp τ ζ g cs ss H)) (zQ (some (.int (zI (xAcc n m9 τ ζ t9 n.toNat))))) 0 0 (fun _ => False) := by
  refine Met.ofW (cc := cX2_accentForce) (maxL := 5) (ret := (some .int)) (by decide) rfl ?_
  intro p e s m args below meth c s₁ B hml hv
  obtain ⟨hav, hW, hK, hN⟩ := hv
  have hx := B.exec
  have hb := B.bytes
  have hr := B.returns
  have hts := atoms_spec (ws := wsX2_accentForce) B.pre
  have hown : s.vm.findClass RX2 = some m.cls := findClass_of_methodNamed B.named
  have hlocks : meth.locks = false := B.notSynchronized
  have hin1 : ∀ w ∈ u_ws RX1 TX1 10, w ∈ wsX2_accentForce := by decide +kernel
  have hin2 : ∀ w ∈ u_ws RX2 TX2 5, w ∈ wsX2_accentForce := by decide +kernel
  obtain ⟨hP, hT, hZ⟩ := id hW
  have hB := id hOK
  obtain ⟨hn0, hn8, hm0, hm12, hsp0, hsp1, -⟩ := hB
  refine z_entry hav (Nat.le_of_ble_eq_true rfl) rfl (fun ls hl => ?_)
  have hl : lv_has ls 5 [(0, .ref ax), (1, .int (zI (t9)))] := hl
  refine lv_iconst (v := zI (0)) hx hb dX2_accentForce_0 rfl ?_
  refine lv_istore_n (lv' := [(2, .int (zI (0))), (0, .ref ax), (1, .int (zI (t9)))]) hx hb dX2_accentForce_1 rfl hl (by decide) rfl (fun ls hl => ?_)
  refine lv_iconst (v := zI (0)) hx hb dX2_accentForce_2 rfl ?_
  refine lv_istore_n (lv' := [(3, .int (zI (0))), (2, .int (zI (0))), (0, .ref ax), (1, .int (zI (t9)))]) hx hb dX2_accentForce_3 rfl hl (by decide) rfl (fun ls hl => ?_)
  have loop_4 : ∀ (fu : Nat) (k : Int) (v : Int), (0 ≤ k ∧ k ≤ n) → (v = xAcc n m9 τ ζ t9 k.toNat) → n - k < (fu : Int) → ∀ (ls : Array Slot), lv_has ls 5 [(0, .ref ax), (1, .int (zI (t9))), (2, .int (zI (v))), (3, .int (zI (k)))] → W p l e (headSpec wsX2_accentForce ({ frames := 4, cells := 0, slots := 0, locals := 95 })).room s m args below meth c s.heap [] 0 0 (MQ below (zQ (some (.int (zI (xAcc n m9 τ ζ t9 n.toNat))))) args s 0 0 (fun _ => False)) (F0 m 4 ls []) := by
    intro fu
    induction fu with
    | zero =>
      intro k v hk0 hv hm
      exfalso; omega
    | succ fu ih =>
      intro k v hk0 hv hm ls hl
      have ih_4 := ih
      refine lv_iload_n hx hb dX2_accentForce_4 rfl (lv_at hl 3 rfl) ?_
      refine lv_aload_n hx hb dX2_accentForce_5 rfl (lv_at hl 0 rfl) ?_
      refine va_get (D := D) (ci := 2) (v := .int (zI (n))) (C := RX2) (T := TX2) (N := 5) hx hb hts hin2 hown hK hP 0 rfl rfl 1 (by decide) (hts (.fieldLink RX2 15 "PolyDrums" "trackCount" "I") (by decide +kernel)) (fun _ h9 => h9) rfl dX2_accentForce_6 ?_
      refine z_icmp_ge (tgt := 47) hx hb (by omega) dX2_accentForce_9 (by decide) (fun c_1 => ?_) (fun c_1 => ?_)
      · refine lv_iload_n hx hb dX2_accentForce_47 rfl (lv_at hl 2 rfl) ?_
        exact z_iret hx hb hr hlocks (by rw [hv, show k = n by omega]) dX2_accentForce_48
      · have htb := hOK.tb (k := k) (by omega)
        have hsb := xStr_b hOK (k := k) (t := t9) (by omega)
        have hab := xAcc_b hOK t9 k.toNat (by omega)
        refine lv_aload_n hx hb dX2_accentForce_12 rfl (lv_at hl 0 rfl) ?_
        refine lv_iload_n hx hb dX2_accentForce_13 rfl (lv_at hl 3 rfl) ?_
        refine z_call (va_runV (As := [.int (zI (k))]) (rest := []) ⟨hx, hb, hml, hown, hts⟩ (kX2_trackOrNull l D G ax n m9 sp τ ζ g cs ss hOK (k) (by omega)) (cwV 1 hts gX2_accentForce_X2_trackOrNull rfl rfl rfl (by decide +kernel) ⟨Nat.le_of_ble_eq_true rfl, Nat.le_of_ble_eq_true rfl⟩) (zPreV (va_recv hK hP (ci := 2) (q0 := 0) rfl rfl) hK hN (hW)) rfl rfl hl.1 rfl (lv_room (Nat.le_of_ble_eq_true rfl)) dX2_accentForce_14 ⟨Nat.le_of_ble_eq_true rfl, Nat.le_of_ble_eq_true rfl⟩) ?_
        refine z_top (w := .ref (g 1 ((k)).toNat)) (by rw [xOpt_t (by omega)]; rfl) ?_
        refine lv_astore (lv' := [(4, .ref (g 1 ((k)).toNat)), (0, .ref ax), (1, .int (zI (t9))), (2, .int (zI (v))), (3, .int (zI (k)))]) hx hb dX2_accentForce_17 hl (by decide) rfl (fun ls hl => ?_)
        refine lv_aload hx hb dX2_accentForce_19 (lv_at hl 0 rfl) ?_
        refine lv_ifnull hx hb dX2_accentForce_21 ?_
        refine lv_aload hx hb dX2_accentForce_24 (lv_at hl 0 rfl) ?_
        refine va_getN (D := D) (ci := 1) (v := .int (zI ((τ ((k)).toNat) 7))) (C := RX1) (T := TX1) (N := 10) hx hb hts hin1 hown hK (hT ((k)).toNat (by omega)).1 0 rfl rfl 7 (by decide) (va_Nw.use rfl (hN.2.1 (243, RX1, "isAccent", "Z") (by decide))) (fun _ h9 => h9) rfl dX2_accentForce_26 ?_
        refine z_if_eq (tgt := 41) hx hb (by omega) dX2_accentForce_29 (by decide) (fun c_2 => ?_) (fun c_2 => ?_)
        · refine lv_iinc (v := zI (k + 1)) (lv' := [(3, .int (zI (k + 1))), (4, .ref (g 1 ((k)).toNat)), (0, .ref ax), (1, .int (zI (t9))), (2, .int (zI (v)))]) hx hb dX2_accentForce_41 hl (k := 4) rfl (zI_add (k) (1)) (by decide) rfl (fun ls hl => ?_)
          refine lv_goto (tgt := 4) hx hb dX2_accentForce_44 (by decide) ?_
          exact ih_4 (k + 1) (v) (by omega) (by rw [xAcc_s hk0.1, hv]; first | (rw [if_pos (by omega)]; done) | (rw [if_neg (by omega)]; done)) (by omega) _ (lv_sub hl [2, 3, 4, 0] rfl)
        · refine lv_iload_n hx hb dX2_accentForce_32 rfl (lv_at hl 3 rfl) ?_
          refine lv_aload_n hx hb dX2_accentForce_33 rfl (lv_at hl 1 rfl) ?_
          refine lv_iload_n hx hb dX2_accentForce_34 rfl (lv_at hl 4 rfl) ?_
          refine lv_iload_n hx hb dX2_accentForce_35 rfl (lv_at hl 2 rfl) ?_
          refine z_call (va_runV (As := [.int (zI (k)), .int (zI (t9))]) (rest := [.int (zI (v))]) ⟨hx, hb, hml, hown, hts⟩ (kX2_struckForce l D G ax n m9 sp τ ζ g cs ss hOK (k) (t9) (by omega) (by omega)) (cwV 2 hts gX2_accentForce_X2_struckForce rfl rfl rfl (by decide +kernel) ⟨Nat.le_of_ble_eq_true rfl, Nat.le_of_ble_eq_true rfl⟩) (zPreV (va_recv hK hP (ci := 2) (q0 := 0) rfl rfl) hK hN (hW)) rfl rfl hl.1 rfl (lv_room (Nat.le_of_ble_eq_true rfl)) dX2_accentForce_36 ⟨Nat.le_of_ble_eq_true rfl, Nat.le_of_ble_eq_true rfl⟩) ?_
          refine z_iadd hx hb dX2_accentForce_39 ?_
          refine lv_istore_n (lv' := [(2, .int (zI ((v) + (xStr n m9 τ ζ (k) (t9))))), (4, .ref (g 1 ((k)).toNat)), (0, .ref ax), (1, .int (zI (t9))), (3, .int (zI (k)))]) hx hb dX2_accentForce_40 rfl hl (by decide) rfl (fun ls hl => ?_)
          refine lv_iinc (v := zI (k + 1)) (lv' := [(3, .int (zI (k + 1))), (2, .int (zI ((v) + (xStr n m9 τ ζ (k) (t9))))), (4, .ref (g 1 ((k)).toNat)), (0, .ref ax), (1, .int (zI (t9)))]) hx hb dX2_accentForce_41 hl (k := 4) rfl (zI_add (k) (1)) (by decide) rfl (fun ls hl => ?_)
          refine lv_goto (tgt := 4) hx hb dX2_accentForce_44 (by decide) ?_
          exact ih_4 (k + 1) ((v) + (xStr n m9 τ ζ (k) (t9))) (by omega) (by rw [xAcc_s hk0.1, hv]; first | (rw [if_pos (by omega)]; done) | (rw [if_neg (by omega)]; done)) (by omega) _ (lv_sub hl [3, 4, 1, 0] rfl)
  exact loop_4 (9) (0) (0) (by omega) (rfl) (by omega) ls (lv_sub hl [2, 3, 1, 0] rfl)

set_option maxHeartbeats 4000000 in
set_option maxRecDepth 100000 in
theorem kX2_hitSet (l : Launch) (D : va_G) (G : Nat → ClassId) (ax : Nat) (n m9 sp : Int) (τ ζ : Nat → Nat → Int) (g : Nat → Nat → Nat) (cs ss : Nat → Nat → Int32) (hOK : XOK n m9 sp τ ζ) (t9 : Int) (ht : 0 ≤ t9 ∧ t9 ≤ 99999) : Met l yX2_hitSet wsX2_hitSet ({ frames := 5, cells := 0, slots := 0, locals := 118 }) (zP [.ref ax, .int (zI (t9))] D G (fun H => XW D G ax n m9 sp τ ζ g cs ss H)) (zQ (some (.int (zI ((xSet (fun j => xHit n m9 τ ζ (j : Int) t9) n.toNat : Nat)))))) 0 0 (fun _ => False) := by
  refine Met.ofW (cc := cX2_hitSet) (maxL := 4) (ret := (some .int)) (by decide) rfl ?_
  intro p e s m args below meth c s₁ B hml hv
  obtain ⟨hav, hW, hK, hN⟩ := hv
  have hx := B.exec
  have hb := B.bytes
  have hr := B.returns
  have hts := atoms_spec (ws := wsX2_hitSet) B.pre
  have hown : s.vm.findClass RX2 = some m.cls := findClass_of_methodNamed B.named
  have hlocks : meth.locks = false := B.notSynchronized
  have hin2 : ∀ w ∈ u_ws RX2 TX2 5, w ∈ wsX2_hitSet := by decide +kernel
  obtain ⟨hP, hT, hZ⟩ := id hW
  have hB := id hOK
  obtain ⟨hn0, hn8, hm0, hm12, hsp0, hsp1, -⟩ := hB
  refine z_entry hav (Nat.le_of_ble_eq_true rfl) rfl (fun ls hl => ?_)
  have hl : lv_has ls 4 [(0, .ref ax), (1, .int (zI (t9)))] := hl
  refine lv_iconst (v := zI (0)) hx hb dX2_hitSet_0 rfl ?_
  refine lv_istore_n (lv' := [(2, .int (zI (0))), (0, .ref ax), (1, .int (zI (t9)))]) hx hb dX2_hitSet_1 rfl hl (by decide) rfl (fun ls hl => ?_)
  refine lv_iconst (v := zI (0)) hx hb dX2_hitSet_2 rfl ?_
  refine lv_istore_n (lv' := [(3, .int (zI (0))), (2, .int (zI (0))), (0, .ref ax), (1, .int (zI (t9)))]) hx hb dX2_hitSet_3 rfl hl (by decide) rfl (fun ls hl => ?_)
  have loop_4 : ∀ (fu : Nat) (k : Int) (b9 : Nat), (0 ≤ k ∧ k ≤ n) → (b9 = xSet (fun j => xHit n m9 τ ζ (j : Int) t9) k.toNat) → n - k < (fu : Int) → ∀ (ls : Array Slot), lv_has ls 4 [(0, .ref ax), (1, .int (zI (t9))), (2, .int (zI ((b9 : Int)))), (3, .int (zI (k)))] → W p l e (headSpec wsX2_hitSet ({ frames := 5, cells := 0, slots := 0, locals := 118 })).room s m args below meth c s.heap [] 0 0 (MQ below (zQ (some (.int (zI ((xSet (fun j => xHit n m9 τ ζ (j : Int) t9) n.toNat : Nat)))))) args s 0 0 (fun _ => False)) (F0 m 4 ls []) := by
    intro fu
    induction fu with
    | zero =>
      intro k b9 hk0 hv hm
      exfalso; omega
    | succ fu ih =>
      intro k b9 hk0 hv hm ls hl
      have ih_4 := ih
      refine lv_iload_n hx hb dX2_hitSet_4 rfl (lv_at hl 3 rfl) ?_
      refine lv_aload_n hx hb dX2_hitSet_5 rfl (lv_at hl 0 rfl) ?_
      refine va_get (D := D) (ci := 2) (v := .int (zI (n))) (C := RX2) (T := TX2) (N := 5) hx hb hts hin2 hown hK hP 0 rfl rfl 1 (by decide) (hts (.fieldLink RX2 15 "PolyDrums" "trackCount" "I") (by decide +kernel)) (fun _ h9 => h9) rfl dX2_hitSet_6 ?_
      refine z_icmp_ge (tgt := 33) hx hb (by omega) dX2_hitSet_9 (by decide) (fun c_1 => ?_) (fun c_1 => ?_)
      · refine lv_iload_n hx hb dX2_hitSet_33 rfl (lv_at hl 2 rfl) ?_
        exact z_iret hx hb hr hlocks (by rw [hv, show k = n by omega]) dX2_hitSet_34
      · refine lv_aload_n hx hb dX2_hitSet_12 rfl (lv_at hl 0 rfl) ?_
        refine lv_iload_n hx hb dX2_hitSet_13 rfl (lv_at hl 3 rfl) ?_
        refine lv_iload_n hx hb dX2_hitSet_14 rfl (lv_at hl 1 rfl) ?_
        refine z_call (va_runV (As := [.int (zI (k)), .int (zI (t9))]) (rest := []) ⟨hx, hb, hml, hown, hts⟩ (kX2_makesHit l D G ax n m9 sp τ ζ g cs ss hOK (k) (t9) (by omega) (by omega)) (cwV 2 hts gX2_hitSet_X2_makesHit rfl rfl rfl (by decide +kernel) ⟨Nat.le_of_ble_eq_true rfl, Nat.le_of_ble_eq_true rfl⟩) (zPreV (va_recv hK hP (ci := 2) (q0 := 0) rfl rfl) hK hN (hW)) rfl rfl hl.1 rfl (lv_room (Nat.le_of_ble_eq_true rfl)) dX2_hitSet_15 ⟨Nat.le_of_ble_eq_true rfl, Nat.le_of_ble_eq_true rfl⟩) ?_
        refine z_eqB (tgt := 27) hx hb dX2_hitSet_18 (by decide) (fun c_2 => ?_) (fun c_2 => ?_)
        · refine lv_iinc (v := zI (k + 1)) (lv' := [(3, .int (zI (k + 1))), (0, .ref ax), (1, .int (zI (t9))), (2, .int (zI ((b9 : Int))))]) hx hb dX2_hitSet_27 hl (k := 3) rfl (zI_add (k) (1)) (by decide) rfl (fun ls hl => ?_)
          refine lv_goto (tgt := 4) hx hb dX2_hitSet_30 (by decide) ?_
          exact ih_4 (k + 1) (b9) (by omega) (by first | (rw [xSet_s (P := (fun j => xHit n m9 τ ζ (j : Int) t9)) hk0.1 (by rw [Int.toNat_of_nonneg hk0.1]; assumption), hv]; done) | (rw [xSet_n (P := (fun j => xHit n m9 τ ζ (j : Int) t9)) hk0.1 (by rw [Int.toNat_of_nonneg hk0.1]; assumption), hv]; done)) (by omega) _ (lv_sub hl [1, 2, 3, 0] rfl)
        · refine lv_iload_n hx hb dX2_hitSet_21 rfl (lv_at hl 2 rfl) ?_
          refine lv_iconst (v := zI (1)) hx hb dX2_hitSet_22 rfl ?_
          refine lv_iload_n hx hb dX2_hitSet_23 rfl (lv_at hl 3 rfl) ?_
          refine lv_ishl hx hb dX2_hitSet_24 ?_
          refine lv_ior hx hb dX2_hitSet_25 ?_
          refine z_raw (y := zI (((b9 ||| 2 ^ (k).toNat : Nat) : Int))) (by rw [zI_shl (by omega), zI_or]) ?_
          refine lv_istore_n (lv' := [(2, .int (zI (((b9 ||| 2 ^ (k).toNat : Nat) : Int)))), (0, .ref ax), (1, .int (zI (t9))), (3, .int (zI (k)))]) hx hb dX2_hitSet_26 rfl hl (by decide) rfl (fun ls hl => ?_)
          refine lv_iinc (v := zI (k + 1)) (lv' := [(3, .int (zI (k + 1))), (2, .int (zI (((b9 ||| 2 ^ (k).toNat : Nat) : Int)))), (0, .ref ax), (1, .int (zI (t9)))]) hx hb dX2_hitSet_27 hl (k := 3) rfl (zI_add (k) (1)) (by decide) rfl (fun ls hl => ?_)
          refine lv_goto (tgt := 4) hx hb dX2_hitSet_30 (by decide) ?_
          exact ih_4 (k + 1) (b9 ||| 2 ^ (k).toNat) (by omega) (by first | (rw [xSet_s (P := (fun j => xHit n m9 τ ζ (j : Int) t9)) hk0.1 (by rw [Int.toNat_of_nonneg hk0.1]; assumption), hv]; done) | (rw [xSet_n (P := (fun j => xHit n m9 τ ζ (j : Int) t9)) hk0.1 (by rw [Int.toNat_of_nonneg hk0.1]; assumption), hv]; done)) (by omega) _ (lv_sub hl [2, 3, 1, 0] rfl)
  exact loop_4 (9) (0) (0) (by omega) (rfl) (by omega) ls (lv_sub hl [2, 3, 1, 0] rfl)

set_option maxHeartbeats 4000000 in
set_option maxRecDepth 100000 in
theorem kX2_commonHits (l : Launch) (D : va_G) (G : Nat → ClassId) (ax : Nat) (n m9 sp : Int) (τ ζ : Nat → Nat → Int) (g : Nat → Nat → Nat) (cs ss : Nat → Nat → Int32) (hOK : XOK n m9 sp τ ζ) (a b x y : Int) (ha : 0 ≤ a ∧ a < n) (hb9 : 0 ≤ b ∧ b < n) (hx9 : 0 ≤ x ∧ x ≤ y ∧ y ≤ 99999) : Met l yX2_commonHits wsX2_commonHits ({ frames := 5, cells := 0, slots := 0, locals := 118 }) (zP [.ref ax, .int (zI (a)), .int (zI (b)), .int (zI (x)), .int (zI (y))] D G (fun H => XW D G ax n m9 sp τ ζ g cs ss H)) (zQ (some (.int (zI (xCnt (fun t => xHit n m9 τ ζ a t ∧ xHit n m9 τ ζ b t) x (y - x).toNat))))) 0 0 (fun _ => False) := by
  refine Met.ofW (cc := cX2_commonHits) (maxL := 7) (ret := (some .int)) (by decide) rfl ?_
  intro p e s m args below meth c s₁ B hml hv
  obtain ⟨hav, hW, hK, hN⟩ := hv
  have hx := B.exec
  have hb := B.bytes
  have hr := B.returns
  have hts := atoms_spec (ws := wsX2_commonHits) B.pre
  have hown : s.vm.findClass RX2 = some m.cls := findClass_of_methodNamed B.named
  have hlocks : meth.locks = false := B.notSynchronized
  obtain ⟨hP, hT, hZ⟩ := id hW
  have hB := id hOK
  obtain ⟨hn0, hn8, hm0, hm12, hsp0, hsp1, -⟩ := hB
  refine z_entry hav (Nat.le_of_ble_eq_true rfl) rfl (fun ls hl => ?_)
  have hl : lv_has ls 7 [(0, .ref ax), (1, .int (zI (a))), (2, .int (zI (b))), (3, .int (zI (x))), (4, .int (zI (y)))] := hl
  refine lv_iconst (v := zI (0)) hx hb dX2_commonHits_0 rfl ?_
  refine lv_istore (lv' := [(5, .int (zI (0))), (0, .ref ax), (1, .int (zI (a))), (2, .int (zI (b))), (3, .int (zI (x))), (4, .int (zI (y)))]) hx hb dX2_commonHits_1 hl (by decide) rfl (fun ls hl => ?_)
  refine lv_iload_n hx hb dX2_commonHits_3 rfl (lv_at hl 4 rfl) ?_
  refine lv_istore (lv' := [(6, .int (zI (x))), (5, .int (zI (0))), (0, .ref ax), (1, .int (zI (a))), (2, .int (zI (b))), (3, .int (zI (x))), (4, .int (zI (y)))]) hx hb dX2_commonHits_4 hl (by decide) rfl (fun ls hl => ?_)
  have loop_6 : ∀ (fu : Nat) (k : Int) (v : Int), (x ≤ k ∧ k ≤ y) → (v = xCnt (fun t => xHit n m9 τ ζ a t ∧ xHit n m9 τ ζ b t) x (k - x).toNat) → y - k < (fu : Int) → ∀ (ls : Array Slot), lv_has ls 7 [(0, .ref ax), (1, .int (zI (a))), (2, .int (zI (b))), (4, .int (zI (y))), (5, .int (zI (v))), (6, .int (zI (k)))] → W p l e (headSpec wsX2_commonHits ({ frames := 5, cells := 0, slots := 0, locals := 118 })).room s m args below meth c s.heap [] 0 0 (MQ below (zQ (some (.int (zI (xCnt (fun t => xHit n m9 τ ζ a t ∧ xHit n m9 τ ζ b t) x (y - x).toNat))))) args s 0 0 (fun _ => False)) (F0 m 6 ls []) := by
    intro fu
    induction fu with
    | zero =>
      intro k v hk0 hv hm
      exfalso; omega
    | succ fu ih =>
      intro k v hk0 hv hm ls hl
      have hcb := xCnt_b (fun t => xHit n m9 τ ζ a t ∧ xHit n m9 τ ζ b t) x (k - x).toNat
      have ih_6 := ih
      refine lv_iload hx hb dX2_commonHits_6 (lv_at hl 5 rfl) ?_
      refine lv_iload hx hb dX2_commonHits_8 (lv_at hl 3 rfl) ?_
      refine z_icmp_ge (tgt := 42) hx hb (by omega) dX2_commonHits_10 (by decide) (fun c_1 => ?_) (fun c_1 => ?_)
      · refine lv_iload hx hb dX2_commonHits_42 (lv_at hl 4 rfl) ?_
        exact z_iret hx hb hr hlocks (by rw [hv, show k = y by omega]) dX2_commonHits_44
      · refine lv_aload_n hx hb dX2_commonHits_13 rfl (lv_at hl 0 rfl) ?_
        refine lv_iload_n hx hb dX2_commonHits_14 rfl (lv_at hl 1 rfl) ?_
        refine lv_iload hx hb dX2_commonHits_15 (lv_at hl 5 rfl) ?_
        refine z_call (va_runV (As := [.int (zI (a)), .int (zI (k))]) (rest := []) ⟨hx, hb, hml, hown, hts⟩ (kX2_makesHit l D G ax n m9 sp τ ζ g cs ss hOK (a) (k) (by omega) (by omega)) (cwV 2 hts gX2_commonHits_X2_makesHit rfl rfl rfl (by decide +kernel) ⟨Nat.le_of_ble_eq_true rfl, Nat.le_of_ble_eq_true rfl⟩) (zPreV (va_recv hK hP (ci := 2) (q0 := 0) rfl rfl) hK hN (hW)) rfl rfl hl.1 rfl (lv_room (Nat.le_of_ble_eq_true rfl)) dX2_commonHits_17 ⟨Nat.le_of_ble_eq_true rfl, Nat.le_of_ble_eq_true rfl⟩) ?_
        refine z_eqB (tgt := 36) hx hb dX2_commonHits_20 (by decide) (fun c_2 => ?_) (fun c_2 => ?_)
        · refine lv_iinc (v := zI (k + 1)) (lv' := [(6, .int (zI (k + 1))), (0, .ref ax), (1, .int (zI (a))), (2, .int (zI (b))), (4, .int (zI (y))), (5, .int (zI (v)))]) hx hb dX2_commonHits_36 hl (k := 5) rfl (zI_add (k) (1)) (by decide) rfl (fun ls hl => ?_)
          refine lv_goto (tgt := 6) hx hb dX2_commonHits_39 (by decide) ?_
          exact ih_6 (k + 1) (v) (by omega) (by first | (rw [xCnt_t hk0.1 ⟨by assumption, by assumption⟩, hv]; done) | (rw [xCnt_f hk0.1 (fun q => absurd q.1 (by assumption)), hv]; done) | (rw [xCnt_f hk0.1 (fun q => absurd q.2 (by assumption)), hv]; done)) (by omega) _ (lv_sub hl [1, 2, 3, 4, 5, 0] rfl)
        · refine lv_aload_n hx hb dX2_commonHits_23 rfl (lv_at hl 0 rfl) ?_
          refine lv_iload_n hx hb dX2_commonHits_24 rfl (lv_at hl 2 rfl) ?_
          refine lv_iload hx hb dX2_commonHits_25 (lv_at hl 5 rfl) ?_
          refine z_call (va_runV (As := [.int (zI (b)), .int (zI (k))]) (rest := []) ⟨hx, hb, hml, hown, hts⟩ (kX2_makesHit l D G ax n m9 sp τ ζ g cs ss hOK (b) (k) (by omega) (by omega)) (cwV 2 hts gX2_commonHits_X2_makesHit rfl rfl rfl (by decide +kernel) ⟨Nat.le_of_ble_eq_true rfl, Nat.le_of_ble_eq_true rfl⟩) (zPreV (va_recv hK hP (ci := 2) (q0 := 0) rfl rfl) hK hN (hW)) rfl rfl hl.1 rfl (lv_room (Nat.le_of_ble_eq_true rfl)) dX2_commonHits_27 ⟨Nat.le_of_ble_eq_true rfl, Nat.le_of_ble_eq_true rfl⟩) ?_
          refine z_eqB (tgt := 36) hx hb dX2_commonHits_30 (by decide) (fun c_3 => ?_) (fun c_3 => ?_)
          · refine lv_iinc (v := zI (k + 1)) (lv' := [(6, .int (zI (k + 1))), (0, .ref ax), (1, .int (zI (a))), (2, .int (zI (b))), (4, .int (zI (y))), (5, .int (zI (v)))]) hx hb dX2_commonHits_36 hl (k := 5) rfl (zI_add (k) (1)) (by decide) rfl (fun ls hl => ?_)
            refine lv_goto (tgt := 6) hx hb dX2_commonHits_39 (by decide) ?_
            exact ih_6 (k + 1) (v) (by omega) (by first | (rw [xCnt_t hk0.1 ⟨by assumption, by assumption⟩, hv]; done) | (rw [xCnt_f hk0.1 (fun q => absurd q.1 (by assumption)), hv]; done) | (rw [xCnt_f hk0.1 (fun q => absurd q.2 (by assumption)), hv]; done)) (by omega) _ (lv_sub hl [1, 2, 3, 4, 5, 0] rfl)
          · refine lv_iinc (v := zI (v + 1)) (lv' := [(5, .int (zI (v + 1))), (0, .ref ax), (1, .int (zI (a))), (2, .int (zI (b))), (4, .int (zI (y))), (6, .int (zI (k)))]) hx hb dX2_commonHits_33 hl (k := 4) rfl (zI_add (v) (1)) (by decide) rfl (fun ls hl => ?_)
            refine lv_iinc (v := zI (k + 1)) (lv' := [(6, .int (zI (k + 1))), (5, .int (zI (v + 1))), (0, .ref ax), (1, .int (zI (a))), (2, .int (zI (b))), (4, .int (zI (y)))]) hx hb dX2_commonHits_36 hl (k := 5) rfl (zI_add (k) (1)) (by decide) rfl (fun ls hl => ?_)
            refine lv_goto (tgt := 6) hx hb dX2_commonHits_39 (by decide) ?_
            exact ih_6 (k + 1) (v + 1) (by omega) (by first | (rw [xCnt_t hk0.1 ⟨by assumption, by assumption⟩, hv]; done) | (rw [xCnt_f hk0.1 (fun q => absurd q.1 (by assumption)), hv]; done) | (rw [xCnt_f hk0.1 (fun q => absurd q.2 (by assumption)), hv]; done)) (by omega) _ (lv_sub hl [2, 3, 4, 5, 1, 0] rfl)
  exact loop_6 ((y + 1).toNat) (x) (0) (by omega) (by rw [show x - x = 0 by omega]; rfl) (by omega) ls (lv_sub hl [2, 3, 4, 6, 1, 0] rfl)

set_option maxHeartbeats 4000000 in
set_option maxRecDepth 100000 in
theorem kX2_groupSet (l : Launch) (D : va_G) (G : Nat → ClassId) (ax : Nat) (n m9 sp : Int) (τ ζ : Nat → Nat → Int) (g : Nat → Nat → Nat) (cs ss : Nat → Nat → Int32) (hOK : XOK n m9 sp τ ζ) (h : Int) (hh : 0 ≤ h ∧ h ≤ 3) : Met l yX2_groupSet wsX2_groupSet ({ frames := 1, cells := 0, slots := 0, locals := 21 }) (zP [.ref ax, .int (zI (h))] D G (fun H => XW D G ax n m9 sp τ ζ g cs ss H)) (zQ (some (.int (zI ((xSet (fun j => h ≠ 0 ∧ τ j 4 = h) n.toNat : Nat)))))) 0 0 (fun _ => False) := by
  refine Met.ofW (cc := cX2_groupSet) (maxL := 5) (ret := (some .int)) (by decide) rfl ?_
  intro p e s m args below meth c s₁ B hml hv
  obtain ⟨hav, hW, hK, hN⟩ := hv
  have hx := B.exec
  have hb := B.bytes
  have hr := B.returns
  have hts := atoms_spec (ws := wsX2_groupSet) B.pre
  have hown : s.vm.findClass RX2 = some m.cls := findClass_of_methodNamed B.named
  have hlocks : meth.locks = false := B.notSynchronized
  have hin1 : ∀ w ∈ u_ws RX1 TX1 10, w ∈ wsX2_groupSet := by decide +kernel
  have hin2 : ∀ w ∈ u_ws RX2 TX2 5, w ∈ wsX2_groupSet := by decide +kernel
  obtain ⟨hP, hT, hZ⟩ := id hW
  have hB := id hOK
  obtain ⟨hn0, hn8, hm0, hm12, hsp0, hsp1, -⟩ := hB
  refine z_entry hav (Nat.le_of_ble_eq_true rfl) rfl (fun ls hl => ?_)
  have hl : lv_has ls 5 [(0, .ref ax), (1, .int (zI (h)))] := hl
  refine lv_iconst (v := zI (0)) hx hb dX2_groupSet_0 rfl ?_
  refine lv_istore_n (lv' := [(2, .int (zI (0))), (0, .ref ax), (1, .int (zI (h)))]) hx hb dX2_groupSet_1 rfl hl (by decide) rfl (fun ls hl => ?_)
  refine lv_iconst (v := zI (0)) hx hb dX2_groupSet_2 rfl ?_
  refine lv_istore_n (lv' := [(3, .int (zI (0))), (2, .int (zI (0))), (0, .ref ax), (1, .int (zI (h)))]) hx hb dX2_groupSet_3 rfl hl (by decide) rfl (fun ls hl => ?_)
  have loop_4 : ∀ (fu : Nat) (k : Int) (b9 : Nat), (0 ≤ k ∧ k ≤ n) → (b9 = xSet (fun j => h ≠ 0 ∧ τ j 4 = h) k.toNat) → n - k < (fu : Int) → ∀ (ls : Array Slot), lv_has ls 5 [(0, .ref ax), (1, .int (zI (h))), (2, .int (zI ((b9 : Int)))), (3, .int (zI (k)))] → W p l e (headSpec wsX2_groupSet ({ frames := 1, cells := 0, slots := 0, locals := 21 })).room s m args below meth c s.heap [] 0 0 (MQ below (zQ (some (.int (zI ((xSet (fun j => h ≠ 0 ∧ τ j 4 = h) n.toNat : Nat)))))) args s 0 0 (fun _ => False)) (F0 m 4 ls []) := by
    intro fu
    induction fu with
    | zero =>
      intro k b9 hk0 hv hm
      exfalso; omega
    | succ fu ih =>
      intro k b9 hk0 hv hm ls hl
      have ih_4 := ih
      refine lv_iload_n hx hb dX2_groupSet_4 rfl (lv_at hl 3 rfl) ?_
      refine lv_aload_n hx hb dX2_groupSet_5 rfl (lv_at hl 0 rfl) ?_
      refine va_get (D := D) (ci := 2) (v := .int (zI (n))) (C := RX2) (T := TX2) (N := 5) hx hb hts hin2 hown hK hP 0 rfl rfl 1 (by decide) (hts (.fieldLink RX2 15 "PolyDrums" "trackCount" "I") (by decide +kernel)) (fun _ h9 => h9) rfl dX2_groupSet_6 ?_
      refine z_icmp_ge (tgt := 49) hx hb (by omega) dX2_groupSet_9 (by decide) (fun c_1 => ?_) (fun c_1 => ?_)
      · refine lv_iload_n hx hb dX2_groupSet_49 rfl (lv_at hl 2 rfl) ?_
        exact z_iret hx hb hr hlocks (by rw [hv, show k = n by omega]) dX2_groupSet_50
      · have htb := hOK.tb (k := k) (by omega)
        refine lv_aload_n hx hb dX2_groupSet_12 rfl (lv_at hl 0 rfl) ?_
        refine lv_iload_n hx hb dX2_groupSet_13 rfl (lv_at hl 3 rfl) ?_
        refine z_call (va_runV (As := [.int (zI (k))]) (rest := []) ⟨hx, hb, hml, hown, hts⟩ (kX2_trackOrNull l D G ax n m9 sp τ ζ g cs ss hOK (k) (by omega)) (cwV 1 hts gX2_groupSet_X2_trackOrNull rfl rfl rfl (by decide +kernel) ⟨Nat.le_of_ble_eq_true rfl, Nat.le_of_ble_eq_true rfl⟩) (zPreV (va_recv hK hP (ci := 2) (q0 := 0) rfl rfl) hK hN (hW)) rfl rfl hl.1 rfl (lv_room (Nat.le_of_ble_eq_true rfl)) dX2_groupSet_14 ⟨Nat.le_of_ble_eq_true rfl, Nat.le_of_ble_eq_true rfl⟩) ?_
        refine z_top (w := .ref (g 1 ((k)).toNat)) (by rw [xOpt_t (by omega)]; rfl) ?_
        refine lv_astore (lv' := [(4, .ref (g 1 ((k)).toNat)), (0, .ref ax), (1, .int (zI (h))), (2, .int (zI ((b9 : Int)))), (3, .int (zI (k)))]) hx hb dX2_groupSet_17 hl (by decide) rfl (fun ls hl => ?_)
        refine lv_aload hx hb dX2_groupSet_19 (lv_at hl 0 rfl) ?_
        refine lv_ifnull hx hb dX2_groupSet_21 ?_
        refine lv_iload_n hx hb dX2_groupSet_24 rfl (lv_at hl 2 rfl) ?_
        refine z_if_eq (tgt := 43) hx hb (by omega) dX2_groupSet_25 (by decide) (fun c_2 => ?_) (fun c_2 => ?_)
        · refine lv_iinc (v := zI (k + 1)) (lv' := [(3, .int (zI (k + 1))), (4, .ref (g 1 ((k)).toNat)), (0, .ref ax), (1, .int (zI (h))), (2, .int (zI ((b9 : Int))))]) hx hb dX2_groupSet_43 hl (k := 4) rfl (zI_add (k) (1)) (by decide) rfl (fun ls hl => ?_)
          refine lv_goto (tgt := 4) hx hb dX2_groupSet_46 (by decide) ?_
          exact ih_4 (k + 1) (b9) (by omega) (by first | (rw [xSet_s (P := (fun j => h ≠ 0 ∧ τ j 4 = h)) hk0.1 (by omega), hv]; done) | (rw [xSet_n (P := (fun j => h ≠ 0 ∧ τ j 4 = h)) hk0.1 (by omega), hv]; done)) (by omega) _ (lv_sub hl [2, 3, 4, 0] rfl)
        · refine lv_aload hx hb dX2_groupSet_28 (lv_at hl 0 rfl) ?_
          refine va_getN (D := D) (ci := 1) (v := .int (zI ((τ ((k)).toNat) 4))) (C := RX1) (T := TX1) (N := 10) hx hb hts hin1 hown hK (hT ((k)).toNat (by omega)).1 0 rfl rfl 4 (by decide) (va_Nw.use rfl (hN.2.1 (84, RX1, "group", "I") (by decide))) (fun _ h9 => h9) rfl dX2_groupSet_30 ?_
          refine lv_iload_n hx hb dX2_groupSet_33 rfl (lv_at hl 2 rfl) ?_
          refine z_icmp_ne (tgt := 43) hx hb (by omega) dX2_groupSet_34 (by decide) (fun c_3 => ?_) (fun c_3 => ?_)
          · refine lv_iinc (v := zI (k + 1)) (lv' := [(3, .int (zI (k + 1))), (4, .ref (g 1 ((k)).toNat)), (0, .ref ax), (1, .int (zI (h))), (2, .int (zI ((b9 : Int))))]) hx hb dX2_groupSet_43 hl (k := 4) rfl (zI_add (k) (1)) (by decide) rfl (fun ls hl => ?_)
            refine lv_goto (tgt := 4) hx hb dX2_groupSet_46 (by decide) ?_
            exact ih_4 (k + 1) (b9) (by omega) (by first | (rw [xSet_s (P := (fun j => h ≠ 0 ∧ τ j 4 = h)) hk0.1 (by omega), hv]; done) | (rw [xSet_n (P := (fun j => h ≠ 0 ∧ τ j 4 = h)) hk0.1 (by omega), hv]; done)) (by omega) _ (lv_sub hl [2, 3, 4, 0] rfl)
          · refine lv_iload_n hx hb dX2_groupSet_37 rfl (lv_at hl 3 rfl) ?_
            refine lv_iconst (v := zI (1)) hx hb dX2_groupSet_38 rfl ?_
            refine lv_iload_n hx hb dX2_groupSet_39 rfl (lv_at hl 4 rfl) ?_
            refine lv_ishl hx hb dX2_groupSet_40 ?_
            refine lv_ior hx hb dX2_groupSet_41 ?_
            refine z_raw (y := zI (((b9 ||| 2 ^ (k).toNat : Nat) : Int))) (by rw [zI_shl (by omega), zI_or]) ?_
            refine lv_istore_n (lv' := [(2, .int (zI (((b9 ||| 2 ^ (k).toNat : Nat) : Int)))), (4, .ref (g 1 ((k)).toNat)), (0, .ref ax), (1, .int (zI (h))), (3, .int (zI (k)))]) hx hb dX2_groupSet_42 rfl hl (by decide) rfl (fun ls hl => ?_)
            refine lv_iinc (v := zI (k + 1)) (lv' := [(3, .int (zI (k + 1))), (2, .int (zI (((b9 ||| 2 ^ (k).toNat : Nat) : Int)))), (4, .ref (g 1 ((k)).toNat)), (0, .ref ax), (1, .int (zI (h)))]) hx hb dX2_groupSet_43 hl (k := 4) rfl (zI_add (k) (1)) (by decide) rfl (fun ls hl => ?_)
            refine lv_goto (tgt := 4) hx hb dX2_groupSet_46 (by decide) ?_
            exact ih_4 (k + 1) (b9 ||| 2 ^ (k).toNat) (by omega) (by first | (rw [xSet_s (P := (fun j => h ≠ 0 ∧ τ j 4 = h)) hk0.1 (by omega), hv]; done) | (rw [xSet_n (P := (fun j => h ≠ 0 ∧ τ j 4 = h)) hk0.1 (by omega), hv]; done)) (by omega) _ (lv_sub hl [3, 4, 1, 0] rfl)
  exact loop_4 (9) (0) (0) (by omega) (rfl) (by omega) ls (lv_sub hl [2, 3, 1, 0] rfl)
