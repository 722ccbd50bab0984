set_option maxHeartbeats 4000000 in
set_option maxRecDepth 100000 in
theorem kX2_checkArgument (l : Launch) (D : va_G) (G : Nat → ClassId) (hl9 : l.stackTraces = false) (P : Prop)  : vx_Met l yX2_checkArgument wsX2_checkArgument ({ frames := 6, cells := 1, slots := 6, locals := 130 }) (zPT [.int (zB (P))] D G (fun H => True)) (zQc none (P)) (zX (fun E => E = zIA ∧ ¬ P)) 1 6 (fun _ => False) := by
  refine vx_ofW (cc := cX2_checkArgument) (maxL := 1) (ret := none) (by decide) rfl ?_
  intro p e s m args below meth c s₁ B hml htab hv
  obtain ⟨hav, hP, hK, hN, hT0⟩ := hv
  have hx := B.exec
  have hb := B.bytes
  have hr := B.returns
  have hts := atoms_spec (ws := wsX2_checkArgument) B.pre
  have hown : s.vm.findClass RX2 = some m.cls := findClass_of_methodNamed B.named
  have hlocks : meth.locks = false := B.notSynchronized
  obtain ⟨sa, hsa⟩ := hN.2.2.2.2.2.2
  refine z_entry hav (Nat.le_of_ble_eq_true rfl) rfl (fun ls hl => ?_)
  have hl : lv_has ls 1 [(0, .int (zB (P)))] := hl
  refine lv_iload_n hx hb dX2_checkArgument_0 rfl (lv_at hl 0 rfl) ?_
  refine z_neB (tgt := 14) hx hb dX2_checkArgument_1 (by decide) (fun c_1 => ?_) (fun c_1 => ?_)
  · exact zc_vret hx hb hr hlocks (c_1) dX2_checkArgument_14 (Nat.le_of_ble_eq_true rfl) (Nat.le_of_ble_eq_true rfl)
  · exact vx_throwS hx hb hl9 (own := RX2) (cls := "java/lang/IllegalArgumentException") (text := "an argument is beyond its limits") (names := ["java/lang/RuntimeException", "java/lang/Exception"]) (ik := 208) (is := 210) (ic := 212) (A := fun _ => False) (sa := sa 210) hown (by decide +kernel) (by decide +kernel) (hts (.classLink RX2 208 "java/lang/IllegalArgumentException") (by decide +kernel)) (hts (.initialized "java/lang/IllegalArgumentException") (by decide +kernel)) (hsa (210, "an argument is beyond its limits") (by decide +kernel)) (vx_hat (B := [.castable "java/lang/IllegalArgumentException" "java/lang/IllegalArgumentException", .declares (Bundle.initS "java/lang/RuntimeException"), .declares (Bundle.initS "java/lang/Exception"), .declares (Bundle.initS "java/lang/Throwable")]) (fun w h => hts w (List.mem_cons_of_mem _ (List.mem_append_right _ h))) (by decide +kernel) (vx_c (va_Nw.use rfl (hN.2.2.1 "java/lang/IllegalArgumentException" (by decide +kernel))) (vx_c (va_Nw.use rfl (hN.2.2.2.2.1 "java/lang/RuntimeException" (by decide +kernel))) (vx_c (va_Nw.use rfl (hN.2.2.2.2.1 "java/lang/Exception" (by decide +kernel))) (vx_c (va_Nw.use rfl (hN.2.2.2.2.1 "java/lang/Throwable" (by decide +kernel))) vx_n))))) (by decide +kernel) hT0.1 hT0.2 va_S.rf (hl.1.trans hml.symm) dX2_checkArgument_4 dX2_checkArgument_7 dX2_checkArgument_8 dX2_checkArgument_10 dX2_checkArgument_13 (fun x hx => (htab x hx).elim) (Nat.le_of_ble_eq_true rfl) (Nat.le_of_ble_eq_true rfl) (Nat.le_of_ble_eq_true rfl) (Nat.le_of_ble_eq_true rfl) hlocks (fun t _ hz hk => ⟨⟨rfl, c_1⟩, hz, fun q hq _ => hk q hq⟩) (fun _ h => nomatch h) (Nat.le_of_ble_eq_true rfl) (Nat.le_of_ble_eq_true rfl)

set_option maxHeartbeats 4000000 in
set_option maxRecDepth 100000 in
theorem kX2_checkIndex (l : Launch) (D : va_G) (G : Nat → ClassId) (hl9 : l.stackTraces = false) (P : Prop)  : vx_Met l yX2_checkIndex wsX2_checkIndex ({ frames := 6, cells := 1, slots := 6, locals := 130 }) (zPT [.int (zB (P))] D G (fun H => True)) (zQc none (P)) (zX (fun E => E = zIO ∧ ¬ P)) 1 6 (fun _ => False) := by
  refine vx_ofW (cc := cX2_checkIndex) (maxL := 1) (ret := none) (by decide) rfl ?_
  intro p e s m args below meth c s₁ B hml htab hv
  obtain ⟨hav, hP, hK, hN, hT0⟩ := hv
  have hx := B.exec
  have hb := B.bytes
  have hr := B.returns
  have hts := atoms_spec (ws := wsX2_checkIndex) B.pre
  have hown : s.vm.findClass RX2 = some m.cls := findClass_of_methodNamed B.named
  have hlocks : meth.locks = false := B.notSynchronized
  obtain ⟨sa, hsa⟩ := hN.2.2.2.2.2.2
  refine z_entry hav (Nat.le_of_ble_eq_true rfl) rfl (fun ls hl => ?_)
  have hl : lv_has ls 1 [(0, .int (zB (P)))] := hl
  refine lv_iload_n hx hb dX2_checkIndex_0 rfl (lv_at hl 0 rfl) ?_
  refine z_neB (tgt := 14) hx hb dX2_checkIndex_1 (by decide) (fun c_1 => ?_) (fun c_1 => ?_)
  · exact zc_vret hx hb hr hlocks (c_1) dX2_checkIndex_14 (Nat.le_of_ble_eq_true rfl) (Nat.le_of_ble_eq_true rfl)
  · exact vx_throwS hx hb hl9 (own := RX2) (cls := "java/lang/IndexOutOfBoundsException") (text := "there is no such thing") (names := ["java/lang/RuntimeException", "java/lang/Exception"]) (ik := 213) (is := 215) (ic := 217) (A := fun _ => False) (sa := sa 215) hown (by decide +kernel) (by decide +kernel) (hts (.classLink RX2 213 "java/lang/IndexOutOfBoundsException") (by decide +kernel)) (hts (.initialized "java/lang/IndexOutOfBoundsException") (by decide +kernel)) (hsa (215, "there is no such thing") (by decide +kernel)) (vx_hat (B := [.castable "java/lang/IndexOutOfBoundsException" "java/lang/IndexOutOfBoundsException", .declares (Bundle.initS "java/lang/RuntimeException"), .declares (Bundle.initS "java/lang/Exception"), .declares (Bundle.initS "java/lang/Throwable")]) (fun w h => hts w (List.mem_cons_of_mem _ (List.mem_append_right _ h))) (by decide +kernel) (vx_c (va_Nw.use rfl (hN.2.2.1 "java/lang/IndexOutOfBoundsException" (by decide +kernel))) (vx_c (va_Nw.use rfl (hN.2.2.2.2.1 "java/lang/RuntimeException" (by decide +kernel))) (vx_c (va_Nw.use rfl (hN.2.2.2.2.1 "java/lang/Exception" (by decide +kernel))) (vx_c (va_Nw.use rfl (hN.2.2.2.2.1 "java/lang/Throwable" (by decide +kernel))) vx_n))))) (by decide +kernel) hT0.1 hT0.2 va_S.rf (hl.1.trans hml.symm) dX2_checkIndex_4 dX2_checkIndex_7 dX2_checkIndex_8 dX2_checkIndex_10 dX2_checkIndex_13 (fun x hx => (htab x hx).elim) (Nat.le_of_ble_eq_true rfl) (Nat.le_of_ble_eq_true rfl) (Nat.le_of_ble_eq_true rfl) (Nat.le_of_ble_eq_true rfl) hlocks (fun t _ hz hk => ⟨⟨rfl, c_1⟩, hz, fun q hq _ => hk q hq⟩) (fun _ h => nomatch h) (Nat.le_of_ble_eq_true rfl) (Nat.le_of_ble_eq_true rfl)

set_option maxHeartbeats 4000000 in
set_option maxRecDepth 100000 in
theorem kX2_existingTrack (l : Launch) (D : va_G) (G : Nat → ClassId) (hl9 : l.stackTraces = false) (ax : Nat) (n m9 sp : Int) (τ ζ : Nat → Nat → Int) (g : Nat → Nat → Nat) (cs ss : Nat → Nat → Int32) (hOK : XOK n m9 sp τ ζ) (k : Int) (hr0 : -2147483648 ≤ k ∧ k ≤ 2147483647) : vx_Met l yX2_existingTrack wsX2_existingTrack ({ frames := 6, cells := 1, slots := 6, locals := 130 }) (zPT [.ref ax, .int (zI (k))] D G (fun H => XW D G ax n m9 sp τ ζ g cs ss H)) (zQc (some (.ref (g 1 k.toNat))) (0 ≤ k ∧ k < n)) (zX (fun E => E = zIO ∧ ¬ (0 ≤ k ∧ k < n))) 1 6 (fun _ => False) := by
  refine vx_ofW (cc := cX2_existingTrack) (maxL := 3) (ret := (some (.object "PolyDrums$Track"))) (by decide) rfl ?_
  intro p e s m args below meth c s₁ B hml htab hv
  obtain ⟨hav, hW, hK, hN, hT0⟩ := hv
  have hx := B.exec
  have hb := B.bytes
  have hr := B.returns
  have hts := atoms_spec (ws := wsX2_existingTrack) B.pre
  have hown : s.vm.findClass RX2 = some m.cls := findClass_of_methodNamed B.named
  have hlocks : meth.locks = false := B.notSynchronized
  obtain ⟨sa, hsa⟩ := hN.2.2.2.2.2.2
  obtain ⟨hP, hT, hZ⟩ := id hW
  have hB := id hOK
  obtain ⟨hn0, hn8, hm0, hm12, hsp0, hsp1, -⟩ := hB
  refine z_entry hav (Nat.le_of_ble_eq_true rfl) rfl (fun ls hl => ?_)
  have hl : lv_has ls 3 [(0, .ref ax), (1, .int (zI (k)))] := hl
  refine lv_aload_n hx hb dX2_existingTrack_0 rfl (lv_at hl 0 rfl) ?_
  refine lv_iload_n hx hb dX2_existingTrack_1 rfl (lv_at hl 1 rfl) ?_
  refine z_call (va_runV (As := [.int (zI (k))]) (rest := []) ⟨hx, hb, hml, hown, hts⟩ (kX2_trackOrNull l D G ax n m9 sp τ ζ g cs ss hOK (k) (by omega)) (cwV 1 hts gX2_existingTrack_X2_trackOrNull rfl rfl rfl (by decide +kernel) ⟨Nat.le_of_ble_eq_true rfl, Nat.le_of_ble_eq_true rfl⟩) (zPreV (va_recv hK hP (ci := 2) (q0 := 0) rfl rfl) hK hN (hW)) rfl rfl hl.1 rfl (lv_room (Nat.le_of_ble_eq_true rfl)) dX2_existingTrack_2 ⟨Nat.le_of_ble_eq_true rfl, Nat.le_of_ble_eq_true rfl⟩) ?_
  rcases Classical.em (0 ≤ (k) ∧ (k) < n) with hin | hin
  · refine z_top (w := .ref (g 1 ((k)).toNat)) (by rw [xOpt_t hin]; rfl) ?_
    refine lv_astore_n (lv' := [(2, .ref (g 1 ((k)).toNat)), (0, .ref ax), (1, .int (zI (k)))]) hx hb dX2_existingTrack_5 rfl hl (by decide) rfl (fun ls hl => ?_)
    refine lv_aload_n hx hb dX2_existingTrack_6 rfl (lv_at hl 0 rfl) ?_
    refine lv_ifnonnull (tgt := 20) hx hb dX2_existingTrack_7 (by decide) ?_
    refine lv_aload_n hx hb dX2_existingTrack_20 rfl (lv_at hl 0 rfl) ?_
    exact zc_aret hx hb hr hlocks (by omega) dX2_existingTrack_21 (Nat.le_of_ble_eq_true rfl) (Nat.le_of_ble_eq_true rfl)
  · refine z_top (w := .null) (by rw [xOpt_f hin]; rfl) ?_
    refine lv_astore_nN (lv' := [(2, .null), (0, .ref ax), (1, .int (zI (k)))]) hx hb dX2_existingTrack_5 rfl hl (by decide) rfl (fun ls hl => ?_)
    refine lv_aload_nN hx hb dX2_existingTrack_6 rfl (lv_at hl 0 rfl) ?_
    refine lv_ifnonnullN hx hb dX2_existingTrack_7 ?_
    exact vx_throwS hx hb hl9 (own := RX2) (cls := "java/lang/IndexOutOfBoundsException") (text := "there is no such track") (names := ["java/lang/RuntimeException", "java/lang/Exception"]) (ik := 213) (is := 218) (ic := 217) (A := fun _ => False) (sa := sa 218) hown (by decide +kernel) (by decide +kernel) (hts (.classLink RX2 213 "java/lang/IndexOutOfBoundsException") (by decide +kernel)) (hts (.initialized "java/lang/IndexOutOfBoundsException") (by decide +kernel)) (hsa (218, "there is no such track") (by decide +kernel)) (vx_hat (B := [.castable "java/lang/IndexOutOfBoundsException" "java/lang/IndexOutOfBoundsException", .declares (Bundle.initS "java/lang/RuntimeException"), .declares (Bundle.initS "java/lang/Exception"), .declares (Bundle.initS "java/lang/Throwable")]) (fun w h => hts w (List.mem_cons_of_mem _ (List.mem_append_right _ h))) (by decide +kernel) (vx_c (va_Nw.use rfl (hN.2.2.1 "java/lang/IndexOutOfBoundsException" (by decide +kernel))) (vx_c (va_Nw.use rfl (hN.2.2.2.2.1 "java/lang/RuntimeException" (by decide +kernel))) (vx_c (va_Nw.use rfl (hN.2.2.2.2.1 "java/lang/Exception" (by decide +kernel))) (vx_c (va_Nw.use rfl (hN.2.2.2.2.1 "java/lang/Throwable" (by decide +kernel))) vx_n))))) (by decide +kernel) hT0.1 hT0.2 va_S.rf (hl.1.trans hml.symm) dX2_existingTrack_10 dX2_existingTrack_13 dX2_existingTrack_14 dX2_existingTrack_16 dX2_existingTrack_19 (fun x hx => (htab x hx).elim) (Nat.le_of_ble_eq_true rfl) (Nat.le_of_ble_eq_true rfl) (Nat.le_of_ble_eq_true rfl) (Nat.le_of_ble_eq_true rfl) hlocks (fun t _ hz hk => ⟨⟨rfl, by omega⟩, hz, fun q hq _ => hk q hq⟩) (fun _ h => nomatch h) (Nat.le_of_ble_eq_true rfl) (Nat.le_of_ble_eq_true rfl)

set_option maxHeartbeats 4000000 in
set_option maxRecDepth 100000 in
theorem kX2_trackWithStep (l : Launch) (D : va_G) (G : Nat → ClassId) (hl9 : l.stackTraces = false) (ax : Nat) (n m9 sp : Int) (τ ζ : Nat → Nat → Int) (g : Nat → Nat → Nat) (cs ss : Nat → Nat → Int32) (hOK : XOK n m9 sp τ ζ) (k s9 : Int) (hr0 : -2147483648 ≤ k ∧ k ≤ 2147483647) (hr1 : -2147483648 ≤ s9 ∧ s9 ≤ 2147483647) : vx_Met l yX2_trackWithStep wsX2_trackWithStep ({ frames := 7, cells := 2, slots := 12, locals := 152 }) (zPT [.ref ax, .int (zI (k)), .int (zI (s9))] D G (fun H => XW D G ax n m9 sp τ ζ g cs ss H)) (zQc (some (.ref (g 1 (k).toNat))) (0 ≤ k ∧ k < n ∧ 0 ≤ s9 ∧ s9 < τ k.toNat 0)) (zX (fun E => E = zIO ∧ ¬ (0 ≤ k ∧ k < n ∧ 0 ≤ s9 ∧ s9 < τ k.toNat 0))) 2 12 (fun _ => False) := by
  refine vx_ofW (cc := cX2_trackWithStep) (maxL := 4) (ret := (some (.object "PolyDrums$Track"))) (by decide) rfl ?_
  intro p e s m args below meth c s₁ B hml htab hv
  obtain ⟨hav, hW, hK, hN, hT0⟩ := hv
  have hx := B.exec
  have hb := B.bytes
  have hr := B.returns
  have hts := atoms_spec (ws := wsX2_trackWithStep) B.pre
  have hown : s.vm.findClass RX2 = some m.cls := findClass_of_methodNamed B.named
  have hlocks : meth.locks = false := B.notSynchronized
  have hin1 : ∀ w ∈ u_ws RX1 TX1 10, w ∈ wsX2_trackWithStep := by decide +kernel
  obtain ⟨hP, hT, hZ⟩ := id hW
  have hB := id hOK
  obtain ⟨hn0, hn8, hm0, hm12, hsp0, hsp1, -⟩ := hB
  refine z_entry hav (Nat.le_of_ble_eq_true rfl) rfl (fun ls hl => ?_)
  have hl : lv_has ls 4 [(0, .ref ax), (1, .int (zI (k))), (2, .int (zI (s9)))] := hl
  refine lv_aload_n hx hb dX2_trackWithStep_0 rfl (lv_at hl 0 rfl) ?_
  refine lv_iload_n hx hb dX2_trackWithStep_1 rfl (lv_at hl 1 rfl) ?_
  refine z_callX (vx_runV (As := [.int (zI (k))]) (rest := []) ⟨hx, hb, hml, hown, hts⟩ (kX2_existingTrack l D G hl9 ax n m9 sp τ ζ g cs ss hOK (k) (by omega)) (cwV 1 hts gX2_trackWithStep_X2_existingTrack rfl rfl rfl (by decide +kernel) ⟨Nat.le_of_ble_eq_true rfl, Nat.le_of_ble_eq_true rfl⟩) (zPTreV (va_recv hK hP (ci := 2) (q0 := 0) rfl rfl) hK hN hT0 (hW)) rfl rfl hl.1 rfl (lv_room (Nat.le_of_ble_eq_true rfl)) dX2_trackWithStep_2 ⟨Nat.le_of_ble_eq_true rfl, Nat.le_of_ble_eq_true rfl⟩) (fun E ce q9 H1 hco hz hk1 hce hcv hcl => ?_) (fun hp_1 => ?_)
  · exact zx_out htab hlocks hz hk1 hce hcv hcl (by first | exact (hco.2 trivial).elim | exact ⟨hco.1, by have h9 := hco.2; omega⟩ | exact Or.inl ⟨hco.1, by have h9 := hco.2; omega⟩ | exact Or.inr ⟨hco.1, by omega, by have h9 := hco.2; omega⟩) (Nat.le_of_ble_eq_true rfl) (Nat.le_of_ble_eq_true rfl)
  have htb := hOK.tb (k := k) (by omega)
  refine lv_astore_n (lv' := [(3, .ref (g 1 (k).toNat)), (0, .ref ax), (1, .int (zI (k))), (2, .int (zI (s9)))]) hx hb dX2_trackWithStep_5 rfl hl (by decide) rfl (fun ls hl => ?_)
  refine lv_iload_n hx hb dX2_trackWithStep_6 rfl (lv_at hl 3 rfl) ?_
  refine lv_iconst (v := zI (0)) hx hb dX2_trackWithStep_7 rfl ?_
  refine lv_aload_n hx hb dX2_trackWithStep_8 rfl (lv_at hl 0 rfl) ?_
  refine va_getN (D := D) (ci := 1) (v := .int (zI ((τ (k).toNat) 0))) (C := RX1) (T := TX1) (N := 10) hx hb hts hin1 hown hK (hT (k).toNat (by omega)).1 0 rfl rfl 1 (by decide) (va_Nw.use rfl (hN.2.1 (91, RX1, "steps", "I") (by decide))) (fun _ h9 => h9) rfl dX2_trackWithStep_9 ?_
  refine lv_iconst (v := zI (1)) hx hb dX2_trackWithStep_12 rfl ?_
  refine z_isub hx hb dX2_trackWithStep_13 ?_
  refine z_call (va_runS (As := [.int (zI (s9)), .int (zI (0)), .int (zI (((τ (k).toNat) 0) - (1)))]) (rest := []) ⟨hx, hb, hml, hown, hts⟩ (kX2_isWithin l D G (s9) (0) (((τ (k).toNat) 0) - (1)) (by omega) (by omega) (by omega)) (va_cwS 3 hts gX2_trackWithStep_X2_isWithin rfl rfl rfl (by decide +kernel) ⟨Nat.le_of_ble_eq_true rfl, Nat.le_of_ble_eq_true rfl⟩) (zPreS hK hN (trivial)) rfl rfl hl.1 rfl (lv_room (Nat.le_of_ble_eq_true rfl)) dX2_trackWithStep_14 ⟨Nat.le_of_ble_eq_true rfl, Nat.le_of_ble_eq_true rfl⟩) ?_
  refine z_callX (vx_runS (As := [.int (zB ((0) ≤ (s9) ∧ (s9) ≤ (((τ (k).toNat) 0) - (1))))]) (rest := []) ⟨hx, hb, hml, hown, hts⟩ (kX2_checkIndex l D G hl9 ((0) ≤ (s9) ∧ (s9) ≤ (((τ (k).toNat) 0) - (1)))) (va_cwS 1 hts gX2_trackWithStep_X2_checkIndex rfl rfl rfl (by decide +kernel) ⟨Nat.le_of_ble_eq_true rfl, Nat.le_of_ble_eq_true rfl⟩) (zPTreS hK hN hT0 (trivial)) rfl rfl hl.1 rfl (lv_room (Nat.le_of_ble_eq_true rfl)) dX2_trackWithStep_17 ⟨Nat.le_of_ble_eq_true rfl, Nat.le_of_ble_eq_true rfl⟩) (fun E ce q9 H1 hco hz hk1 hce hcv hcl => ?_) (fun hp_2 => ?_)
  · exact zx_out htab hlocks hz hk1 hce hcv hcl (by first | exact (hco.2 trivial).elim | exact ⟨hco.1, by have h9 := hco.2; omega⟩ | exact Or.inl ⟨hco.1, by have h9 := hco.2; omega⟩ | exact Or.inr ⟨hco.1, by omega, by have h9 := hco.2; omega⟩) (Nat.le_of_ble_eq_true rfl) (Nat.le_of_ble_eq_true rfl)
  refine lv_aload_n hx hb dX2_trackWithStep_20 rfl (lv_at hl 0 rfl) ?_
  exact zc_aret hx hb hr hlocks (by omega) dX2_trackWithStep_21 (Nat.le_of_ble_eq_true rfl) (Nat.le_of_ble_eq_true rfl)

set_option maxHeartbeats 4000000 in
set_option maxRecDepth 100000 in
theorem kX2_track (l : Launch) (D : va_G) (G : Nat → ClassId) (hl9 : l.stackTraces = false) (ax : Nat) (n m9 sp : Int) (τ ζ : Nat → Nat → Int) (g : Nat → Nat → Nat) (cs ss : Nat → Nat → Int32) (hOK : XOK n m9 sp τ ζ) (k w9 : Int) (hr0 : -2147483648 ≤ k ∧ k ≤ 2147483647) (hr1 : -2147483648 ≤ w9 ∧ w9 ≤ 2147483647) : vx_Met l yX2_track wsX2_track ({ frames := 7, cells := 2, slots := 12, locals := 152 }) (zPT [.ref ax, .int (zI (k)), .int (zI (w9))] D G (fun H => XW D G ax n m9 sp τ ζ g cs ss H)) (zQc (some (.int (zI (τ k.toNat w9.toNat)))) (0 ≤ k ∧ k < n ∧ 0 ≤ w9 ∧ w9 ≤ 7)) (zX (fun E => E = zIO ∧ ¬ (0 ≤ k ∧ k < n ∧ 0 ≤ w9 ∧ w9 ≤ 7))) 2 12 (fun _ => False) := by
  refine vx_ofW (cc := cX2_track) (maxL := 4) (ret := (some .int)) (by decide) rfl ?_
  intro p e s m args below meth c s₁ B hml htab hv
  obtain ⟨hav, hW, hK, hN, hT0⟩ := hv
  have hx := B.exec
  have hb := B.bytes
  have hr := B.returns
  have hts := atoms_spec (ws := wsX2_track) B.pre
  have hown : s.vm.findClass RX2 = some m.cls := findClass_of_methodNamed B.named
  have hlocks : meth.locks = false := B.notSynchronized
  obtain ⟨hP, hT, hZ⟩ := id hW
  have hB := id hOK
  obtain ⟨hn0, hn8, hm0, hm12, hsp0, hsp1, -⟩ := hB
  refine z_entry hav (Nat.le_of_ble_eq_true rfl) rfl (fun ls hl => ?_)
  have hl : lv_has ls 4 [(0, .ref ax), (1, .int (zI (k))), (2, .int (zI (w9)))] := hl
  refine lv_aload_n hx hb dX2_track_0 rfl (lv_at hl 0 rfl) ?_
  refine lv_iload_n hx hb dX2_track_1 rfl (lv_at hl 1 rfl) ?_
  refine z_callX (vx_runV (As := [.int (zI (k))]) (rest := []) ⟨hx, hb, hml, hown, hts⟩ (kX2_existingTrack l D G hl9 ax n m9 sp τ ζ g cs ss hOK (k) (by omega)) (cwV 1 hts gX2_track_X2_existingTrack rfl rfl rfl (by decide +kernel) ⟨Nat.le_of_ble_eq_true rfl, Nat.le_of_ble_eq_true rfl⟩) (zPTreV (va_recv hK hP (ci := 2) (q0 := 0) rfl rfl) hK hN hT0 (hW)) rfl rfl hl.1 rfl (lv_room (Nat.le_of_ble_eq_true rfl)) dX2_track_2 ⟨Nat.le_of_ble_eq_true rfl, Nat.le_of_ble_eq_true rfl⟩) (fun E ce q9 H1 hco hz hk1 hce hcv hcl => ?_) (fun hp_1 => ?_)
  · exact zx_out htab hlocks hz hk1 hce hcv hcl (by first | exact (hco.2 trivial).elim | exact ⟨hco.1, by have h9 := hco.2; omega⟩ | exact Or.inl ⟨hco.1, by have h9 := hco.2; omega⟩ | exact Or.inr ⟨hco.1, by omega, by have h9 := hco.2; omega⟩) (Nat.le_of_ble_eq_true rfl) (Nat.le_of_ble_eq_true rfl)
  have htb := hOK.tb (k := k) (by omega)
  refine lv_astore_n (lv' := [(3, .ref (g 1 (k).toNat)), (0, .ref ax), (1, .int (zI (k))), (2, .int (zI (w9)))]) hx hb dX2_track_5 rfl hl (by decide) rfl (fun ls hl => ?_)
  refine lv_iload_n hx hb dX2_track_6 rfl (lv_at hl 3 rfl) ?_
  refine lv_iconst (v := zI (0)) hx hb dX2_track_7 rfl ?_
  refine lv_bipush (v := zI (7)) hx hb dX2_track_8 (by decide) ?_
  refine z_call (va_runS (As := [.int (zI (w9)), .int (zI (0)), .int (zI (7))]) (rest := []) ⟨hx, hb, hml, hown, hts⟩ (kX2_isWithin l D G (w9) (0) (7) (by omega) (by omega) (by omega)) (va_cwS 3 hts gX2_track_X2_isWithin rfl rfl rfl (by decide +kernel) ⟨Nat.le_of_ble_eq_true rfl, Nat.le_of_ble_eq_true rfl⟩) (zPreS hK hN (trivial)) rfl rfl hl.1 rfl (lv_room (Nat.le_of_ble_eq_true rfl)) dX2_track_10 ⟨Nat.le_of_ble_eq_true rfl, Nat.le_of_ble_eq_true rfl⟩) ?_
  refine z_callX (vx_runS (As := [.int (zB ((0) ≤ (w9) ∧ (w9) ≤ (7)))]) (rest := []) ⟨hx, hb, hml, hown, hts⟩ (kX2_checkIndex l D G hl9 ((0) ≤ (w9) ∧ (w9) ≤ (7))) (va_cwS 1 hts gX2_track_X2_checkIndex rfl rfl rfl (by decide +kernel) ⟨Nat.le_of_ble_eq_true rfl, Nat.le_of_ble_eq_true rfl⟩) (zPTreS hK hN hT0 (trivial)) rfl rfl hl.1 rfl (lv_room (Nat.le_of_ble_eq_true rfl)) dX2_track_13 ⟨Nat.le_of_ble_eq_true rfl, Nat.le_of_ble_eq_true rfl⟩) (fun E ce q9 H1 hco hz hk1 hce hcv hcl => ?_) (fun hp_2 => ?_)
  · exact zx_out htab hlocks hz hk1 hce hcv hcl (by first | exact (hco.2 trivial).elim | exact ⟨hco.1, by have h9 := hco.2; omega⟩ | exact Or.inl ⟨hco.1, by have h9 := hco.2; omega⟩ | exact Or.inr ⟨hco.1, by omega, by have h9 := hco.2; omega⟩) (Nat.le_of_ble_eq_true rfl) (Nat.le_of_ble_eq_true rfl)
  refine lv_aload_n hx hb dX2_track_16 rfl (lv_at hl 0 rfl) ?_
  refine lv_iload_n hx hb dX2_track_17 rfl (lv_at hl 3 rfl) ?_
  refine z_call (va_runVN (As := [.int (zI (w9))]) (rest := []) ⟨hx, hb, hml, hown, hts⟩ (kX1_setting l D G (g 1 (k).toNat) (g 2 (k).toNat) (g 3 (k).toNat) (τ (k).toNat) (w9) (by omega) (by have := (hOK.t (k := k) (by omega)); unfold TOK at this; omega)) ⟨va_cnB 1 hts gX2_track_X1_setting_n72 rfl rfl rfl (hN.1 (RX2, 72, yX1_setting) (by decide +kernel)) (hts (.initialized RX1) (by decide +kernel)) (by decide +kernel) ⟨Nat.le_of_ble_eq_true rfl, Nat.le_of_ble_eq_true rfl⟩, hts (.instanceMethod yX1_setting) (by decide +kernel), hts (.selects RX1 yX1_setting yX1_setting) (by decide +kernel)⟩ (zPreV (va_recv hK (hT (k).toNat (by omega)).1 (ci := 1) (q0 := 0) rfl rfl) hK hN ((hT (k).toNat (by omega)).1.sub [0] rfl)) rfl rfl hl.1 rfl (lv_room (Nat.le_of_ble_eq_true rfl)) dX2_track_18 ⟨Nat.le_of_ble_eq_true rfl, Nat.le_of_ble_eq_true rfl⟩) ?_
  exact zc_iret hx hb hr hlocks (by first | rfl | omega) (by omega) dX2_track_21 (Nat.le_of_ble_eq_true rfl) (Nat.le_of_ble_eq_true rfl)
