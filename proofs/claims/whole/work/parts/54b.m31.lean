set_option maxHeartbeats 4000000 in
set_option maxRecDepth 100000 in
theorem lc_7 (l : Launch) (hl9 : l.stackTraces = false) {p : Program} {e : Env} {s : State} {m : MethodId} {below : List Frame} {meth : Method} {c : Code} {H : Heap} {locs : List Loc} {cells slots : Nat} {Q : State → Prop} {D : va_G} {G : Nat → ClassId} {b L : Nat} {xs : Nat → Int32} {ax am o1 o2 : Nat} {h : Nat → Nat} {th : Int} {ls : Array Slot} (hx : p.tables.exec = Jvm.exec) (hb : c.code = cL_law) (hml : c.maxLocals = 9) (hown : s.vm.findClass RL = some m.cls) (hts : ∀ w ∈ wsL_law, w.before #[Value.ref b] s = true) (hK : va_K D vwCl (zTy G) s) (hN : zN s) (hT0 : zT s s.heap) (hX : va_X b L xs s s.heap) (hbl : b < s.heap.size) (hL9 : L ≤ 2560) (hce : cells + 20 ≤ 601024) (hsl : slots + 3000 ≤ 7293034) (hS : va_S (fun q => s.heap.size ≤ q) s.heap H locs) (hI : LI D G ax am o1 o2 s.heap.size h th H) (i : Int) (hi : 0 ≤ i ∧ i + 5 ≤ L) (x1 : Int) (hv1 : xs (i + 1).toNat = zI x1) (hr1 : -2147483648 ≤ x1 ∧ x1 ≤ 2147483647) (x2 : Int) (hv2 : xs (i + 2).toNat = zI x2) (hr2 : -2147483648 ≤ x2 ∧ x2 ≤ 2147483647) (x3 : Int) (hv3 : xs (i + 3).toNat = zI x3) (hr3 : -2147483648 ≤ x3 ∧ x3 ≤ 2147483647) (x4 : Int) (hv4 : xs (i + 4).toNat = zI x4) (hr4 : -2147483648 ≤ x4 ∧ x4 ≤ 2147483647) (hl : lv_has ls 9 [(0, .ref b), (1, .ref ax), (2, .ref am), (3, .ref o1), (4, .ref o2), (5, .int (zI (i)))]) (kk : ∀ (H1 : Heap) (locs1 : List Loc) (th1 : Int) (ls1 : Array Slot), va_S (fun q => s.heap.size ≤ q) s.heap H1 locs1 → LI D G ax am o1 o2 s.heap.size h th1 H1 → lv_has ls1 9 [(0, .ref b), (1, .ref ax), (2, .ref am), (3, .ref o1), (4, .ref o2), (5, .int (zI (i)))] → W p l e room_1 s m #[Value.ref b] below meth c H1 locs1 (cells + 20) (slots + 3000) Q (F0 m 1999 ls1 [])) : W p l e room_1 s m #[Value.ref b] below meth c H locs cells slots Q (F0 m 767 ls []) := by
  obtain ⟨lab, n, m9, sp, τ, ζ, g, cs, ss, M, hOK, hM, hXL, hML, ho1, ho2, hz0, hW, hPm, ⟨f1, hO1⟩, ⟨f2, hO2⟩⟩ := id hI
  refine lv_aload_n hx hb dL_law_767 rfl (lv_at hl 1 rfl) ?_
  refine lv_aload_n hx hb dL_law_768 rfl (lv_at hl 0 rfl) ?_
  refine lv_iload hx hb dL_law_769 (lv_at hl 5 rfl) ?_
  refine lv_iconst (v := zI (1)) hx hb dL_law_771 rfl ?_
  refine z_iadd hx hb dL_law_772 ?_
  refine z_sld hx hb hX hbl (Nat.not_le.mpr hbl) hS (i := i + 1) (x := x1) (by omega) (by omega) hv1 dL_law_773 ?_
  refine lv_aload_n hx hb dL_law_774 rfl (lv_at hl 0 rfl) ?_
  refine lv_iload hx hb dL_law_775 (lv_at hl 5 rfl) ?_
  refine lv_iconst (v := zI (2)) hx hb dL_law_777 rfl ?_
  refine z_iadd hx hb dL_law_778 ?_
  refine z_sld hx hb hX hbl (Nat.not_le.mpr hbl) hS (i := i + 2) (x := x2) (by omega) (by omega) hv2 dL_law_779 ?_
  refine lv_aload_n hx hb dL_law_780 rfl (lv_at hl 0 rfl) ?_
  refine lv_iload hx hb dL_law_781 (lv_at hl 5 rfl) ?_
  refine lv_iconst (v := zI (3)) hx hb dL_law_783 rfl ?_
  refine z_iadd hx hb dL_law_784 ?_
  refine z_sld hx hb hX hbl (Nat.not_le.mpr hbl) hS (i := i + 3) (x := x3) (by omega) (by omega) hv3 dL_law_785 ?_
  refine lv_aload_n hx hb dL_law_786 rfl (lv_at hl 3 rfl) ?_
  have hAL : ∀ q : Nat, LA lab o1 H.size q → s.heap.size ≤ q := fun q h9 => Nat.not_lt.mp (fun h8 => by have h7 := hz0 q h8; have h6 := hS.1; rcases h9 with h9 | h9 | h9 <;> first | omega | (rw [h9] at h7; omega))
  refine z_callM (vx_runSW (As := [.ref ax, .int (zI (x1)), .int (zI (x2)), .int (zI (x3)), .ref o1]) (rest := []) ⟨hx, hb, hml, hown, hts⟩ (kL_spread l D G hl9 ax n m9 sp τ ζ g cs ss hOK lab hXL o1 H.size f1 (by omega) (x1) (x2) (x3) hr1 hr2 hr3) (vx_cwSW 5 hts gL_law_L_spread rfl rfl rfl (by decide +kernel) ⟨Nat.le_of_ble_eq_true rfl, Nat.le_of_ble_eq_true rfl⟩) (zPTreS hK hN (zT.kp hT0 hS) ⟨rfl, hW, hO1⟩) rfl rfl hl.1 rfl (lv_room (Nat.le_of_ble_eq_true rfl)) dL_law_787 ⟨z_rc (by omega), z_rs (by omega)⟩) hS (fun q _ h9 => hAL q h9) hAL (fun H1 locs1 hp1 hz1 hk1 hS1 => ?_)
  obtain ⟨g', lab', cs', ss', hqC, hqN, hlb⟩ := hp1
  have hMLn := hML.same hPm hlb
  have ho1n : lab' o1 = 200 := (hlb _ (o_lt hO1)).trans ho1
  have ho2n : lab' o2 = 201 := (hlb _ (o_lt hO2)).trans ho2
  have hz0n : ∀ q : Nat, q < s.heap.size → lab' q = 300 := fun q hq => (hlb q (Nat.lt_of_lt_of_le hq hS.1)).trans (hz0 q hq)
  have hPm1 := mW.kp hPm hML (fun q hq h1 h2 => hk1 q hq (fun h9 => by rcases h9 with h9 | h9 | h9 <;> first | omega | (rw [h9] at h2; omega)))
  have hOx := o_kp hO2 (fun hq => hk1 o2 hq (fun h9 => by rcases h9 with h9 | h9 | h9 <;> first | omega | (rw [h9] at ho2; omega)))
  refine lv_istore (lv' := [(6, .int (zI (if 0 ≤ (x1) ∧ (x1) < n then (if (0 ≤ (x2) ∧ (x2) ≤ τ (x1).toNat 0) ∧ (1 ≤ (x3) ∧ (x3) ≤ 127) then 0 else 2) else 1))), (0, .ref b), (1, .ref ax), (2, .ref am), (3, .ref o1), (4, .ref o2), (5, .int (zI (i)))]) hx hb dL_law_790 hl (by decide) rfl (fun ls hl => ?_)
  refine lv_aload_n hx hb dL_law_792 rfl (lv_at hl 3 rfl) ?_
  refine lv_aload_n hx hb dL_law_793 rfl (lv_at hl 1 rfl) ?_
  refine lv_iload hx hb dL_law_794 (lv_at hl 6 rfl) ?_
  refine lv_iconst (v := zI (1)) hx hb dL_law_796 rfl ?_
  refine z_iadd hx hb dL_law_797 ?_
  refine z_sld hx hb hX hbl (Nat.not_le.mpr hbl) hS1 (i := i + 1) (x := x1) (by omega) (by omega) hv1 dL_law_798 ?_
  refine lv_aload_n hx hb dL_law_799 rfl (lv_at hl 1 rfl) ?_
  refine lv_iload hx hb dL_law_800 (lv_at hl 6 rfl) ?_
  refine lv_iconst (v := zI (2)) hx hb dL_law_802 rfl ?_
  refine z_iadd hx hb dL_law_803 ?_
  refine z_sld hx hb hX hbl (Nat.not_le.mpr hbl) hS1 (i := i + 2) (x := x2) (by omega) (by omega) hv2 dL_law_804 ?_
  refine lv_aload_n hx hb dL_law_805 rfl (lv_at hl 1 rfl) ?_
  refine lv_iload hx hb dL_law_806 (lv_at hl 6 rfl) ?_
  refine lv_iconst (v := zI (3)) hx hb dL_law_808 rfl ?_
  refine z_iadd hx hb dL_law_809 ?_
  refine z_sld hx hb hX hbl (Nat.not_le.mpr hbl) hS1 (i := i + 3) (x := x3) (by omega) (by omega) hv3 dL_law_810 ?_
  have hAM : ∀ q : Nat, zA [am, h 0, h 1, h 2, h 3, h 4, h 5, h 6, h 7, h 8, h 9] q → s.heap.size ≤ q := fun q h9 => Nat.not_lt.mp (fun h8 => by have h7 := hz0n q h8; have h6 := hMLn.in h9; omega)
  refine z_callM (va_runV (As := [.int (zI (x1)), .int (zI (x2)), .int (zI (x3))]) (rest := []) ⟨hx, hb, hml, hown, hts⟩ (kX3_spread l D G am th n m9 sp τ ζ h M hOK hM hMLn.nd (x1) (x2) (x3) hr1 hr2 hr3) (cwV 3 hts gL_law_X3_spread rfl rfl rfl (by decide +kernel) ⟨Nat.le_of_ble_eq_true rfl, Nat.le_of_ble_eq_true rfl⟩) (zPreV (va_recv hK hPm1 (ci := 3) (q0 := 0) rfl rfl) hK hN (hPm1)) rfl rfl hl.1 rfl (lv_room (Nat.le_of_ble_eq_true rfl)) dL_law_811 ⟨z_rc (by omega), z_rs (by omega)⟩) hS1 (fun q _ h9 => hAM q h9) hAM (fun H2 locs2 hp2 hz2 hk2 hS2 => ?_)
  have hfr : ∀ q : Nat, q < H1.size → (lab' q < 100 ∨ 200 ≤ lab' q) → H2[q]? = H1[q]? := fun q hq hl8 => hk2 q hq (fun h9 => by have h6 := hMLn.in h9; omega)
  obtain ⟨M', hPm2, hMC, hMN⟩ := hp2
  have hfin := LI.fin (D := D) (G := G) (C := (0 ≤ (x1) ∧ (x1) < n) ∧ ((0 ≤ (x2) ∧ (x2) ≤ τ (x1).toNat 0) ∧ (1 ≤ (x3) ∧ (x3) ≤ 127))) (v := (zI (xLast (τ (x1).toNat 0) (x2) (τ (x1).toNat 0).toNat)).toInt64) hOK (fun hC => hOK.up (xSpr_ok (hOK.t (k := (x1)) hC.1) hC.2.2)) hM hMC hMN hMLn ho1n ho2n hz0n hqC hqN ⟨f2, hOx⟩ hPm2 (fun hC => ⟨rfl, rfl, rfl⟩) (fun hC => ⟨rfl, rfl, rfl⟩) hfr
  obtain ⟨hI2, hval⟩ := hfin
  obtain ⟨lab2, n2, m2, sp2, τ2, ζ2, g2, cs2, ss2, M2, hOK2, hM2, hXL2, hML2, -, -, -, -, hPm3, -, -⟩ := id hI2
  refine lv_istore (lv' := [(7, .int (zI (if 0 ≤ (x1) ∧ (x1) < n then (if (0 ≤ (x2) ∧ (x2) ≤ τ (x1).toNat 0) ∧ (1 ≤ (x3) ∧ (x3) ≤ 127) then (xLast (τ (x1).toNat 0) (x2) (τ (x1).toNat 0).toNat) else 0) else 0))), (6, .int (zI (if 0 ≤ (x1) ∧ (x1) < n then (if (0 ≤ (x2) ∧ (x2) ≤ τ (x1).toNat 0) ∧ (1 ≤ (x3) ∧ (x3) ≤ 127) then 0 else 2) else 1))), (0, .ref b), (1, .ref ax), (2, .ref am), (3, .ref o1), (4, .ref o2), (5, .int (zI (i)))]) hx hb dL_law_814 hl (by decide) rfl (fun ls hl => ?_)
  refine lv_aload_n hx hb dL_law_816 rfl (lv_at hl 4 rfl) ?_
  refine z_call (va_runV (As := []) (rest := []) ⟨hx, hb, hml, hown, hts⟩ (kX3_thrown l D G am (if 0 ≤ (x1) ∧ (x1) < n then (if (0 ≤ (x2) ∧ (x2) ≤ τ (x1).toNat 0) ∧ (1 ≤ (x3) ∧ (x3) ≤ 127) then 0 else 2) else 1) n2 m2 sp2 τ2 ζ2 h M2 hOK2 hM2) (cwV 0 hts gL_law_X3_thrown rfl rfl rfl (by decide +kernel) ⟨Nat.le_of_ble_eq_true rfl, Nat.le_of_ble_eq_true rfl⟩) (zPreV (va_recv hK hPm3 (ci := 3) (q0 := 0) rfl rfl) hK hN (hPm3)) rfl rfl hl.1 rfl (lv_room (Nat.le_of_ble_eq_true rfl)) dL_law_817 ⟨z_rc (by omega), z_rs (by omega)⟩) ?_
  refine lv_iload hx hb dL_law_820 (lv_at hl 1 rfl) ?_
  refine lv_icmp_eq (tgt := 827) hx hb dL_law_822 (by decide) (fun _ => ?_) (fun c9 => absurd rfl c9)
  refine lv_iload hx hb dL_law_827 (lv_at hl 1 rfl) ?_
  refine lv_if_ne (tgt := 844) hx hb dL_law_829 (by decide) (fun _ => ?_) (fun c9 => ?_)
  · refine lv_goto (tgt := 1999) hx hb dL_law_844 (by decide) ?_
    refine W.widen (k := cells + 20) (n := slots + 3000) (by omega) (by omega) ?_
    exact kk _ _ _ _ hS2 hI2 (lv_sub hl [2, 3, 4, 5, 6, 7] rfl)
  · have hC := zK2 c9
    obtain ⟨f9, hf9, hPo9⟩ := hval hC
    refine lv_aload_n hx hb dL_law_832 rfl (lv_at hl 5 rfl) ?_
    refine lv_iconst (v := zI (0)) hx hb dL_law_833 rfl ?_
    refine z_lald (x := (zI (xLast (τ (x1).toNat 0) (x2) (τ (x1).toNat 0).toNat)).toInt64) (D := D) hx hb hK hPo9 0 2 rfl rfl (by omega) (by omega) hf9 dL_law_834 ?_
    refine lv_iload hx hb dL_law_835 (lv_at hl 0 rfl) ?_
    refine lv_i2l (v := (zI (if 0 ≤ (x1) ∧ (x1) < n then (if (0 ≤ (x2) ∧ (x2) ≤ τ (x1).toNat 0) ∧ (1 ≤ (x3) ∧ (x3) ≤ 127) then (xLast (τ (x1).toNat 0) (x2) (τ (x1).toNat 0).toNat) else 0) else 0)).toInt64) hx hb dL_law_837 rfl ?_
    refine W.lcmp hx hb dL_law_838 ?_
    refine lv_if_eq (tgt := 844) hx hb dL_law_839 (by decide) (fun _ => ?_) (fun c8 => absurd (by rw [if_pos hC.1, if_pos hC.2]; exact z_cmp_self _) c8)
    refine lv_goto (tgt := 1999) hx hb dL_law_844 (by decide) ?_
    refine W.widen (k := cells + 20) (n := slots + 3000) (by omega) (by omega) ?_
    exact kk _ _ _ _ hS2 hI2 (lv_sub hl [2, 3, 4, 5, 6, 7] rfl)

set_option maxHeartbeats 4000000 in
set_option maxRecDepth 100000 in
theorem lc_8 (l : Launch) (hl9 : l.stackTraces = false) {p : Program} {e : Env} {s : State} {m : MethodId} {below : List Frame} {meth : Method} {c : Code} {H : Heap} {locs : List Loc} {cells slots : Nat} {Q : State → Prop} {D : va_G} {G : Nat → ClassId} {b L : Nat} {xs : Nat → Int32} {ax am o1 o2 : Nat} {h : Nat → Nat} {th : Int} {ls : Array Slot} (hx : p.tables.exec = Jvm.exec) (hb : c.code = cL_law) (hml : c.maxLocals = 9) (hown : s.vm.findClass RL = some m.cls) (hts : ∀ w ∈ wsL_law, w.before #[Value.ref b] s = true) (hK : va_K D vwCl (zTy G) s) (hN : zN s) (hT0 : zT s s.heap) (hX : va_X b L xs s s.heap) (hbl : b < s.heap.size) (hL9 : L ≤ 2560) (hce : cells + 20 ≤ 601024) (hsl : slots + 3000 ≤ 7293034) (hS : va_S (fun q => s.heap.size ≤ q) s.heap H locs) (hI : LI D G ax am o1 o2 s.heap.size h th H) (i : Int) (hi : 0 ≤ i ∧ i + 5 ≤ L) (x1 : Int) (hv1 : xs (i + 1).toNat = zI x1) (hr1 : -2147483648 ≤ x1 ∧ x1 ≤ 2147483647) (x2 : Int) (hv2 : xs (i + 2).toNat = zI x2) (hr2 : -2147483648 ≤ x2 ∧ x2 ≤ 2147483647) (x3 : Int) (hv3 : xs (i + 3).toNat = zI x3) (hr3 : -2147483648 ≤ x3 ∧ x3 ≤ 2147483647) (x4 : Int) (hv4 : xs (i + 4).toNat = zI x4) (hr4 : -2147483648 ≤ x4 ∧ x4 ≤ 2147483647) (hl : lv_has ls 9 [(0, .ref b), (1, .ref ax), (2, .ref am), (3, .ref o1), (4, .ref o2), (5, .int (zI (i)))]) (kk : ∀ (H1 : Heap) (locs1 : List Loc) (th1 : Int) (ls1 : Array Slot), va_S (fun q => s.heap.size ≤ q) s.heap H1 locs1 → LI D G ax am o1 o2 s.heap.size h th1 H1 → lv_has ls1 9 [(0, .ref b), (1, .ref ax), (2, .ref am), (3, .ref o1), (4, .ref o2), (5, .int (zI (i)))] → W p l e room_1 s m #[Value.ref b] below meth c H1 locs1 (cells + 20) (slots + 3000) Q (F0 m 1999 ls1 [])) : W p l e room_1 s m #[Value.ref b] below meth c H locs cells slots Q (F0 m 847 ls []) := by
  obtain ⟨lab, n, m9, sp, τ, ζ, g, cs, ss, M, hOK, hM, hXL, hML, ho1, ho2, hz0, hW, hPm, ⟨f1, hO1⟩, ⟨f2, hO2⟩⟩ := id hI
  refine lv_aload_n hx hb dL_law_847 rfl (lv_at hl 1 rfl) ?_
  refine lv_aload_n hx hb dL_law_848 rfl (lv_at hl 0 rfl) ?_
  refine lv_iload hx hb dL_law_849 (lv_at hl 5 rfl) ?_
  refine lv_iconst (v := zI (1)) hx hb dL_law_851 rfl ?_
  refine z_iadd hx hb dL_law_852 ?_
  refine z_sld hx hb hX hbl (Nat.not_le.mpr hbl) hS (i := i + 1) (x := x1) (by omega) (by omega) hv1 dL_law_853 ?_
  refine lv_aload_n hx hb dL_law_854 rfl (lv_at hl 0 rfl) ?_
  refine lv_iload hx hb dL_law_855 (lv_at hl 5 rfl) ?_
  refine lv_iconst (v := zI (2)) hx hb dL_law_857 rfl ?_
  refine z_iadd hx hb dL_law_858 ?_
  refine z_sld hx hb hX hbl (Nat.not_le.mpr hbl) hS (i := i + 2) (x := x2) (by omega) (by omega) hv2 dL_law_859 ?_
  refine lv_aload_n hx hb dL_law_860 rfl (lv_at hl 3 rfl) ?_
  have hAL : ∀ q : Nat, LA lab o1 H.size q → s.heap.size ≤ q := fun q h9 => Nat.not_lt.mp (fun h8 => by have h7 := hz0 q h8; have h6 := hS.1; rcases h9 with h9 | h9 | h9 <;> first | omega | (rw [h9] at h7; omega))
  refine z_callM (vx_runSW (As := [.ref ax, .int (zI (x1)), .int (zI (x2)), .ref o1]) (rest := []) ⟨hx, hb, hml, hown, hts⟩ (kL_rotate l D G hl9 ax n m9 sp τ ζ g cs ss hOK lab hXL o1 H.size f1 (by omega) (x1) (x2) hr1 hr2) (vx_cwSW 4 hts gL_law_L_rotate rfl rfl rfl (by decide +kernel) ⟨Nat.le_of_ble_eq_true rfl, Nat.le_of_ble_eq_true rfl⟩) (zPTreS hK hN (zT.kp hT0 hS) ⟨rfl, hW, hO1⟩) rfl rfl hl.1 rfl (lv_room (Nat.le_of_ble_eq_true rfl)) dL_law_861 ⟨z_rc (by omega), z_rs (by omega)⟩) hS (fun q _ h9 => hAL q h9) hAL (fun H1 locs1 hp1 hz1 hk1 hS1 => ?_)
  obtain ⟨g', lab', cs', ss', hqC, hqN, hlb⟩ := hp1
  have hMLn := hML.same hPm hlb
  have ho1n : lab' o1 = 200 := (hlb _ (o_lt hO1)).trans ho1
  have ho2n : lab' o2 = 201 := (hlb _ (o_lt hO2)).trans ho2
  have hz0n : ∀ q : Nat, q < s.heap.size → lab' q = 300 := fun q hq => (hlb q (Nat.lt_of_lt_of_le hq hS.1)).trans (hz0 q hq)
  have hPm1 := mW.kp hPm hML (fun q hq h1 h2 => hk1 q hq (fun h9 => by rcases h9 with h9 | h9 | h9 <;> first | omega | (rw [h9] at h2; omega)))
  have hOx := o_kp hO2 (fun hq => hk1 o2 hq (fun h9 => by rcases h9 with h9 | h9 | h9 <;> first | omega | (rw [h9] at ho2; omega)))
  refine lv_istore (lv' := [(6, .int (zI (if 0 ≤ (x1) ∧ (x1) < n then (if 0 ≤ (x2) ∧ (x2) ≤ 31 then 0 else 2) else 1))), (0, .ref b), (1, .ref ax), (2, .ref am), (3, .ref o1), (4, .ref o2), (5, .int (zI (i)))]) hx hb dL_law_864 hl (by decide) rfl (fun ls hl => ?_)
  refine lv_aload_n hx hb dL_law_866 rfl (lv_at hl 3 rfl) ?_
  refine lv_aload_n hx hb dL_law_867 rfl (lv_at hl 1 rfl) ?_
  refine lv_iload hx hb dL_law_868 (lv_at hl 6 rfl) ?_
  refine lv_iconst (v := zI (1)) hx hb dL_law_870 rfl ?_
  refine z_iadd hx hb dL_law_871 ?_
  refine z_sld hx hb hX hbl (Nat.not_le.mpr hbl) hS1 (i := i + 1) (x := x1) (by omega) (by omega) hv1 dL_law_872 ?_
  refine lv_aload_n hx hb dL_law_873 rfl (lv_at hl 1 rfl) ?_
  refine lv_iload hx hb dL_law_874 (lv_at hl 6 rfl) ?_
  refine lv_iconst (v := zI (2)) hx hb dL_law_876 rfl ?_
  refine z_iadd hx hb dL_law_877 ?_
  refine z_sld hx hb hX hbl (Nat.not_le.mpr hbl) hS1 (i := i + 2) (x := x2) (by omega) (by omega) hv2 dL_law_878 ?_
  have hAM : ∀ q : Nat, zAn [am, h 0, h 1, h 2, h 3, h 4, h 5, h 6, h 7, h 8, h 9] H1.size q → s.heap.size ≤ q := fun q h9 => h9.elim (fun h9 => Nat.not_lt.mp (fun h8 => by have h7 := hz0n q h8; have h6 := hMLn.in h9; omega)) (fun h9 => Nat.le_trans hS1.1 h9)
  refine z_callM (va_runV (As := [.int (zI (x1)), .int (zI (x2))]) (rest := []) ⟨hx, hb, hml, hown, hts⟩ (kX3_rotate l D G am th n m9 sp τ ζ h M hOK hM hMLn.nd H1.size (x1) (x2) hr1 hr2) (cwV 2 hts gL_law_X3_rotate rfl rfl rfl (by decide +kernel) ⟨Nat.le_of_ble_eq_true rfl, Nat.le_of_ble_eq_true rfl⟩) (zPreV (va_recv hK hPm1 (ci := 3) (q0 := 0) rfl rfl) hK hN (⟨rfl, hPm1⟩)) rfl rfl hl.1 rfl (lv_room (Nat.le_of_ble_eq_true rfl)) dL_law_879 ⟨z_rc (by omega), z_rs (by omega)⟩) hS1 (fun q _ h9 => hAM q h9) hAM (fun H2 locs2 hp2 hz2 hk2 hS2 => ?_)
  have hfr : ∀ q : Nat, q < H1.size → (lab' q < 100 ∨ 200 ≤ lab' q) → H2[q]? = H1[q]? := fun q hq hl8 => hk2 q hq (fun h9 => h9.elim (fun h9 => by have h6 := hMLn.in h9; omega) (fun h9 => by omega))
  obtain ⟨M', hPm2, hMC, hMN⟩ := hp2
  have hfin := LI.fin (D := D) (G := G) (C := (0 ≤ (x1) ∧ (x1) < n) ∧ (0 ≤ (x2) ∧ (x2) ≤ 31)) (v := (zI (xLoud (xRot (τ (x1).toNat) (x2)) (τ (x1).toNat 0).toNat)).toInt64) hOK (fun hC => hOK.up (xRot_ok (hOK.t (k := (x1)) hC.1) (x2))) hM hMC hMN hMLn ho1n ho2n hz0n hqC hqN ⟨f2, hOx⟩ hPm2 (fun hC => ⟨rfl, rfl, rfl⟩) (fun hC => ⟨rfl, rfl, rfl⟩) hfr
  obtain ⟨hI2, hval⟩ := hfin
  obtain ⟨lab2, n2, m2, sp2, τ2, ζ2, g2, cs2, ss2, M2, hOK2, hM2, hXL2, hML2, -, -, -, -, hPm3, -, -⟩ := id hI2
  refine lv_istore (lv' := [(7, .int (zI (if 0 ≤ (x1) ∧ (x1) < n then (if 0 ≤ (x2) ∧ (x2) ≤ 31 then (xLoud (xRot (τ (x1).toNat) (x2)) (τ (x1).toNat 0).toNat) else 0) else 0))), (6, .int (zI (if 0 ≤ (x1) ∧ (x1) < n then (if 0 ≤ (x2) ∧ (x2) ≤ 31 then 0 else 2) else 1))), (0, .ref b), (1, .ref ax), (2, .ref am), (3, .ref o1), (4, .ref o2), (5, .int (zI (i)))]) hx hb dL_law_882 hl (by decide) rfl (fun ls hl => ?_)
  refine lv_aload_n hx hb dL_law_884 rfl (lv_at hl 4 rfl) ?_
  refine z_call (va_runV (As := []) (rest := []) ⟨hx, hb, hml, hown, hts⟩ (kX3_thrown l D G am (if 0 ≤ (x1) ∧ (x1) < n then (if 0 ≤ (x2) ∧ (x2) ≤ 31 then 0 else 2) else 1) n2 m2 sp2 τ2 ζ2 h M2 hOK2 hM2) (cwV 0 hts gL_law_X3_thrown rfl rfl rfl (by decide +kernel) ⟨Nat.le_of_ble_eq_true rfl, Nat.le_of_ble_eq_true rfl⟩) (zPreV (va_recv hK hPm3 (ci := 3) (q0 := 0) rfl rfl) hK hN (hPm3)) rfl rfl hl.1 rfl (lv_room (Nat.le_of_ble_eq_true rfl)) dL_law_885 ⟨z_rc (by omega), z_rs (by omega)⟩) ?_
  refine lv_iload hx hb dL_law_888 (lv_at hl 1 rfl) ?_
  refine lv_icmp_eq (tgt := 895) hx hb dL_law_890 (by decide) (fun _ => ?_) (fun c9 => absurd rfl c9)
  refine lv_iload hx hb dL_law_895 (lv_at hl 1 rfl) ?_
  refine lv_if_ne (tgt := 912) hx hb dL_law_897 (by decide) (fun _ => ?_) (fun c9 => ?_)
  · refine lv_goto (tgt := 1999) hx hb dL_law_912 (by decide) ?_
    refine W.widen (k := cells + 20) (n := slots + 3000) (by omega) (by omega) ?_
    exact kk _ _ _ _ hS2 hI2 (lv_sub hl [2, 3, 4, 5, 6, 7] rfl)
  · have hC := zK2 c9
    obtain ⟨f9, hf9, hPo9⟩ := hval hC
    refine lv_aload_n hx hb dL_law_900 rfl (lv_at hl 5 rfl) ?_
    refine lv_iconst (v := zI (0)) hx hb dL_law_901 rfl ?_
    refine z_lald (x := (zI (xLoud (xRot (τ (x1).toNat) (x2)) (τ (x1).toNat 0).toNat)).toInt64) (D := D) hx hb hK hPo9 0 2 rfl rfl (by omega) (by omega) hf9 dL_law_902 ?_
    refine lv_iload hx hb dL_law_903 (lv_at hl 0 rfl) ?_
    refine lv_i2l (v := (zI (if 0 ≤ (x1) ∧ (x1) < n then (if 0 ≤ (x2) ∧ (x2) ≤ 31 then (xLoud (xRot (τ (x1).toNat) (x2)) (τ (x1).toNat 0).toNat) else 0) else 0)).toInt64) hx hb dL_law_905 rfl ?_
    refine W.lcmp hx hb dL_law_906 ?_
    refine lv_if_eq (tgt := 912) hx hb dL_law_907 (by decide) (fun _ => ?_) (fun c8 => absurd (by rw [if_pos hC.1, if_pos hC.2]; exact z_cmp_self _) c8)
    refine lv_goto (tgt := 1999) hx hb dL_law_912 (by decide) ?_
    refine W.widen (k := cells + 20) (n := slots + 3000) (by omega) (by omega) ?_
    exact kk _ _ _ _ hS2 hI2 (lv_sub hl [2, 3, 4, 5, 6, 7] rfl)

set_option maxHeartbeats 4000000 in
set_option maxRecDepth 100000 in
theorem lc_9 (l : Launch) (hl9 : l.stackTraces = false) {p : Program} {e : Env} {s : State} {m : MethodId} {below : List Frame} {meth : Method} {c : Code} {H : Heap} {locs : List Loc} {cells slots : Nat} {Q : State → Prop} {D : va_G} {G : Nat → ClassId} {b L : Nat} {xs : Nat → Int32} {ax am o1 o2 : Nat} {h : Nat → Nat} {th : Int} {ls : Array Slot} (hx : p.tables.exec = Jvm.exec) (hb : c.code = cL_law) (hml : c.maxLocals = 9) (hown : s.vm.findClass RL = some m.cls) (hts : ∀ w ∈ wsL_law, w.before #[Value.ref b] s = true) (hK : va_K D vwCl (zTy G) s) (hN : zN s) (hT0 : zT s s.heap) (hX : va_X b L xs s s.heap) (hbl : b < s.heap.size) (hL9 : L ≤ 2560) (hce : cells + 20 ≤ 601024) (hsl : slots + 3000 ≤ 7293034) (hS : va_S (fun q => s.heap.size ≤ q) s.heap H locs) (hI : LI D G ax am o1 o2 s.heap.size h th H) (i : Int) (hi : 0 ≤ i ∧ i + 5 ≤ L) (x1 : Int) (hv1 : xs (i + 1).toNat = zI x1) (hr1 : -2147483648 ≤ x1 ∧ x1 ≤ 2147483647) (x2 : Int) (hv2 : xs (i + 2).toNat = zI x2) (hr2 : -2147483648 ≤ x2 ∧ x2 ≤ 2147483647) (x3 : Int) (hv3 : xs (i + 3).toNat = zI x3) (hr3 : -2147483648 ≤ x3 ∧ x3 ≤ 2147483647) (x4 : Int) (hv4 : xs (i + 4).toNat = zI x4) (hr4 : -2147483648 ≤ x4 ∧ x4 ≤ 2147483647) (hl : lv_has ls 9 [(0, .ref b), (1, .ref ax), (2, .ref am), (3, .ref o1), (4, .ref o2), (5, .int (zI (i)))]) (kk : ∀ (H1 : Heap) (locs1 : List Loc) (th1 : Int) (ls1 : Array Slot), va_S (fun q => s.heap.size ≤ q) s.heap H1 locs1 → LI D G ax am o1 o2 s.heap.size h th1 H1 → lv_has ls1 9 [(0, .ref b), (1, .ref ax), (2, .ref am), (3, .ref o1), (4, .ref o2), (5, .int (zI (i)))] → W p l e room_1 s m #[Value.ref b] below meth c H1 locs1 (cells + 20) (slots + 3000) Q (F0 m 1999 ls1 [])) : W p l e room_1 s m #[Value.ref b] below meth c H locs cells slots Q (F0 m 915 ls []) := by
  obtain ⟨lab, n, m9, sp, τ, ζ, g, cs, ss, M, hOK, hM, hXL, hML, ho1, ho2, hz0, hW, hPm, ⟨f1, hO1⟩, ⟨f2, hO2⟩⟩ := id hI
  refine lv_aload_n hx hb dL_law_915 rfl (lv_at hl 1 rfl) ?_
  refine lv_aload_n hx hb dL_law_916 rfl (lv_at hl 0 rfl) ?_
  refine lv_iload hx hb dL_law_917 (lv_at hl 5 rfl) ?_
  refine lv_iconst (v := zI (1)) hx hb dL_law_919 rfl ?_
  refine z_iadd hx hb dL_law_920 ?_
  refine z_sld hx hb hX hbl (Nat.not_le.mpr hbl) hS (i := i + 1) (x := x1) (by omega) (by omega) hv1 dL_law_921 ?_
  refine lv_aload_n hx hb dL_law_922 rfl (lv_at hl 0 rfl) ?_
  refine lv_iload hx hb dL_law_923 (lv_at hl 5 rfl) ?_
  refine lv_iconst (v := zI (2)) hx hb dL_law_925 rfl ?_
  refine z_iadd hx hb dL_law_926 ?_
  refine z_sld hx hb hX hbl (Nat.not_le.mpr hbl) hS (i := i + 2) (x := x2) (by omega) (by omega) hv2 dL_law_927 ?_
  refine lv_aload_n hx hb dL_law_928 rfl (lv_at hl 3 rfl) ?_
  have hAL : ∀ q : Nat, LA lab o1 H.size q → s.heap.size ≤ q := fun q h9 => Nat.not_lt.mp (fun h8 => by have h7 := hz0 q h8; have h6 := hS.1; rcases h9 with h9 | h9 | h9 <;> first | omega | (rw [h9] at h7; omega))
  refine z_callM (vx_runSW (As := [.ref ax, .int (zI (x1)), .int (zI (x2)), .ref o1]) (rest := []) ⟨hx, hb, hml, hown, hts⟩ (kL_stretch l D G hl9 ax n m9 sp τ ζ g cs ss hOK lab hXL o1 H.size f1 (by omega) (x1) (x2) hr1 hr2) (vx_cwSW 4 hts gL_law_L_stretch rfl rfl rfl (by decide +kernel) ⟨Nat.le_of_ble_eq_true rfl, Nat.le_of_ble_eq_true rfl⟩) (zPTreS hK hN (zT.kp hT0 hS) ⟨rfl, hW, hO1⟩) rfl rfl hl.1 rfl (lv_room (Nat.le_of_ble_eq_true rfl)) dL_law_929 ⟨z_rc (by omega), z_rs (by omega)⟩) hS (fun q _ h9 => hAL q h9) hAL (fun H1 locs1 hp1 hz1 hk1 hS1 => ?_)
  obtain ⟨g', lab', cs', ss', hqC, hqN, hlb⟩ := hp1
  have hMLn := hML.same hPm hlb
  have ho1n : lab' o1 = 200 := (hlb _ (o_lt hO1)).trans ho1
  have ho2n : lab' o2 = 201 := (hlb _ (o_lt hO2)).trans ho2
  have hz0n : ∀ q : Nat, q < s.heap.size → lab' q = 300 := fun q hq => (hlb q (Nat.lt_of_lt_of_le hq hS.1)).trans (hz0 q hq)
  have hPm1 := mW.kp hPm hML (fun q hq h1 h2 => hk1 q hq (fun h9 => by rcases h9 with h9 | h9 | h9 <;> first | omega | (rw [h9] at h2; omega)))
  have hOx := o_kp hO2 (fun hq => hk1 o2 hq (fun h9 => by rcases h9 with h9 | h9 | h9 <;> first | omega | (rw [h9] at ho2; omega)))
  refine lv_istore (lv' := [(6, .int (zI (if 0 ≤ (x1) ∧ (x1) < n then (if 1 ≤ (x2) ∧ (x2) ≤ 32 then 0 else 2) else 1))), (0, .ref b), (1, .ref ax), (2, .ref am), (3, .ref o1), (4, .ref o2), (5, .int (zI (i)))]) hx hb dL_law_932 hl (by decide) rfl (fun ls hl => ?_)
  refine lv_aload_n hx hb dL_law_934 rfl (lv_at hl 3 rfl) ?_
  refine lv_aload_n hx hb dL_law_935 rfl (lv_at hl 1 rfl) ?_
  refine lv_iload hx hb dL_law_936 (lv_at hl 6 rfl) ?_
  refine lv_iconst (v := zI (1)) hx hb dL_law_938 rfl ?_
  refine z_iadd hx hb dL_law_939 ?_
  refine z_sld hx hb hX hbl (Nat.not_le.mpr hbl) hS1 (i := i + 1) (x := x1) (by omega) (by omega) hv1 dL_law_940 ?_
  refine lv_aload_n hx hb dL_law_941 rfl (lv_at hl 1 rfl) ?_
  refine lv_iload hx hb dL_law_942 (lv_at hl 6 rfl) ?_
  refine lv_iconst (v := zI (2)) hx hb dL_law_944 rfl ?_
  refine z_iadd hx hb dL_law_945 ?_
  refine z_sld hx hb hX hbl (Nat.not_le.mpr hbl) hS1 (i := i + 2) (x := x2) (by omega) (by omega) hv2 dL_law_946 ?_
  have hAM : ∀ q : Nat, zAn [am, h 0, h 1, h 2, h 3, h 4, h 5, h 6, h 7, h 8, h 9] H1.size q → s.heap.size ≤ q := fun q h9 => h9.elim (fun h9 => Nat.not_lt.mp (fun h8 => by have h7 := hz0n q h8; have h6 := hMLn.in h9; omega)) (fun h9 => Nat.le_trans hS1.1 h9)
  refine z_callM (va_runV (As := [.int (zI (x1)), .int (zI (x2))]) (rest := []) ⟨hx, hb, hml, hown, hts⟩ (kX3_stretch l D G am th n m9 sp τ ζ h M hOK hM hMLn.nd H1.size (x1) (x2) hr1 hr2) (cwV 2 hts gL_law_X3_stretch rfl rfl rfl (by decide +kernel) ⟨Nat.le_of_ble_eq_true rfl, Nat.le_of_ble_eq_true rfl⟩) (zPreV (va_recv hK hPm1 (ci := 3) (q0 := 0) rfl rfl) hK hN (⟨rfl, hPm1⟩)) rfl rfl hl.1 rfl (lv_room (Nat.le_of_ble_eq_true rfl)) dL_law_947 ⟨z_rc (by omega), z_rs (by omega)⟩) hS1 (fun q _ h9 => hAM q h9) hAM (fun H2 locs2 hp2 hz2 hk2 hS2 => ?_)
  have hfr : ∀ q : Nat, q < H1.size → (lab' q < 100 ∨ 200 ≤ lab' q) → H2[q]? = H1[q]? := fun q hq hl8 => hk2 q hq (fun h9 => h9.elim (fun h9 => by have h6 := hMLn.in h9; omega) (fun h9 => by omega))
  obtain ⟨M', hPm2, hMC, hMN⟩ := hp2
  have hfin := LI.fin (D := D) (G := G) (C := (0 ≤ (x1) ∧ (x1) < n) ∧ (1 ≤ (x2) ∧ (x2) ≤ 32)) (v := (zI (τ (x1).toNat 0)).toInt64) hOK (fun hC => hOK.up (xStc_ok (hOK.t (k := (x1)) hC.1) hC.2)) hM hMC hMN hMLn ho1n ho2n hz0n hqC hqN ⟨f2, hOx⟩ hPm2 (fun hC => ⟨rfl, rfl, rfl⟩) (fun hC => ⟨rfl, rfl, rfl⟩) hfr
  obtain ⟨hI2, hval⟩ := hfin
  obtain ⟨lab2, n2, m2, sp2, τ2, ζ2, g2, cs2, ss2, M2, hOK2, hM2, hXL2, hML2, -, -, -, -, hPm3, -, -⟩ := id hI2
  refine lv_istore (lv' := [(7, .int (zI (if 0 ≤ (x1) ∧ (x1) < n then (if 1 ≤ (x2) ∧ (x2) ≤ 32 then (τ (x1).toNat 0) else 0) else 0))), (6, .int (zI (if 0 ≤ (x1) ∧ (x1) < n then (if 1 ≤ (x2) ∧ (x2) ≤ 32 then 0 else 2) else 1))), (0, .ref b), (1, .ref ax), (2, .ref am), (3, .ref o1), (4, .ref o2), (5, .int (zI (i)))]) hx hb dL_law_950 hl (by decide) rfl (fun ls hl => ?_)
  refine lv_aload_n hx hb dL_law_952 rfl (lv_at hl 4 rfl) ?_
  refine z_call (va_runV (As := []) (rest := []) ⟨hx, hb, hml, hown, hts⟩ (kX3_thrown l D G am (if 0 ≤ (x1) ∧ (x1) < n then (if 1 ≤ (x2) ∧ (x2) ≤ 32 then 0 else 2) else 1) n2 m2 sp2 τ2 ζ2 h M2 hOK2 hM2) (cwV 0 hts gL_law_X3_thrown rfl rfl rfl (by decide +kernel) ⟨Nat.le_of_ble_eq_true rfl, Nat.le_of_ble_eq_true rfl⟩) (zPreV (va_recv hK hPm3 (ci := 3) (q0 := 0) rfl rfl) hK hN (hPm3)) rfl rfl hl.1 rfl (lv_room (Nat.le_of_ble_eq_true rfl)) dL_law_953 ⟨z_rc (by omega), z_rs (by omega)⟩) ?_
  refine lv_iload hx hb dL_law_956 (lv_at hl 1 rfl) ?_
  refine lv_icmp_eq (tgt := 963) hx hb dL_law_958 (by decide) (fun _ => ?_) (fun c9 => absurd rfl c9)
  refine lv_iload hx hb dL_law_963 (lv_at hl 1 rfl) ?_
  refine lv_if_ne (tgt := 980) hx hb dL_law_965 (by decide) (fun _ => ?_) (fun c9 => ?_)
  · refine lv_goto (tgt := 1999) hx hb dL_law_980 (by decide) ?_
    refine W.widen (k := cells + 20) (n := slots + 3000) (by omega) (by omega) ?_
    exact kk _ _ _ _ hS2 hI2 (lv_sub hl [2, 3, 4, 5, 6, 7] rfl)
  · have hC := zK2 c9
    obtain ⟨f9, hf9, hPo9⟩ := hval hC
    refine lv_aload_n hx hb dL_law_968 rfl (lv_at hl 5 rfl) ?_
    refine lv_iconst (v := zI (0)) hx hb dL_law_969 rfl ?_
    refine z_lald (x := (zI (τ (x1).toNat 0)).toInt64) (D := D) hx hb hK hPo9 0 2 rfl rfl (by omega) (by omega) hf9 dL_law_970 ?_
    refine lv_iload hx hb dL_law_971 (lv_at hl 0 rfl) ?_
    refine lv_i2l (v := (zI (if 0 ≤ (x1) ∧ (x1) < n then (if 1 ≤ (x2) ∧ (x2) ≤ 32 then (τ (x1).toNat 0) else 0) else 0)).toInt64) hx hb dL_law_973 rfl ?_
    refine W.lcmp hx hb dL_law_974 ?_
    refine lv_if_eq (tgt := 980) hx hb dL_law_975 (by decide) (fun _ => ?_) (fun c8 => absurd (by rw [if_pos hC.1, if_pos hC.2]; exact z_cmp_self _) c8)
    refine lv_goto (tgt := 1999) hx hb dL_law_980 (by decide) ?_
    refine W.widen (k := cells + 20) (n := slots + 3000) (by omega) (by omega) ?_
    exact kk _ _ _ _ hS2 hI2 (lv_sub hl [2, 3, 4, 5, 6, 7] rfl)

set_option maxHeartbeats 4000000 in
set_option maxRecDepth 100000 in
theorem lc_10 (l : Launch) (hl9 : l.stackTraces = false) {p : Program} {e : Env} {s : State} {m : MethodId} {below : List Frame} {meth : Method} {c : Code} {H : Heap} {locs : List Loc} {cells slots : Nat} {Q : State → Prop} {D : va_G} {G : Nat → ClassId} {b L : Nat} {xs : Nat → Int32} {ax am o1 o2 : Nat} {h : Nat → Nat} {th : Int} {ls : Array Slot} (hx : p.tables.exec = Jvm.exec) (hb : c.code = cL_law) (hml : c.maxLocals = 9) (hown : s.vm.findClass RL = some m.cls) (hts : ∀ w ∈ wsL_law, w.before #[Value.ref b] s = true) (hK : va_K D vwCl (zTy G) s) (hN : zN s) (hT0 : zT s s.heap) (hX : va_X b L xs s s.heap) (hbl : b < s.heap.size) (hL9 : L ≤ 2560) (hce : cells + 20 ≤ 601024) (hsl : slots + 3000 ≤ 7293034) (hS : va_S (fun q => s.heap.size ≤ q) s.heap H locs) (hI : LI D G ax am o1 o2 s.heap.size h th H) (i : Int) (hi : 0 ≤ i ∧ i + 5 ≤ L) (x1 : Int) (hv1 : xs (i + 1).toNat = zI x1) (hr1 : -2147483648 ≤ x1 ∧ x1 ≤ 2147483647) (x2 : Int) (hv2 : xs (i + 2).toNat = zI x2) (hr2 : -2147483648 ≤ x2 ∧ x2 ≤ 2147483647) (x3 : Int) (hv3 : xs (i + 3).toNat = zI x3) (hr3 : -2147483648 ≤ x3 ∧ x3 ≤ 2147483647) (x4 : Int) (hv4 : xs (i + 4).toNat = zI x4) (hr4 : -2147483648 ≤ x4 ∧ x4 ≤ 2147483647) (hl : lv_has ls 9 [(0, .ref b), (1, .ref ax), (2, .ref am), (3, .ref o1), (4, .ref o2), (5, .int (zI (i)))]) (kk : ∀ (H1 : Heap) (locs1 : List Loc) (th1 : Int) (ls1 : Array Slot), va_S (fun q => s.heap.size ≤ q) s.heap H1 locs1 → LI D G ax am o1 o2 s.heap.size h th1 H1 → lv_has ls1 9 [(0, .ref b), (1, .ref ax), (2, .ref am), (3, .ref o1), (4, .ref o2), (5, .int (zI (i)))] → W p l e room_1 s m #[Value.ref b] below meth c H1 locs1 (cells + 20) (slots + 3000) Q (F0 m 1999 ls1 [])) : W p l e room_1 s m #[Value.ref b] below meth c H locs cells slots Q (F0 m 983 ls []) := by
  obtain ⟨lab, n, m9, sp, τ, ζ, g, cs, ss, M, hOK, hM, hXL, hML, ho1, ho2, hz0, hW, hPm, ⟨f1, hO1⟩, ⟨f2, hO2⟩⟩ := id hI
  refine lv_aload_n hx hb dL_law_983 rfl (lv_at hl 1 rfl) ?_
  refine lv_aload_n hx hb dL_law_984 rfl (lv_at hl 0 rfl) ?_
  refine lv_iload hx hb dL_law_985 (lv_at hl 5 rfl) ?_
  refine lv_iconst (v := zI (1)) hx hb dL_law_987 rfl ?_
  refine z_iadd hx hb dL_law_988 ?_
  refine z_sld hx hb hX hbl (Nat.not_le.mpr hbl) hS (i := i + 1) (x := x1) (by omega) (by omega) hv1 dL_law_989 ?_
  refine lv_aload_n hx hb dL_law_990 rfl (lv_at hl 0 rfl) ?_
  refine lv_iload hx hb dL_law_991 (lv_at hl 5 rfl) ?_
  refine lv_iconst (v := zI (2)) hx hb dL_law_993 rfl ?_
  refine z_iadd hx hb dL_law_994 ?_
  refine z_sld hx hb hX hbl (Nat.not_le.mpr hbl) hS (i := i + 2) (x := x2) (by omega) (by omega) hv2 dL_law_995 ?_
  refine lv_aload_n hx hb dL_law_996 rfl (lv_at hl 0 rfl) ?_
  refine lv_iload hx hb dL_law_997 (lv_at hl 5 rfl) ?_
  refine lv_iconst (v := zI (3)) hx hb dL_law_999 rfl ?_
  refine z_iadd hx hb dL_law_1000 ?_
  refine z_sld hx hb hX hbl (Nat.not_le.mpr hbl) hS (i := i + 3) (x := x3) (by omega) (by omega) hv3 dL_law_1001 ?_
  refine lv_aload_n hx hb dL_law_1002 rfl (lv_at hl 3 rfl) ?_
  have hAL : ∀ q : Nat, LA lab o1 H.size q → s.heap.size ≤ q := fun q h9 => Nat.not_lt.mp (fun h8 => by have h7 := hz0 q h8; have h6 := hS.1; rcases h9 with h9 | h9 | h9 <;> first | omega | (rw [h9] at h7; omega))
  refine z_callM (vx_runSW (As := [.ref ax, .int (zI (x1)), .int (zI (x2)), .int (zI (x3)), .ref o1]) (rest := []) ⟨hx, hb, hml, hown, hts⟩ (kL_tap l D G hl9 ax n m9 sp τ ζ g cs ss hOK lab hXL o1 H.size f1 (by omega) (x1) (x2) (x3) hr1 hr2 hr3) (vx_cwSW 5 hts gL_law_L_tap rfl rfl rfl (by decide +kernel) ⟨Nat.le_of_ble_eq_true rfl, Nat.le_of_ble_eq_true rfl⟩) (zPTreS hK hN (zT.kp hT0 hS) ⟨rfl, hW, hO1⟩) rfl rfl hl.1 rfl (lv_room (Nat.le_of_ble_eq_true rfl)) dL_law_1003 ⟨z_rc (by omega), z_rs (by omega)⟩) hS (fun q _ h9 => hAL q h9) hAL (fun H1 locs1 hp1 hz1 hk1 hS1 => ?_)
  obtain ⟨g', lab', cs', ss', hqC, hqN, hlb⟩ := hp1
  have hMLn := hML.same hPm hlb
  have ho1n : lab' o1 = 200 := (hlb _ (o_lt hO1)).trans ho1
  have ho2n : lab' o2 = 201 := (hlb _ (o_lt hO2)).trans ho2
  have hz0n : ∀ q : Nat, q < s.heap.size → lab' q = 300 := fun q hq => (hlb q (Nat.lt_of_lt_of_le hq hS.1)).trans (hz0 q hq)
  have hPm1 := mW.kp hPm hML (fun q hq h1 h2 => hk1 q hq (fun h9 => by rcases h9 with h9 | h9 | h9 <;> first | omega | (rw [h9] at h2; omega)))
  have hOx := o_kp hO2 (fun hq => hk1 o2 hq (fun h9 => by rcases h9 with h9 | h9 | h9 <;> first | omega | (rw [h9] at ho2; omega)))
  refine lv_istore (lv' := [(6, .int (zI (if 0 ≤ (x1) ∧ (x1) < n then (if (0 ≤ (x2) ∧ (x2) ≤ 99999) ∧ (1 ≤ (x3) ∧ (x3) ≤ 127) then 0 else 2) else 1))), (0, .ref b), (1, .ref ax), (2, .ref am), (3, .ref o1), (4, .ref o2), (5, .int (zI (i)))]) hx hb dL_law_1006 hl (by decide) rfl (fun ls hl => ?_)
  refine lv_aload_n hx hb dL_law_1008 rfl (lv_at hl 3 rfl) ?_
  refine lv_aload_n hx hb dL_law_1009 rfl (lv_at hl 1 rfl) ?_
  refine lv_iload hx hb dL_law_1010 (lv_at hl 6 rfl) ?_
  refine lv_iconst (v := zI (1)) hx hb dL_law_1012 rfl ?_
  refine z_iadd hx hb dL_law_1013 ?_
  refine z_sld hx hb hX hbl (Nat.not_le.mpr hbl) hS1 (i := i + 1) (x := x1) (by omega) (by omega) hv1 dL_law_1014 ?_
  refine lv_aload_n hx hb dL_law_1015 rfl (lv_at hl 1 rfl) ?_
  refine lv_iload hx hb dL_law_1016 (lv_at hl 6 rfl) ?_
  refine lv_iconst (v := zI (2)) hx hb dL_law_1018 rfl ?_
  refine z_iadd hx hb dL_law_1019 ?_
  refine z_sld hx hb hX hbl (Nat.not_le.mpr hbl) hS1 (i := i + 2) (x := x2) (by omega) (by omega) hv2 dL_law_1020 ?_
  refine lv_aload_n hx hb dL_law_1021 rfl (lv_at hl 1 rfl) ?_
  refine lv_iload hx hb dL_law_1022 (lv_at hl 6 rfl) ?_
  refine lv_iconst (v := zI (3)) hx hb dL_law_1024 rfl ?_
  refine z_iadd hx hb dL_law_1025 ?_
  refine z_sld hx hb hX hbl (Nat.not_le.mpr hbl) hS1 (i := i + 3) (x := x3) (by omega) (by omega) hv3 dL_law_1026 ?_
  have hAM : ∀ q : Nat, zA [am, h 0, h 1, h 2, h 3, h 4, h 5, h 6, h 7, h 8, h 9] q → s.heap.size ≤ q := fun q h9 => Nat.not_lt.mp (fun h8 => by have h7 := hz0n q h8; have h6 := hMLn.in h9; omega)
  refine z_callM (va_runV (As := [.int (zI (x1)), .int (zI (x2)), .int (zI (x3))]) (rest := []) ⟨hx, hb, hml, hown, hts⟩ (kX3_tap l D G am th n m9 sp τ ζ h M hOK hM hMLn.nd (x1) (x2) (x3) hr1 hr2 hr3) (cwV 3 hts gL_law_X3_tap rfl rfl rfl (by decide +kernel) ⟨Nat.le_of_ble_eq_true rfl, Nat.le_of_ble_eq_true rfl⟩) (zPreV (va_recv hK hPm1 (ci := 3) (q0 := 0) rfl rfl) hK hN (hPm1)) rfl rfl hl.1 rfl (lv_room (Nat.le_of_ble_eq_true rfl)) dL_law_1027 ⟨z_rc (by omega), z_rs (by omega)⟩) hS1 (fun q _ h9 => hAM q h9) hAM (fun H2 locs2 hp2 hz2 hk2 hS2 => ?_)
  have hfr : ∀ q : Nat, q < H1.size → (lab' q < 100 ∨ 200 ≤ lab' q) → H2[q]? = H1[q]? := fun q hq hl8 => hk2 q hq (fun h9 => by have h6 := hMLn.in h9; omega)
  obtain ⟨M', hPm2, hMC, hMN⟩ := hp2
  have hfin := LI.fin (D := D) (G := G) (C := (0 ≤ (x1) ∧ (x1) < n) ∧ ((0 ≤ (x2) ∧ (x2) ≤ 99999) ∧ (1 ≤ (x3) ∧ (x3) ≤ 127))) (v := (zI ((xNear (τ (x1).toNat) (xP (τ (x1).toNat) (x2)) (τ (x1).toNat 0 - 1).toNat).1)).toInt64) hOK (fun hC => hOK.up (xFp_ok (hOK.t (k := (x1)) hC.1) (x_near0 (hOK.t (k := (x1)) hC.1)) (by omega))) hM hMC hMN hMLn ho1n ho2n hz0n hqC hqN ⟨f2, hOx⟩ hPm2 (fun hC => ⟨rfl, rfl, rfl⟩) (fun hC => ⟨rfl, rfl, rfl⟩) hfr
  obtain ⟨hI2, hval⟩ := hfin
  obtain ⟨lab2, n2, m2, sp2, τ2, ζ2, g2, cs2, ss2, M2, hOK2, hM2, hXL2, hML2, -, -, -, -, hPm3, -, -⟩ := id hI2
  refine lv_istore (lv' := [(7, .int (zI (if 0 ≤ (x1) ∧ (x1) < n then (if (0 ≤ (x2) ∧ (x2) ≤ 99999) ∧ (1 ≤ (x3) ∧ (x3) ≤ 127) then ((xNear (τ (x1).toNat) (xP (τ (x1).toNat) (x2)) (τ (x1).toNat 0 - 1).toNat).1) else 0) else 0))), (6, .int (zI (if 0 ≤ (x1) ∧ (x1) < n then (if (0 ≤ (x2) ∧ (x2) ≤ 99999) ∧ (1 ≤ (x3) ∧ (x3) ≤ 127) then 0 else 2) else 1))), (0, .ref b), (1, .ref ax), (2, .ref am), (3, .ref o1), (4, .ref o2), (5, .int (zI (i)))]) hx hb dL_law_1030 hl (by decide) rfl (fun ls hl => ?_)
  refine lv_aload_n hx hb dL_law_1032 rfl (lv_at hl 4 rfl) ?_
  refine z_call (va_runV (As := []) (rest := []) ⟨hx, hb, hml, hown, hts⟩ (kX3_thrown l D G am (if 0 ≤ (x1) ∧ (x1) < n then (if (0 ≤ (x2) ∧ (x2) ≤ 99999) ∧ (1 ≤ (x3) ∧ (x3) ≤ 127) then 0 else 2) else 1) n2 m2 sp2 τ2 ζ2 h M2 hOK2 hM2) (cwV 0 hts gL_law_X3_thrown rfl rfl rfl (by decide +kernel) ⟨Nat.le_of_ble_eq_true rfl, Nat.le_of_ble_eq_true rfl⟩) (zPreV (va_recv hK hPm3 (ci := 3) (q0 := 0) rfl rfl) hK hN (hPm3)) rfl rfl hl.1 rfl (lv_room (Nat.le_of_ble_eq_true rfl)) dL_law_1033 ⟨z_rc (by omega), z_rs (by omega)⟩) ?_
  refine lv_iload hx hb dL_law_1036 (lv_at hl 1 rfl) ?_
  refine lv_icmp_eq (tgt := 1043) hx hb dL_law_1038 (by decide) (fun _ => ?_) (fun c9 => absurd rfl c9)
  refine lv_iload hx hb dL_law_1043 (lv_at hl 1 rfl) ?_
  refine lv_if_ne (tgt := 1060) hx hb dL_law_1045 (by decide) (fun _ => ?_) (fun c9 => ?_)
  · refine lv_goto (tgt := 1999) hx hb dL_law_1060 (by decide) ?_
    refine W.widen (k := cells + 20) (n := slots + 3000) (by omega) (by omega) ?_
    exact kk _ _ _ _ hS2 hI2 (lv_sub hl [2, 3, 4, 5, 6, 7] rfl)
  · have hC := zK2 c9
    obtain ⟨f9, hf9, hPo9⟩ := hval hC
    refine lv_aload_n hx hb dL_law_1048 rfl (lv_at hl 5 rfl) ?_
    refine lv_iconst (v := zI (0)) hx hb dL_law_1049 rfl ?_
    refine z_lald (x := (zI ((xNear (τ (x1).toNat) (xP (τ (x1).toNat) (x2)) (τ (x1).toNat 0 - 1).toNat).1)).toInt64) (D := D) hx hb hK hPo9 0 2 rfl rfl (by omega) (by omega) hf9 dL_law_1050 ?_
    refine lv_iload hx hb dL_law_1051 (lv_at hl 0 rfl) ?_
    refine lv_i2l (v := (zI (if 0 ≤ (x1) ∧ (x1) < n then (if (0 ≤ (x2) ∧ (x2) ≤ 99999) ∧ (1 ≤ (x3) ∧ (x3) ≤ 127) then ((xNear (τ (x1).toNat) (xP (τ (x1).toNat) (x2)) (τ (x1).toNat 0 - 1).toNat).1) else 0) else 0)).toInt64) hx hb dL_law_1053 rfl ?_
    refine W.lcmp hx hb dL_law_1054 ?_
    refine lv_if_eq (tgt := 1060) hx hb dL_law_1055 (by decide) (fun _ => ?_) (fun c8 => absurd (by rw [if_pos hC.1, if_pos hC.2]; exact z_cmp_self _) c8)
    refine lv_goto (tgt := 1999) hx hb dL_law_1060 (by decide) ?_
    refine W.widen (k := cells + 20) (n := slots + 3000) (by omega) (by omega) ?_
    exact kk _ _ _ _ hS2 hI2 (lv_sub hl [2, 3, 4, 5, 6, 7] rfl)

set_option maxHeartbeats 4000000 in
set_option maxRecDepth 100000 in
theorem lc_11 (l : Launch) (hl9 : l.stackTraces = false) {p : Program} {e : Env} {s : State} {m : MethodId} {below : List Frame} {meth : Method} {c : Code} {H : Heap} {locs : List Loc} {cells slots : Nat} {Q : State → Prop} {D : va_G} {G : Nat → ClassId} {b L : Nat} {xs : Nat → Int32} {ax am o1 o2 : Nat} {h : Nat → Nat} {th : Int} {ls : Array Slot} (hx : p.tables.exec = Jvm.exec) (hb : c.code = cL_law) (hml : c.maxLocals = 9) (hown : s.vm.findClass RL = some m.cls) (hts : ∀ w ∈ wsL_law, w.before #[Value.ref b] s = true) (hK : va_K D vwCl (zTy G) s) (hN : zN s) (hT0 : zT s s.heap) (hX : va_X b L xs s s.heap) (hbl : b < s.heap.size) (hL9 : L ≤ 2560) (hce : cells + 20 ≤ 601024) (hsl : slots + 3000 ≤ 7293034) (hS : va_S (fun q => s.heap.size ≤ q) s.heap H locs) (hI : LI D G ax am o1 o2 s.heap.size h th H) (i : Int) (hi : 0 ≤ i ∧ i + 5 ≤ L) (x1 : Int) (hv1 : xs (i + 1).toNat = zI x1) (hr1 : -2147483648 ≤ x1 ∧ x1 ≤ 2147483647) (x2 : Int) (hv2 : xs (i + 2).toNat = zI x2) (hr2 : -2147483648 ≤ x2 ∧ x2 ≤ 2147483647) (x3 : Int) (hv3 : xs (i + 3).toNat = zI x3) (hr3 : -2147483648 ≤ x3 ∧ x3 ≤ 2147483647) (x4 : Int) (hv4 : xs (i + 4).toNat = zI x4) (hr4 : -2147483648 ≤ x4 ∧ x4 ≤ 2147483647) (hl : lv_has ls 9 [(0, .ref b), (1, .ref ax), (2, .ref am), (3, .ref o1), (4, .ref o2), (5, .int (zI (i)))]) (kk : ∀ (H1 : Heap) (locs1 : List Loc) (th1 : Int) (ls1 : Array Slot), va_S (fun q => s.heap.size ≤ q) s.heap H1 locs1 → LI D G ax am o1 o2 s.heap.size h th1 H1 → lv_has ls1 9 [(0, .ref b), (1, .ref ax), (2, .ref am), (3, .ref o1), (4, .ref o2), (5, .int (zI (i)))] → W p l e room_1 s m #[Value.ref b] below meth c H1 locs1 (cells + 20) (slots + 3000) Q (F0 m 1999 ls1 [])) : W p l e room_1 s m #[Value.ref b] below meth c H locs cells slots Q (F0 m 1063 ls []) := by
  obtain ⟨lab, n, m9, sp, τ, ζ, g, cs, ss, M, hOK, hM, hXL, hML, ho1, ho2, hz0, hW, hPm, ⟨f1, hO1⟩, ⟨f2, hO2⟩⟩ := id hI
  refine lv_aload_n hx hb dL_law_1063 rfl (lv_at hl 1 rfl) ?_
  refine z_call (va_runV (As := []) (rest := []) ⟨hx, hb, hml, hown, hts⟩ (kX2_tracks l D G ax n m9 sp τ ζ g cs ss hOK) (cwV 0 hts gL_law_X2_tracks rfl rfl rfl (by decide +kernel) ⟨Nat.le_of_ble_eq_true rfl, Nat.le_of_ble_eq_true rfl⟩) (zPreV (va_recv hK hW.1 (ci := 2) (q0 := 0) rfl rfl) hK hN (hW)) rfl rfl hl.1 rfl (lv_room (Nat.le_of_ble_eq_true rfl)) dL_law_1064 ⟨z_rc (by omega), z_rs (by omega)⟩) ?_
  refine lv_aload_n hx hb dL_law_1067 rfl (lv_at hl 2 rfl) ?_
  have hAM : ∀ q : Nat, zA [am, h 0, h 1, h 2, h 3, h 4, h 5, h 6, h 7, h 8, h 9] q → s.heap.size ≤ q := fun q h9 => Nat.not_lt.mp (fun h8 => by have h7 := hz0 q h8; have h6 := hML.in h9; omega)
  refine z_callM (va_runV (As := []) (rest := [.int (zI (n))]) ⟨hx, hb, hml, hown, hts⟩ (kX3_tracks l D G am th n m9 sp τ ζ h M hOK hM hML.nd) (cwV 0 hts gL_law_X3_tracks rfl rfl rfl (by decide +kernel) ⟨Nat.le_of_ble_eq_true rfl, Nat.le_of_ble_eq_true rfl⟩) (zPreV (va_recv hK hPm (ci := 3) (q0 := 0) rfl rfl) hK hN (hPm)) rfl rfl hl.1 rfl (lv_room (Nat.le_of_ble_eq_true rfl)) dL_law_1068 ⟨z_rc (by omega), z_rs (by omega)⟩) hS (fun q _ h9 => hAM q h9) hAM (fun H2 locs2 hp2 hz2 hk2 hS2 => ?_)
  have hfr : ∀ q : Nat, q < H.size → (lab q < 100 ∨ 200 ≤ lab q) → H2[q]? = H[q]? := fun q hq hl8 => hk2 q hq (fun h9 => by have h6 := hML.in h9; omega)
  have hI2 := LI.finM hOK hM hXL hML ho1 ho2 hz0 hW ⟨f1, hO1⟩ ⟨f2, hO2⟩ hp2 hfr
  refine lv_icmp_eq (tgt := 1999) hx hb dL_law_1071 (by decide) (fun _ => ?_) (fun c9 => absurd rfl c9)
  refine W.widen (k := cells + 20) (n := slots + 3000) (by omega) (by omega) ?_
  exact kk _ _ _ _ hS2 hI2 (lv_sub hl [0, 1, 2, 3, 4, 5] rfl)

set_option maxHeartbeats 4000000 in
set_option maxRecDepth 100000 in
theorem lc_12 (l : Launch) (hl9 : l.stackTraces = false) {p : Program} {e : Env} {s : State} {m : MethodId} {below : List Frame} {meth : Method} {c : Code} {H : Heap} {locs : List Loc} {cells slots : Nat} {Q : State → Prop} {D : va_G} {G : Nat → ClassId} {b L : Nat} {xs : Nat → Int32} {ax am o1 o2 : Nat} {h : Nat → Nat} {th : Int} {ls : Array Slot} (hx : p.tables.exec = Jvm.exec) (hb : c.code = cL_law) (hml : c.maxLocals = 9) (hown : s.vm.findClass RL = some m.cls) (hts : ∀ w ∈ wsL_law, w.before #[Value.ref b] s = true) (hK : va_K D vwCl (zTy G) s) (hN : zN s) (hT0 : zT s s.heap) (hX : va_X b L xs s s.heap) (hbl : b < s.heap.size) (hL9 : L ≤ 2560) (hce : cells + 20 ≤ 601024) (hsl : slots + 3000 ≤ 7293034) (hS : va_S (fun q => s.heap.size ≤ q) s.heap H locs) (hI : LI D G ax am o1 o2 s.heap.size h th H) (i : Int) (hi : 0 ≤ i ∧ i + 5 ≤ L) (x1 : Int) (hv1 : xs (i + 1).toNat = zI x1) (hr1 : -2147483648 ≤ x1 ∧ x1 ≤ 2147483647) (x2 : Int) (hv2 : xs (i + 2).toNat = zI x2) (hr2 : -2147483648 ≤ x2 ∧ x2 ≤ 2147483647) (x3 : Int) (hv3 : xs (i + 3).toNat = zI x3) (hr3 : -2147483648 ≤ x3 ∧ x3 ≤ 2147483647) (x4 : Int) (hv4 : xs (i + 4).toNat = zI x4) (hr4 : -2147483648 ≤ x4 ∧ x4 ≤ 2147483647) (hl : lv_has ls 9 [(0, .ref b), (1, .ref ax), (2, .ref am), (3, .ref o1), (4, .ref o2), (5, .int (zI (i)))]) (kk : ∀ (H1 : Heap) (locs1 : List Loc) (th1 : Int) (ls1 : Array Slot), va_S (fun q => s.heap.size ≤ q) s.heap H1 locs1 → LI D G ax am o1 o2 s.heap.size h th1 H1 → lv_has ls1 9 [(0, .ref b), (1, .ref ax), (2, .ref am), (3, .ref o1), (4, .ref o2), (5, .int (zI (i)))] → W p l e room_1 s m #[Value.ref b] below meth c H1 locs1 (cells + 20) (slots + 3000) Q (F0 m 1999 ls1 [])) : W p l e room_1 s m #[Value.ref b] below meth c H locs cells slots Q (F0 m 1076 ls []) := by
  obtain ⟨lab, n, m9, sp, τ, ζ, g, cs, ss, M, hOK, hM, hXL, hML, ho1, ho2, hz0, hW, hPm, ⟨f1, hO1⟩, ⟨f2, hO2⟩⟩ := id hI
  refine lv_aload_n hx hb dL_law_1076 rfl (lv_at hl 1 rfl) ?_
  refine lv_aload_n hx hb dL_law_1077 rfl (lv_at hl 0 rfl) ?_
  refine lv_iload hx hb dL_law_1078 (lv_at hl 5 rfl) ?_
  refine lv_iconst (v := zI (1)) hx hb dL_law_1080 rfl ?_
  refine z_iadd hx hb dL_law_1081 ?_
  refine z_sld hx hb hX hbl (Nat.not_le.mpr hbl) hS (i := i + 1) (x := x1) (by omega) (by omega) hv1 dL_law_1082 ?_
  refine lv_aload_n hx hb dL_law_1083 rfl (lv_at hl 0 rfl) ?_
  refine lv_iload hx hb dL_law_1084 (lv_at hl 5 rfl) ?_
  refine lv_iconst (v := zI (2)) hx hb dL_law_1086 rfl ?_
  refine z_iadd hx hb dL_law_1087 ?_
  refine z_sld hx hb hX hbl (Nat.not_le.mpr hbl) hS (i := i + 2) (x := x2) (by omega) (by omega) hv2 dL_law_1088 ?_
  refine lv_aload_n hx hb dL_law_1089 rfl (lv_at hl 0 rfl) ?_
  refine lv_iload hx hb dL_law_1090 (lv_at hl 5 rfl) ?_
  refine lv_iconst (v := zI (3)) hx hb dL_law_1092 rfl ?_
  refine z_iadd hx hb dL_law_1093 ?_
  refine z_sld hx hb hX hbl (Nat.not_le.mpr hbl) hS (i := i + 3) (x := x3) (by omega) (by omega) hv3 dL_law_1094 ?_
  refine z_if_eq (tgt := 1102) hx hb (by omega) dL_law_1095 (by decide) (fun c_1 => ?_) (fun c_1 => ?_)
  · refine lv_iconst (v := zI (0)) hx hb dL_law_1102 rfl ?_
    refine lv_aload_n hx hb dL_law_1103 rfl (lv_at hl 3 rfl) ?_
    have hAL : ∀ q : Nat, LA lab o1 H.size q → s.heap.size ≤ q := fun q h9 => Nat.not_lt.mp (fun h8 => by have h7 := hz0 q h8; have h6 := hS.1; rcases h9 with h9 | h9 | h9 <;> first | omega | (rw [h9] at h7; omega))
    refine z_callM (vx_runSW (As := [.ref ax, .int (zI (x1)), .int (zI (x2)), .int (zI (0)), .ref o1]) (rest := []) ⟨hx, hb, hml, hown, hts⟩ (kL_addSection l D G hl9 ax n m9 sp τ ζ g cs ss hOK lab hXL o1 H.size f1 (by omega) (x1) (x2) (0) hr1 hr2 (by omega)) (vx_cwSW 5 hts gL_law_L_addSection rfl rfl rfl (by decide +kernel) ⟨Nat.le_of_ble_eq_true rfl, Nat.le_of_ble_eq_true rfl⟩) (zPTreS hK hN (zT.kp hT0 hS) ⟨rfl, hW, hO1⟩) rfl rfl hl.1 rfl (lv_room (Nat.le_of_ble_eq_true rfl)) dL_law_1104 ⟨z_rc (by omega), z_rs (by omega)⟩) hS (fun q _ h9 => hAL q h9) hAL (fun H1 locs1 hp1 hz1 hk1 hS1 => ?_)
    obtain ⟨g', lab', cs', ss', hqC, hqN, hlb⟩ := hp1
    have hMLn := hML.same hPm hlb
    have ho1n : lab' o1 = 200 := (hlb _ (o_lt hO1)).trans ho1
    have ho2n : lab' o2 = 201 := (hlb _ (o_lt hO2)).trans ho2
    have hz0n : ∀ q : Nat, q < s.heap.size → lab' q = 300 := fun q hq => (hlb q (Nat.lt_of_lt_of_le hq hS.1)).trans (hz0 q hq)
    have hPm1 := mW.kp hPm hML (fun q hq h1 h2 => hk1 q hq (fun h9 => by rcases h9 with h9 | h9 | h9 <;> first | omega | (rw [h9] at h2; omega)))
    have hOx := o_kp hO2 (fun hq => hk1 o2 hq (fun h9 => by rcases h9 with h9 | h9 | h9 <;> first | omega | (rw [h9] at ho2; omega)))
    refine lv_istore (lv' := [(6, .int (zI (if (1 ≤ (x1) ∧ (x1) ≤ 5000) ∧ (0 ≤ (x2) ∧ (x2) ≤ 255) then (if m9 < 12 then 0 else 2) else 1))), (0, .ref b), (1, .ref ax), (2, .ref am), (3, .ref o1), (4, .ref o2), (5, .int (zI (i)))]) hx hb dL_law_1107 hl (by decide) rfl (fun ls hl => ?_)
    refine lv_aload_n hx hb dL_law_1109 rfl (lv_at hl 3 rfl) ?_
    refine lv_aload_n hx hb dL_law_1110 rfl (lv_at hl 1 rfl) ?_
    refine lv_iload hx hb dL_law_1111 (lv_at hl 6 rfl) ?_
    refine lv_iconst (v := zI (1)) hx hb dL_law_1113 rfl ?_
    refine z_iadd hx hb dL_law_1114 ?_
    refine z_sld hx hb hX hbl (Nat.not_le.mpr hbl) hS1 (i := i + 1) (x := x1) (by omega) (by omega) hv1 dL_law_1115 ?_
    refine lv_aload_n hx hb dL_law_1116 rfl (lv_at hl 1 rfl) ?_
    refine lv_iload hx hb dL_law_1117 (lv_at hl 6 rfl) ?_
    refine lv_iconst (v := zI (2)) hx hb dL_law_1119 rfl ?_
    refine z_iadd hx hb dL_law_1120 ?_
    refine z_sld hx hb hX hbl (Nat.not_le.mpr hbl) hS1 (i := i + 2) (x := x2) (by omega) (by omega) hv2 dL_law_1121 ?_
    refine lv_aload_n hx hb dL_law_1122 rfl (lv_at hl 1 rfl) ?_
    refine lv_iload hx hb dL_law_1123 (lv_at hl 6 rfl) ?_
    refine lv_iconst (v := zI (3)) hx hb dL_law_1125 rfl ?_
    refine z_iadd hx hb dL_law_1126 ?_
    refine z_sld hx hb hX hbl (Nat.not_le.mpr hbl) hS1 (i := i + 3) (x := x3) (by omega) (by omega) hv3 dL_law_1127 ?_
    refine z_if_eq (tgt := 1135) hx hb (by omega) dL_law_1128 (by decide) (fun c_2 => ?_) (fun c_2 => ?_)
    · refine lv_iconst (v := zI (0)) hx hb dL_law_1135 rfl ?_
      have hAM : ∀ q : Nat, zA [am, h 0, h 1, h 2, h 3, h 4, h 5, h 6, h 7, h 8, h 9] q → s.heap.size ≤ q := fun q h9 => Nat.not_lt.mp (fun h8 => by have h7 := hz0n q h8; have h6 := hMLn.in h9; omega)
      refine z_callM (va_runV (As := [.int (zI (x1)), .int (zI (x2)), .int (zI (0))]) (rest := []) ⟨hx, hb, hml, hown, hts⟩ (kX3_addSection l D G am th n m9 sp τ ζ h M hOK hM hMLn.nd (x1) (x2) (0) hr1 hr2 (by omega)) (cwV 3 hts gL_law_X3_addSection rfl rfl rfl (by decide +kernel) ⟨Nat.le_of_ble_eq_true rfl, Nat.le_of_ble_eq_true rfl⟩) (zPreV (va_recv hK hPm1 (ci := 3) (q0 := 0) rfl rfl) hK hN (hPm1)) rfl rfl hl.1 rfl (lv_room (Nat.le_of_ble_eq_true rfl)) dL_law_1136 ⟨z_rc (by omega), z_rs (by omega)⟩) hS1 (fun q _ h9 => hAM q h9) hAM (fun H2 locs2 hp2 hz2 hk2 hS2 => ?_)
      have hfr : ∀ q : Nat, q < H1.size → (lab' q < 100 ∨ 200 ≤ lab' q) → H2[q]? = H1[q]? := fun q hq hl8 => hk2 q hq (fun h9 => by have h6 := hMLn.in h9; omega)
      obtain ⟨M', hPm2, hMC, hMN⟩ := hp2
      have hfin := LI.fin (D := D) (G := G) (C := ((1 ≤ (x1) ∧ (x1) ≤ 5000) ∧ (0 ≤ (x2) ∧ (x2) ≤ 255)) ∧ m9 < 12) (v := (zI (if m9 = 0 then 0 else ζ (m9 - 1).toNat 0 + ζ (m9 - 1).toNat 1)).toInt64) hOK (fun hC => hOK.sec9 hC.2 hC.1.1 hC.1.2 (by omega)) hM hMC hMN hMLn ho1n ho2n hz0n hqC hqN ⟨f2, hOx⟩ hPm2 (fun hC => ⟨rfl, if_pos hC, rfl⟩) (fun hC => ⟨rfl, if_neg hC, rfl⟩) hfr
      obtain ⟨hI2, hval⟩ := hfin
      obtain ⟨lab2, n2, m2, sp2, τ2, ζ2, g2, cs2, ss2, M2, hOK2, hM2, hXL2, hML2, -, -, -, -, hPm3, -, -⟩ := id hI2
      refine lv_istore (lv' := [(7, .int (zI (if (1 ≤ (x1) ∧ (x1) ≤ 5000) ∧ (0 ≤ (x2) ∧ (x2) ≤ 255) then (if m9 < 12 then (if m9 = 0 then 0 else ζ (m9 - 1).toNat 0 + ζ (m9 - 1).toNat 1) else 0) else 0))), (6, .int (zI (if (1 ≤ (x1) ∧ (x1) ≤ 5000) ∧ (0 ≤ (x2) ∧ (x2) ≤ 255) then (if m9 < 12 then 0 else 2) else 1))), (0, .ref b), (1, .ref ax), (2, .ref am), (3, .ref o1), (4, .ref o2), (5, .int (zI (i)))]) hx hb dL_law_1139 hl (by decide) rfl (fun ls hl => ?_)
      refine lv_aload_n hx hb dL_law_1141 rfl (lv_at hl 4 rfl) ?_
      refine z_call (va_runV (As := []) (rest := []) ⟨hx, hb, hml, hown, hts⟩ (kX3_thrown l D G am (if (1 ≤ (x1) ∧ (x1) ≤ 5000) ∧ (0 ≤ (x2) ∧ (x2) ≤ 255) then (if m9 < 12 then 0 else 2) else 1) n2 m2 sp2 τ2 ζ2 h M2 hOK2 hM2) (cwV 0 hts gL_law_X3_thrown rfl rfl rfl (by decide +kernel) ⟨Nat.le_of_ble_eq_true rfl, Nat.le_of_ble_eq_true rfl⟩) (zPreV (va_recv hK hPm3 (ci := 3) (q0 := 0) rfl rfl) hK hN (hPm3)) rfl rfl hl.1 rfl (lv_room (Nat.le_of_ble_eq_true rfl)) dL_law_1142 ⟨z_rc (by omega), z_rs (by omega)⟩) ?_
      refine lv_iload hx hb dL_law_1145 (lv_at hl 1 rfl) ?_
      refine lv_icmp_eq (tgt := 1152) hx hb dL_law_1147 (by decide) (fun _ => ?_) (fun c9 => absurd rfl c9)
      refine lv_iload hx hb dL_law_1152 (lv_at hl 1 rfl) ?_
      refine lv_if_ne (tgt := 1169) hx hb dL_law_1154 (by decide) (fun _ => ?_) (fun c9 => ?_)
      · refine lv_goto (tgt := 1999) hx hb dL_law_1169 (by decide) ?_
        refine W.widen (k := cells + 20) (n := slots + 3000) (by omega) (by omega) ?_
        exact kk _ _ _ _ hS2 hI2 (lv_sub hl [2, 3, 4, 5, 6, 7] rfl)
      · have hC := zK2 c9
        obtain ⟨f9, hf9, hPo9⟩ := hval hC
        refine lv_aload_n hx hb dL_law_1157 rfl (lv_at hl 5 rfl) ?_
        refine lv_iconst (v := zI (0)) hx hb dL_law_1158 rfl ?_
        refine z_lald (x := (zI (if m9 = 0 then 0 else ζ (m9 - 1).toNat 0 + ζ (m9 - 1).toNat 1)).toInt64) (D := D) hx hb hK hPo9 0 2 rfl rfl (by omega) (by omega) hf9 dL_law_1159 ?_
        refine lv_iload hx hb dL_law_1160 (lv_at hl 0 rfl) ?_
        refine lv_i2l (v := (zI (if (1 ≤ (x1) ∧ (x1) ≤ 5000) ∧ (0 ≤ (x2) ∧ (x2) ≤ 255) then (if m9 < 12 then (if m9 = 0 then 0 else ζ (m9 - 1).toNat 0 + ζ (m9 - 1).toNat 1) else 0) else 0)).toInt64) hx hb dL_law_1162 rfl ?_
        refine W.lcmp hx hb dL_law_1163 ?_
        refine lv_if_eq (tgt := 1169) hx hb dL_law_1164 (by decide) (fun _ => ?_) (fun c8 => absurd (by rw [if_pos hC.1, if_pos hC.2]; exact z_cmp_self _) c8)
        refine lv_goto (tgt := 1999) hx hb dL_law_1169 (by decide) ?_
        refine W.widen (k := cells + 20) (n := slots + 3000) (by omega) (by omega) ?_
        exact kk _ _ _ _ hS2 hI2 (lv_sub hl [2, 3, 4, 5, 6, 7] rfl)
    · exfalso; omega
  · refine lv_iconst (v := zI (1)) hx hb dL_law_1098 rfl ?_
    refine lv_goto (tgt := 1103) hx hb dL_law_1099 (by decide) ?_
    refine lv_aload_n hx hb dL_law_1103 rfl (lv_at hl 3 rfl) ?_
    have hAL : ∀ q : Nat, LA lab o1 H.size q → s.heap.size ≤ q := fun q h9 => Nat.not_lt.mp (fun h8 => by have h7 := hz0 q h8; have h6 := hS.1; rcases h9 with h9 | h9 | h9 <;> first | omega | (rw [h9] at h7; omega))
    refine z_callM (vx_runSW (As := [.ref ax, .int (zI (x1)), .int (zI (x2)), .int (zI (1)), .ref o1]) (rest := []) ⟨hx, hb, hml, hown, hts⟩ (kL_addSection l D G hl9 ax n m9 sp τ ζ g cs ss hOK lab hXL o1 H.size f1 (by omega) (x1) (x2) (1) hr1 hr2 (by omega)) (vx_cwSW 5 hts gL_law_L_addSection rfl rfl rfl (by decide +kernel) ⟨Nat.le_of_ble_eq_true rfl, Nat.le_of_ble_eq_true rfl⟩) (zPTreS hK hN (zT.kp hT0 hS) ⟨rfl, hW, hO1⟩) rfl rfl hl.1 rfl (lv_room (Nat.le_of_ble_eq_true rfl)) dL_law_1104 ⟨z_rc (by omega), z_rs (by omega)⟩) hS (fun q _ h9 => hAL q h9) hAL (fun H1 locs1 hp1 hz1 hk1 hS1 => ?_)
    obtain ⟨g', lab', cs', ss', hqC, hqN, hlb⟩ := hp1
    have hMLn := hML.same hPm hlb
    have ho1n : lab' o1 = 200 := (hlb _ (o_lt hO1)).trans ho1
    have ho2n : lab' o2 = 201 := (hlb _ (o_lt hO2)).trans ho2
    have hz0n : ∀ q : Nat, q < s.heap.size → lab' q = 300 := fun q hq => (hlb q (Nat.lt_of_lt_of_le hq hS.1)).trans (hz0 q hq)
    have hPm1 := mW.kp hPm hML (fun q hq h1 h2 => hk1 q hq (fun h9 => by rcases h9 with h9 | h9 | h9 <;> first | omega | (rw [h9] at h2; omega)))
    have hOx := o_kp hO2 (fun hq => hk1 o2 hq (fun h9 => by rcases h9 with h9 | h9 | h9 <;> first | omega | (rw [h9] at ho2; omega)))
    refine lv_istore (lv' := [(6, .int (zI (if (1 ≤ (x1) ∧ (x1) ≤ 5000) ∧ (0 ≤ (x2) ∧ (x2) ≤ 255) then (if m9 < 12 then 0 else 2) else 1))), (0, .ref b), (1, .ref ax), (2, .ref am), (3, .ref o1), (4, .ref o2), (5, .int (zI (i)))]) hx hb dL_law_1107 hl (by decide) rfl (fun ls hl => ?_)
    refine lv_aload_n hx hb dL_law_1109 rfl (lv_at hl 3 rfl) ?_
    refine lv_aload_n hx hb dL_law_1110 rfl (lv_at hl 1 rfl) ?_
    refine lv_iload hx hb dL_law_1111 (lv_at hl 6 rfl) ?_
    refine lv_iconst (v := zI (1)) hx hb dL_law_1113 rfl ?_
    refine z_iadd hx hb dL_law_1114 ?_
    refine z_sld hx hb hX hbl (Nat.not_le.mpr hbl) hS1 (i := i + 1) (x := x1) (by omega) (by omega) hv1 dL_law_1115 ?_
    refine lv_aload_n hx hb dL_law_1116 rfl (lv_at hl 1 rfl) ?_
    refine lv_iload hx hb dL_law_1117 (lv_at hl 6 rfl) ?_
    refine lv_iconst (v := zI (2)) hx hb dL_law_1119 rfl ?_
    refine z_iadd hx hb dL_law_1120 ?_
    refine z_sld hx hb hX hbl (Nat.not_le.mpr hbl) hS1 (i := i + 2) (x := x2) (by omega) (by omega) hv2 dL_law_1121 ?_
    refine lv_aload_n hx hb dL_law_1122 rfl (lv_at hl 1 rfl) ?_
    refine lv_iload hx hb dL_law_1123 (lv_at hl 6 rfl) ?_
    refine lv_iconst (v := zI (3)) hx hb dL_law_1125 rfl ?_
    refine z_iadd hx hb dL_law_1126 ?_
    refine z_sld hx hb hX hbl (Nat.not_le.mpr hbl) hS1 (i := i + 3) (x := x3) (by omega) (by omega) hv3 dL_law_1127 ?_
    refine z_if_eq (tgt := 1135) hx hb (by omega) dL_law_1128 (by decide) (fun c_3 => ?_) (fun c_3 => ?_)
    · exfalso; omega
    · refine lv_iconst (v := zI (1)) hx hb dL_law_1131 rfl ?_
      refine lv_goto (tgt := 1136) hx hb dL_law_1132 (by decide) ?_
      have hAM : ∀ q : Nat, zA [am, h 0, h 1, h 2, h 3, h 4, h 5, h 6, h 7, h 8, h 9] q → s.heap.size ≤ q := fun q h9 => Nat.not_lt.mp (fun h8 => by have h7 := hz0n q h8; have h6 := hMLn.in h9; omega)
      refine z_callM (va_runV (As := [.int (zI (x1)), .int (zI (x2)), .int (zI (1))]) (rest := []) ⟨hx, hb, hml, hown, hts⟩ (kX3_addSection l D G am th n m9 sp τ ζ h M hOK hM hMLn.nd (x1) (x2) (1) hr1 hr2 (by omega)) (cwV 3 hts gL_law_X3_addSection rfl rfl rfl (by decide +kernel) ⟨Nat.le_of_ble_eq_true rfl, Nat.le_of_ble_eq_true rfl⟩) (zPreV (va_recv hK hPm1 (ci := 3) (q0 := 0) rfl rfl) hK hN (hPm1)) rfl rfl hl.1 rfl (lv_room (Nat.le_of_ble_eq_true rfl)) dL_law_1136 ⟨z_rc (by omega), z_rs (by omega)⟩) hS1 (fun q _ h9 => hAM q h9) hAM (fun H2 locs2 hp2 hz2 hk2 hS2 => ?_)
      have hfr : ∀ q : Nat, q < H1.size → (lab' q < 100 ∨ 200 ≤ lab' q) → H2[q]? = H1[q]? := fun q hq hl8 => hk2 q hq (fun h9 => by have h6 := hMLn.in h9; omega)
      obtain ⟨M', hPm2, hMC, hMN⟩ := hp2
      have hfin := LI.fin (D := D) (G := G) (C := ((1 ≤ (x1) ∧ (x1) ≤ 5000) ∧ (0 ≤ (x2) ∧ (x2) ≤ 255)) ∧ m9 < 12) (v := (zI (if m9 = 0 then 0 else ζ (m9 - 1).toNat 0 + ζ (m9 - 1).toNat 1)).toInt64) hOK (fun hC => hOK.sec9 hC.2 hC.1.1 hC.1.2 (by omega)) hM hMC hMN hMLn ho1n ho2n hz0n hqC hqN ⟨f2, hOx⟩ hPm2 (fun hC => ⟨rfl, if_pos hC, rfl⟩) (fun hC => ⟨rfl, if_neg hC, rfl⟩) hfr
      obtain ⟨hI2, hval⟩ := hfin
      obtain ⟨lab2, n2, m2, sp2, τ2, ζ2, g2, cs2, ss2, M2, hOK2, hM2, hXL2, hML2, -, -, -, -, hPm3, -, -⟩ := id hI2
      refine lv_istore (lv' := [(7, .int (zI (if (1 ≤ (x1) ∧ (x1) ≤ 5000) ∧ (0 ≤ (x2) ∧ (x2) ≤ 255) then (if m9 < 12 then (if m9 = 0 then 0 else ζ (m9 - 1).toNat 0 + ζ (m9 - 1).toNat 1) else 0) else 0))), (6, .int (zI (if (1 ≤ (x1) ∧ (x1) ≤ 5000) ∧ (0 ≤ (x2) ∧ (x2) ≤ 255) then (if m9 < 12 then 0 else 2) else 1))), (0, .ref b), (1, .ref ax), (2, .ref am), (3, .ref o1), (4, .ref o2), (5, .int (zI (i)))]) hx hb dL_law_1139 hl (by decide) rfl (fun ls hl => ?_)
      refine lv_aload_n hx hb dL_law_1141 rfl (lv_at hl 4 rfl) ?_
      refine z_call (va_runV (As := []) (rest := []) ⟨hx, hb, hml, hown, hts⟩ (kX3_thrown l D G am (if (1 ≤ (x1) ∧ (x1) ≤ 5000) ∧ (0 ≤ (x2) ∧ (x2) ≤ 255) then (if m9 < 12 then 0 else 2) else 1) n2 m2 sp2 τ2 ζ2 h M2 hOK2 hM2) (cwV 0 hts gL_law_X3_thrown rfl rfl rfl (by decide +kernel) ⟨Nat.le_of_ble_eq_true rfl, Nat.le_of_ble_eq_true rfl⟩) (zPreV (va_recv hK hPm3 (ci := 3) (q0 := 0) rfl rfl) hK hN (hPm3)) rfl rfl hl.1 rfl (lv_room (Nat.le_of_ble_eq_true rfl)) dL_law_1142 ⟨z_rc (by omega), z_rs (by omega)⟩) ?_
      refine lv_iload hx hb dL_law_1145 (lv_at hl 1 rfl) ?_
      refine lv_icmp_eq (tgt := 1152) hx hb dL_law_1147 (by decide) (fun _ => ?_) (fun c9 => absurd rfl c9)
      refine lv_iload hx hb dL_law_1152 (lv_at hl 1 rfl) ?_
      refine lv_if_ne (tgt := 1169) hx hb dL_law_1154 (by decide) (fun _ => ?_) (fun c9 => ?_)
      · refine lv_goto (tgt := 1999) hx hb dL_law_1169 (by decide) ?_
        refine W.widen (k := cells + 20) (n := slots + 3000) (by omega) (by omega) ?_
        exact kk _ _ _ _ hS2 hI2 (lv_sub hl [2, 3, 4, 5, 6, 7] rfl)
      · have hC := zK2 c9
        obtain ⟨f9, hf9, hPo9⟩ := hval hC
        refine lv_aload_n hx hb dL_law_1157 rfl (lv_at hl 5 rfl) ?_
        refine lv_iconst (v := zI (0)) hx hb dL_law_1158 rfl ?_
        refine z_lald (x := (zI (if m9 = 0 then 0 else ζ (m9 - 1).toNat 0 + ζ (m9 - 1).toNat 1)).toInt64) (D := D) hx hb hK hPo9 0 2 rfl rfl (by omega) (by omega) hf9 dL_law_1159 ?_
        refine lv_iload hx hb dL_law_1160 (lv_at hl 0 rfl) ?_
        refine lv_i2l (v := (zI (if (1 ≤ (x1) ∧ (x1) ≤ 5000) ∧ (0 ≤ (x2) ∧ (x2) ≤ 255) then (if m9 < 12 then (if m9 = 0 then 0 else ζ (m9 - 1).toNat 0 + ζ (m9 - 1).toNat 1) else 0) else 0)).toInt64) hx hb dL_law_1162 rfl ?_
        refine W.lcmp hx hb dL_law_1163 ?_
        refine lv_if_eq (tgt := 1169) hx hb dL_law_1164 (by decide) (fun _ => ?_) (fun c8 => absurd (by rw [if_pos hC.1, if_pos hC.2]; exact z_cmp_self _) c8)
        refine lv_goto (tgt := 1999) hx hb dL_law_1169 (by decide) ?_
        refine W.widen (k := cells + 20) (n := slots + 3000) (by omega) (by omega) ?_
        exact kk _ _ _ _ hS2 hI2 (lv_sub hl [2, 3, 4, 5, 6, 7] rfl)

set_option maxHeartbeats 4000000 in
set_option maxRecDepth 100000 in
theorem lc_13 (l : Launch) (hl9 : l.stackTraces = false) {p : Program} {e : Env} {s : State} {m : MethodId} {below : List Frame} {meth : Method} {c : Code} {H : Heap} {locs : List Loc} {cells slots : Nat} {Q : State → Prop} {D : va_G} {G : Nat → ClassId} {b L : Nat} {xs : Nat → Int32} {ax am o1 o2 : Nat} {h : Nat → Nat} {th : Int} {ls : Array Slot} (hx : p.tables.exec = Jvm.exec) (hb : c.code = cL_law) (hml : c.maxLocals = 9) (hown : s.vm.findClass RL = some m.cls) (hts : ∀ w ∈ wsL_law, w.before #[Value.ref b] s = true) (hK : va_K D vwCl (zTy G) s) (hN : zN s) (hT0 : zT s s.heap) (hX : va_X b L xs s s.heap) (hbl : b < s.heap.size) (hL9 : L ≤ 2560) (hce : cells + 20 ≤ 601024) (hsl : slots + 3000 ≤ 7293034) (hS : va_S (fun q => s.heap.size ≤ q) s.heap H locs) (hI : LI D G ax am o1 o2 s.heap.size h th H) (i : Int) (hi : 0 ≤ i ∧ i + 5 ≤ L) (x1 : Int) (hv1 : xs (i + 1).toNat = zI x1) (hr1 : -2147483648 ≤ x1 ∧ x1 ≤ 2147483647) (x2 : Int) (hv2 : xs (i + 2).toNat = zI x2) (hr2 : -2147483648 ≤ x2 ∧ x2 ≤ 2147483647) (x3 : Int) (hv3 : xs (i + 3).toNat = zI x3) (hr3 : -2147483648 ≤ x3 ∧ x3 ≤ 2147483647) (x4 : Int) (hv4 : xs (i + 4).toNat = zI x4) (hr4 : -2147483648 ≤ x4 ∧ x4 ≤ 2147483647) (hl : lv_has ls 9 [(0, .ref b), (1, .ref ax), (2, .ref am), (3, .ref o1), (4, .ref o2), (5, .int (zI (i)))]) (kk : ∀ (H1 : Heap) (locs1 : List Loc) (th1 : Int) (ls1 : Array Slot), va_S (fun q => s.heap.size ≤ q) s.heap H1 locs1 → LI D G ax am o1 o2 s.heap.size h th1 H1 → lv_has ls1 9 [(0, .ref b), (1, .ref ax), (2, .ref am), (3, .ref o1), (4, .ref o2), (5, .int (zI (i)))] → W p l e room_1 s m #[Value.ref b] below meth c H1 locs1 (cells + 20) (slots + 3000) Q (F0 m 1999 ls1 [])) : W p l e room_1 s m #[Value.ref b] below meth c H locs cells slots Q (F0 m 1172 ls []) := by
  obtain ⟨lab, n, m9, sp, τ, ζ, g, cs, ss, M, hOK, hM, hXL, hML, ho1, ho2, hz0, hW, hPm, ⟨f1, hO1⟩, ⟨f2, hO2⟩⟩ := id hI
  refine lv_aload_n hx hb dL_law_1172 rfl (lv_at hl 1 rfl) ?_
  refine lv_aload_n hx hb dL_law_1173 rfl (lv_at hl 3 rfl) ?_
  have hAL : ∀ q : Nat, LA lab o1 H.size q → s.heap.size ≤ q := fun q h9 => Nat.not_lt.mp (fun h8 => by have h7 := hz0 q h8; have h6 := hS.1; rcases h9 with h9 | h9 | h9 <;> first | omega | (rw [h9] at h7; omega))
  refine z_callM (vx_runSW (As := [.ref ax, .ref o1]) (rest := []) ⟨hx, hb, hml, hown, hts⟩ (kL_dropSection l D G hl9 ax n m9 sp τ ζ g cs ss hOK lab hXL o1 H.size f1 (by omega)  ) (vx_cwSW 2 hts gL_law_L_dropSection rfl rfl rfl (by decide +kernel) ⟨Nat.le_of_ble_eq_true rfl, Nat.le_of_ble_eq_true rfl⟩) (zPTreS hK hN (zT.kp hT0 hS) ⟨rfl, hW, hO1⟩) rfl rfl hl.1 rfl (lv_room (Nat.le_of_ble_eq_true rfl)) dL_law_1174 ⟨z_rc (by omega), z_rs (by omega)⟩) hS (fun q _ h9 => hAL q h9) hAL (fun H1 locs1 hp1 hz1 hk1 hS1 => ?_)
  obtain ⟨g', lab', cs', ss', hqC, hqN, hlb⟩ := hp1
  have hMLn := hML.same hPm hlb
  have ho1n : lab' o1 = 200 := (hlb _ (o_lt hO1)).trans ho1
  have ho2n : lab' o2 = 201 := (hlb _ (o_lt hO2)).trans ho2
  have hz0n : ∀ q : Nat, q < s.heap.size → lab' q = 300 := fun q hq => (hlb q (Nat.lt_of_lt_of_le hq hS.1)).trans (hz0 q hq)
  have hPm1 := mW.kp hPm hML (fun q hq h1 h2 => hk1 q hq (fun h9 => by rcases h9 with h9 | h9 | h9 <;> first | omega | (rw [h9] at h2; omega)))
  have hOx := o_kp hO2 (fun hq => hk1 o2 hq (fun h9 => by rcases h9 with h9 | h9 | h9 <;> first | omega | (rw [h9] at ho2; omega)))
  refine lv_istore (lv' := [(6, .int (zI (if 1 ≤ m9 then 0 else 1))), (0, .ref b), (1, .ref ax), (2, .ref am), (3, .ref o1), (4, .ref o2), (5, .int (zI (i)))]) hx hb dL_law_1177 hl (by decide) rfl (fun ls hl => ?_)
  refine lv_aload_n hx hb dL_law_1179 rfl (lv_at hl 3 rfl) ?_
  have hAM : ∀ q : Nat, zA [am, h 0, h 1, h 2, h 3, h 4, h 5, h 6, h 7, h 8, h 9] q → s.heap.size ≤ q := fun q h9 => Nat.not_lt.mp (fun h8 => by have h7 := hz0n q h8; have h6 := hMLn.in h9; omega)
  refine z_callM (va_runV (As := []) (rest := []) ⟨hx, hb, hml, hown, hts⟩ (kX3_dropSection l D G am th n m9 sp τ ζ h M hOK hM hMLn.nd  ) (cwV 0 hts gL_law_X3_dropSection rfl rfl rfl (by decide +kernel) ⟨Nat.le_of_ble_eq_true rfl, Nat.le_of_ble_eq_true rfl⟩) (zPreV (va_recv hK hPm1 (ci := 3) (q0 := 0) rfl rfl) hK hN (hPm1)) rfl rfl hl.1 rfl (lv_room (Nat.le_of_ble_eq_true rfl)) dL_law_1180 ⟨z_rc (by omega), z_rs (by omega)⟩) hS1 (fun q _ h9 => hAM q h9) hAM (fun H2 locs2 hp2 hz2 hk2 hS2 => ?_)
  have hfr : ∀ q : Nat, q < H1.size → (lab' q < 100 ∨ 200 ≤ lab' q) → H2[q]? = H1[q]? := fun q hq hl8 => hk2 q hq (fun h9 => by have h6 := hMLn.in h9; omega)
  have hPm2 := hp2
  have hMC : (1 ≤ m9) → MR (n) (m9 - 1) (τ) (ζ) M := fun _ => hM.drop9
  have hMN : ¬ (1 ≤ m9) → M = M := fun _ => rfl
  have hfin := LI.fin (D := D) (G := G) (C := 1 ≤ m9) (v := (zI (m9 - 1)).toInt64) hOK (fun hC => hOK.drop9 hC) hM hMC hMN hMLn ho1n ho2n hz0n hqC hqN ⟨f2, hOx⟩ hPm2 (fun hC => ⟨rfl, if_pos hC, rfl⟩) (fun hC => ⟨rfl, if_neg hC, rfl⟩) hfr
  obtain ⟨hI2, hval⟩ := hfin
  obtain ⟨lab2, n2, m2, sp2, τ2, ζ2, g2, cs2, ss2, M2, hOK2, hM2, hXL2, hML2, -, -, -, -, hPm3, -, -⟩ := id hI2
  refine lv_istore (lv' := [(7, .int (zI (if 1 ≤ m9 then (m9 - 1) else 0))), (6, .int (zI (if 1 ≤ m9 then 0 else 1))), (0, .ref b), (1, .ref ax), (2, .ref am), (3, .ref o1), (4, .ref o2), (5, .int (zI (i)))]) hx hb dL_law_1183 hl (by decide) rfl (fun ls hl => ?_)
  refine lv_aload_n hx hb dL_law_1185 rfl (lv_at hl 4 rfl) ?_
  refine z_call (va_runV (As := []) (rest := []) ⟨hx, hb, hml, hown, hts⟩ (kX3_thrown l D G am (if 1 ≤ m9 then 0 else 1) n2 m2 sp2 τ2 ζ2 h M2 hOK2 hM2) (cwV 0 hts gL_law_X3_thrown rfl rfl rfl (by decide +kernel) ⟨Nat.le_of_ble_eq_true rfl, Nat.le_of_ble_eq_true rfl⟩) (zPreV (va_recv hK hPm3 (ci := 3) (q0 := 0) rfl rfl) hK hN (hPm3)) rfl rfl hl.1 rfl (lv_room (Nat.le_of_ble_eq_true rfl)) dL_law_1186 ⟨z_rc (by omega), z_rs (by omega)⟩) ?_
  refine lv_iload hx hb dL_law_1189 (lv_at hl 1 rfl) ?_
  refine lv_icmp_eq (tgt := 1196) hx hb dL_law_1191 (by decide) (fun _ => ?_) (fun c9 => absurd rfl c9)
  refine lv_iload hx hb dL_law_1196 (lv_at hl 1 rfl) ?_
  refine lv_if_ne (tgt := 1213) hx hb dL_law_1198 (by decide) (fun _ => ?_) (fun c9 => ?_)
  · refine lv_goto (tgt := 1999) hx hb dL_law_1213 (by decide) ?_
    refine W.widen (k := cells + 20) (n := slots + 3000) (by omega) (by omega) ?_
    exact kk _ _ _ _ hS2 hI2 (lv_sub hl [2, 3, 4, 5, 6, 7] rfl)
  · have hC := zK1 c9
    obtain ⟨f9, hf9, hPo9⟩ := hval hC
    refine lv_aload_n hx hb dL_law_1201 rfl (lv_at hl 5 rfl) ?_
    refine lv_iconst (v := zI (0)) hx hb dL_law_1202 rfl ?_
    refine z_lald (x := (zI (m9 - 1)).toInt64) (D := D) hx hb hK hPo9 0 2 rfl rfl (by omega) (by omega) hf9 dL_law_1203 ?_
    refine lv_iload hx hb dL_law_1204 (lv_at hl 0 rfl) ?_
    refine lv_i2l (v := (zI (if 1 ≤ m9 then (m9 - 1) else 0)).toInt64) hx hb dL_law_1206 rfl ?_
    refine W.lcmp hx hb dL_law_1207 ?_
    refine lv_if_eq (tgt := 1213) hx hb dL_law_1208 (by decide) (fun _ => ?_) (fun c8 => absurd (by rw [if_pos hC]; exact z_cmp_self _) c8)
    refine lv_goto (tgt := 1999) hx hb dL_law_1213 (by decide) ?_
    refine W.widen (k := cells + 20) (n := slots + 3000) (by omega) (by omega) ?_
    exact kk _ _ _ _ hS2 hI2 (lv_sub hl [2, 3, 4, 5, 6, 7] rfl)
