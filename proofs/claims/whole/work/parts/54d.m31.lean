set_option maxHeartbeats 4000000 in
set_option maxRecDepth 100000 in
theorem lc_21 (l : Launch) (hl9 : l.stackTraces = false) {p : Program} {e : Env} {s : State} {m : MethodId} {below : List Frame} {meth : Method} {c : Code} {H : Heap} {locs : List Loc} {cells slots : Nat} {Q : State → Prop} {D : va_G} {G : Nat → ClassId} {b L : Nat} {xs : Nat → Int32} {ax am o1 o2 : Nat} {h : Nat → Nat} {th : Int} {ls : Array Slot} (hx : p.tables.exec = Jvm.exec) (hb : c.code = cL_law) (hml : c.maxLocals = 9) (hown : s.vm.findClass RL = some m.cls) (hts : ∀ w ∈ wsL_law, w.before #[Value.ref b] s = true) (hK : va_K D vwCl (zTy G) s) (hN : zN s) (hT0 : zT s s.heap) (hX : va_X b L xs s s.heap) (hbl : b < s.heap.size) (hL9 : L ≤ 2560) (hce : cells + 20 ≤ 601024) (hsl : slots + 3000 ≤ 7293034) (hS : va_S (fun q => s.heap.size ≤ q) s.heap H locs) (hI : LI D G ax am o1 o2 s.heap.size h th H) (i : Int) (hi : 0 ≤ i ∧ i + 5 ≤ L) (x1 : Int) (hv1 : xs (i + 1).toNat = zI x1) (hr1 : -2147483648 ≤ x1 ∧ x1 ≤ 2147483647) (x2 : Int) (hv2 : xs (i + 2).toNat = zI x2) (hr2 : -2147483648 ≤ x2 ∧ x2 ≤ 2147483647) (x3 : Int) (hv3 : xs (i + 3).toNat = zI x3) (hr3 : -2147483648 ≤ x3 ∧ x3 ≤ 2147483647) (x4 : Int) (hv4 : xs (i + 4).toNat = zI x4) (hr4 : -2147483648 ≤ x4 ∧ x4 ≤ 2147483647) (hl : lv_has ls 9 [(0, .ref b), (1, .ref ax), (2, .ref am), (3, .ref o1), (4, .ref o2), (5, .int (zI (i)))]) (kk : ∀ (H1 : Heap) (locs1 : List Loc) (th1 : Int) (ls1 : Array Slot), va_S (fun q => s.heap.size ≤ q) s.heap H1 locs1 → LI D G ax am o1 o2 s.heap.size h th1 H1 → lv_has ls1 9 [(0, .ref b), (1, .ref ax), (2, .ref am), (3, .ref o1), (4, .ref o2), (5, .int (zI (i)))] → W p l e room_1 s m #[Value.ref b] below meth c H1 locs1 (cells + 20) (slots + 3000) Q (F0 m 1999 ls1 [])) : W p l e room_1 s m #[Value.ref b] below meth c H locs cells slots Q (F0 m 1613 ls []) := by
  obtain ⟨lab, n, m9, sp, τ, ζ, g, cs, ss, M, hOK, hM, hXL, hML, ho1, ho2, hz0, hW, hPm, ⟨f1, hO1⟩, ⟨f2, hO2⟩⟩ := id hI
  refine lv_aload_n hx hb dL_law_1613 rfl (lv_at hl 1 rfl) ?_
  refine lv_aload_n hx hb dL_law_1614 rfl (lv_at hl 0 rfl) ?_
  refine lv_iload hx hb dL_law_1615 (lv_at hl 5 rfl) ?_
  refine lv_iconst (v := zI (1)) hx hb dL_law_1617 rfl ?_
  refine z_iadd hx hb dL_law_1618 ?_
  refine z_sld hx hb hX hbl (Nat.not_le.mpr hbl) hS (i := i + 1) (x := x1) (by omega) (by omega) hv1 dL_law_1619 ?_
  refine lv_aload_n hx hb dL_law_1620 rfl (lv_at hl 0 rfl) ?_
  refine lv_iload hx hb dL_law_1621 (lv_at hl 5 rfl) ?_
  refine lv_iconst (v := zI (2)) hx hb dL_law_1623 rfl ?_
  refine z_iadd hx hb dL_law_1624 ?_
  refine z_sld hx hb hX hbl (Nat.not_le.mpr hbl) hS (i := i + 2) (x := x2) (by omega) (by omega) hv2 dL_law_1625 ?_
  refine lv_aload_n hx hb dL_law_1626 rfl (lv_at hl 0 rfl) ?_
  refine lv_iload hx hb dL_law_1627 (lv_at hl 5 rfl) ?_
  refine lv_iconst (v := zI (3)) hx hb dL_law_1629 rfl ?_
  refine z_iadd hx hb dL_law_1630 ?_
  refine z_sld hx hb hX hbl (Nat.not_le.mpr hbl) hS (i := i + 3) (x := x3) (by omega) (by omega) hv3 dL_law_1631 ?_
  refine lv_aload_n hx hb dL_law_1632 rfl (lv_at hl 0 rfl) ?_
  refine lv_iload hx hb dL_law_1633 (lv_at hl 5 rfl) ?_
  refine lv_iconst (v := zI (4)) hx hb dL_law_1635 rfl ?_
  refine z_iadd hx hb dL_law_1636 ?_
  refine z_sld hx hb hX hbl (Nat.not_le.mpr hbl) hS (i := i + 4) (x := x4) (by omega) (by omega) hv4 dL_law_1637 ?_
  refine lv_aload_n hx hb dL_law_1638 rfl (lv_at hl 3 rfl) ?_
  have hAL : ∀ q : Nat, LA lab o1 H.size q → s.heap.size ≤ q := fun q h9 => Nat.not_lt.mp (fun h8 => by have h7 := hz0 q h8; have h6 := hS.1; rcases h9 with h9 | h9 | h9 <;> first | omega | (rw [h9] at h7; omega))
  refine z_callM (vx_runSW (As := [.ref ax, .int (zI (x1)), .int (zI (x2)), .int (zI (x3)), .int (zI (x4)), .ref o1]) (rest := []) ⟨hx, hb, hml, hown, hts⟩ (kL_together l D G hl9 ax n m9 sp τ ζ g cs ss hOK lab hXL o1 H.size f1 (by omega) (x1) (x2) (x3) (x4) hr1 hr2 hr3 hr4) (vx_cwSW 6 hts gL_law_L_together rfl rfl rfl (by decide +kernel) ⟨Nat.le_of_ble_eq_true rfl, Nat.le_of_ble_eq_true rfl⟩) (zPTreS hK hN (zT.kp hT0 hS) ⟨rfl, hW, hO1⟩) rfl rfl hl.1 rfl (lv_room (Nat.le_of_ble_eq_true rfl)) dL_law_1639 ⟨z_rc (by omega), z_rs (by omega)⟩) hS (fun q _ h9 => hAL q h9) hAL (fun H1 locs1 hp1 hz1 hk1 hS1 => ?_)
  obtain ⟨g', lab', cs', ss', hqC, hqN, hlb⟩ := hp1
  have hMLn := hML.same hPm hlb
  have ho1n : lab' o1 = 200 := (hlb _ (o_lt hO1)).trans ho1
  have ho2n : lab' o2 = 201 := (hlb _ (o_lt hO2)).trans ho2
  have hz0n : ∀ q : Nat, q < s.heap.size → lab' q = 300 := fun q hq => (hlb q (Nat.lt_of_lt_of_le hq hS.1)).trans (hz0 q hq)
  have hPm1 := mW.kp hPm hML (fun q hq h1 h2 => hk1 q hq (fun h9 => by rcases h9 with h9 | h9 | h9 <;> first | omega | (rw [h9] at h2; omega)))
  have hOx := o_kp hO2 (fun hq => hk1 o2 hq (fun h9 => by rcases h9 with h9 | h9 | h9 <;> first | omega | (rw [h9] at ho2; omega)))
  refine lv_istore (lv' := [(6, .int (zI (if (0 ≤ (x1) ∧ (x1) < n) ∧ (0 ≤ (x2) ∧ (x2) < n) then (if (0 ≤ (x3) ∧ (x3) ≤ 99999) ∧ (0 ≤ (x4) ∧ (x4) ≤ 99999) ∧ (x3) ≤ (x4) ∧ (x4) - (x3) ≤ 3000 then 0 else 2) else 1))), (0, .ref b), (1, .ref ax), (2, .ref am), (3, .ref o1), (4, .ref o2), (5, .int (zI (i)))]) hx hb dL_law_1642 hl (by decide) rfl (fun ls hl => ?_)
  refine lv_aload_n hx hb dL_law_1644 rfl (lv_at hl 3 rfl) ?_
  refine lv_aload_n hx hb dL_law_1645 rfl (lv_at hl 1 rfl) ?_
  refine lv_iload hx hb dL_law_1646 (lv_at hl 6 rfl) ?_
  refine lv_iconst (v := zI (1)) hx hb dL_law_1648 rfl ?_
  refine z_iadd hx hb dL_law_1649 ?_
  refine z_sld hx hb hX hbl (Nat.not_le.mpr hbl) hS1 (i := i + 1) (x := x1) (by omega) (by omega) hv1 dL_law_1650 ?_
  refine lv_aload_n hx hb dL_law_1651 rfl (lv_at hl 1 rfl) ?_
  refine lv_iload hx hb dL_law_1652 (lv_at hl 6 rfl) ?_
  refine lv_iconst (v := zI (2)) hx hb dL_law_1654 rfl ?_
  refine z_iadd hx hb dL_law_1655 ?_
  refine z_sld hx hb hX hbl (Nat.not_le.mpr hbl) hS1 (i := i + 2) (x := x2) (by omega) (by omega) hv2 dL_law_1656 ?_
  refine lv_aload_n hx hb dL_law_1657 rfl (lv_at hl 1 rfl) ?_
  refine lv_iload hx hb dL_law_1658 (lv_at hl 6 rfl) ?_
  refine lv_iconst (v := zI (3)) hx hb dL_law_1660 rfl ?_
  refine z_iadd hx hb dL_law_1661 ?_
  refine z_sld hx hb hX hbl (Nat.not_le.mpr hbl) hS1 (i := i + 3) (x := x3) (by omega) (by omega) hv3 dL_law_1662 ?_
  refine lv_aload_n hx hb dL_law_1663 rfl (lv_at hl 1 rfl) ?_
  refine lv_iload hx hb dL_law_1664 (lv_at hl 6 rfl) ?_
  refine lv_iconst (v := zI (4)) hx hb dL_law_1666 rfl ?_
  refine z_iadd hx hb dL_law_1667 ?_
  refine z_sld hx hb hX hbl (Nat.not_le.mpr hbl) hS1 (i := i + 4) (x := x4) (by omega) (by omega) hv4 dL_law_1668 ?_
  have hAM : ∀ q : Nat, zA [am, h 0, h 1, h 2, h 3, h 4, h 5, h 6, h 7, h 8, h 9] q → s.heap.size ≤ q := fun q h9 => Nat.not_lt.mp (fun h8 => by have h7 := hz0n q h8; have h6 := hMLn.in h9; omega)
  refine z_callM (va_runV (As := [.int (zI (x1)), .int (zI (x2)), .int (zI (x3)), .int (zI (x4))]) (rest := []) ⟨hx, hb, hml, hown, hts⟩ (kX3_together l D G am th n m9 sp τ ζ h M hOK hM hMLn.nd (x1) (x2) (x3) (x4) hr1 hr2 hr3 hr4) (cwV 4 hts gL_law_X3_together rfl rfl rfl (by decide +kernel) ⟨Nat.le_of_ble_eq_true rfl, Nat.le_of_ble_eq_true rfl⟩) (zPreV (va_recv hK hPm1 (ci := 3) (q0 := 0) rfl rfl) hK hN (hPm1)) rfl rfl hl.1 rfl (lv_room (Nat.le_of_ble_eq_true rfl)) dL_law_1669 ⟨z_rc (by omega), z_rs (by omega)⟩) hS1 (fun q _ h9 => hAM q h9) hAM (fun H2 locs2 hp2 hz2 hk2 hS2 => ?_)
  have hfr : ∀ q : Nat, q < H1.size → (lab' q < 100 ∨ 200 ≤ lab' q) → H2[q]? = H1[q]? := fun q hq hl8 => hk2 q hq (fun h9 => by have h6 := hMLn.in h9; omega)
  have hPm2 := hp2
  have hMC : (((0 ≤ (x1) ∧ (x1) < n) ∧ (0 ≤ (x2) ∧ (x2) < n)) ∧ ((0 ≤ (x3) ∧ (x3) ≤ 99999) ∧ (0 ≤ (x4) ∧ (x4) ≤ 99999) ∧ (x3) ≤ (x4) ∧ (x4) - (x3) ≤ 3000)) → MR (n) (m9) (τ) (ζ) M := fun _ => hM
  have hMN : ¬ (((0 ≤ (x1) ∧ (x1) < n) ∧ (0 ≤ (x2) ∧ (x2) < n)) ∧ ((0 ≤ (x3) ∧ (x3) ≤ 99999) ∧ (0 ≤ (x4) ∧ (x4) ≤ 99999) ∧ (x3) ≤ (x4) ∧ (x4) - (x3) ≤ 3000)) → M = M := fun _ => rfl
  have hfin := LI.fin (D := D) (G := G) (C := ((0 ≤ (x1) ∧ (x1) < n) ∧ (0 ≤ (x2) ∧ (x2) < n)) ∧ ((0 ≤ (x3) ∧ (x3) ≤ 99999) ∧ (0 ≤ (x4) ∧ (x4) ≤ 99999) ∧ (x3) ≤ (x4) ∧ (x4) - (x3) ≤ 3000)) (v := (zI (xCnt (fun t => xHit n m9 τ ζ (x1) t ∧ xHit n m9 τ ζ (x2) t) (x3) ((x4) - (x3)).toNat)).toInt64) hOK (fun hC => hOK) hM hMC hMN hMLn ho1n ho2n hz0n hqC hqN ⟨f2, hOx⟩ hPm2 (fun hC => ⟨rfl, rfl, rfl⟩) (fun hC => ⟨rfl, rfl, rfl⟩) hfr
  obtain ⟨hI2, hval⟩ := hfin
  obtain ⟨lab2, n2, m2, sp2, τ2, ζ2, g2, cs2, ss2, M2, hOK2, hM2, hXL2, hML2, -, -, -, -, hPm3, -, -⟩ := id hI2
  refine lv_istore (lv' := [(7, .int (zI (if (0 ≤ (x1) ∧ (x1) < n) ∧ (0 ≤ (x2) ∧ (x2) < n) then (if (0 ≤ (x3) ∧ (x3) ≤ 99999) ∧ (0 ≤ (x4) ∧ (x4) ≤ 99999) ∧ (x3) ≤ (x4) ∧ (x4) - (x3) ≤ 3000 then (xCnt (fun t => xHit n m9 τ ζ (x1) t ∧ xHit n m9 τ ζ (x2) t) (x3) ((x4) - (x3)).toNat) else 0) else 0))), (6, .int (zI (if (0 ≤ (x1) ∧ (x1) < n) ∧ (0 ≤ (x2) ∧ (x2) < n) then (if (0 ≤ (x3) ∧ (x3) ≤ 99999) ∧ (0 ≤ (x4) ∧ (x4) ≤ 99999) ∧ (x3) ≤ (x4) ∧ (x4) - (x3) ≤ 3000 then 0 else 2) else 1))), (0, .ref b), (1, .ref ax), (2, .ref am), (3, .ref o1), (4, .ref o2), (5, .int (zI (i)))]) hx hb dL_law_1672 hl (by decide) rfl (fun ls hl => ?_)
  refine lv_aload_n hx hb dL_law_1674 rfl (lv_at hl 4 rfl) ?_
  refine z_call (va_runV (As := []) (rest := []) ⟨hx, hb, hml, hown, hts⟩ (kX3_thrown l D G am (if (0 ≤ (x1) ∧ (x1) < n) ∧ (0 ≤ (x2) ∧ (x2) < n) then (if (0 ≤ (x3) ∧ (x3) ≤ 99999) ∧ (0 ≤ (x4) ∧ (x4) ≤ 99999) ∧ (x3) ≤ (x4) ∧ (x4) - (x3) ≤ 3000 then 0 else 2) else 1) n2 m2 sp2 τ2 ζ2 h M2 hOK2 hM2) (cwV 0 hts gL_law_X3_thrown rfl rfl rfl (by decide +kernel) ⟨Nat.le_of_ble_eq_true rfl, Nat.le_of_ble_eq_true rfl⟩) (zPreV (va_recv hK hPm3 (ci := 3) (q0 := 0) rfl rfl) hK hN (hPm3)) rfl rfl hl.1 rfl (lv_room (Nat.le_of_ble_eq_true rfl)) dL_law_1675 ⟨z_rc (by omega), z_rs (by omega)⟩) ?_
  refine lv_iload hx hb dL_law_1678 (lv_at hl 1 rfl) ?_
  refine lv_icmp_eq (tgt := 1685) hx hb dL_law_1680 (by decide) (fun _ => ?_) (fun c9 => absurd rfl c9)
  refine lv_iload hx hb dL_law_1685 (lv_at hl 1 rfl) ?_
  refine lv_if_ne (tgt := 1702) hx hb dL_law_1687 (by decide) (fun _ => ?_) (fun c9 => ?_)
  · refine lv_goto (tgt := 1999) hx hb dL_law_1702 (by decide) ?_
    refine W.widen (k := cells + 20) (n := slots + 3000) (by omega) (by omega) ?_
    exact kk _ _ _ _ hS2 hI2 (lv_sub hl [2, 3, 4, 5, 6, 7] rfl)
  · have hC := zK2 c9
    obtain ⟨f9, hf9, hPo9⟩ := hval hC
    refine lv_aload_n hx hb dL_law_1690 rfl (lv_at hl 5 rfl) ?_
    refine lv_iconst (v := zI (0)) hx hb dL_law_1691 rfl ?_
    refine z_lald (x := (zI (xCnt (fun t => xHit n m9 τ ζ (x1) t ∧ xHit n m9 τ ζ (x2) t) (x3) ((x4) - (x3)).toNat)).toInt64) (D := D) hx hb hK hPo9 0 2 rfl rfl (by omega) (by omega) hf9 dL_law_1692 ?_
    refine lv_iload hx hb dL_law_1693 (lv_at hl 0 rfl) ?_
    refine lv_i2l (v := (zI (if (0 ≤ (x1) ∧ (x1) < n) ∧ (0 ≤ (x2) ∧ (x2) < n) then (if (0 ≤ (x3) ∧ (x3) ≤ 99999) ∧ (0 ≤ (x4) ∧ (x4) ≤ 99999) ∧ (x3) ≤ (x4) ∧ (x4) - (x3) ≤ 3000 then (xCnt (fun t => xHit n m9 τ ζ (x1) t ∧ xHit n m9 τ ζ (x2) t) (x3) ((x4) - (x3)).toNat) else 0) else 0)).toInt64) hx hb dL_law_1695 rfl ?_
    refine W.lcmp hx hb dL_law_1696 ?_
    refine lv_if_eq (tgt := 1702) hx hb dL_law_1697 (by decide) (fun _ => ?_) (fun c8 => absurd (by rw [if_pos hC.1, if_pos hC.2]; exact z_cmp_self _) c8)
    refine lv_goto (tgt := 1999) hx hb dL_law_1702 (by decide) ?_
    refine W.widen (k := cells + 20) (n := slots + 3000) (by omega) (by omega) ?_
    exact kk _ _ _ _ hS2 hI2 (lv_sub hl [2, 3, 4, 5, 6, 7] rfl)

set_option maxHeartbeats 4000000 in
set_option maxRecDepth 100000 in
theorem lc_22 (l : Launch) (hl9 : l.stackTraces = false) {p : Program} {e : Env} {s : State} {m : MethodId} {below : List Frame} {meth : Method} {c : Code} {H : Heap} {locs : List Loc} {cells slots : Nat} {Q : State → Prop} {D : va_G} {G : Nat → ClassId} {b L : Nat} {xs : Nat → Int32} {ax am o1 o2 : Nat} {h : Nat → Nat} {th : Int} {ls : Array Slot} (hx : p.tables.exec = Jvm.exec) (hb : c.code = cL_law) (hml : c.maxLocals = 9) (hown : s.vm.findClass RL = some m.cls) (hts : ∀ w ∈ wsL_law, w.before #[Value.ref b] s = true) (hK : va_K D vwCl (zTy G) s) (hN : zN s) (hT0 : zT s s.heap) (hX : va_X b L xs s s.heap) (hbl : b < s.heap.size) (hL9 : L ≤ 2560) (hce : cells + 20 ≤ 601024) (hsl : slots + 3000 ≤ 7293034) (hS : va_S (fun q => s.heap.size ≤ q) s.heap H locs) (hI : LI D G ax am o1 o2 s.heap.size h th H) (i : Int) (hi : 0 ≤ i ∧ i + 5 ≤ L) (x1 : Int) (hv1 : xs (i + 1).toNat = zI x1) (hr1 : -2147483648 ≤ x1 ∧ x1 ≤ 2147483647) (x2 : Int) (hv2 : xs (i + 2).toNat = zI x2) (hr2 : -2147483648 ≤ x2 ∧ x2 ≤ 2147483647) (x3 : Int) (hv3 : xs (i + 3).toNat = zI x3) (hr3 : -2147483648 ≤ x3 ∧ x3 ≤ 2147483647) (x4 : Int) (hv4 : xs (i + 4).toNat = zI x4) (hr4 : -2147483648 ≤ x4 ∧ x4 ≤ 2147483647) (hl : lv_has ls 9 [(0, .ref b), (1, .ref ax), (2, .ref am), (3, .ref o1), (4, .ref o2), (5, .int (zI (i)))]) (kk : ∀ (H1 : Heap) (locs1 : List Loc) (th1 : Int) (ls1 : Array Slot), va_S (fun q => s.heap.size ≤ q) s.heap H1 locs1 → LI D G ax am o1 o2 s.heap.size h th1 H1 → lv_has ls1 9 [(0, .ref b), (1, .ref ax), (2, .ref am), (3, .ref o1), (4, .ref o2), (5, .int (zI (i)))] → W p l e room_1 s m #[Value.ref b] below meth c H1 locs1 (cells + 20) (slots + 3000) Q (F0 m 1999 ls1 [])) : W p l e room_1 s m #[Value.ref b] below meth c H locs cells slots Q (F0 m 1705 ls []) := by
  obtain ⟨lab, n, m9, sp, τ, ζ, g, cs, ss, M, hOK, hM, hXL, hML, ho1, ho2, hz0, hW, hPm, ⟨f1, hO1⟩, ⟨f2, hO2⟩⟩ := id hI
  refine lv_aload_n hx hb dL_law_1705 rfl (lv_at hl 1 rfl) ?_
  refine lv_aload_n hx hb dL_law_1706 rfl (lv_at hl 0 rfl) ?_
  refine lv_iload hx hb dL_law_1707 (lv_at hl 5 rfl) ?_
  refine lv_iconst (v := zI (1)) hx hb dL_law_1709 rfl ?_
  refine z_iadd hx hb dL_law_1710 ?_
  refine z_sld hx hb hX hbl (Nat.not_le.mpr hbl) hS (i := i + 1) (x := x1) (by omega) (by omega) hv1 dL_law_1711 ?_
  refine lv_aload_n hx hb dL_law_1712 rfl (lv_at hl 3 rfl) ?_
  have hAL : ∀ q : Nat, LA lab o1 H.size q → s.heap.size ≤ q := fun q h9 => Nat.not_lt.mp (fun h8 => by have h7 := hz0 q h8; have h6 := hS.1; rcases h9 with h9 | h9 | h9 <;> first | omega | (rw [h9] at h7; omega))
  refine z_callM (vx_runSW (As := [.ref ax, .int (zI (x1)), .ref o1]) (rest := []) ⟨hx, hb, hml, hown, hts⟩ (kL_rounds l D G hl9 ax n m9 sp τ ζ g cs ss hOK lab hXL o1 H.size f1 (by omega) (x1) hr1) (vx_cwSW 3 hts gL_law_L_rounds rfl rfl rfl (by decide +kernel) ⟨Nat.le_of_ble_eq_true rfl, Nat.le_of_ble_eq_true rfl⟩) (zPTreS hK hN (zT.kp hT0 hS) ⟨rfl, hW, hO1⟩) rfl rfl hl.1 rfl (lv_room (Nat.le_of_ble_eq_true rfl)) dL_law_1713 ⟨z_rc (by omega), z_rs (by omega)⟩) hS (fun q _ h9 => hAL q h9) hAL (fun H1 locs1 hp1 hz1 hk1 hS1 => ?_)
  obtain ⟨g', lab', cs', ss', hqC, hqN, hlb⟩ := hp1
  have hMLn := hML.same hPm hlb
  have ho1n : lab' o1 = 200 := (hlb _ (o_lt hO1)).trans ho1
  have ho2n : lab' o2 = 201 := (hlb _ (o_lt hO2)).trans ho2
  have hz0n : ∀ q : Nat, q < s.heap.size → lab' q = 300 := fun q hq => (hlb q (Nat.lt_of_lt_of_le hq hS.1)).trans (hz0 q hq)
  have hPm1 := mW.kp hPm hML (fun q hq h1 h2 => hk1 q hq (fun h9 => by rcases h9 with h9 | h9 | h9 <;> first | omega | (rw [h9] at h2; omega)))
  have hOx := o_kp hO2 (fun hq => hk1 o2 hq (fun h9 => by rcases h9 with h9 | h9 | h9 <;> first | omega | (rw [h9] at ho2; omega)))
  refine lv_istore (lv' := [(6, .int (zI (if 0 ≤ (x1) ∧ (x1) < n then 0 else 1))), (0, .ref b), (1, .ref ax), (2, .ref am), (3, .ref o1), (4, .ref o2), (5, .int (zI (i)))]) hx hb dL_law_1716 hl (by decide) rfl (fun ls hl => ?_)
  refine lv_aload_n hx hb dL_law_1718 rfl (lv_at hl 3 rfl) ?_
  refine lv_aload_n hx hb dL_law_1719 rfl (lv_at hl 1 rfl) ?_
  refine lv_iload hx hb dL_law_1720 (lv_at hl 6 rfl) ?_
  refine lv_iconst (v := zI (1)) hx hb dL_law_1722 rfl ?_
  refine z_iadd hx hb dL_law_1723 ?_
  refine z_sld hx hb hX hbl (Nat.not_le.mpr hbl) hS1 (i := i + 1) (x := x1) (by omega) (by omega) hv1 dL_law_1724 ?_
  have hAM : ∀ q : Nat, zA [am, h 0, h 1, h 2, h 3, h 4, h 5, h 6, h 7, h 8, h 9] q → s.heap.size ≤ q := fun q h9 => Nat.not_lt.mp (fun h8 => by have h7 := hz0n q h8; have h6 := hMLn.in h9; omega)
  refine z_callM (va_runV (As := [.int (zI (x1))]) (rest := []) ⟨hx, hb, hml, hown, hts⟩ (kX3_rounds l D G am th n m9 sp τ ζ h M hOK hM hMLn.nd (x1) hr1) (cwV 1 hts gL_law_X3_rounds rfl rfl rfl (by decide +kernel) ⟨Nat.le_of_ble_eq_true rfl, Nat.le_of_ble_eq_true rfl⟩) (zPreV (va_recv hK hPm1 (ci := 3) (q0 := 0) rfl rfl) hK hN (hPm1)) rfl rfl hl.1 rfl (lv_room (Nat.le_of_ble_eq_true rfl)) dL_law_1725 ⟨z_rc (by omega), z_rs (by omega)⟩) hS1 (fun q _ h9 => hAM q h9) hAM (fun H2 locs2 hp2 hz2 hk2 hS2 => ?_)
  have hfr : ∀ q : Nat, q < H1.size → (lab' q < 100 ∨ 200 ≤ lab' q) → H2[q]? = H1[q]? := fun q hq hl8 => hk2 q hq (fun h9 => by have h6 := hMLn.in h9; omega)
  have hPm2 := hp2
  have hMC : (0 ≤ (x1) ∧ (x1) < n) → MR (n) (m9) (τ) (ζ) M := fun _ => hM
  have hMN : ¬ (0 ≤ (x1) ∧ (x1) < n) → M = M := fun _ => rfl
  have hfin := LI.fin (D := D) (G := G) (C := 0 ≤ (x1) ∧ (x1) < n) (v := (zI ((xRnd (τ (x1).toNat) (τ (x1).toNat 0).toNat : Int))).toInt64) hOK (fun hC => hOK) hM hMC hMN hMLn ho1n ho2n hz0n hqC hqN ⟨f2, hOx⟩ hPm2 (fun hC => ⟨rfl, rfl, rfl⟩) (fun hC => ⟨rfl, rfl, rfl⟩) hfr
  obtain ⟨hI2, hval⟩ := hfin
  obtain ⟨lab2, n2, m2, sp2, τ2, ζ2, g2, cs2, ss2, M2, hOK2, hM2, hXL2, hML2, -, -, -, -, hPm3, -, -⟩ := id hI2
  refine lv_istore (lv' := [(7, .int (zI (if 0 ≤ (x1) ∧ (x1) < n then ((xRnd (τ (x1).toNat) (τ (x1).toNat 0).toNat : Int)) else 0))), (6, .int (zI (if 0 ≤ (x1) ∧ (x1) < n then 0 else 1))), (0, .ref b), (1, .ref ax), (2, .ref am), (3, .ref o1), (4, .ref o2), (5, .int (zI (i)))]) hx hb dL_law_1728 hl (by decide) rfl (fun ls hl => ?_)
  refine lv_aload_n hx hb dL_law_1730 rfl (lv_at hl 4 rfl) ?_
  refine z_call (va_runV (As := []) (rest := []) ⟨hx, hb, hml, hown, hts⟩ (kX3_thrown l D G am (if 0 ≤ (x1) ∧ (x1) < n then 0 else 1) n2 m2 sp2 τ2 ζ2 h M2 hOK2 hM2) (cwV 0 hts gL_law_X3_thrown rfl rfl rfl (by decide +kernel) ⟨Nat.le_of_ble_eq_true rfl, Nat.le_of_ble_eq_true rfl⟩) (zPreV (va_recv hK hPm3 (ci := 3) (q0 := 0) rfl rfl) hK hN (hPm3)) rfl rfl hl.1 rfl (lv_room (Nat.le_of_ble_eq_true rfl)) dL_law_1731 ⟨z_rc (by omega), z_rs (by omega)⟩) ?_
  refine lv_iload hx hb dL_law_1734 (lv_at hl 1 rfl) ?_
  refine lv_icmp_eq (tgt := 1741) hx hb dL_law_1736 (by decide) (fun _ => ?_) (fun c9 => absurd rfl c9)
  refine lv_iload hx hb dL_law_1741 (lv_at hl 1 rfl) ?_
  refine lv_if_ne (tgt := 1758) hx hb dL_law_1743 (by decide) (fun _ => ?_) (fun c9 => ?_)
  · refine lv_goto (tgt := 1999) hx hb dL_law_1758 (by decide) ?_
    refine W.widen (k := cells + 20) (n := slots + 3000) (by omega) (by omega) ?_
    exact kk _ _ _ _ hS2 hI2 (lv_sub hl [2, 3, 4, 5, 6, 7] rfl)
  · have hC := zK1 c9
    obtain ⟨f9, hf9, hPo9⟩ := hval hC
    refine lv_aload_n hx hb dL_law_1746 rfl (lv_at hl 5 rfl) ?_
    refine lv_iconst (v := zI (0)) hx hb dL_law_1747 rfl ?_
    refine z_lald (x := (zI ((xRnd (τ (x1).toNat) (τ (x1).toNat 0).toNat : Int))).toInt64) (D := D) hx hb hK hPo9 0 2 rfl rfl (by omega) (by omega) hf9 dL_law_1748 ?_
    refine lv_iload hx hb dL_law_1749 (lv_at hl 0 rfl) ?_
    refine lv_i2l (v := (zI (if 0 ≤ (x1) ∧ (x1) < n then ((xRnd (τ (x1).toNat) (τ (x1).toNat 0).toNat : Int)) else 0)).toInt64) hx hb dL_law_1751 rfl ?_
    refine W.lcmp hx hb dL_law_1752 ?_
    refine lv_if_eq (tgt := 1758) hx hb dL_law_1753 (by decide) (fun _ => ?_) (fun c8 => absurd (by rw [if_pos hC]; exact z_cmp_self _) c8)
    refine lv_goto (tgt := 1999) hx hb dL_law_1758 (by decide) ?_
    refine W.widen (k := cells + 20) (n := slots + 3000) (by omega) (by omega) ?_
    exact kk _ _ _ _ hS2 hI2 (lv_sub hl [2, 3, 4, 5, 6, 7] rfl)

set_option maxHeartbeats 4000000 in
set_option maxRecDepth 100000 in
theorem lc_23 (l : Launch) (hl9 : l.stackTraces = false) {p : Program} {e : Env} {s : State} {m : MethodId} {below : List Frame} {meth : Method} {c : Code} {H : Heap} {locs : List Loc} {cells slots : Nat} {Q : State → Prop} {D : va_G} {G : Nat → ClassId} {b L : Nat} {xs : Nat → Int32} {ax am o1 o2 : Nat} {h : Nat → Nat} {th : Int} {ls : Array Slot} (hx : p.tables.exec = Jvm.exec) (hb : c.code = cL_law) (hml : c.maxLocals = 9) (hown : s.vm.findClass RL = some m.cls) (hts : ∀ w ∈ wsL_law, w.before #[Value.ref b] s = true) (hK : va_K D vwCl (zTy G) s) (hN : zN s) (hT0 : zT s s.heap) (hX : va_X b L xs s s.heap) (hbl : b < s.heap.size) (hL9 : L ≤ 2560) (hce : cells + 20 ≤ 601024) (hsl : slots + 3000 ≤ 7293034) (hS : va_S (fun q => s.heap.size ≤ q) s.heap H locs) (hI : LI D G ax am o1 o2 s.heap.size h th H) (i : Int) (hi : 0 ≤ i ∧ i + 5 ≤ L) (x1 : Int) (hv1 : xs (i + 1).toNat = zI x1) (hr1 : -2147483648 ≤ x1 ∧ x1 ≤ 2147483647) (x2 : Int) (hv2 : xs (i + 2).toNat = zI x2) (hr2 : -2147483648 ≤ x2 ∧ x2 ≤ 2147483647) (x3 : Int) (hv3 : xs (i + 3).toNat = zI x3) (hr3 : -2147483648 ≤ x3 ∧ x3 ≤ 2147483647) (x4 : Int) (hv4 : xs (i + 4).toNat = zI x4) (hr4 : -2147483648 ≤ x4 ∧ x4 ≤ 2147483647) (hl : lv_has ls 9 [(0, .ref b), (1, .ref ax), (2, .ref am), (3, .ref o1), (4, .ref o2), (5, .int (zI (i)))]) (kk : ∀ (H1 : Heap) (locs1 : List Loc) (th1 : Int) (ls1 : Array Slot), va_S (fun q => s.heap.size ≤ q) s.heap H1 locs1 → LI D G ax am o1 o2 s.heap.size h th1 H1 → lv_has ls1 9 [(0, .ref b), (1, .ref ax), (2, .ref am), (3, .ref o1), (4, .ref o2), (5, .int (zI (i)))] → W p l e room_1 s m #[Value.ref b] below meth c H1 locs1 (cells + 20) (slots + 3000) Q (F0 m 1999 ls1 [])) : W p l e room_1 s m #[Value.ref b] below meth c H locs cells slots Q (F0 m 1761 ls []) := by
  obtain ⟨lab, n, m9, sp, τ, ζ, g, cs, ss, M, hOK, hM, hXL, hML, ho1, ho2, hz0, hW, hPm, ⟨f1, hO1⟩, ⟨f2, hO2⟩⟩ := id hI
  refine lv_aload_n hx hb dL_law_1761 rfl (lv_at hl 1 rfl) ?_
  refine z_call (va_runV (As := []) (rest := []) ⟨hx, hb, hml, hown, hts⟩ (kX2_period l D G ax n m9 sp τ ζ g cs ss hOK) (cwV 0 hts gL_law_X2_period rfl rfl rfl (by decide +kernel) ⟨Nat.le_of_ble_eq_true rfl, Nat.le_of_ble_eq_true rfl⟩) (zPreV (va_recv hK hW.1 (ci := 2) (q0 := 0) rfl rfl) hK hN (hW)) rfl rfl hl.1 rfl (lv_room (Nat.le_of_ble_eq_true rfl)) dL_law_1762 ⟨z_rc (by omega), z_rs (by omega)⟩) ?_
  refine lv_aload_n hx hb dL_law_1765 rfl (lv_at hl 2 rfl) ?_
  have hAM : ∀ q : Nat, zA [am, h 0, h 1, h 2, h 3, h 4, h 5, h 6, h 7, h 8, h 9] q → s.heap.size ≤ q := fun q h9 => Nat.not_lt.mp (fun h8 => by have h7 := hz0 q h8; have h6 := hML.in h9; omega)
  refine z_callM (va_runV (As := []) (rest := [.long (zL (xPer τ n.toNat))]) ⟨hx, hb, hml, hown, hts⟩ (kX3_period l D G am th n m9 sp τ ζ h M hOK hM hML.nd) (cwV 0 hts gL_law_X3_period rfl rfl rfl (by decide +kernel) ⟨Nat.le_of_ble_eq_true rfl, Nat.le_of_ble_eq_true rfl⟩) (zPreV (va_recv hK hPm (ci := 3) (q0 := 0) rfl rfl) hK hN (hPm)) rfl rfl hl.1 rfl (lv_room (Nat.le_of_ble_eq_true rfl)) dL_law_1766 ⟨z_rc (by omega), z_rs (by omega)⟩) hS (fun q _ h9 => hAM q h9) hAM (fun H2 locs2 hp2 hz2 hk2 hS2 => ?_)
  have hfr : ∀ q : Nat, q < H.size → (lab q < 100 ∨ 200 ≤ lab q) → H2[q]? = H[q]? := fun q hq hl8 => hk2 q hq (fun h9 => by have h6 := hML.in h9; omega)
  have hI2 := LI.finM hOK hM hXL hML ho1 ho2 hz0 hW ⟨f1, hO1⟩ ⟨f2, hO2⟩ hp2 hfr
  refine W.lcmp hx hb dL_law_1769 ?_
  refine lv_if_eq (tgt := 1999) hx hb dL_law_1770 (by decide) (fun _ => ?_) (fun c8 => absurd (z_cmp_self _) c8)
  refine W.widen (k := cells + 20) (n := slots + 3000) (by omega) (by omega) ?_
  exact kk _ _ _ _ hS2 hI2 (lv_sub hl [0, 1, 2, 3, 4, 5] rfl)

set_option maxHeartbeats 4000000 in
set_option maxRecDepth 100000 in
theorem lc_24 (l : Launch) (hl9 : l.stackTraces = false) {p : Program} {e : Env} {s : State} {m : MethodId} {below : List Frame} {meth : Method} {c : Code} {H : Heap} {locs : List Loc} {cells slots : Nat} {Q : State → Prop} {D : va_G} {G : Nat → ClassId} {b L : Nat} {xs : Nat → Int32} {ax am o1 o2 : Nat} {h : Nat → Nat} {th : Int} {ls : Array Slot} (hx : p.tables.exec = Jvm.exec) (hb : c.code = cL_law) (hml : c.maxLocals = 9) (hown : s.vm.findClass RL = some m.cls) (hts : ∀ w ∈ wsL_law, w.before #[Value.ref b] s = true) (hK : va_K D vwCl (zTy G) s) (hN : zN s) (hT0 : zT s s.heap) (hX : va_X b L xs s s.heap) (hbl : b < s.heap.size) (hL9 : L ≤ 2560) (hce : cells + 20 ≤ 601024) (hsl : slots + 3000 ≤ 7293034) (hS : va_S (fun q => s.heap.size ≤ q) s.heap H locs) (hI : LI D G ax am o1 o2 s.heap.size h th H) (i : Int) (hi : 0 ≤ i ∧ i + 5 ≤ L) (x1 : Int) (hv1 : xs (i + 1).toNat = zI x1) (hr1 : -2147483648 ≤ x1 ∧ x1 ≤ 2147483647) (x2 : Int) (hv2 : xs (i + 2).toNat = zI x2) (hr2 : -2147483648 ≤ x2 ∧ x2 ≤ 2147483647) (x3 : Int) (hv3 : xs (i + 3).toNat = zI x3) (hr3 : -2147483648 ≤ x3 ∧ x3 ≤ 2147483647) (x4 : Int) (hv4 : xs (i + 4).toNat = zI x4) (hr4 : -2147483648 ≤ x4 ∧ x4 ≤ 2147483647) (hl : lv_has ls 9 [(0, .ref b), (1, .ref ax), (2, .ref am), (3, .ref o1), (4, .ref o2), (5, .int (zI (i)))]) (kk : ∀ (H1 : Heap) (locs1 : List Loc) (th1 : Int) (ls1 : Array Slot), va_S (fun q => s.heap.size ≤ q) s.heap H1 locs1 → LI D G ax am o1 o2 s.heap.size h th1 H1 → lv_has ls1 9 [(0, .ref b), (1, .ref ax), (2, .ref am), (3, .ref o1), (4, .ref o2), (5, .int (zI (i)))] → W p l e room_1 s m #[Value.ref b] below meth c H1 locs1 (cells + 20) (slots + 3000) Q (F0 m 1999 ls1 [])) : W p l e room_1 s m #[Value.ref b] below meth c H locs cells slots Q (F0 m 1775 ls []) := by
  obtain ⟨lab, n, m9, sp, τ, ζ, g, cs, ss, M, hOK, hM, hXL, hML, ho1, ho2, hz0, hW, hPm, ⟨f1, hO1⟩, ⟨f2, hO2⟩⟩ := id hI
  refine lv_aload_n hx hb dL_law_1775 rfl (lv_at hl 1 rfl) ?_
  refine lv_aload_n hx hb dL_law_1776 rfl (lv_at hl 0 rfl) ?_
  refine lv_iload hx hb dL_law_1777 (lv_at hl 5 rfl) ?_
  refine lv_iconst (v := zI (1)) hx hb dL_law_1779 rfl ?_
  refine z_iadd hx hb dL_law_1780 ?_
  refine z_sld hx hb hX hbl (Nat.not_le.mpr hbl) hS (i := i + 1) (x := x1) (by omega) (by omega) hv1 dL_law_1781 ?_
  refine lv_aload hx hb dL_law_1782 (lv_at hl 4 rfl) ?_
  have hAL : ∀ q : Nat, LA lab o2 H.size q → s.heap.size ≤ q := fun q h9 => Nat.not_lt.mp (fun h8 => by have h7 := hz0 q h8; have h6 := hS.1; rcases h9 with h9 | h9 | h9 <;> first | omega | (rw [h9] at h7; omega))
  refine z_callM (vx_runSW (As := [.ref ax, .int (zI (x1)), .ref o2]) (rest := []) ⟨hx, hb, hml, hown, hts⟩ (kL_density l D G hl9 ax n m9 sp τ ζ g cs ss hOK lab hXL o2 H.size f2 (by omega) (x1) hr1) (vx_cwSW 3 hts gL_law_L_density rfl rfl rfl (by decide +kernel) ⟨Nat.le_of_ble_eq_true rfl, Nat.le_of_ble_eq_true rfl⟩) (zPTreS hK hN (zT.kp hT0 hS) ⟨rfl, hW, hO2⟩) rfl rfl hl.1 rfl (lv_room (Nat.le_of_ble_eq_true rfl)) dL_law_1784 ⟨z_rc (by omega), z_rs (by omega)⟩) hS (fun q _ h9 => hAL q h9) hAL (fun H1 locs1 hp1 hz1 hk1 hS1 => ?_)
  obtain ⟨g', lab', cs', ss', hqC, hqN, hlb⟩ := hp1
  have hMLn := hML.same hPm hlb
  have ho1n : lab' o1 = 200 := (hlb _ (o_lt hO1)).trans ho1
  have ho2n : lab' o2 = 201 := (hlb _ (o_lt hO2)).trans ho2
  have hz0n : ∀ q : Nat, q < s.heap.size → lab' q = 300 := fun q hq => (hlb q (Nat.lt_of_lt_of_le hq hS.1)).trans (hz0 q hq)
  have hPm1 := mW.kp hPm hML (fun q hq h1 h2 => hk1 q hq (fun h9 => by rcases h9 with h9 | h9 | h9 <;> first | omega | (rw [h9] at h2; omega)))
  have hOx := o_kp hO1 (fun hq => hk1 o1 hq (fun h9 => by rcases h9 with h9 | h9 | h9 <;> first | omega | (rw [h9] at ho1; omega)))
  refine lv_istore (lv' := [(6, .int (zI (if 0 ≤ (x1) ∧ (x1) < n then 0 else 1))), (0, .ref b), (1, .ref ax), (2, .ref am), (3, .ref o1), (4, .ref o2), (5, .int (zI (i)))]) hx hb dL_law_1787 hl (by decide) rfl (fun ls hl => ?_)
  refine lv_aload_n hx hb dL_law_1789 rfl (lv_at hl 3 rfl) ?_
  refine lv_aload_n hx hb dL_law_1790 rfl (lv_at hl 1 rfl) ?_
  refine lv_iload hx hb dL_law_1791 (lv_at hl 6 rfl) ?_
  refine lv_iconst (v := zI (1)) hx hb dL_law_1793 rfl ?_
  refine z_iadd hx hb dL_law_1794 ?_
  refine z_sld hx hb hX hbl (Nat.not_le.mpr hbl) hS1 (i := i + 1) (x := x1) (by omega) (by omega) hv1 dL_law_1795 ?_
  have hAM : ∀ q : Nat, zA [am, h 0, h 1, h 2, h 3, h 4, h 5, h 6, h 7, h 8, h 9] q → s.heap.size ≤ q := fun q h9 => Nat.not_lt.mp (fun h8 => by have h7 := hz0n q h8; have h6 := hMLn.in h9; omega)
  refine z_callM (va_runV (As := [.int (zI (x1))]) (rest := []) ⟨hx, hb, hml, hown, hts⟩ (kX3_density l D G am th n m9 sp τ ζ h M hOK hM hMLn.nd (x1) hr1) (cwV 1 hts gL_law_X3_density rfl rfl rfl (by decide +kernel) ⟨Nat.le_of_ble_eq_true rfl, Nat.le_of_ble_eq_true rfl⟩) (zPreV (va_recv hK hPm1 (ci := 3) (q0 := 0) rfl rfl) hK hN (hPm1)) rfl rfl hl.1 rfl (lv_room (Nat.le_of_ble_eq_true rfl)) dL_law_1796 ⟨z_rc (by omega), z_rs (by omega)⟩) hS1 (fun q _ h9 => hAM q h9) hAM (fun H2 locs2 hp2 hz2 hk2 hS2 => ?_)
  have hfr : ∀ q : Nat, q < H1.size → (lab' q < 100 ∨ 200 ≤ lab' q) → H2[q]? = H1[q]? := fun q hq hl8 => hk2 q hq (fun h9 => by have h6 := hMLn.in h9; omega)
  have hPm2 := hp2
  have hMC : (0 ≤ (x1) ∧ (x1) < n) → MR (n) (m9) (τ) (ζ) M := fun _ => hM
  have hMN : ¬ (0 ≤ (x1) ∧ (x1) < n) → M = M := fun _ => rfl
  have hfin := LI.finD (D := D) (G := G) (C := 0 ≤ (x1) ∧ (x1) < n) (v := xDen (τ (x1).toNat) (τ (x1).toNat 0).toNat) hOK (fun hC => hOK) hM hMC hMN hMLn ho1n ho2n hz0n hqC hqN ⟨f1, hOx⟩ hPm2 (fun hC => ⟨rfl, rfl, rfl⟩) (fun hC => ⟨rfl, rfl, rfl⟩) hfr
  obtain ⟨hI2, hval⟩ := hfin
  obtain ⟨lab2, n2, m2, sp2, τ2, ζ2, g2, cs2, ss2, M2, hOK2, hM2, hXL2, hML2, -, -, -, -, hPm3, -, -⟩ := id hI2
  refine lv_dstore (lv' := [(7, .double (if 0 ≤ (x1) ∧ (x1) < n then (xDen (τ (x1).toNat) (τ (x1).toNat 0).toNat) else FP.dconst0)), (6, .int (zI (if 0 ≤ (x1) ∧ (x1) < n then 0 else 1))), (0, .ref b), (1, .ref ax), (2, .ref am), (3, .ref o1), (4, .ref o2), (5, .int (zI (i)))]) hx hb dL_law_1799 hl (by decide) rfl (fun ls hl => ?_)
  refine lv_aload_n hx hb dL_law_1801 rfl (lv_at hl 4 rfl) ?_
  refine z_call (va_runV (As := []) (rest := []) ⟨hx, hb, hml, hown, hts⟩ (kX3_thrown l D G am (if 0 ≤ (x1) ∧ (x1) < n then 0 else 1) n2 m2 sp2 τ2 ζ2 h M2 hOK2 hM2) (cwV 0 hts gL_law_X3_thrown rfl rfl rfl (by decide +kernel) ⟨Nat.le_of_ble_eq_true rfl, Nat.le_of_ble_eq_true rfl⟩) (zPreV (va_recv hK hPm3 (ci := 3) (q0 := 0) rfl rfl) hK hN (hPm3)) rfl rfl hl.1 rfl (lv_room (Nat.le_of_ble_eq_true rfl)) dL_law_1802 ⟨z_rc (by omega), z_rs (by omega)⟩) ?_
  refine lv_iload hx hb dL_law_1805 (lv_at hl 1 rfl) ?_
  refine lv_icmp_eq (tgt := 1812) hx hb dL_law_1807 (by decide) (fun _ => ?_) (fun c9 => absurd rfl c9)
  refine lv_iload hx hb dL_law_1812 (lv_at hl 1 rfl) ?_
  refine lv_if_ne (tgt := 1849) hx hb dL_law_1814 (by decide) (fun _ => ?_) (fun c9 => ?_)
  · refine lv_goto (tgt := 1999) hx hb dL_law_1849 (by decide) ?_
    refine W.widen (k := cells + 20) (n := slots + 3000) (by omega) (by omega) ?_
    exact kk _ _ _ _ hS2 hI2 (lv_sub hl [2, 3, 4, 5, 6, 7] rfl)
  · have hC := zK1 c9
    obtain ⟨f9, hf9, hPo9⟩ := hval hC
    have hBv : (if 0 ≤ (x1) ∧ (x1) < n then (xDen (τ (x1).toNat) (τ (x1).toNat 0).toNat) else FP.dconst0) = xDen (τ (x1).toNat) (τ (x1).toNat 0).toNat := if_pos hC
    refine lv_aload hx hb dL_law_1817 (lv_at hl 6 rfl) ?_
    refine lv_iconst (v := zI (0)) hx hb dL_law_1819 rfl ?_
    refine z_dald (x := xDen (τ (x1).toNat) (τ (x1).toNat 0).toNat) (D := D) hx hb hK hPo9 0 3 rfl rfl (by omega) (by omega) hf9 dL_law_1820 ?_
    refine lv_dload hx hb dL_law_1821 (lv_at hl 0 rfl) ?_
    refine lv_dcmp hx hb dL_law_1823 ?_
    refine lv_if_eq (tgt := 1849) hx hb dL_law_1824 (by decide) (fun _ => ?_) (fun c8 => ?_)
    · refine lv_goto (tgt := 1999) hx hb dL_law_1849 (by decide) ?_
      refine W.widen (k := cells + 20) (n := slots + 3000) (by omega) (by omega) ?_
      exact kk _ _ _ _ hS2 hI2 (lv_sub hl [2, 3, 4, 5, 6, 7] rfl)
    · refine lv_aload hx hb dL_law_1827 (lv_at hl 6 rfl) ?_
      refine lv_iconst (v := zI (0)) hx hb dL_law_1829 rfl ?_
      refine z_dald (x := xDen (τ (x1).toNat) (τ (x1).toNat 0).toNat) (D := D) hx hb hK hPo9 0 3 rfl rfl (by omega) (by omega) hf9 dL_law_1830 ?_
      refine lv_aload hx hb dL_law_1831 (lv_at hl 6 rfl) ?_
      refine lv_iconst (v := zI (0)) hx hb dL_law_1833 rfl ?_
      refine z_dald (x := xDen (τ (x1).toNat) (τ (x1).toNat 0).toNat) (D := D) hx hb hK hPo9 0 3 rfl rfl (by omega) (by omega) hf9 dL_law_1834 ?_
      refine lv_dcmp hx hb dL_law_1835 ?_
      refine lv_if_eq (tgt := 1847) hx hb dL_law_1836 (by decide) (fun c7 => absurd (by rw [hBv]; exact c7) c8) (fun _ => ?_)
      refine lv_dload hx hb dL_law_1839 (lv_at hl 0 rfl) ?_
      refine lv_dload hx hb dL_law_1841 (lv_at hl 0 rfl) ?_
      refine lv_dcmp hx hb dL_law_1843 ?_
      refine lv_if_ne (tgt := 1849) hx hb dL_law_1844 (by decide) (fun _ => ?_) (fun c6 => absurd (by rw [hBv] at c6 ⊢; exact c6) c8)
      refine lv_goto (tgt := 1999) hx hb dL_law_1849 (by decide) ?_
      refine W.widen (k := cells + 20) (n := slots + 3000) (by omega) (by omega) ?_
      exact kk _ _ _ _ hS2 hI2 (lv_sub hl [2, 3, 4, 5, 6, 7] rfl)

set_option maxHeartbeats 4000000 in
set_option maxRecDepth 100000 in
theorem lc_25 (l : Launch) (hl9 : l.stackTraces = false) {p : Program} {e : Env} {s : State} {m : MethodId} {below : List Frame} {meth : Method} {c : Code} {H : Heap} {locs : List Loc} {cells slots : Nat} {Q : State → Prop} {D : va_G} {G : Nat → ClassId} {b L : Nat} {xs : Nat → Int32} {ax am o1 o2 : Nat} {h : Nat → Nat} {th : Int} {ls : Array Slot} (hx : p.tables.exec = Jvm.exec) (hb : c.code = cL_law) (hml : c.maxLocals = 9) (hown : s.vm.findClass RL = some m.cls) (hts : ∀ w ∈ wsL_law, w.before #[Value.ref b] s = true) (hK : va_K D vwCl (zTy G) s) (hN : zN s) (hT0 : zT s s.heap) (hX : va_X b L xs s s.heap) (hbl : b < s.heap.size) (hL9 : L ≤ 2560) (hce : cells + 20 ≤ 601024) (hsl : slots + 3000 ≤ 7293034) (hS : va_S (fun q => s.heap.size ≤ q) s.heap H locs) (hI : LI D G ax am o1 o2 s.heap.size h th H) (i : Int) (hi : 0 ≤ i ∧ i + 5 ≤ L) (x1 : Int) (hv1 : xs (i + 1).toNat = zI x1) (hr1 : -2147483648 ≤ x1 ∧ x1 ≤ 2147483647) (x2 : Int) (hv2 : xs (i + 2).toNat = zI x2) (hr2 : -2147483648 ≤ x2 ∧ x2 ≤ 2147483647) (x3 : Int) (hv3 : xs (i + 3).toNat = zI x3) (hr3 : -2147483648 ≤ x3 ∧ x3 ≤ 2147483647) (x4 : Int) (hv4 : xs (i + 4).toNat = zI x4) (hr4 : -2147483648 ≤ x4 ∧ x4 ≤ 2147483647) (hl : lv_has ls 9 [(0, .ref b), (1, .ref ax), (2, .ref am), (3, .ref o1), (4, .ref o2), (5, .int (zI (i)))]) (kk : ∀ (H1 : Heap) (locs1 : List Loc) (th1 : Int) (ls1 : Array Slot), va_S (fun q => s.heap.size ≤ q) s.heap H1 locs1 → LI D G ax am o1 o2 s.heap.size h th1 H1 → lv_has ls1 9 [(0, .ref b), (1, .ref ax), (2, .ref am), (3, .ref o1), (4, .ref o2), (5, .int (zI (i)))] → W p l e room_1 s m #[Value.ref b] below meth c H1 locs1 (cells + 20) (slots + 3000) Q (F0 m 1999 ls1 [])) : W p l e room_1 s m #[Value.ref b] below meth c H locs cells slots Q (F0 m 1852 ls []) := by
  obtain ⟨lab, n, m9, sp, τ, ζ, g, cs, ss, M, hOK, hM, hXL, hML, ho1, ho2, hz0, hW, hPm, ⟨f1, hO1⟩, ⟨f2, hO2⟩⟩ := id hI
  refine lv_aload_n hx hb dL_law_1852 rfl (lv_at hl 1 rfl) ?_
  refine lv_aload_n hx hb dL_law_1853 rfl (lv_at hl 0 rfl) ?_
  refine lv_iload hx hb dL_law_1854 (lv_at hl 5 rfl) ?_
  refine lv_iconst (v := zI (1)) hx hb dL_law_1856 rfl ?_
  refine z_iadd hx hb dL_law_1857 ?_
  refine z_sld hx hb hX hbl (Nat.not_le.mpr hbl) hS (i := i + 1) (x := x1) (by omega) (by omega) hv1 dL_law_1858 ?_
  refine lv_aload_n hx hb dL_law_1859 rfl (lv_at hl 3 rfl) ?_
  have hAL : ∀ q : Nat, LA lab o1 H.size q → s.heap.size ≤ q := fun q h9 => Nat.not_lt.mp (fun h8 => by have h7 := hz0 q h8; have h6 := hS.1; rcases h9 with h9 | h9 | h9 <;> first | omega | (rw [h9] at h7; omega))
  refine z_callM (vx_runSW (As := [.ref ax, .int (zI (x1)), .ref o1]) (rest := []) ⟨hx, hb, hml, hown, hts⟩ (kL_setSpeed l D G hl9 ax n m9 sp τ ζ g cs ss hOK lab hXL o1 H.size f1 (by omega) (x1) hr1) (vx_cwSW 3 hts gL_law_L_setSpeed rfl rfl rfl (by decide +kernel) ⟨Nat.le_of_ble_eq_true rfl, Nat.le_of_ble_eq_true rfl⟩) (zPTreS hK hN (zT.kp hT0 hS) ⟨rfl, hW, hO1⟩) rfl rfl hl.1 rfl (lv_room (Nat.le_of_ble_eq_true rfl)) dL_law_1860 ⟨z_rc (by omega), z_rs (by omega)⟩) hS (fun q _ h9 => hAL q h9) hAL (fun H1 locs1 hp1 hz1 hk1 hS1 => ?_)
  obtain ⟨g', lab', cs', ss', hqC, hqN, hlb⟩ := hp1
  have hMLn := hML.same hPm hlb
  have ho1n : lab' o1 = 200 := (hlb _ (o_lt hO1)).trans ho1
  have ho2n : lab' o2 = 201 := (hlb _ (o_lt hO2)).trans ho2
  have hz0n : ∀ q : Nat, q < s.heap.size → lab' q = 300 := fun q hq => (hlb q (Nat.lt_of_lt_of_le hq hS.1)).trans (hz0 q hq)
  have hPm1 := mW.kp hPm hML (fun q hq h1 h2 => hk1 q hq (fun h9 => by rcases h9 with h9 | h9 | h9 <;> first | omega | (rw [h9] at h2; omega)))
  have hOx := o_kp hO2 (fun hq => hk1 o2 hq (fun h9 => by rcases h9 with h9 | h9 | h9 <;> first | omega | (rw [h9] at ho2; omega)))
  refine lv_istore (lv' := [(6, .int (zI (if 30 ≤ (x1) ∧ (x1) ≤ 300 then 0 else 1))), (0, .ref b), (1, .ref ax), (2, .ref am), (3, .ref o1), (4, .ref o2), (5, .int (zI (i)))]) hx hb dL_law_1863 hl (by decide) rfl (fun ls hl => ?_)
  refine lv_aload_n hx hb dL_law_1865 rfl (lv_at hl 3 rfl) ?_
  refine lv_aload_n hx hb dL_law_1866 rfl (lv_at hl 1 rfl) ?_
  refine lv_iload hx hb dL_law_1867 (lv_at hl 6 rfl) ?_
  refine lv_iconst (v := zI (1)) hx hb dL_law_1869 rfl ?_
  refine z_iadd hx hb dL_law_1870 ?_
  refine z_sld hx hb hX hbl (Nat.not_le.mpr hbl) hS1 (i := i + 1) (x := x1) (by omega) (by omega) hv1 dL_law_1871 ?_
  have hAM : ∀ q : Nat, zA [am, h 0, h 1, h 2, h 3, h 4, h 5, h 6, h 7, h 8, h 9] q → s.heap.size ≤ q := fun q h9 => Nat.not_lt.mp (fun h8 => by have h7 := hz0n q h8; have h6 := hMLn.in h9; omega)
  refine z_callM (va_runV (As := [.int (zI (x1))]) (rest := []) ⟨hx, hb, hml, hown, hts⟩ (kX3_setSpeed l D G am th n m9 sp τ ζ h M hOK hM hMLn.nd (x1) hr1) (cwV 1 hts gL_law_X3_setSpeed rfl rfl rfl (by decide +kernel) ⟨Nat.le_of_ble_eq_true rfl, Nat.le_of_ble_eq_true rfl⟩) (zPreV (va_recv hK hPm1 (ci := 3) (q0 := 0) rfl rfl) hK hN (hPm1)) rfl rfl hl.1 rfl (lv_room (Nat.le_of_ble_eq_true rfl)) dL_law_1872 ⟨z_rc (by omega), z_rs (by omega)⟩) hS1 (fun q _ h9 => hAM q h9) hAM (fun H2 locs2 hp2 hz2 hk2 hS2 => ?_)
  have hfr : ∀ q : Nat, q < H1.size → (lab' q < 100 ∨ 200 ≤ lab' q) → H2[q]? = H1[q]? := fun q hq hl8 => hk2 q hq (fun h9 => by have h6 := hMLn.in h9; omega)
  have hPm2 := hp2
  have hMC : (30 ≤ (x1) ∧ (x1) ≤ 300) → MR (n) (m9) (τ) (ζ) M := fun _ => hM
  have hMN : ¬ (30 ≤ (x1) ∧ (x1) ≤ 300) → M = M := fun _ => rfl
  have hfin := LI.fin (D := D) (G := G) (C := 30 ≤ (x1) ∧ (x1) ≤ 300) (v := (zI (sp)).toInt64) hOK (fun hC => hOK.sp9 hC) hM hMC hMN hMLn ho1n ho2n hz0n hqC hqN ⟨f2, hOx⟩ hPm2 (fun hC => ⟨rfl, rfl, if_pos hC⟩) (fun hC => ⟨rfl, rfl, if_neg hC⟩) hfr
  obtain ⟨hI2, hval⟩ := hfin
  obtain ⟨lab2, n2, m2, sp2, τ2, ζ2, g2, cs2, ss2, M2, hOK2, hM2, hXL2, hML2, -, -, -, -, hPm3, -, -⟩ := id hI2
  refine lv_istore (lv' := [(7, .int (zI (if 30 ≤ (x1) ∧ (x1) ≤ 300 then sp else 0))), (6, .int (zI (if 30 ≤ (x1) ∧ (x1) ≤ 300 then 0 else 1))), (0, .ref b), (1, .ref ax), (2, .ref am), (3, .ref o1), (4, .ref o2), (5, .int (zI (i)))]) hx hb dL_law_1875 hl (by decide) rfl (fun ls hl => ?_)
  refine lv_aload_n hx hb dL_law_1877 rfl (lv_at hl 4 rfl) ?_
  refine z_call (va_runV (As := []) (rest := []) ⟨hx, hb, hml, hown, hts⟩ (kX3_thrown l D G am (if 30 ≤ (x1) ∧ (x1) ≤ 300 then 0 else 1) n2 m2 sp2 τ2 ζ2 h M2 hOK2 hM2) (cwV 0 hts gL_law_X3_thrown rfl rfl rfl (by decide +kernel) ⟨Nat.le_of_ble_eq_true rfl, Nat.le_of_ble_eq_true rfl⟩) (zPreV (va_recv hK hPm3 (ci := 3) (q0 := 0) rfl rfl) hK hN (hPm3)) rfl rfl hl.1 rfl (lv_room (Nat.le_of_ble_eq_true rfl)) dL_law_1878 ⟨z_rc (by omega), z_rs (by omega)⟩) ?_
  refine lv_iload hx hb dL_law_1881 (lv_at hl 1 rfl) ?_
  refine lv_icmp_eq (tgt := 1888) hx hb dL_law_1883 (by decide) (fun _ => ?_) (fun c9 => absurd rfl c9)
  refine lv_iload hx hb dL_law_1888 (lv_at hl 1 rfl) ?_
  refine lv_if_ne (tgt := 1905) hx hb dL_law_1890 (by decide) (fun _ => ?_) (fun c9 => ?_)
  · refine lv_goto (tgt := 1999) hx hb dL_law_1905 (by decide) ?_
    refine W.widen (k := cells + 20) (n := slots + 3000) (by omega) (by omega) ?_
    exact kk _ _ _ _ hS2 hI2 (lv_sub hl [2, 3, 4, 5, 6, 7] rfl)
  · have hC := zK1 c9
    obtain ⟨f9, hf9, hPo9⟩ := hval hC
    refine lv_aload_n hx hb dL_law_1893 rfl (lv_at hl 5 rfl) ?_
    refine lv_iconst (v := zI (0)) hx hb dL_law_1894 rfl ?_
    refine z_lald (x := (zI (sp)).toInt64) (D := D) hx hb hK hPo9 0 2 rfl rfl (by omega) (by omega) hf9 dL_law_1895 ?_
    refine lv_iload hx hb dL_law_1896 (lv_at hl 0 rfl) ?_
    refine lv_i2l (v := (zI (if 30 ≤ (x1) ∧ (x1) ≤ 300 then sp else 0)).toInt64) hx hb dL_law_1898 rfl ?_
    refine W.lcmp hx hb dL_law_1899 ?_
    refine lv_if_eq (tgt := 1905) hx hb dL_law_1900 (by decide) (fun _ => ?_) (fun c8 => absurd (by rw [if_pos hC]; exact z_cmp_self _) c8)
    refine lv_goto (tgt := 1999) hx hb dL_law_1905 (by decide) ?_
    refine W.widen (k := cells + 20) (n := slots + 3000) (by omega) (by omega) ?_
    exact kk _ _ _ _ hS2 hI2 (lv_sub hl [2, 3, 4, 5, 6, 7] rfl)

set_option maxHeartbeats 4000000 in
set_option maxRecDepth 100000 in
theorem lc_26 (l : Launch) (hl9 : l.stackTraces = false) {p : Program} {e : Env} {s : State} {m : MethodId} {below : List Frame} {meth : Method} {c : Code} {H : Heap} {locs : List Loc} {cells slots : Nat} {Q : State → Prop} {D : va_G} {G : Nat → ClassId} {b L : Nat} {xs : Nat → Int32} {ax am o1 o2 : Nat} {h : Nat → Nat} {th : Int} {ls : Array Slot} (hx : p.tables.exec = Jvm.exec) (hb : c.code = cL_law) (hml : c.maxLocals = 9) (hown : s.vm.findClass RL = some m.cls) (hts : ∀ w ∈ wsL_law, w.before #[Value.ref b] s = true) (hK : va_K D vwCl (zTy G) s) (hN : zN s) (hT0 : zT s s.heap) (hX : va_X b L xs s s.heap) (hbl : b < s.heap.size) (hL9 : L ≤ 2560) (hce : cells + 20 ≤ 601024) (hsl : slots + 3000 ≤ 7293034) (hS : va_S (fun q => s.heap.size ≤ q) s.heap H locs) (hI : LI D G ax am o1 o2 s.heap.size h th H) (i : Int) (hi : 0 ≤ i ∧ i + 5 ≤ L) (x1 : Int) (hv1 : xs (i + 1).toNat = zI x1) (hr1 : -2147483648 ≤ x1 ∧ x1 ≤ 2147483647) (x2 : Int) (hv2 : xs (i + 2).toNat = zI x2) (hr2 : -2147483648 ≤ x2 ∧ x2 ≤ 2147483647) (x3 : Int) (hv3 : xs (i + 3).toNat = zI x3) (hr3 : -2147483648 ≤ x3 ∧ x3 ≤ 2147483647) (x4 : Int) (hv4 : xs (i + 4).toNat = zI x4) (hr4 : -2147483648 ≤ x4 ∧ x4 ≤ 2147483647) (hl : lv_has ls 9 [(0, .ref b), (1, .ref ax), (2, .ref am), (3, .ref o1), (4, .ref o2), (5, .int (zI (i)))]) (kk : ∀ (H1 : Heap) (locs1 : List Loc) (th1 : Int) (ls1 : Array Slot), va_S (fun q => s.heap.size ≤ q) s.heap H1 locs1 → LI D G ax am o1 o2 s.heap.size h th1 H1 → lv_has ls1 9 [(0, .ref b), (1, .ref ax), (2, .ref am), (3, .ref o1), (4, .ref o2), (5, .int (zI (i)))] → W p l e room_1 s m #[Value.ref b] below meth c H1 locs1 (cells + 20) (slots + 3000) Q (F0 m 1999 ls1 [])) : W p l e room_1 s m #[Value.ref b] below meth c H locs cells slots Q (F0 m 1908 ls []) := by
  obtain ⟨lab, n, m9, sp, τ, ζ, g, cs, ss, M, hOK, hM, hXL, hML, ho1, ho2, hz0, hW, hPm, ⟨f1, hO1⟩, ⟨f2, hO2⟩⟩ := id hI
  refine lv_aload_n hx hb dL_law_1908 rfl (lv_at hl 1 rfl) ?_
  refine lv_aload_n hx hb dL_law_1909 rfl (lv_at hl 0 rfl) ?_
  refine lv_iload hx hb dL_law_1910 (lv_at hl 5 rfl) ?_
  refine lv_iconst (v := zI (1)) hx hb dL_law_1912 rfl ?_
  refine z_iadd hx hb dL_law_1913 ?_
  refine z_sld hx hb hX hbl (Nat.not_le.mpr hbl) hS (i := i + 1) (x := x1) (by omega) (by omega) hv1 dL_law_1914 ?_
  refine lv_aload hx hb dL_law_1915 (lv_at hl 4 rfl) ?_
  have hAL : ∀ q : Nat, LA lab o2 H.size q → s.heap.size ≤ q := fun q h9 => Nat.not_lt.mp (fun h8 => by have h7 := hz0 q h8; have h6 := hS.1; rcases h9 with h9 | h9 | h9 <;> first | omega | (rw [h9] at h7; omega))
  refine z_callM (vx_runSW (As := [.ref ax, .int (zI (x1)), .ref o2]) (rest := []) ⟨hx, hb, hml, hown, hts⟩ (kL_seconds l D G hl9 ax n m9 sp τ ζ g cs ss hOK lab hXL o2 H.size f2 (by omega) (x1) hr1) (vx_cwSW 3 hts gL_law_L_seconds rfl rfl rfl (by decide +kernel) ⟨Nat.le_of_ble_eq_true rfl, Nat.le_of_ble_eq_true rfl⟩) (zPTreS hK hN (zT.kp hT0 hS) ⟨rfl, hW, hO2⟩) rfl rfl hl.1 rfl (lv_room (Nat.le_of_ble_eq_true rfl)) dL_law_1917 ⟨z_rc (by omega), z_rs (by omega)⟩) hS (fun q _ h9 => hAL q h9) hAL (fun H1 locs1 hp1 hz1 hk1 hS1 => ?_)
  obtain ⟨g', lab', cs', ss', hqC, hqN, hlb⟩ := hp1
  have hMLn := hML.same hPm hlb
  have ho1n : lab' o1 = 200 := (hlb _ (o_lt hO1)).trans ho1
  have ho2n : lab' o2 = 201 := (hlb _ (o_lt hO2)).trans ho2
  have hz0n : ∀ q : Nat, q < s.heap.size → lab' q = 300 := fun q hq => (hlb q (Nat.lt_of_lt_of_le hq hS.1)).trans (hz0 q hq)
  have hPm1 := mW.kp hPm hML (fun q hq h1 h2 => hk1 q hq (fun h9 => by rcases h9 with h9 | h9 | h9 <;> first | omega | (rw [h9] at h2; omega)))
  have hOx := o_kp hO1 (fun hq => hk1 o1 hq (fun h9 => by rcases h9 with h9 | h9 | h9 <;> first | omega | (rw [h9] at ho1; omega)))
  refine lv_istore (lv' := [(6, .int (zI (if 0 ≤ (x1) ∧ (x1) ≤ 99999 then 0 else 1))), (0, .ref b), (1, .ref ax), (2, .ref am), (3, .ref o1), (4, .ref o2), (5, .int (zI (i)))]) hx hb dL_law_1920 hl (by decide) rfl (fun ls hl => ?_)
  refine lv_aload_n hx hb dL_law_1922 rfl (lv_at hl 3 rfl) ?_
  refine lv_aload_n hx hb dL_law_1923 rfl (lv_at hl 1 rfl) ?_
  refine lv_iload hx hb dL_law_1924 (lv_at hl 6 rfl) ?_
  refine lv_iconst (v := zI (1)) hx hb dL_law_1926 rfl ?_
  refine z_iadd hx hb dL_law_1927 ?_
  refine z_sld hx hb hX hbl (Nat.not_le.mpr hbl) hS1 (i := i + 1) (x := x1) (by omega) (by omega) hv1 dL_law_1928 ?_
  have hAM : ∀ q : Nat, zA [am, h 0, h 1, h 2, h 3, h 4, h 5, h 6, h 7, h 8, h 9] q → s.heap.size ≤ q := fun q h9 => Nat.not_lt.mp (fun h8 => by have h7 := hz0n q h8; have h6 := hMLn.in h9; omega)
  refine z_callM (va_runV (As := [.int (zI (x1))]) (rest := []) ⟨hx, hb, hml, hown, hts⟩ (kX3_seconds l D G am th n m9 sp τ ζ h M hOK hM hMLn.nd (x1) hr1) (cwV 1 hts gL_law_X3_seconds rfl rfl rfl (by decide +kernel) ⟨Nat.le_of_ble_eq_true rfl, Nat.le_of_ble_eq_true rfl⟩) (zPreV (va_recv hK hPm1 (ci := 3) (q0 := 0) rfl rfl) hK hN (hPm1)) rfl rfl hl.1 rfl (lv_room (Nat.le_of_ble_eq_true rfl)) dL_law_1929 ⟨z_rc (by omega), z_rs (by omega)⟩) hS1 (fun q _ h9 => hAM q h9) hAM (fun H2 locs2 hp2 hz2 hk2 hS2 => ?_)
  have hfr : ∀ q : Nat, q < H1.size → (lab' q < 100 ∨ 200 ≤ lab' q) → H2[q]? = H1[q]? := fun q hq hl8 => hk2 q hq (fun h9 => by have h6 := hMLn.in h9; omega)
  have hPm2 := hp2
  have hMC : (0 ≤ (x1) ∧ (x1) ≤ 99999) → MR (n) (m9) (τ) (ζ) M := fun _ => hM
  have hMN : ¬ (0 ≤ (x1) ∧ (x1) ≤ 99999) → M = M := fun _ => rfl
  have hfin := LI.finD (D := D) (G := G) (C := 0 ≤ (x1) ∧ (x1) ≤ 99999) (v := xSecs sp (x1)) hOK (fun hC => hOK) hM hMC hMN hMLn ho1n ho2n hz0n hqC hqN ⟨f1, hOx⟩ hPm2 (fun hC => ⟨rfl, rfl, rfl⟩) (fun hC => ⟨rfl, rfl, rfl⟩) hfr
  obtain ⟨hI2, hval⟩ := hfin
  obtain ⟨lab2, n2, m2, sp2, τ2, ζ2, g2, cs2, ss2, M2, hOK2, hM2, hXL2, hML2, -, -, -, -, hPm3, -, -⟩ := id hI2
  refine lv_dstore (lv' := [(7, .double (if 0 ≤ (x1) ∧ (x1) ≤ 99999 then (xSecs sp (x1)) else FP.dconst0)), (6, .int (zI (if 0 ≤ (x1) ∧ (x1) ≤ 99999 then 0 else 1))), (0, .ref b), (1, .ref ax), (2, .ref am), (3, .ref o1), (4, .ref o2), (5, .int (zI (i)))]) hx hb dL_law_1932 hl (by decide) rfl (fun ls hl => ?_)
  refine lv_aload_n hx hb dL_law_1934 rfl (lv_at hl 4 rfl) ?_
  refine z_call (va_runV (As := []) (rest := []) ⟨hx, hb, hml, hown, hts⟩ (kX3_thrown l D G am (if 0 ≤ (x1) ∧ (x1) ≤ 99999 then 0 else 1) n2 m2 sp2 τ2 ζ2 h M2 hOK2 hM2) (cwV 0 hts gL_law_X3_thrown rfl rfl rfl (by decide +kernel) ⟨Nat.le_of_ble_eq_true rfl, Nat.le_of_ble_eq_true rfl⟩) (zPreV (va_recv hK hPm3 (ci := 3) (q0 := 0) rfl rfl) hK hN (hPm3)) rfl rfl hl.1 rfl (lv_room (Nat.le_of_ble_eq_true rfl)) dL_law_1935 ⟨z_rc (by omega), z_rs (by omega)⟩) ?_
  refine lv_iload hx hb dL_law_1938 (lv_at hl 1 rfl) ?_
  refine lv_icmp_eq (tgt := 1945) hx hb dL_law_1940 (by decide) (fun _ => ?_) (fun c9 => absurd rfl c9)
  refine lv_iload hx hb dL_law_1945 (lv_at hl 1 rfl) ?_
  refine lv_if_ne (tgt := 1982) hx hb dL_law_1947 (by decide) (fun _ => ?_) (fun c9 => ?_)
  · refine lv_goto (tgt := 1999) hx hb dL_law_1982 (by decide) ?_
    refine W.widen (k := cells + 20) (n := slots + 3000) (by omega) (by omega) ?_
    exact kk _ _ _ _ hS2 hI2 (lv_sub hl [2, 3, 4, 5, 6, 7] rfl)
  · have hC := zK1 c9
    obtain ⟨f9, hf9, hPo9⟩ := hval hC
    have hBv : (if 0 ≤ (x1) ∧ (x1) ≤ 99999 then (xSecs sp (x1)) else FP.dconst0) = xSecs sp (x1) := if_pos hC
    refine lv_aload hx hb dL_law_1950 (lv_at hl 6 rfl) ?_
    refine lv_iconst (v := zI (0)) hx hb dL_law_1952 rfl ?_
    refine z_dald (x := xSecs sp (x1)) (D := D) hx hb hK hPo9 0 3 rfl rfl (by omega) (by omega) hf9 dL_law_1953 ?_
    refine lv_dload hx hb dL_law_1954 (lv_at hl 0 rfl) ?_
    refine lv_dcmp hx hb dL_law_1956 ?_
    refine lv_if_eq (tgt := 1982) hx hb dL_law_1957 (by decide) (fun _ => ?_) (fun c8 => ?_)
    · refine lv_goto (tgt := 1999) hx hb dL_law_1982 (by decide) ?_
      refine W.widen (k := cells + 20) (n := slots + 3000) (by omega) (by omega) ?_
      exact kk _ _ _ _ hS2 hI2 (lv_sub hl [2, 3, 4, 5, 6, 7] rfl)
    · refine lv_aload hx hb dL_law_1960 (lv_at hl 6 rfl) ?_
      refine lv_iconst (v := zI (0)) hx hb dL_law_1962 rfl ?_
      refine z_dald (x := xSecs sp (x1)) (D := D) hx hb hK hPo9 0 3 rfl rfl (by omega) (by omega) hf9 dL_law_1963 ?_
      refine lv_aload hx hb dL_law_1964 (lv_at hl 6 rfl) ?_
      refine lv_iconst (v := zI (0)) hx hb dL_law_1966 rfl ?_
      refine z_dald (x := xSecs sp (x1)) (D := D) hx hb hK hPo9 0 3 rfl rfl (by omega) (by omega) hf9 dL_law_1967 ?_
      refine lv_dcmp hx hb dL_law_1968 ?_
      refine lv_if_eq (tgt := 1980) hx hb dL_law_1969 (by decide) (fun c7 => absurd (by rw [hBv]; exact c7) c8) (fun _ => ?_)
      refine lv_dload hx hb dL_law_1972 (lv_at hl 0 rfl) ?_
      refine lv_dload hx hb dL_law_1974 (lv_at hl 0 rfl) ?_
      refine lv_dcmp hx hb dL_law_1976 ?_
      refine lv_if_ne (tgt := 1982) hx hb dL_law_1977 (by decide) (fun _ => ?_) (fun c6 => absurd (by rw [hBv] at c6 ⊢; exact c6) c8)
      refine lv_goto (tgt := 1999) hx hb dL_law_1982 (by decide) ?_
      refine W.widen (k := cells + 20) (n := slots + 3000) (by omega) (by omega) ?_
      exact kk _ _ _ _ hS2 hI2 (lv_sub hl [2, 3, 4, 5, 6, 7] rfl)

set_option maxHeartbeats 4000000 in
set_option maxRecDepth 100000 in
theorem lc_27 (l : Launch) (hl9 : l.stackTraces = false) {p : Program} {e : Env} {s : State} {m : MethodId} {below : List Frame} {meth : Method} {c : Code} {H : Heap} {locs : List Loc} {cells slots : Nat} {Q : State → Prop} {D : va_G} {G : Nat → ClassId} {b L : Nat} {xs : Nat → Int32} {ax am o1 o2 : Nat} {h : Nat → Nat} {th : Int} {ls : Array Slot} (hx : p.tables.exec = Jvm.exec) (hb : c.code = cL_law) (hml : c.maxLocals = 9) (hown : s.vm.findClass RL = some m.cls) (hts : ∀ w ∈ wsL_law, w.before #[Value.ref b] s = true) (hK : va_K D vwCl (zTy G) s) (hN : zN s) (hT0 : zT s s.heap) (hX : va_X b L xs s s.heap) (hbl : b < s.heap.size) (hL9 : L ≤ 2560) (hce : cells + 20 ≤ 601024) (hsl : slots + 3000 ≤ 7293034) (hS : va_S (fun q => s.heap.size ≤ q) s.heap H locs) (hI : LI D G ax am o1 o2 s.heap.size h th H) (i : Int) (hi : 0 ≤ i ∧ i + 5 ≤ L) (x1 : Int) (hv1 : xs (i + 1).toNat = zI x1) (hr1 : -2147483648 ≤ x1 ∧ x1 ≤ 2147483647) (x2 : Int) (hv2 : xs (i + 2).toNat = zI x2) (hr2 : -2147483648 ≤ x2 ∧ x2 ≤ 2147483647) (x3 : Int) (hv3 : xs (i + 3).toNat = zI x3) (hr3 : -2147483648 ≤ x3 ∧ x3 ≤ 2147483647) (x4 : Int) (hv4 : xs (i + 4).toNat = zI x4) (hr4 : -2147483648 ≤ x4 ∧ x4 ≤ 2147483647) (hl : lv_has ls 9 [(0, .ref b), (1, .ref ax), (2, .ref am), (3, .ref o1), (4, .ref o2), (5, .int (zI (i)))]) (kk : ∀ (H1 : Heap) (locs1 : List Loc) (th1 : Int) (ls1 : Array Slot), va_S (fun q => s.heap.size ≤ q) s.heap H1 locs1 → LI D G ax am o1 o2 s.heap.size h th1 H1 → lv_has ls1 9 [(0, .ref b), (1, .ref ax), (2, .ref am), (3, .ref o1), (4, .ref o2), (5, .int (zI (i)))] → W p l e room_1 s m #[Value.ref b] below meth c H1 locs1 (cells + 20) (slots + 3000) Q (F0 m 1999 ls1 [])) : W p l e room_1 s m #[Value.ref b] below meth c H locs cells slots Q (F0 m 1985 ls []) := by
  obtain ⟨lab, n, m9, sp, τ, ζ, g, cs, ss, M, hOK, hM, hXL, hML, ho1, ho2, hz0, hW, hPm, ⟨f1, hO1⟩, ⟨f2, hO2⟩⟩ := id hI
  refine lv_aload_n hx hb dL_law_1985 rfl (lv_at hl 1 rfl) ?_
  refine z_call (va_runV (As := []) (rest := []) ⟨hx, hb, hml, hown, hts⟩ (kX2_digest l D G ax n m9 sp τ ζ g cs ss hOK) (cwV 0 hts gL_law_X2_digest rfl rfl rfl (by decide +kernel) ⟨Nat.le_of_ble_eq_true rfl, Nat.le_of_ble_eq_true rfl⟩) (zPreV (va_recv hK hW.1 (ci := 2) (q0 := 0) rfl rfl) hK hN (hW)) rfl rfl hl.1 rfl (lv_room (Nat.le_of_ble_eq_true rfl)) dL_law_1986 ⟨z_rc (by omega), z_rs (by omega)⟩) ?_
  refine lv_aload_n hx hb dL_law_1989 rfl (lv_at hl 2 rfl) ?_
  have hAM : ∀ q : Nat, zA [am, h 0, h 1, h 2, h 3, h 4, h 5, h 6, h 7, h 8, h 9] q → s.heap.size ≤ q := fun q h9 => Nat.not_lt.mp (fun h8 => by have h7 := hz0 q h8; have h6 := hML.in h9; omega)
  refine z_callM (va_runV (As := []) (rest := [.long (xDig n m9 sp τ ζ)]) ⟨hx, hb, hml, hown, hts⟩ (kX3_digest l D G am th n m9 sp τ ζ h M hOK hM hML.nd) (cwV 0 hts gL_law_X3_digest rfl rfl rfl (by decide +kernel) ⟨Nat.le_of_ble_eq_true rfl, Nat.le_of_ble_eq_true rfl⟩) (zPreV (va_recv hK hPm (ci := 3) (q0 := 0) rfl rfl) hK hN (hPm)) rfl rfl hl.1 rfl (lv_room (Nat.le_of_ble_eq_true rfl)) dL_law_1990 ⟨z_rc (by omega), z_rs (by omega)⟩) hS (fun q _ h9 => hAM q h9) hAM (fun H2 locs2 hp2 hz2 hk2 hS2 => ?_)
  have hfr : ∀ q : Nat, q < H.size → (lab q < 100 ∨ 200 ≤ lab q) → H2[q]? = H[q]? := fun q hq hl8 => hk2 q hq (fun h9 => by have h6 := hML.in h9; omega)
  have hI2 := LI.finM hOK hM hXL hML ho1 ho2 hz0 hW ⟨f1, hO1⟩ ⟨f2, hO2⟩ hp2 hfr
  refine W.lcmp hx hb dL_law_1993 ?_
  refine lv_if_eq (tgt := 1999) hx hb dL_law_1994 (by decide) (fun _ => ?_) (fun c8 => absurd (z_cmp_self _) c8)
  refine W.widen (k := cells + 20) (n := slots + 3000) (by omega) (by omega) ?_
  exact kk _ _ _ _ hS2 hI2 (lv_sub hl [0, 1, 2, 3, 4, 5] rfl)
