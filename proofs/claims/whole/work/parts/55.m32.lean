theorem z_and31 (x : Int32) : ∃ j : Nat, j < 32 ∧ x &&& zI 31 = zI ((j : Nat) : Int) := by
  refine ⟨(x &&& zI 31).toBitVec.toNat, ?_, ?_⟩
  · have h : (x &&& zI 31).toBitVec = x.toBitVec &&& 31#32 := rfl
    rw [h, BitVec.toNat_and]
    exact Nat.lt_of_le_of_lt Nat.and_le_right (by decide)
  · have h2 : (x &&& zI 31).toBitVec.toNat < 32 := by
      have h : (x &&& zI 31).toBitVec = x.toBitVec &&& 31#32 := rfl
      rw [h, BitVec.toNat_and]
      exact Nat.lt_of_le_of_lt Nat.and_le_right (by decide)
    apply Int32.toInt_inj.mp
    rw [zI_toInt (by omega)]
    show (x &&& zI 31).toBitVec.toInt = _
    rw [BitVec.toInt_eq_toNat_cond, if_pos (by omega)]
set_option maxHeartbeats 4000000 in
set_option maxRecDepth 100000 in
theorem law_loop (l : Launch) (hl9 : l.stackTraces = false) {p : Program} {e : Env} {s : State} {m : MethodId} {below : List Frame} {meth : Method} {c : Code} {Q : State → Prop} {D : va_G} {G : Nat → ClassId} {b L : Nat} {xs : Nat → Int32} {ax am o1 o2 : Nat} {h : Nat → Nat} (hx : p.tables.exec = Jvm.exec) (hb : c.code = cL_law) (hml : c.maxLocals = 9) (hown : s.vm.findClass RL = some m.cls) (hts : ∀ w ∈ wsL_law, w.before #[Value.ref b] s = true) (hK : va_K D vwCl (zTy G) s) (hN : zN s) (hT0 : zT s s.heap) (hX : va_X b L xs s s.heap) (hbl : b < s.heap.size) (hL9 : L ≤ 2560) (kend : ∀ (H1 : Heap) (locs1 : List Loc) (cells slots : Nat) (ls1 : Array Slot), va_S (fun q => s.heap.size ≤ q) s.heap H1 locs1 → cells ≤ 601024 → slots ≤ 7293034 → W p l e room_1 s m #[Value.ref b] below meth c H1 locs1 cells slots Q (F0 m 2005 ls1 [])) : ∀ (fu t : Nat) (i : Int) (cells slots : Nat), i = 5 * (t : Int) → cells = 100 + 20 * t → slots = 4000 + 3000 * t → 5 * t ≤ L + 5 → L < 5 * t + fu → ∀ (H : Heap) (locs : List Loc) (th : Int) (ls : Array Slot), va_S (fun q => s.heap.size ≤ q) s.heap H locs → LI D G ax am o1 o2 s.heap.size h th H → lv_has ls 9 [(0, .ref b), (1, .ref ax), (2, .ref am), (3, .ref o1), (4, .ref o2), (5, .int (zI (i)))] → W p l e room_1 s m #[Value.ref b] below meth c H locs cells slots Q (F0 m 28 ls []) := by
  intro fu
  induction fu with
  | zero =>
    intro t i cells slots hit hc0 hs0 ht hf H locs th ls hS hI hl
    refine lv_iload hx hb dL_law_28 (lv_at hl 5 rfl) ?_
    refine lv_aload_n hx hb dL_law_30 rfl (lv_at hl 0 rfl) ?_
    refine va_slen hx hb hX hbl (Nat.not_le.mpr hbl) hS dL_law_31 ?_
    refine z_raw (y := zI (L : Int)) rfl ?_
    refine lv_iconst (v := zI (5)) hx hb dL_law_32 rfl ?_
    refine z_isub hx hb dL_law_33 ?_
    refine z_icmp_gt (tgt := 2005) hx hb (by omega) dL_law_34 (by decide) (fun c_1 => ?_) (fun c_1 => ?_)
    · exact kend _ _ _ _ _ hS (by omega) (by omega)
    · exfalso; omega
  | succ fu ih =>
    intro t i cells slots hit hc0 hs0 ht hf H locs th ls hS hI hl
    refine lv_iload hx hb dL_law_28 (lv_at hl 5 rfl) ?_
    refine lv_aload_n hx hb dL_law_30 rfl (lv_at hl 0 rfl) ?_
    refine va_slen hx hb hX hbl (Nat.not_le.mpr hbl) hS dL_law_31 ?_
    refine z_raw (y := zI (L : Int)) rfl ?_
    refine lv_iconst (v := zI (5)) hx hb dL_law_32 rfl ?_
    refine z_isub hx hb dL_law_33 ?_
    refine z_icmp_gt (tgt := 2005) hx hb (by omega) dL_law_34 (by decide) (fun c_1 => ?_) (fun c_1 => ?_)
    · exact kend _ _ _ _ _ hS (by omega) (by omega)
    · have hi : 0 ≤ i ∧ i + 5 ≤ L := by omega
      have hce : cells + 20 ≤ 601024 := by omega
      have hsl : slots + 3000 ≤ 7293034 := by omega
      have kk : ∀ (H1 : Heap) (locs1 : List Loc) (th1 : Int) (ls1 : Array Slot), va_S (fun q => s.heap.size ≤ q) s.heap H1 locs1 → LI D G ax am o1 o2 s.heap.size h th1 H1 → lv_has ls1 9 [(0, .ref b), (1, .ref ax), (2, .ref am), (3, .ref o1), (4, .ref o2), (5, .int (zI (i)))] → W p l e room_1 s m #[Value.ref b] below meth c H1 locs1 (cells + 20) (slots + 3000) Q (F0 m 1999 ls1 []) := by
        intro H1 locs1 th1 ls1 hS1 hI1 hl1
        refine lv_iinc (v := zI (i + 5)) (lv' := [(5, .int (zI (i + 5))), (0, .ref b), (1, .ref ax), (2, .ref am), (3, .ref o1), (4, .ref o2)]) hx hb dL_law_1999 hl1 (k := 5) rfl (zI_add i 5) (by decide) rfl (fun ls hl => ?_)
        refine lv_goto (tgt := 28) hx hb dL_law_2002 (by decide) ?_
        exact ih (t + 1) (i + 5) _ _ (by omega) (by omega) (by omega) (by omega) (by omega) H1 locs1 th1 ls hS1 hI1 (lv_sub hl [1, 2, 3, 4, 5, 0] rfl)
      refine lv_aload_n hx hb dL_law_37 rfl (lv_at hl 0 rfl) ?_
      refine lv_iload hx hb dL_law_38 (lv_at hl 5 rfl) ?_
      refine z_sld hx hb hX hbl (Nat.not_le.mpr hbl) hS (i := i) (x := (xs i.toNat).toInt) (by omega) (by omega) (zI_of _) dL_law_40 ?_
      refine lv_bipush (v := zI (31)) hx hb dL_law_41 (by decide) ?_
      refine lv_iand hx hb dL_law_43 ?_
      obtain ⟨j, hj, hje⟩ := z_and31 (zI ((xs i.toNat).toInt))
      refine z_raw hje ?_
      match j, hj with
      | 0, _ =>
        refine lv_tableIn (off := 128) (tgt := 172) hx hb dL_law_44 (by decide) (by decide) (by decide) (by decide) ?_
        exact lc_0 l hl9 hx hb hml hown hts hK hN hT0 hX hbl hL9 hce hsl hS hI i hi (xs (i + 1).toNat).toInt (zI_of _) (zI_rng _) (xs (i + 2).toNat).toInt (zI_of _) (zI_rng _) (xs (i + 3).toNat).toInt (zI_of _) (zI_rng _) (xs (i + 4).toNat).toInt (zI_of _) (zI_rng _) hl kk
      | 1, _ =>
        refine lv_tableIn (off := 196) (tgt := 240) hx hb dL_law_44 (by decide) (by decide) (by decide) (by decide) ?_
        exact lc_1 l hl9 hx hb hml hown hts hK hN hT0 hX hbl hL9 hce hsl hS hI i hi (xs (i + 1).toNat).toInt (zI_of _) (zI_rng _) (xs (i + 2).toNat).toInt (zI_of _) (zI_rng _) (xs (i + 3).toNat).toInt (zI_of _) (zI_rng _) (xs (i + 4).toNat).toInt (zI_of _) (zI_rng _) hl kk
      | 2, _ =>
        refine lv_tableIn (off := 288) (tgt := 332) hx hb dL_law_44 (by decide) (by decide) (by decide) (by decide) ?_
        exact lc_2 l hl9 hx hb hml hown hts hK hN hT0 hX hbl hL9 hce hsl hS hI i hi (xs (i + 1).toNat).toInt (zI_of _) (zI_rng _) (xs (i + 2).toNat).toInt (zI_of _) (zI_rng _) (xs (i + 3).toNat).toInt (zI_of _) (zI_rng _) (xs (i + 4).toNat).toInt (zI_of _) (zI_rng _) hl kk
      | 3, _ =>
        refine lv_tableIn (off := 380) (tgt := 424) hx hb dL_law_44 (by decide) (by decide) (by decide) (by decide) ?_
        exact lc_3 l hl9 hx hb hml hown hts hK hN hT0 hX hbl hL9 hce hsl hS hI i hi (xs (i + 1).toNat).toInt (zI_of _) (zI_rng _) (xs (i + 2).toNat).toInt (zI_of _) (zI_rng _) (xs (i + 3).toNat).toInt (zI_of _) (zI_rng _) (xs (i + 4).toNat).toInt (zI_of _) (zI_rng _) hl kk
      | 4, _ =>
        refine lv_tableIn (off := 460) (tgt := 504) hx hb dL_law_44 (by decide) (by decide) (by decide) (by decide) ?_
        exact lc_4 l hl9 hx hb hml hown hts hK hN hT0 hX hbl hL9 hce hsl hS hI i hi (xs (i + 1).toNat).toInt (zI_of _) (zI_rng _) (xs (i + 2).toNat).toInt (zI_of _) (zI_rng _) (xs (i + 3).toNat).toInt (zI_of _) (zI_rng _) (xs (i + 4).toNat).toInt (zI_of _) (zI_rng _) hl kk
      | 5, _ =>
        refine lv_tableIn (off := 528) (tgt := 572) hx hb dL_law_44 (by decide) (by decide) (by decide) (by decide) ?_
        exact lc_5 l hl9 hx hb hml hown hts hK hN hT0 hX hbl hL9 hce hsl hS hI i hi (xs (i + 1).toNat).toInt (zI_of _) (zI_rng _) (xs (i + 2).toNat).toInt (zI_of _) (zI_rng _) (xs (i + 3).toNat).toInt (zI_of _) (zI_rng _) (xs (i + 4).toNat).toInt (zI_of _) (zI_rng _) hl kk
      | 6, _ =>
        refine lv_tableIn (off := 620) (tgt := 664) hx hb dL_law_44 (by decide) (by decide) (by decide) (by decide) ?_
        exact lc_6 l hl9 hx hb hml hown hts hK hN hT0 hX hbl hL9 hce hsl hS hI i hi (xs (i + 1).toNat).toInt (zI_of _) (zI_rng _) (xs (i + 2).toNat).toInt (zI_of _) (zI_rng _) (xs (i + 3).toNat).toInt (zI_of _) (zI_rng _) (xs (i + 4).toNat).toInt (zI_of _) (zI_rng _) hl kk
      | 7, _ =>
        refine lv_tableIn (off := 723) (tgt := 767) hx hb dL_law_44 (by decide) (by decide) (by decide) (by decide) ?_
        exact lc_7 l hl9 hx hb hml hown hts hK hN hT0 hX hbl hL9 hce hsl hS hI i hi (xs (i + 1).toNat).toInt (zI_of _) (zI_rng _) (xs (i + 2).toNat).toInt (zI_of _) (zI_rng _) (xs (i + 3).toNat).toInt (zI_of _) (zI_rng _) (xs (i + 4).toNat).toInt (zI_of _) (zI_rng _) hl kk
      | 8, _ =>
        refine lv_tableIn (off := 803) (tgt := 847) hx hb dL_law_44 (by decide) (by decide) (by decide) (by decide) ?_
        exact lc_8 l hl9 hx hb hml hown hts hK hN hT0 hX hbl hL9 hce hsl hS hI i hi (xs (i + 1).toNat).toInt (zI_of _) (zI_rng _) (xs (i + 2).toNat).toInt (zI_of _) (zI_rng _) (xs (i + 3).toNat).toInt (zI_of _) (zI_rng _) (xs (i + 4).toNat).toInt (zI_of _) (zI_rng _) hl kk
      | 9, _ =>
        refine lv_tableIn (off := 871) (tgt := 915) hx hb dL_law_44 (by decide) (by decide) (by decide) (by decide) ?_
        exact lc_9 l hl9 hx hb hml hown hts hK hN hT0 hX hbl hL9 hce hsl hS hI i hi (xs (i + 1).toNat).toInt (zI_of _) (zI_rng _) (xs (i + 2).toNat).toInt (zI_of _) (zI_rng _) (xs (i + 3).toNat).toInt (zI_of _) (zI_rng _) (xs (i + 4).toNat).toInt (zI_of _) (zI_rng _) hl kk
      | 10, _ =>
        refine lv_tableIn (off := 939) (tgt := 983) hx hb dL_law_44 (by decide) (by decide) (by decide) (by decide) ?_
        exact lc_10 l hl9 hx hb hml hown hts hK hN hT0 hX hbl hL9 hce hsl hS hI i hi (xs (i + 1).toNat).toInt (zI_of _) (zI_rng _) (xs (i + 2).toNat).toInt (zI_of _) (zI_rng _) (xs (i + 3).toNat).toInt (zI_of _) (zI_rng _) (xs (i + 4).toNat).toInt (zI_of _) (zI_rng _) hl kk
      | 11, _ =>
        refine lv_tableIn (off := 1019) (tgt := 1063) hx hb dL_law_44 (by decide) (by decide) (by decide) (by decide) ?_
        exact lc_11 l hl9 hx hb hml hown hts hK hN hT0 hX hbl hL9 hce hsl hS hI i hi (xs (i + 1).toNat).toInt (zI_of _) (zI_rng _) (xs (i + 2).toNat).toInt (zI_of _) (zI_rng _) (xs (i + 3).toNat).toInt (zI_of _) (zI_rng _) (xs (i + 4).toNat).toInt (zI_of _) (zI_rng _) hl kk
      | 12, _ =>
        refine lv_tableIn (off := 1032) (tgt := 1076) hx hb dL_law_44 (by decide) (by decide) (by decide) (by decide) ?_
        exact lc_12 l hl9 hx hb hml hown hts hK hN hT0 hX hbl hL9 hce hsl hS hI i hi (xs (i + 1).toNat).toInt (zI_of _) (zI_rng _) (xs (i + 2).toNat).toInt (zI_of _) (zI_rng _) (xs (i + 3).toNat).toInt (zI_of _) (zI_rng _) (xs (i + 4).toNat).toInt (zI_of _) (zI_rng _) hl kk
      | 13, _ =>
        refine lv_tableIn (off := 1128) (tgt := 1172) hx hb dL_law_44 (by decide) (by decide) (by decide) (by decide) ?_
        exact lc_13 l hl9 hx hb hml hown hts hK hN hT0 hX hbl hL9 hce hsl hS hI i hi (xs (i + 1).toNat).toInt (zI_of _) (zI_rng _) (xs (i + 2).toNat).toInt (zI_of _) (zI_rng _) (xs (i + 3).toNat).toInt (zI_of _) (zI_rng _) (xs (i + 4).toNat).toInt (zI_of _) (zI_rng _) hl kk
      | 14, _ =>
        refine lv_tableIn (off := 1172) (tgt := 1216) hx hb dL_law_44 (by decide) (by decide) (by decide) (by decide) ?_
        exact lc_14 l hl9 hx hb hml hown hts hK hN hT0 hX hbl hL9 hce hsl hS hI i hi (xs (i + 1).toNat).toInt (zI_of _) (zI_rng _) (xs (i + 2).toNat).toInt (zI_of _) (zI_rng _) (xs (i + 3).toNat).toInt (zI_of _) (zI_rng _) (xs (i + 4).toNat).toInt (zI_of _) (zI_rng _) hl kk
      | 15, _ =>
        refine lv_tableIn (off := 1228) (tgt := 1272) hx hb dL_law_44 (by decide) (by decide) (by decide) (by decide) ?_
        exact lc_15 l hl9 hx hb hml hown hts hK hN hT0 hX hbl hL9 hce hsl hS hI i hi (xs (i + 1).toNat).toInt (zI_of _) (zI_rng _) (xs (i + 2).toNat).toInt (zI_of _) (zI_rng _) (xs (i + 3).toNat).toInt (zI_of _) (zI_rng _) (xs (i + 4).toNat).toInt (zI_of _) (zI_rng _) hl kk
      | 16, _ =>
        refine lv_tableIn (off := 1241) (tgt := 1285) hx hb dL_law_44 (by decide) (by decide) (by decide) (by decide) ?_
        exact lc_16 l hl9 hx hb hml hown hts hK hN hT0 hX hbl hL9 hce hsl hS hI i hi (xs (i + 1).toNat).toInt (zI_of _) (zI_rng _) (xs (i + 2).toNat).toInt (zI_of _) (zI_rng _) (xs (i + 3).toNat).toInt (zI_of _) (zI_rng _) (xs (i + 4).toNat).toInt (zI_of _) (zI_rng _) hl kk
      | 17, _ =>
        refine lv_tableIn (off := 1309) (tgt := 1353) hx hb dL_law_44 (by decide) (by decide) (by decide) (by decide) ?_
        exact lc_17 l hl9 hx hb hml hown hts hK hN hT0 hX hbl hL9 hce hsl hS hI i hi (xs (i + 1).toNat).toInt (zI_of _) (zI_rng _) (xs (i + 2).toNat).toInt (zI_of _) (zI_rng _) (xs (i + 3).toNat).toInt (zI_of _) (zI_rng _) (xs (i + 4).toNat).toInt (zI_of _) (zI_rng _) hl kk
      | 18, _ =>
        refine lv_tableIn (off := 1365) (tgt := 1409) hx hb dL_law_44 (by decide) (by decide) (by decide) (by decide) ?_
        exact lc_18 l hl9 hx hb hml hown hts hK hN hT0 hX hbl hL9 hce hsl hS hI i hi (xs (i + 1).toNat).toInt (zI_of _) (zI_rng _) (xs (i + 2).toNat).toInt (zI_of _) (zI_rng _) (xs (i + 3).toNat).toInt (zI_of _) (zI_rng _) (xs (i + 4).toNat).toInt (zI_of _) (zI_rng _) hl kk
      | 19, _ =>
        refine lv_tableIn (off := 1421) (tgt := 1465) hx hb dL_law_44 (by decide) (by decide) (by decide) (by decide) ?_
        exact lc_19 l hl9 hx hb hml hown hts hK hN hT0 hX hbl hL9 hce hsl hS hI i hi (xs (i + 1).toNat).toInt (zI_of _) (zI_rng _) (xs (i + 2).toNat).toInt (zI_of _) (zI_rng _) (xs (i + 3).toNat).toInt (zI_of _) (zI_rng _) (xs (i + 4).toNat).toInt (zI_of _) (zI_rng _) hl kk
      | 20, _ =>
        refine lv_tableIn (off := 1489) (tgt := 1533) hx hb dL_law_44 (by decide) (by decide) (by decide) (by decide) ?_
        exact lc_20 l hl9 hx hb hml hown hts hK hN hT0 hX hbl hL9 hce hsl hS hI i hi (xs (i + 1).toNat).toInt (zI_of _) (zI_rng _) (xs (i + 2).toNat).toInt (zI_of _) (zI_rng _) (xs (i + 3).toNat).toInt (zI_of _) (zI_rng _) (xs (i + 4).toNat).toInt (zI_of _) (zI_rng _) hl kk
      | 21, _ =>
        refine lv_tableIn (off := 1569) (tgt := 1613) hx hb dL_law_44 (by decide) (by decide) (by decide) (by decide) ?_
        exact lc_21 l hl9 hx hb hml hown hts hK hN hT0 hX hbl hL9 hce hsl hS hI i hi (xs (i + 1).toNat).toInt (zI_of _) (zI_rng _) (xs (i + 2).toNat).toInt (zI_of _) (zI_rng _) (xs (i + 3).toNat).toInt (zI_of _) (zI_rng _) (xs (i + 4).toNat).toInt (zI_of _) (zI_rng _) hl kk
      | 22, _ =>
        refine lv_tableIn (off := 1661) (tgt := 1705) hx hb dL_law_44 (by decide) (by decide) (by decide) (by decide) ?_
        exact lc_22 l hl9 hx hb hml hown hts hK hN hT0 hX hbl hL9 hce hsl hS hI i hi (xs (i + 1).toNat).toInt (zI_of _) (zI_rng _) (xs (i + 2).toNat).toInt (zI_of _) (zI_rng _) (xs (i + 3).toNat).toInt (zI_of _) (zI_rng _) (xs (i + 4).toNat).toInt (zI_of _) (zI_rng _) hl kk
      | 23, _ =>
        refine lv_tableIn (off := 1717) (tgt := 1761) hx hb dL_law_44 (by decide) (by decide) (by decide) (by decide) ?_
        exact lc_23 l hl9 hx hb hml hown hts hK hN hT0 hX hbl hL9 hce hsl hS hI i hi (xs (i + 1).toNat).toInt (zI_of _) (zI_rng _) (xs (i + 2).toNat).toInt (zI_of _) (zI_rng _) (xs (i + 3).toNat).toInt (zI_of _) (zI_rng _) (xs (i + 4).toNat).toInt (zI_of _) (zI_rng _) hl kk
      | 24, _ =>
        refine lv_tableIn (off := 1731) (tgt := 1775) hx hb dL_law_44 (by decide) (by decide) (by decide) (by decide) ?_
        exact lc_24 l hl9 hx hb hml hown hts hK hN hT0 hX hbl hL9 hce hsl hS hI i hi (xs (i + 1).toNat).toInt (zI_of _) (zI_rng _) (xs (i + 2).toNat).toInt (zI_of _) (zI_rng _) (xs (i + 3).toNat).toInt (zI_of _) (zI_rng _) (xs (i + 4).toNat).toInt (zI_of _) (zI_rng _) hl kk
      | 25, _ =>
        refine lv_tableIn (off := 1808) (tgt := 1852) hx hb dL_law_44 (by decide) (by decide) (by decide) (by decide) ?_
        exact lc_25 l hl9 hx hb hml hown hts hK hN hT0 hX hbl hL9 hce hsl hS hI i hi (xs (i + 1).toNat).toInt (zI_of _) (zI_rng _) (xs (i + 2).toNat).toInt (zI_of _) (zI_rng _) (xs (i + 3).toNat).toInt (zI_of _) (zI_rng _) (xs (i + 4).toNat).toInt (zI_of _) (zI_rng _) hl kk
      | 26, _ =>
        refine lv_tableIn (off := 1864) (tgt := 1908) hx hb dL_law_44 (by decide) (by decide) (by decide) (by decide) ?_
        exact lc_26 l hl9 hx hb hml hown hts hK hN hT0 hX hbl hL9 hce hsl hS hI i hi (xs (i + 1).toNat).toInt (zI_of _) (zI_rng _) (xs (i + 2).toNat).toInt (zI_of _) (zI_rng _) (xs (i + 3).toNat).toInt (zI_of _) (zI_rng _) (xs (i + 4).toNat).toInt (zI_of _) (zI_rng _) hl kk
      | 27, _ =>
        refine lv_tableIn (off := 1941) (tgt := 1985) hx hb dL_law_44 (by decide) (by decide) (by decide) (by decide) ?_
        exact lc_27 l hl9 hx hb hml hown hts hK hN hT0 hX hbl hL9 hce hsl hS hI i hi (xs (i + 1).toNat).toInt (zI_of _) (zI_rng _) (xs (i + 2).toNat).toInt (zI_of _) (zI_rng _) (xs (i + 3).toNat).toInt (zI_of _) (zI_rng _) (xs (i + 4).toNat).toInt (zI_of _) (zI_rng _) hl kk
      | j + 28, hj =>
        refine lv_tableOut (tgt := 1999) hx hb dL_law_44 (Or.inr (by rw [zI_toInt (by omega)]; omega)) (by decide) ?_
        exact W.widen (k := cells + 20) (n := slots + 3000) (by omega) (by omega) (kk _ _ _ _ hS hI hl)
