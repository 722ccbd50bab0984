set_option maxHeartbeats 4000000 in
set_option maxRecDepth 100000 in
theorem kL_addTrack (l : Launch) (D : va_G) (G : Nat → ClassId) (hl9 : l.stackTraces = false) (ax : Nat) (n m9 sp : Int) (τ ζ : Nat → Nat → Int) (g : Nat → Nat → Nat) (cs ss : Nat → Nat → Int32) (hOK : XOK n m9 sp τ ζ) (lab : Nat → Nat) (hXL : XL lab ax n m9 g) (o sz : Nat) (f : Nat → Int64) (ho : 200 ≤ lab o) (a b : Int) (hr0 : -2147483648 ≤ a ∧ a ≤ 2147483647) (hr1 : -2147483648 ≤ b ∧ b ≤ 2147483647) : Met l yL_addTrack wsL_addTrack ({ frames := 8, cells := 4, slots := 280, locals := 173 }) (zPT [.ref ax, .int (zI (a)), .int (zI (b)), .ref o] D G (fun H => H.size = sz ∧ XW D G ax n m9 sp τ ζ g cs ss H ∧ va_P D vwCl (oL G o f) H)) (zM (some (.int (zI (if (1 ≤ a ∧ a ≤ 32) ∧ (1 ≤ b ∧ b ≤ 48) then (if n < 8 then 0 else 2) else 1)))) (LQ D G ax sz lab n m9 sp τ ζ (((1 ≤ a ∧ a ≤ 32) ∧ (1 ≤ b ∧ b ≤ 48)) ∧ n < 8) (n + 1) (m9) (sp) (va_up τ n.toNat (xF0 a b)) (ζ) (OLv D G o ((zI (n)).toInt64)) (OL D G o)) (LA lab o sz)) 4 280 (LA lab o sz) := by
  refine z_metX (vx_ofWH (cc := cL_addTrack) (maxL := 5) (ret := some .int) (hh := [(0, 10, 13, 13), (0, 10, 17, 15)]) (by decide) rfl ?_)
  intro p e s m args below meth c s₁ B hml hv
  obtain ⟨hav, ⟨hsz, hW, hPo⟩, hK, hN, hT0⟩ := hv
  have hx := B.exec
  have hb := B.bytes
  have hr := B.returns
  have hts := atoms_spec (ws := wsL_addTrack) B.pre
  have hown : s.vm.findClass RL = some m.cls := findClass_of_methodNamed B.named
  have hlocks : meth.locks = false := B.notSynchronized
  have htab := vx_table (x := yL_addTrack) B (hts _ List.mem_cons_self)
  obtain ⟨hn0, hn8, hm0, hm12, -⟩ := id hOK
  obtain ⟨g2, hW2, hL2, hg2⟩ := XN hW hXL hn8
  have hos : o < sz := by have h9 := o_lt hPo; omega
  have hS : va_S (LA lab o sz) s.heap s.heap [] := va_S.rf
  have hgt := hL2.gt
  have hA1 : ∀ q : Nat, zAn [ax, g2 0 0] sz q → LA lab o sz q := by
    intro q h9
    simp only [zA, zAn, List.mem_cons, List.not_mem_nil, or_false] at h9
    rcases h9 with (e9 | e9) | e9
    · exact Or.inl (by rw [e9]; omega)
    · exact Or.inl (by rw [e9]; omega)
    · exact Or.inr (Or.inr e9)
  have hAo : ¬ zAn [ax, g2 0 0] sz o := by
    intro h9
    simp only [zA, zAn, List.mem_cons, List.not_mem_nil, or_false] at h9
    rcases h9 with (e9 | e9) | e9
    · rw [← e9] at hgt; omega
    · rw [← e9] at hgt; omega
    · omega
  refine z_entry hav (Nat.le_of_ble_eq_true rfl) rfl (fun ls hl => ?_)
  have hl : lv_has ls 5 [(0, .ref ax), (1, .int (zI (a))), (2, .int (zI (b))), (3, .ref o)] := hl
  refine lv_aload_n hx hb dL_addTrack_0 rfl (lv_at hl 3 rfl) ?_
  refine lv_iconst (v := zI (0)) hx hb dL_addTrack_1 rfl ?_
  refine lv_aload_n hx hb dL_addTrack_2 rfl (lv_at hl 0 rfl) ?_
  refine lv_iload_n hx hb dL_addTrack_3 rfl (lv_at hl 1 rfl) ?_
  refine lv_iload_n hx hb dL_addTrack_4 rfl (lv_at hl 2 rfl) ?_
  refine z_callXM (vx_runV (As := [.int (zI (a)), .int (zI (b))]) (rest := [.int (zI (0)), .ref o]) ⟨hx, hb, hml, hown, hts⟩ (kX2_addTrack l D G hl9 ax n m9 sp τ ζ g2 cs ss hOK lab hL2 sz a b hr0 hr1) (cwV 2 hts gL_addTrack_X2_addTrack rfl rfl rfl (by decide +kernel) ⟨Nat.le_of_ble_eq_true rfl, Nat.le_of_ble_eq_true rfl⟩) (zPTreV (va_recv hK hW2.1 (ci := 2) (q0 := 0) rfl rfl) hK hN hT0 (⟨hsz, hW2⟩)) rfl rfl hl.1 rfl (lv_room (Nat.le_of_ble_eq_true rfl)) dL_addTrack_5 ⟨Nat.le_of_ble_eq_true rfl, Nat.le_of_ble_eq_true rfl⟩) hS (fun q _ h9 => hA1 q h9) hA1 (fun E ce qx9 H1 locs1 hco hz1 hk1 hS1 hce hcv hcl => ?_) (fun H1 locs1 hC hp1 hz1 hk1 hS1 => ?_)
  · rcases hco with ⟨rfl, hn1⟩ | ⟨rfl, hc1, hn2⟩
    · refine vx_catch hown [] ⟨0, 10, 13, 13⟩ [⟨0, 10, 17, 15⟩] (htab.trans rfl) (fun _ h9 => nomatch h9) (by decide) (by decide) (hts (.classLink RL 13 "java/lang/IllegalArgumentException") (by decide +kernel)) (va_Nw.use rfl (hN.2.2.1 zIA (by decide +kernel))) hce hcv hcl ?_
      refine lv_astore (lv' := [(4, .ref qx9), (0, .ref ax), (1, .int (zI (a))), (2, .int (zI (b))), (3, .ref o)]) hx hb dL_addTrack_13 hl (by decide) rfl (fun ls hl => ?_)
      refine lv_iconst (v := zI (1)) hx hb dL_addTrack_15 rfl ?_
      exact z_vxret hx hb hr hlocks hS1 (⟨g2, lab, cs, ss, fun q9 => absurd q9 (fun q8 => hn1 q8.1), fun _ => ⟨XW.kp hW2 hL2 hn8 hm12 (fun q hq _ => hk1 q hq), hL2, f, o_kp hPo (hk1 o)⟩, fun _ _ => rfl⟩) ((if_neg hn1).symm) dL_addTrack_16 (Nat.le_of_ble_eq_true rfl) (Nat.le_of_ble_eq_true rfl)
    · refine vx_catch hown [⟨0, 10, 13, 13⟩] ⟨0, 10, 17, 15⟩ [] (htab.trans rfl) (fun z hz => by cases List.mem_singleton.mp hz; exact Or.inr ⟨by decide, "java/lang/IllegalArgumentException", hts (.classLink RL 13 "java/lang/IllegalArgumentException") (by decide +kernel), hN.2.2.2.1 (zIS, zIA) (by decide)⟩) (by decide) (by decide) (hts (.classLink RL 15 "java/lang/IllegalStateException") (by decide +kernel)) (va_Nw.use rfl (hN.2.2.1 zIS (by decide +kernel))) hce hcv hcl ?_
      refine lv_astore (lv' := [(4, .ref qx9), (0, .ref ax), (1, .int (zI (a))), (2, .int (zI (b))), (3, .ref o)]) hx hb dL_addTrack_17 hl (by decide) rfl (fun ls hl => ?_)
      refine lv_iconst (v := zI (2)) hx hb dL_addTrack_19 rfl ?_
      exact z_vxret hx hb hr hlocks hS1 (⟨g2, lab, cs, ss, fun q9 => absurd q9 (fun q8 => hn2 q8.2), fun _ => ⟨XW.kp hW2 hL2 hn8 hm12 (fun q hq _ => hk1 q hq), hL2, f, o_kp hPo (hk1 o)⟩, fun _ _ => rfl⟩) (by rw [if_pos hc1, if_neg hn2]) dL_addTrack_20 (Nat.le_of_ble_eq_true rfl) (Nat.le_of_ble_eq_true rfl)
  · obtain ⟨g', lab', cs', ss', hW1, hL1, hlb1⟩ := hp1
    have hPo1 := o_kp hPo (fun h9 => hk1 o h9 hAo)
    have ho1 : 200 ≤ lab' o := by rw [hlb1 o hos]; exact ho
    refine lv_i2l (v := (zI (n)).toInt64) hx hb dL_addTrack_8 rfl ?_
    refine z_last2 hx hb hK hPo1 hS1 (Or.inr (Or.inl rfl)) 2 rfl Nat.one_pos dL_addTrack_9 (fun H2 locs2 hPo2 hz2 hk2 hS2 => ?_)
    refine lv_goto (tgt := 21) hx hb dL_addTrack_10 (by decide) ?_
    refine lv_iconst (v := zI (0)) hx hb dL_addTrack_21 rfl ?_
    exact z_vxret hx hb hr hlocks hS2 (⟨g', lab', cs', ss', fun _ => ⟨XW.kp hW1 hL1 (by omega) (by omega) (fun q hq hlb => hk2 q (fun e9 => by rw [e9] at hlb; omega)), hL1, _, (if_pos rfl), hPo2⟩, fun q9 => absurd hC q9, hlb1⟩) (by rw [if_pos hC.1, if_pos hC.2]) dL_addTrack_22 (Nat.le_of_ble_eq_true rfl) (Nat.le_of_ble_eq_true rfl)

set_option maxHeartbeats 4000000 in
set_option maxRecDepth 100000 in
theorem kL_set (l : Launch) (D : va_G) (G : Nat → ClassId) (hl9 : l.stackTraces = false) (ax : Nat) (n m9 sp : Int) (τ ζ : Nat → Nat → Int) (g : Nat → Nat → Nat) (cs ss : Nat → Nat → Int32) (hOK : XOK n m9 sp τ ζ) (lab : Nat → Nat) (hXL : XL lab ax n m9 g) (o sz : Nat) (f : Nat → Int64) (ho : 200 ≤ lab o) (k s9 v r9 : Int) (hr0 : -2147483648 ≤ k ∧ k ≤ 2147483647) (hr1 : -2147483648 ≤ s9 ∧ s9 ≤ 2147483647) (hr2 : -2147483648 ≤ v ∧ v ≤ 2147483647) (hr3 : -2147483648 ≤ r9 ∧ r9 ≤ 2147483647) : Met l yL_set wsL_set ({ frames := 9, cells := 3, slots := 18, locals := 201 }) (zPT [.ref ax, .int (zI (k)), .int (zI (s9)), .int (zI (v)), .int (zI (r9)), .ref o] D G (fun H => H.size = sz ∧ XW D G ax n m9 sp τ ζ g cs ss H ∧ va_P D vwCl (oL G o f) H)) (zM (some (.int (zI (if 0 ≤ k ∧ k < n ∧ 0 ≤ s9 ∧ s9 < τ k.toNat 0 then (if (0 ≤ v ∧ v ≤ 127) ∧ (1 ≤ r9 ∧ r9 ≤ 4) then 0 else 2) else 1)))) (LQ D G ax sz lab n m9 sp τ ζ ((0 ≤ k ∧ k < n ∧ 0 ≤ s9 ∧ s9 < τ k.toNat 0) ∧ ((0 ≤ v ∧ v ≤ 127) ∧ (1 ≤ r9 ∧ r9 ≤ 4))) (n) (m9) (sp) (va_up τ k.toNat (xFs (τ k.toNat) s9 v r9)) (ζ) (OLv D G o ((zI (xC (τ k.toNat) s9 0)).toInt64)) (OL D G o)) (LA lab o sz)) 3 18 (LA lab o sz) := by
  refine z_metX (vx_ofWH (cc := cL_set) (maxL := 7) (ret := some .int) (hh := [(0, 14, 17, 21), (0, 14, 21, 13)]) (by decide) rfl ?_)
  intro p e s m args below meth c s₁ B hml hv
  obtain ⟨hav, ⟨hsz, hW, hPo⟩, hK, hN, hT0⟩ := hv
  have hx := B.exec
  have hb := B.bytes
  have hr := B.returns
  have hts := atoms_spec (ws := wsL_set) B.pre
  have hown : s.vm.findClass RL = some m.cls := findClass_of_methodNamed B.named
  have hlocks : meth.locks = false := B.notSynchronized
  have htab := vx_table (x := yL_set) B (hts _ List.mem_cons_self)
  obtain ⟨hn0, hn8, hm0, hm12, -⟩ := id hOK
  obtain ⟨g2, hW2, hL2, hg2⟩ := XN hW hXL hn8
  have hos : o < sz := by have h9 := o_lt hPo; omega
  have hS : va_S (LA lab o sz) s.heap s.heap [] := va_S.rf
  have hA1 : ∀ q : Nat, zA [g2 1 k.toNat, g2 2 k.toNat, g2 3 k.toNat] q → LA lab o sz q := by
    intro q h9; simp only [zA, List.mem_cons, List.not_mem_nil, or_false] at h9; have h8 := hg2 k.toNat; rcases h9 with e9 | e9 | e9 <;> exact Or.inl (by rw [e9]; omega)
  have hAo : ¬ zA [g2 1 k.toNat, g2 2 k.toNat, g2 3 k.toNat] o := by
    intro h9; simp only [zA, List.mem_cons, List.not_mem_nil, or_false] at h9; have h8 := hg2 k.toNat; rcases h9 with e9 | e9 | e9 <;> (rw [← e9] at h8; omega)
  refine z_entry hav (Nat.le_of_ble_eq_true rfl) rfl (fun ls hl => ?_)
  have hl : lv_has ls 7 [(0, .ref ax), (1, .int (zI (k))), (2, .int (zI (s9))), (3, .int (zI (v))), (4, .int (zI (r9))), (5, .ref o)] := hl
  refine lv_aload hx hb dL_set_0 (lv_at hl 5 rfl) ?_
  refine lv_iconst (v := zI (0)) hx hb dL_set_2 rfl ?_
  refine lv_aload_n hx hb dL_set_3 rfl (lv_at hl 0 rfl) ?_
  refine lv_iload_n hx hb dL_set_4 rfl (lv_at hl 1 rfl) ?_
  refine lv_iload_n hx hb dL_set_5 rfl (lv_at hl 2 rfl) ?_
  refine lv_iload_n hx hb dL_set_6 rfl (lv_at hl 3 rfl) ?_
  refine lv_iload hx hb dL_set_7 (lv_at hl 4 rfl) ?_
  refine z_callXM (vx_runV (As := [.int (zI (k)), .int (zI (s9)), .int (zI (v)), .int (zI (r9))]) (rest := [.int (zI (0)), .ref o]) ⟨hx, hb, hml, hown, hts⟩ (kX2_set l D G hl9 ax n m9 sp τ ζ g2 cs ss hOK lab hL2 k s9 v r9 hr0 hr1 hr2 hr3) (cwV 4 hts gL_set_X2_set rfl rfl rfl (by decide +kernel) ⟨Nat.le_of_ble_eq_true rfl, Nat.le_of_ble_eq_true rfl⟩) (zPTreV (va_recv hK hW2.1 (ci := 2) (q0 := 0) rfl rfl) hK hN hT0 (hW2)) rfl rfl hl.1 rfl (lv_room (Nat.le_of_ble_eq_true rfl)) dL_set_9 ⟨Nat.le_of_ble_eq_true rfl, Nat.le_of_ble_eq_true rfl⟩) hS (fun q _ h9 => hA1 q h9) hA1 (fun E ce qx9 H1 locs1 hco hz1 hk1 hS1 hce hcv hcl => ?_) (fun H1 locs1 hC hp1 hz1 hk1 hS1 => ?_)
  · rcases hco with ⟨rfl, hn1⟩ | ⟨rfl, hc1, hn2⟩
    · refine vx_catch hown [] ⟨0, 14, 17, 21⟩ [⟨0, 14, 21, 13⟩] (htab.trans rfl) (fun _ h9 => nomatch h9) (by decide) (by decide) (hts (.classLink RL 21 "java/lang/IndexOutOfBoundsException") (by decide +kernel)) (va_Nw.use rfl (hN.2.2.1 zIO (by decide +kernel))) hce hcv hcl ?_
      refine lv_astore (lv' := [(6, .ref qx9), (0, .ref ax), (1, .int (zI (k))), (2, .int (zI (s9))), (3, .int (zI (v))), (4, .int (zI (r9))), (5, .ref o)]) hx hb dL_set_17 hl (by decide) rfl (fun ls hl => ?_)
      refine lv_iconst (v := zI (1)) hx hb dL_set_19 rfl ?_
      exact z_vxret hx hb hr hlocks hS1 (⟨g2, lab, cs, ss, fun q9 => absurd q9 (fun q8 => hn1 q8.1), fun _ => ⟨XW.kp hW2 hL2 hn8 hm12 (fun q hq _ => hk1 q hq), hL2, f, o_kp hPo (hk1 o)⟩, fun _ _ => rfl⟩) ((if_neg hn1).symm) dL_set_20 (Nat.le_of_ble_eq_true rfl) (Nat.le_of_ble_eq_true rfl)
    · refine vx_catch hown [⟨0, 14, 17, 21⟩] ⟨0, 14, 21, 13⟩ [] (htab.trans rfl) (fun z hz => by cases List.mem_singleton.mp hz; exact Or.inr ⟨by decide, "java/lang/IndexOutOfBoundsException", hts (.classLink RL 21 "java/lang/IndexOutOfBoundsException") (by decide +kernel), hN.2.2.2.1 (zIA, zIO) (by decide)⟩) (by decide) (by decide) (hts (.classLink RL 13 "java/lang/IllegalArgumentException") (by decide +kernel)) (va_Nw.use rfl (hN.2.2.1 zIA (by decide +kernel))) hce hcv hcl ?_
      refine lv_astore (lv' := [(6, .ref qx9), (0, .ref ax), (1, .int (zI (k))), (2, .int (zI (s9))), (3, .int (zI (v))), (4, .int (zI (r9))), (5, .ref o)]) hx hb dL_set_21 hl (by decide) rfl (fun ls hl => ?_)
      refine lv_iconst (v := zI (2)) hx hb dL_set_23 rfl ?_
      exact z_vxret hx hb hr hlocks hS1 (⟨g2, lab, cs, ss, fun q9 => absurd q9 (fun q8 => hn2 q8.2), fun _ => ⟨XW.kp hW2 hL2 hn8 hm12 (fun q hq _ => hk1 q hq), hL2, f, o_kp hPo (hk1 o)⟩, fun _ _ => rfl⟩) (by rw [if_pos hc1, if_neg hn2]) dL_set_24 (Nat.le_of_ble_eq_true rfl) (Nat.le_of_ble_eq_true rfl)
  · obtain ⟨cs', ss', hW1⟩ := hp1
    have hL1 := hL2
    have hlb1 : ∀ q : Nat, q < sz → lab q = lab q := fun _ _ => rfl
    have hPo1 := o_kp hPo (fun h9 => hk1 o h9 hAo)
    have ho1 : 200 ≤ lab o := by rw [hlb1 o hos]; exact ho
    refine lv_i2l (v := (zI (xC (τ k.toNat) s9 0)).toInt64) hx hb dL_set_12 rfl ?_
    refine z_last2 hx hb hK hPo1 hS1 (Or.inr (Or.inl rfl)) 2 rfl Nat.one_pos dL_set_13 (fun H2 locs2 hPo2 hz2 hk2 hS2 => ?_)
    refine lv_goto (tgt := 25) hx hb dL_set_14 (by decide) ?_
    refine lv_iconst (v := zI (0)) hx hb dL_set_25 rfl ?_
    exact z_vxret hx hb hr hlocks hS2 (⟨g2, lab, cs', ss', fun _ => ⟨XW.kp hW1 hL1 (by omega) (by omega) (fun q hq hlb => hk2 q (fun e9 => by rw [e9] at hlb; omega)), hL1, _, (if_pos rfl), hPo2⟩, fun q9 => absurd hC q9, hlb1⟩) (by rw [if_pos hC.1, if_pos hC.2]) dL_set_26 (Nat.le_of_ble_eq_true rfl) (Nat.le_of_ble_eq_true rfl)

set_option maxHeartbeats 4000000 in
set_option maxRecDepth 100000 in
theorem kL_setTurn (l : Launch) (D : va_G) (G : Nat → ClassId) (hl9 : l.stackTraces = false) (ax : Nat) (n m9 sp : Int) (τ ζ : Nat → Nat → Int) (g : Nat → Nat → Nat) (cs ss : Nat → Nat → Int32) (hOK : XOK n m9 sp τ ζ) (lab : Nat → Nat) (hXL : XL lab ax n m9 g) (o sz : Nat) (f : Nat → Int64) (ho : 200 ≤ lab o) (k s9 a b : Int) (hr0 : -2147483648 ≤ k ∧ k ≤ 2147483647) (hr1 : -2147483648 ≤ s9 ∧ s9 ≤ 2147483647) (hr2 : -2147483648 ≤ a ∧ a ≤ 2147483647) (hr3 : -2147483648 ≤ b ∧ b ≤ 2147483647) : Met l yL_setTurn wsL_setTurn ({ frames := 9, cells := 3, slots := 18, locals := 201 }) (zPT [.ref ax, .int (zI (k)), .int (zI (s9)), .int (zI (a)), .int (zI (b)), .ref o] D G (fun H => H.size = sz ∧ XW D G ax n m9 sp τ ζ g cs ss H ∧ va_P D vwCl (oL G o f) H)) (zM (some (.int (zI (if 0 ≤ k ∧ k < n ∧ 0 ≤ s9 ∧ s9 < τ k.toNat 0 then (if (1 ≤ b ∧ b ≤ 8) ∧ (0 ≤ a ∧ a ≤ b - 1) then 0 else 2) else 1)))) (LQ D G ax sz lab n m9 sp τ ζ ((0 ≤ k ∧ k < n ∧ 0 ≤ s9 ∧ s9 < τ k.toNat 0) ∧ ((1 ≤ b ∧ b ≤ 8) ∧ (0 ≤ a ∧ a ≤ b - 1))) (n) (m9) (sp) (va_up τ k.toNat (xFt (τ k.toNat) s9 a b)) (ζ) (OLv D G o ((zI (xC (τ k.toNat) s9 3)).toInt64)) (OL D G o)) (LA lab o sz)) 3 18 (LA lab o sz) := by
  refine z_metX (vx_ofWH (cc := cL_setTurn) (maxL := 7) (ret := some .int) (hh := [(0, 14, 17, 21), (0, 14, 21, 13)]) (by decide) rfl ?_)
  intro p e s m args below meth c s₁ B hml hv
  obtain ⟨hav, ⟨hsz, hW, hPo⟩, hK, hN, hT0⟩ := hv
  have hx := B.exec
  have hb := B.bytes
  have hr := B.returns
  have hts := atoms_spec (ws := wsL_setTurn) B.pre
  have hown : s.vm.findClass RL = some m.cls := findClass_of_methodNamed B.named
  have hlocks : meth.locks = false := B.notSynchronized
  have htab := vx_table (x := yL_setTurn) B (hts _ List.mem_cons_self)
  obtain ⟨hn0, hn8, hm0, hm12, -⟩ := id hOK
  obtain ⟨g2, hW2, hL2, hg2⟩ := XN hW hXL hn8
  have hos : o < sz := by have h9 := o_lt hPo; omega
  have hS : va_S (LA lab o sz) s.heap s.heap [] := va_S.rf
  have hA1 : ∀ q : Nat, zA [g2 1 k.toNat, g2 2 k.toNat, g2 3 k.toNat] q → LA lab o sz q := by
    intro q h9; simp only [zA, List.mem_cons, List.not_mem_nil, or_false] at h9; have h8 := hg2 k.toNat; rcases h9 with e9 | e9 | e9 <;> exact Or.inl (by rw [e9]; omega)
  have hAo : ¬ zA [g2 1 k.toNat, g2 2 k.toNat, g2 3 k.toNat] o := by
    intro h9; simp only [zA, List.mem_cons, List.not_mem_nil, or_false] at h9; have h8 := hg2 k.toNat; rcases h9 with e9 | e9 | e9 <;> (rw [← e9] at h8; omega)
  refine z_entry hav (Nat.le_of_ble_eq_true rfl) rfl (fun ls hl => ?_)
  have hl : lv_has ls 7 [(0, .ref ax), (1, .int (zI (k))), (2, .int (zI (s9))), (3, .int (zI (a))), (4, .int (zI (b))), (5, .ref o)] := hl
  refine lv_aload hx hb dL_setTurn_0 (lv_at hl 5 rfl) ?_
  refine lv_iconst (v := zI (0)) hx hb dL_setTurn_2 rfl ?_
  refine lv_aload_n hx hb dL_setTurn_3 rfl (lv_at hl 0 rfl) ?_
  refine lv_iload_n hx hb dL_setTurn_4 rfl (lv_at hl 1 rfl) ?_
  refine lv_iload_n hx hb dL_setTurn_5 rfl (lv_at hl 2 rfl) ?_
  refine lv_iload_n hx hb dL_setTurn_6 rfl (lv_at hl 3 rfl) ?_
  refine lv_iload hx hb dL_setTurn_7 (lv_at hl 4 rfl) ?_
  refine z_callXM (vx_runV (As := [.int (zI (k)), .int (zI (s9)), .int (zI (a)), .int (zI (b))]) (rest := [.int (zI (0)), .ref o]) ⟨hx, hb, hml, hown, hts⟩ (kX2_setTurn l D G hl9 ax n m9 sp τ ζ g2 cs ss hOK lab hL2 k s9 a b hr0 hr1 hr2 hr3) (cwV 4 hts gL_setTurn_X2_setTurn rfl rfl rfl (by decide +kernel) ⟨Nat.le_of_ble_eq_true rfl, Nat.le_of_ble_eq_true rfl⟩) (zPTreV (va_recv hK hW2.1 (ci := 2) (q0 := 0) rfl rfl) hK hN hT0 (hW2)) rfl rfl hl.1 rfl (lv_room (Nat.le_of_ble_eq_true rfl)) dL_setTurn_9 ⟨Nat.le_of_ble_eq_true rfl, Nat.le_of_ble_eq_true rfl⟩) hS (fun q _ h9 => hA1 q h9) hA1 (fun E ce qx9 H1 locs1 hco hz1 hk1 hS1 hce hcv hcl => ?_) (fun H1 locs1 hC hp1 hz1 hk1 hS1 => ?_)
  · rcases hco with ⟨rfl, hn1⟩ | ⟨rfl, hc1, hn2⟩
    · refine vx_catch hown [] ⟨0, 14, 17, 21⟩ [⟨0, 14, 21, 13⟩] (htab.trans rfl) (fun _ h9 => nomatch h9) (by decide) (by decide) (hts (.classLink RL 21 "java/lang/IndexOutOfBoundsException") (by decide +kernel)) (va_Nw.use rfl (hN.2.2.1 zIO (by decide +kernel))) hce hcv hcl ?_
      refine lv_astore (lv' := [(6, .ref qx9), (0, .ref ax), (1, .int (zI (k))), (2, .int (zI (s9))), (3, .int (zI (a))), (4, .int (zI (b))), (5, .ref o)]) hx hb dL_setTurn_17 hl (by decide) rfl (fun ls hl => ?_)
      refine lv_iconst (v := zI (1)) hx hb dL_setTurn_19 rfl ?_
      exact z_vxret hx hb hr hlocks hS1 (⟨g2, lab, cs, ss, fun q9 => absurd q9 (fun q8 => hn1 q8.1), fun _ => ⟨XW.kp hW2 hL2 hn8 hm12 (fun q hq _ => hk1 q hq), hL2, f, o_kp hPo (hk1 o)⟩, fun _ _ => rfl⟩) ((if_neg hn1).symm) dL_setTurn_20 (Nat.le_of_ble_eq_true rfl) (Nat.le_of_ble_eq_true rfl)
    · refine vx_catch hown [⟨0, 14, 17, 21⟩] ⟨0, 14, 21, 13⟩ [] (htab.trans rfl) (fun z hz => by cases List.mem_singleton.mp hz; exact Or.inr ⟨by decide, "java/lang/IndexOutOfBoundsException", hts (.classLink RL 21 "java/lang/IndexOutOfBoundsException") (by decide +kernel), hN.2.2.2.1 (zIA, zIO) (by decide)⟩) (by decide) (by decide) (hts (.classLink RL 13 "java/lang/IllegalArgumentException") (by decide +kernel)) (va_Nw.use rfl (hN.2.2.1 zIA (by decide +kernel))) hce hcv hcl ?_
      refine lv_astore (lv' := [(6, .ref qx9), (0, .ref ax), (1, .int (zI (k))), (2, .int (zI (s9))), (3, .int (zI (a))), (4, .int (zI (b))), (5, .ref o)]) hx hb dL_setTurn_21 hl (by decide) rfl (fun ls hl => ?_)
      refine lv_iconst (v := zI (2)) hx hb dL_setTurn_23 rfl ?_
      exact z_vxret hx hb hr hlocks hS1 (⟨g2, lab, cs, ss, fun q9 => absurd q9 (fun q8 => hn2 q8.2), fun _ => ⟨XW.kp hW2 hL2 hn8 hm12 (fun q hq _ => hk1 q hq), hL2, f, o_kp hPo (hk1 o)⟩, fun _ _ => rfl⟩) (by rw [if_pos hc1, if_neg hn2]) dL_setTurn_24 (Nat.le_of_ble_eq_true rfl) (Nat.le_of_ble_eq_true rfl)
  · obtain ⟨cs', ss', hW1⟩ := hp1
    have hL1 := hL2
    have hlb1 : ∀ q : Nat, q < sz → lab q = lab q := fun _ _ => rfl
    have hPo1 := o_kp hPo (fun h9 => hk1 o h9 hAo)
    have ho1 : 200 ≤ lab o := by rw [hlb1 o hos]; exact ho
    refine lv_i2l (v := (zI (xC (τ k.toNat) s9 3)).toInt64) hx hb dL_setTurn_12 rfl ?_
    refine z_last2 hx hb hK hPo1 hS1 (Or.inr (Or.inl rfl)) 2 rfl Nat.one_pos dL_setTurn_13 (fun H2 locs2 hPo2 hz2 hk2 hS2 => ?_)
    refine lv_goto (tgt := 25) hx hb dL_setTurn_14 (by decide) ?_
    refine lv_iconst (v := zI (0)) hx hb dL_setTurn_25 rfl ?_
    exact z_vxret hx hb hr hlocks hS2 (⟨g2, lab, cs', ss', fun _ => ⟨XW.kp hW1 hL1 (by omega) (by omega) (fun q hq hlb => hk2 q (fun e9 => by rw [e9] at hlb; omega)), hL1, _, (if_pos rfl), hPo2⟩, fun q9 => absurd hC q9, hlb1⟩) (by rw [if_pos hC.1, if_pos hC.2]) dL_setTurn_26 (Nat.le_of_ble_eq_true rfl) (Nat.le_of_ble_eq_true rfl)

set_option maxHeartbeats 4000000 in
set_option maxRecDepth 100000 in
theorem kL_step (l : Launch) (D : va_G) (G : Nat → ClassId) (hl9 : l.stackTraces = false) (ax : Nat) (n m9 sp : Int) (τ ζ : Nat → Nat → Int) (g : Nat → Nat → Nat) (cs ss : Nat → Nat → Int32) (hOK : XOK n m9 sp τ ζ) (lab : Nat → Nat) (hXL : XL lab ax n m9 g) (o sz : Nat) (f : Nat → Int64) (ho : 200 ≤ lab o) (k s9 w9 : Int) (hr0 : -2147483648 ≤ k ∧ k ≤ 2147483647) (hr1 : -2147483648 ≤ s9 ∧ s9 ≤ 2147483647) (hr2 : -2147483648 ≤ w9 ∧ w9 ≤ 2147483647) : Met l yL_step wsL_step ({ frames := 9, cells := 3, slots := 18, locals := 199 }) (zPT [.ref ax, .int (zI (k)), .int (zI (s9)), .int (zI (w9)), .ref o] D G (fun H => H.size = sz ∧ XW D G ax n m9 sp τ ζ g cs ss H ∧ va_P D vwCl (oL G o f) H)) (zM (some (.int (zI (if 0 ≤ k ∧ k < n ∧ 0 ≤ s9 ∧ s9 < τ k.toNat 0 ∧ 0 ≤ w9 ∧ w9 ≤ 4 then 0 else 1)))) (LQ D G ax sz lab n m9 sp τ ζ (0 ≤ k ∧ k < n ∧ 0 ≤ s9 ∧ s9 < τ k.toNat 0 ∧ 0 ≤ w9 ∧ w9 ≤ 4) (n) (m9) (sp) (τ) (ζ) (OLv D G o ((zI (if w9 = 4 then xDelay (τ k.toNat) s9 else xC (τ k.toNat) s9 w9)).toInt64)) (OL D G o)) (LA lab o sz)) 3 18 (LA lab o sz) := by
  refine z_metX (vx_ofWH (cc := cL_step) (maxL := 6) (ret := some .int) (hh := [(0, 12, 15, 21)]) (by decide) rfl ?_)
  intro p e s m args below meth c s₁ B hml hv
  obtain ⟨hav, ⟨hsz, hW, hPo⟩, hK, hN, hT0⟩ := hv
  have hx := B.exec
  have hb := B.bytes
  have hr := B.returns
  have hts := atoms_spec (ws := wsL_step) B.pre
  have hown : s.vm.findClass RL = some m.cls := findClass_of_methodNamed B.named
  have hlocks : meth.locks = false := B.notSynchronized
  have htab := vx_table (x := yL_step) B (hts _ List.mem_cons_self)
  obtain ⟨hn0, hn8, hm0, hm12, -⟩ := id hOK
  obtain ⟨g2, hW2, hL2, hg2⟩ := XN hW hXL hn8
  have hos : o < sz := by have h9 := o_lt hPo; omega
  have hS : va_S (LA lab o sz) s.heap s.heap [] := va_S.rf
  refine z_entry hav (Nat.le_of_ble_eq_true rfl) rfl (fun ls hl => ?_)
  have hl : lv_has ls 6 [(0, .ref ax), (1, .int (zI (k))), (2, .int (zI (s9))), (3, .int (zI (w9))), (4, .ref o)] := hl
  refine lv_aload hx hb dL_step_0 (lv_at hl 4 rfl) ?_
  refine lv_iconst (v := zI (0)) hx hb dL_step_2 rfl ?_
  refine lv_aload_n hx hb dL_step_3 rfl (lv_at hl 0 rfl) ?_
  refine lv_iload_n hx hb dL_step_4 rfl (lv_at hl 1 rfl) ?_
  refine lv_iload_n hx hb dL_step_5 rfl (lv_at hl 2 rfl) ?_
  refine lv_iload_n hx hb dL_step_6 rfl (lv_at hl 3 rfl) ?_
  refine z_callX (vx_runV (As := [.int (zI (k)), .int (zI (s9)), .int (zI (w9))]) (rest := [.int (zI (0)), .ref o]) ⟨hx, hb, hml, hown, hts⟩ (kX2_step l D G hl9 ax n m9 sp τ ζ g2 cs ss hOK k s9 w9 hr0 hr1 hr2) (cwV 3 hts gL_step_X2_step rfl rfl rfl (by decide +kernel) ⟨Nat.le_of_ble_eq_true rfl, Nat.le_of_ble_eq_true rfl⟩) (zPTreV (va_recv hK hW2.1 (ci := 2) (q0 := 0) rfl rfl) hK hN hT0 (hW2)) rfl rfl hl.1 rfl (lv_room (Nat.le_of_ble_eq_true rfl)) dL_step_7 ⟨Nat.le_of_ble_eq_true rfl, Nat.le_of_ble_eq_true rfl⟩) (fun E ce qx9 H1 hco hz1 hk1 hce hcv hcl => ?_) (fun hC => ?_)
  · have hS1 : va_S (LA lab o sz) s.heap H1 [] := ⟨hz1, fun q hq _ => hk1 q hq, fun _ h9 => nomatch h9⟩
    obtain ⟨rfl, hn1⟩ := hco
    refine vx_catch hown [] ⟨0, 12, 15, 21⟩ [] (htab.trans rfl) (fun _ h9 => nomatch h9) (by decide) (by decide) (hts (.classLink RL 21 "java/lang/IndexOutOfBoundsException") (by decide +kernel)) (va_Nw.use rfl (hN.2.2.1 zIO (by decide +kernel))) hce hcv hcl ?_
    refine lv_astore (lv' := [(5, .ref qx9), (0, .ref ax), (1, .int (zI (k))), (2, .int (zI (s9))), (3, .int (zI (w9))), (4, .ref o)]) hx hb dL_step_15 hl (by decide) rfl (fun ls hl => ?_)
    refine lv_iconst (v := zI (1)) hx hb dL_step_17 rfl ?_
    exact z_vxret hx hb hr hlocks hS1 (⟨g2, lab, cs, ss, fun q9 => absurd q9 hn1, fun _ => ⟨XW.kp hW2 hL2 hn8 hm12 (fun q hq _ => hk1 q hq), hL2, f, o_kp hPo (hk1 o)⟩, fun _ _ => rfl⟩) ((if_neg hn1).symm) dL_step_18 (Nat.le_of_ble_eq_true rfl) (Nat.le_of_ble_eq_true rfl)
  · have hW1 := hW2
    have hL1 := hL2
    have hlb1 : ∀ q : Nat, q < sz → lab q = lab q := fun _ _ => rfl
    have hPo1 := hPo
    have hS1 := hS
    have ho1 : 200 ≤ lab o := by rw [hlb1 o hos]; exact ho
    refine lv_i2l (v := (zI (if w9 = 4 then xDelay (τ k.toNat) s9 else xC (τ k.toNat) s9 w9)).toInt64) hx hb dL_step_10 rfl ?_
    refine z_last2 hx hb hK hPo1 hS1 (Or.inr (Or.inl rfl)) 2 rfl Nat.one_pos dL_step_11 (fun H2 locs2 hPo2 hz2 hk2 hS2 => ?_)
    refine lv_goto (tgt := 19) hx hb dL_step_12 (by decide) ?_
    refine lv_iconst (v := zI (0)) hx hb dL_step_19 rfl ?_
    exact z_vxret hx hb hr hlocks hS2 (⟨g2, lab, cs, ss, fun _ => ⟨XW.kp hW1 hL1 (by omega) (by omega) (fun q hq hlb => hk2 q (fun e9 => by rw [e9] at hlb; omega)), hL1, _, (if_pos rfl), hPo2⟩, fun q9 => absurd hC q9, hlb1⟩) ((if_pos hC).symm) dL_step_20 (Nat.le_of_ble_eq_true rfl) (Nat.le_of_ble_eq_true rfl)

set_option maxHeartbeats 4000000 in
set_option maxRecDepth 100000 in
theorem kL_track (l : Launch) (D : va_G) (G : Nat → ClassId) (hl9 : l.stackTraces = false) (ax : Nat) (n m9 sp : Int) (τ ζ : Nat → Nat → Int) (g : Nat → Nat → Nat) (cs ss : Nat → Nat → Int32) (hOK : XOK n m9 sp τ ζ) (lab : Nat → Nat) (hXL : XL lab ax n m9 g) (o sz : Nat) (f : Nat → Int64) (ho : 200 ≤ lab o) (k w9 : Int) (hr0 : -2147483648 ≤ k ∧ k ≤ 2147483647) (hr1 : -2147483648 ≤ w9 ∧ w9 ≤ 2147483647) : Met l yL_track wsL_track ({ frames := 8, cells := 2, slots := 12, locals := 175 }) (zPT [.ref ax, .int (zI (k)), .int (zI (w9)), .ref o] D G (fun H => H.size = sz ∧ XW D G ax n m9 sp τ ζ g cs ss H ∧ va_P D vwCl (oL G o f) H)) (zM (some (.int (zI (if 0 ≤ k ∧ k < n ∧ 0 ≤ w9 ∧ w9 ≤ 7 then 0 else 1)))) (LQ D G ax sz lab n m9 sp τ ζ (0 ≤ k ∧ k < n ∧ 0 ≤ w9 ∧ w9 ≤ 7) (n) (m9) (sp) (τ) (ζ) (OLv D G o ((zI (τ k.toNat w9.toNat)).toInt64)) (OL D G o)) (LA lab o sz)) 2 12 (LA lab o sz) := by
  refine z_metX (vx_ofWH (cc := cL_track) (maxL := 5) (ret := some .int) (hh := [(0, 10, 13, 21)]) (by decide) rfl ?_)
  intro p e s m args below meth c s₁ B hml hv
  obtain ⟨hav, ⟨hsz, hW, hPo⟩, hK, hN, hT0⟩ := hv
  have hx := B.exec
  have hb := B.bytes
  have hr := B.returns
  have hts := atoms_spec (ws := wsL_track) B.pre
  have hown : s.vm.findClass RL = some m.cls := findClass_of_methodNamed B.named
  have hlocks : meth.locks = false := B.notSynchronized
  have htab := vx_table (x := yL_track) B (hts _ List.mem_cons_self)
  obtain ⟨hn0, hn8, hm0, hm12, -⟩ := id hOK
  obtain ⟨g2, hW2, hL2, hg2⟩ := XN hW hXL hn8
  have hos : o < sz := by have h9 := o_lt hPo; omega
  have hS : va_S (LA lab o sz) s.heap s.heap [] := va_S.rf
  refine z_entry hav (Nat.le_of_ble_eq_true rfl) rfl (fun ls hl => ?_)
  have hl : lv_has ls 5 [(0, .ref ax), (1, .int (zI (k))), (2, .int (zI (w9))), (3, .ref o)] := hl
  refine lv_aload_n hx hb dL_track_0 rfl (lv_at hl 3 rfl) ?_
  refine lv_iconst (v := zI (0)) hx hb dL_track_1 rfl ?_
  refine lv_aload_n hx hb dL_track_2 rfl (lv_at hl 0 rfl) ?_
  refine lv_iload_n hx hb dL_track_3 rfl (lv_at hl 1 rfl) ?_
  refine lv_iload_n hx hb dL_track_4 rfl (lv_at hl 2 rfl) ?_
  refine z_callX (vx_runV (As := [.int (zI (k)), .int (zI (w9))]) (rest := [.int (zI (0)), .ref o]) ⟨hx, hb, hml, hown, hts⟩ (kX2_track l D G hl9 ax n m9 sp τ ζ g2 cs ss hOK k w9 hr0 hr1) (cwV 2 hts gL_track_X2_track rfl rfl rfl (by decide +kernel) ⟨Nat.le_of_ble_eq_true rfl, Nat.le_of_ble_eq_true rfl⟩) (zPTreV (va_recv hK hW2.1 (ci := 2) (q0 := 0) rfl rfl) hK hN hT0 (hW2)) rfl rfl hl.1 rfl (lv_room (Nat.le_of_ble_eq_true rfl)) dL_track_5 ⟨Nat.le_of_ble_eq_true rfl, Nat.le_of_ble_eq_true rfl⟩) (fun E ce qx9 H1 hco hz1 hk1 hce hcv hcl => ?_) (fun hC => ?_)
  · have hS1 : va_S (LA lab o sz) s.heap H1 [] := ⟨hz1, fun q hq _ => hk1 q hq, fun _ h9 => nomatch h9⟩
    obtain ⟨rfl, hn1⟩ := hco
    refine vx_catch hown [] ⟨0, 10, 13, 21⟩ [] (htab.trans rfl) (fun _ h9 => nomatch h9) (by decide) (by decide) (hts (.classLink RL 21 "java/lang/IndexOutOfBoundsException") (by decide +kernel)) (va_Nw.use rfl (hN.2.2.1 zIO (by decide +kernel))) hce hcv hcl ?_
    refine lv_astore (lv' := [(4, .ref qx9), (0, .ref ax), (1, .int (zI (k))), (2, .int (zI (w9))), (3, .ref o)]) hx hb dL_track_13 hl (by decide) rfl (fun ls hl => ?_)
    refine lv_iconst (v := zI (1)) hx hb dL_track_15 rfl ?_
    exact z_vxret hx hb hr hlocks hS1 (⟨g2, lab, cs, ss, fun q9 => absurd q9 hn1, fun _ => ⟨XW.kp hW2 hL2 hn8 hm12 (fun q hq _ => hk1 q hq), hL2, f, o_kp hPo (hk1 o)⟩, fun _ _ => rfl⟩) ((if_neg hn1).symm) dL_track_16 (Nat.le_of_ble_eq_true rfl) (Nat.le_of_ble_eq_true rfl)
  · have hW1 := hW2
    have hL1 := hL2
    have hlb1 : ∀ q : Nat, q < sz → lab q = lab q := fun _ _ => rfl
    have hPo1 := hPo
    have hS1 := hS
    have ho1 : 200 ≤ lab o := by rw [hlb1 o hos]; exact ho
    refine lv_i2l (v := (zI (τ k.toNat w9.toNat)).toInt64) hx hb dL_track_8 rfl ?_
    refine z_last2 hx hb hK hPo1 hS1 (Or.inr (Or.inl rfl)) 2 rfl Nat.one_pos dL_track_9 (fun H2 locs2 hPo2 hz2 hk2 hS2 => ?_)
    refine lv_goto (tgt := 17) hx hb dL_track_10 (by decide) ?_
    refine lv_iconst (v := zI (0)) hx hb dL_track_17 rfl ?_
    exact z_vxret hx hb hr hlocks hS2 (⟨g2, lab, cs, ss, fun _ => ⟨XW.kp hW1 hL1 (by omega) (by omega) (fun q hq hlb => hk2 q (fun e9 => by rw [e9] at hlb; omega)), hL1, _, (if_pos rfl), hPo2⟩, fun q9 => absurd hC q9, hlb1⟩) ((if_pos hC).symm) dL_track_18 (Nat.le_of_ble_eq_true rfl) (Nat.le_of_ble_eq_true rfl)

set_option maxHeartbeats 4000000 in
set_option maxRecDepth 100000 in
theorem kL_tune (l : Launch) (D : va_G) (G : Nat → ClassId) (hl9 : l.stackTraces = false) (ax : Nat) (n m9 sp : Int) (τ ζ : Nat → Nat → Int) (g : Nat → Nat → Nat) (cs ss : Nat → Nat → Int32) (hOK : XOK n m9 sp τ ζ) (lab : Nat → Nat) (hXL : XL lab ax n m9 g) (o sz : Nat) (f : Nat → Int64) (ho : 200 ≤ lab o) (k sw rg gp : Int) (hr0 : -2147483648 ≤ k ∧ k ≤ 2147483647) (hr1 : -2147483648 ≤ sw ∧ sw ≤ 2147483647) (hr2 : -2147483648 ≤ rg ∧ rg ≤ 2147483647) (hr3 : -2147483648 ≤ gp ∧ gp ≤ 2147483647) : Met l yL_tune wsL_tune ({ frames := 8, cells := 2, slots := 12, locals := 178 }) (zPT [.ref ax, .int (zI (k)), .int (zI (sw)), .int (zI (rg)), .int (zI (gp)), .ref o] D G (fun H => H.size = sz ∧ XW D G ax n m9 sp τ ζ g cs ss H ∧ va_P D vwCl (oL G o f) H)) (zM (some (.int (zI (if 0 ≤ k ∧ k < n then (if (0 ≤ sw ∧ sw ≤ τ k.toNat 1 - 1) ∧ (1 ≤ rg ∧ rg ≤ 200) ∧ (0 ≤ gp ∧ gp ≤ 3) then 0 else 2) else 1)))) (LQ D G ax sz lab n m9 sp τ ζ ((0 ≤ k ∧ k < n) ∧ ((0 ≤ sw ∧ sw ≤ τ k.toNat 1 - 1) ∧ (1 ≤ rg ∧ rg ≤ 200) ∧ (0 ≤ gp ∧ gp ≤ 3))) (n) (m9) (sp) (va_up τ k.toNat (xFu (τ k.toNat) sw rg gp)) (ζ) (OLv D G o ((zI (τ k.toNat 2)).toInt64)) (OL D G o)) (LA lab o sz)) 2 12 (LA lab o sz) := by
  refine z_metX (vx_ofWH (cc := cL_tune) (maxL := 7) (ret := some .int) (hh := [(0, 14, 17, 21), (0, 14, 21, 13)]) (by decide) rfl ?_)
  intro p e s m args below meth c s₁ B hml hv
  obtain ⟨hav, ⟨hsz, hW, hPo⟩, hK, hN, hT0⟩ := hv
  have hx := B.exec
  have hb := B.bytes
  have hr := B.returns
  have hts := atoms_spec (ws := wsL_tune) B.pre
  have hown : s.vm.findClass RL = some m.cls := findClass_of_methodNamed B.named
  have hlocks : meth.locks = false := B.notSynchronized
  have htab := vx_table (x := yL_tune) B (hts _ List.mem_cons_self)
  obtain ⟨hn0, hn8, hm0, hm12, -⟩ := id hOK
  obtain ⟨g2, hW2, hL2, hg2⟩ := XN hW hXL hn8
  have hos : o < sz := by have h9 := o_lt hPo; omega
  have hS : va_S (LA lab o sz) s.heap s.heap [] := va_S.rf
  have hA1 : ∀ q : Nat, zA [g2 1 k.toNat, g2 2 k.toNat, g2 3 k.toNat] q → LA lab o sz q := by
    intro q h9; simp only [zA, List.mem_cons, List.not_mem_nil, or_false] at h9; have h8 := hg2 k.toNat; rcases h9 with e9 | e9 | e9 <;> exact Or.inl (by rw [e9]; omega)
  have hAo : ¬ zA [g2 1 k.toNat, g2 2 k.toNat, g2 3 k.toNat] o := by
    intro h9; simp only [zA, List.mem_cons, List.not_mem_nil, or_false] at h9; have h8 := hg2 k.toNat; rcases h9 with e9 | e9 | e9 <;> (rw [← e9] at h8; omega)
  refine z_entry hav (Nat.le_of_ble_eq_true rfl) rfl (fun ls hl => ?_)
  have hl : lv_has ls 7 [(0, .ref ax), (1, .int (zI (k))), (2, .int (zI (sw))), (3, .int (zI (rg))), (4, .int (zI (gp))), (5, .ref o)] := hl
  refine lv_aload hx hb dL_tune_0 (lv_at hl 5 rfl) ?_
  refine lv_iconst (v := zI (0)) hx hb dL_tune_2 rfl ?_
  refine lv_aload_n hx hb dL_tune_3 rfl (lv_at hl 0 rfl) ?_
  refine lv_iload_n hx hb dL_tune_4 rfl (lv_at hl 1 rfl) ?_
  refine lv_iload_n hx hb dL_tune_5 rfl (lv_at hl 2 rfl) ?_
  refine lv_iload_n hx hb dL_tune_6 rfl (lv_at hl 3 rfl) ?_
  refine lv_iload hx hb dL_tune_7 (lv_at hl 4 rfl) ?_
  refine z_callXM (vx_runV (As := [.int (zI (k)), .int (zI (sw)), .int (zI (rg)), .int (zI (gp))]) (rest := [.int (zI (0)), .ref o]) ⟨hx, hb, hml, hown, hts⟩ (kX2_tune l D G hl9 ax n m9 sp τ ζ g2 cs ss hOK lab hL2 k sw rg gp hr0 hr1 hr2 hr3) (cwV 4 hts gL_tune_X2_tune rfl rfl rfl (by decide +kernel) ⟨Nat.le_of_ble_eq_true rfl, Nat.le_of_ble_eq_true rfl⟩) (zPTreV (va_recv hK hW2.1 (ci := 2) (q0 := 0) rfl rfl) hK hN hT0 (hW2)) rfl rfl hl.1 rfl (lv_room (Nat.le_of_ble_eq_true rfl)) dL_tune_9 ⟨Nat.le_of_ble_eq_true rfl, Nat.le_of_ble_eq_true rfl⟩) hS (fun q _ h9 => hA1 q h9) hA1 (fun E ce qx9 H1 locs1 hco hz1 hk1 hS1 hce hcv hcl => ?_) (fun H1 locs1 hC hp1 hz1 hk1 hS1 => ?_)
  · rcases hco with ⟨rfl, hn1⟩ | ⟨rfl, hc1, hn2⟩
    · refine vx_catch hown [] ⟨0, 14, 17, 21⟩ [⟨0, 14, 21, 13⟩] (htab.trans rfl) (fun _ h9 => nomatch h9) (by decide) (by decide) (hts (.classLink RL 21 "java/lang/IndexOutOfBoundsException") (by decide +kernel)) (va_Nw.use rfl (hN.2.2.1 zIO (by decide +kernel))) hce hcv hcl ?_
      refine lv_astore (lv' := [(6, .ref qx9), (0, .ref ax), (1, .int (zI (k))), (2, .int (zI (sw))), (3, .int (zI (rg))), (4, .int (zI (gp))), (5, .ref o)]) hx hb dL_tune_17 hl (by decide) rfl (fun ls hl => ?_)
      refine lv_iconst (v := zI (1)) hx hb dL_tune_19 rfl ?_
      exact z_vxret hx hb hr hlocks hS1 (⟨g2, lab, cs, ss, fun q9 => absurd q9 (fun q8 => hn1 q8.1), fun _ => ⟨XW.kp hW2 hL2 hn8 hm12 (fun q hq _ => hk1 q hq), hL2, f, o_kp hPo (hk1 o)⟩, fun _ _ => rfl⟩) ((if_neg hn1).symm) dL_tune_20 (Nat.le_of_ble_eq_true rfl) (Nat.le_of_ble_eq_true rfl)
    · refine vx_catch hown [⟨0, 14, 17, 21⟩] ⟨0, 14, 21, 13⟩ [] (htab.trans rfl) (fun z hz => by cases List.mem_singleton.mp hz; exact Or.inr ⟨by decide, "java/lang/IndexOutOfBoundsException", hts (.classLink RL 21 "java/lang/IndexOutOfBoundsException") (by decide +kernel), hN.2.2.2.1 (zIA, zIO) (by decide)⟩) (by decide) (by decide) (hts (.classLink RL 13 "java/lang/IllegalArgumentException") (by decide +kernel)) (va_Nw.use rfl (hN.2.2.1 zIA (by decide +kernel))) hce hcv hcl ?_
      refine lv_astore (lv' := [(6, .ref qx9), (0, .ref ax), (1, .int (zI (k))), (2, .int (zI (sw))), (3, .int (zI (rg))), (4, .int (zI (gp))), (5, .ref o)]) hx hb dL_tune_21 hl (by decide) rfl (fun ls hl => ?_)
      refine lv_iconst (v := zI (2)) hx hb dL_tune_23 rfl ?_
      exact z_vxret hx hb hr hlocks hS1 (⟨g2, lab, cs, ss, fun q9 => absurd q9 (fun q8 => hn2 q8.2), fun _ => ⟨XW.kp hW2 hL2 hn8 hm12 (fun q hq _ => hk1 q hq), hL2, f, o_kp hPo (hk1 o)⟩, fun _ _ => rfl⟩) (by rw [if_pos hc1, if_neg hn2]) dL_tune_24 (Nat.le_of_ble_eq_true rfl) (Nat.le_of_ble_eq_true rfl)
  · obtain ⟨cs', ss', hW1⟩ := hp1
    have hL1 := hL2
    have hlb1 : ∀ q : Nat, q < sz → lab q = lab q := fun _ _ => rfl
    have hPo1 := o_kp hPo (fun h9 => hk1 o h9 hAo)
    have ho1 : 200 ≤ lab o := by rw [hlb1 o hos]; exact ho
    refine lv_i2l (v := (zI (τ k.toNat 2)).toInt64) hx hb dL_tune_12 rfl ?_
    refine z_last2 hx hb hK hPo1 hS1 (Or.inr (Or.inl rfl)) 2 rfl Nat.one_pos dL_tune_13 (fun H2 locs2 hPo2 hz2 hk2 hS2 => ?_)
    refine lv_goto (tgt := 25) hx hb dL_tune_14 (by decide) ?_
    refine lv_iconst (v := zI (0)) hx hb dL_tune_25 rfl ?_
    exact z_vxret hx hb hr hlocks hS2 (⟨g2, lab, cs', ss', fun _ => ⟨XW.kp hW1 hL1 (by omega) (by omega) (fun q hq hlb => hk2 q (fun e9 => by rw [e9] at hlb; omega)), hL1, _, (if_pos rfl), hPo2⟩, fun q9 => absurd hC q9, hlb1⟩) (by rw [if_pos hC.1, if_pos hC.2]) dL_tune_26 (Nat.le_of_ble_eq_true rfl) (Nat.le_of_ble_eq_true rfl)

set_option maxHeartbeats 4000000 in
set_option maxRecDepth 100000 in
theorem kL_turn (l : Launch) (D : va_G) (G : Nat → ClassId) (hl9 : l.stackTraces = false) (ax : Nat) (n m9 sp : Int) (τ ζ : Nat → Nat → Int) (g : Nat → Nat → Nat) (cs ss : Nat → Nat → Int32) (hOK : XOK n m9 sp τ ζ) (lab : Nat → Nat) (hXL : XL lab ax n m9 g) (o sz : Nat) (f : Nat → Int64) (ho : 200 ≤ lab o) (k w9 v9 : Int) (hr0 : -2147483648 ≤ k ∧ k ≤ 2147483647) (hr1 : -2147483648 ≤ w9 ∧ w9 ≤ 2147483647) (hv9 : v9 = 0 ∨ v9 = 1) : Met l yL_turn wsL_turn ({ frames := 8, cells := 2, slots := 12, locals := 177 }) (zPT [.ref ax, .int (zI (k)), .int (zI (w9)), .int (zI (v9)), .ref o] D G (fun H => H.size = sz ∧ XW D G ax n m9 sp τ ζ g cs ss H ∧ va_P D vwCl (oL G o f) H)) (zM (some (.int (zI (if 0 ≤ k ∧ k < n ∧ 0 ≤ w9 ∧ w9 ≤ 2 then 0 else 1)))) (LQ D G ax sz lab n m9 sp τ ζ (0 ≤ k ∧ k < n ∧ 0 ≤ w9 ∧ w9 ≤ 2) (n) (m9) (sp) (va_up τ k.toNat (va_up (τ k.toNat) (5 + w9).toNat v9)) (ζ) (OLv D G o ((zB (τ k.toNat (5 + w9).toNat = 1)).toInt64)) (OL D G o)) (LA lab o sz)) 2 12 (LA lab o sz) := by
  refine z_metX (vx_ofWH (cc := cL_turn) (maxL := 6) (ret := some .int) (hh := [(0, 19, 22, 21)]) (by decide) rfl ?_)
  intro p e s m args below meth c s₁ B hml hv
  obtain ⟨hav, ⟨hsz, hW, hPo⟩, hK, hN, hT0⟩ := hv
  have hx := B.exec
  have hb := B.bytes
  have hr := B.returns
  have hts := atoms_spec (ws := wsL_turn) B.pre
  have hown : s.vm.findClass RL = some m.cls := findClass_of_methodNamed B.named
  have hlocks : meth.locks = false := B.notSynchronized
  have htab := vx_table (x := yL_turn) B (hts _ List.mem_cons_self)
  obtain ⟨hn0, hn8, hm0, hm12, -⟩ := id hOK
  obtain ⟨g2, hW2, hL2, hg2⟩ := XN hW hXL hn8
  have hos : o < sz := by have h9 := o_lt hPo; omega
  have hS : va_S (LA lab o sz) s.heap s.heap [] := va_S.rf
  have hA1 : ∀ q : Nat, zA [g2 1 k.toNat, g2 2 k.toNat, g2 3 k.toNat] q → LA lab o sz q := by
    intro q h9; simp only [zA, List.mem_cons, List.not_mem_nil, or_false] at h9; have h8 := hg2 k.toNat; rcases h9 with e9 | e9 | e9 <;> exact Or.inl (by rw [e9]; omega)
  have hAo : ¬ zA [g2 1 k.toNat, g2 2 k.toNat, g2 3 k.toNat] o := by
    intro h9; simp only [zA, List.mem_cons, List.not_mem_nil, or_false] at h9; have h8 := hg2 k.toNat; rcases h9 with e9 | e9 | e9 <;> (rw [← e9] at h8; omega)
  refine z_entry hav (Nat.le_of_ble_eq_true rfl) rfl (fun ls hl => ?_)
  have hl : lv_has ls 6 [(0, .ref ax), (1, .int (zI (k))), (2, .int (zI (w9))), (3, .int (zI (v9))), (4, .ref o)] := hl
  refine lv_aload hx hb dL_turn_0 (lv_at hl 4 rfl) ?_
  refine lv_iconst (v := zI (0)) hx hb dL_turn_2 rfl ?_
  refine lv_aload_n hx hb dL_turn_3 rfl (lv_at hl 0 rfl) ?_
  refine lv_iload_n hx hb dL_turn_4 rfl (lv_at hl 1 rfl) ?_
  refine lv_iload_n hx hb dL_turn_5 rfl (lv_at hl 2 rfl) ?_
  refine lv_iload_n hx hb dL_turn_6 rfl (lv_at hl 3 rfl) ?_
  refine z_callXM (vx_runV (As := [.int (zI (k)), .int (zI (w9)), .int (zI (v9))]) (rest := [.int (zI (0)), .ref o]) ⟨hx, hb, hml, hown, hts⟩ (kX2_turn l D G hl9 ax n m9 sp τ ζ g2 cs ss hOK lab hL2 k w9 v9 hr0 hr1 hv9) (cwV 3 hts gL_turn_X2_turn rfl rfl rfl (by decide +kernel) ⟨Nat.le_of_ble_eq_true rfl, Nat.le_of_ble_eq_true rfl⟩) (zPTreV (va_recv hK hW2.1 (ci := 2) (q0 := 0) rfl rfl) hK hN hT0 (hW2)) rfl rfl hl.1 rfl (lv_room (Nat.le_of_ble_eq_true rfl)) dL_turn_7 ⟨Nat.le_of_ble_eq_true rfl, Nat.le_of_ble_eq_true rfl⟩) hS (fun q _ h9 => hA1 q h9) hA1 (fun E ce qx9 H1 locs1 hco hz1 hk1 hS1 hce hcv hcl => ?_) (fun H1 locs1 hC hp1 hz1 hk1 hS1 => ?_)
  · obtain ⟨rfl, hn1⟩ := hco
    refine vx_catch hown [] ⟨0, 19, 22, 21⟩ [] (htab.trans rfl) (fun _ h9 => nomatch h9) (by decide) (by decide) (hts (.classLink RL 21 "java/lang/IndexOutOfBoundsException") (by decide +kernel)) (va_Nw.use rfl (hN.2.2.1 zIO (by decide +kernel))) hce hcv hcl ?_
    refine lv_astore (lv' := [(5, .ref qx9), (0, .ref ax), (1, .int (zI (k))), (2, .int (zI (w9))), (3, .int (zI (v9))), (4, .ref o)]) hx hb dL_turn_22 hl (by decide) rfl (fun ls hl => ?_)
    refine lv_iconst (v := zI (1)) hx hb dL_turn_24 rfl ?_
    exact z_vxret hx hb hr hlocks hS1 (⟨g2, lab, cs, ss, fun q9 => absurd q9 hn1, fun _ => ⟨XW.kp hW2 hL2 hn8 hm12 (fun q hq _ => hk1 q hq), hL2, f, o_kp hPo (hk1 o)⟩, fun _ _ => rfl⟩) ((if_neg hn1).symm) dL_turn_25 (Nat.le_of_ble_eq_true rfl) (Nat.le_of_ble_eq_true rfl)
  · obtain ⟨cs', ss', hW1⟩ := hp1
    have hL1 := hL2
    have hlb1 : ∀ q : Nat, q < sz → lab q = lab q := fun _ _ => rfl
    have hPo1 := o_kp hPo (fun h9 => hk1 o h9 hAo)
    have ho1 : 200 ≤ lab o := by rw [hlb1 o hos]; exact ho
    refine z_eqB (tgt := 17) hx hb dL_turn_10 (by decide) (fun c_1 => ?_) (fun c_1 => ?_)
    · refine lv_lconst (v := lN 0) hx hb dL_turn_17 (by decide) ?_
      refine z_last2 hx hb hK hPo1 hS1 (Or.inr (Or.inl rfl)) 2 rfl Nat.one_pos dL_turn_18 (fun H2 locs2 hPo2 hz2 hk2 hS2 => ?_)
      refine lv_goto (tgt := 26) hx hb dL_turn_19 (by decide) ?_
      refine lv_iconst (v := zI (0)) hx hb dL_turn_26 rfl ?_
      exact z_vxret hx hb hr hlocks hS2 (⟨g2, lab, cs', ss', fun _ => ⟨XW.kp hW1 hL1 (by omega) (by omega) (fun q hq hlb => hk2 q (fun e9 => by rw [e9] at hlb; omega)), hL1, _, (show (if 0 = 0 then lN 0 else f 0) = _ from by rw [if_pos rfl, zB_f c_1]; rfl), hPo2⟩, fun q9 => absurd hC q9, hlb1⟩) ((if_pos hC).symm) dL_turn_27 (Nat.le_of_ble_eq_true rfl) (Nat.le_of_ble_eq_true rfl)
    · refine lv_lconst (v := lN 1) hx hb dL_turn_13 (by decide) ?_
      refine lv_goto (tgt := 18) hx hb dL_turn_14 (by decide) ?_
      refine z_last2 hx hb hK hPo1 hS1 (Or.inr (Or.inl rfl)) 2 rfl Nat.one_pos dL_turn_18 (fun H2 locs2 hPo2 hz2 hk2 hS2 => ?_)
      refine lv_goto (tgt := 26) hx hb dL_turn_19 (by decide) ?_
      refine lv_iconst (v := zI (0)) hx hb dL_turn_26 rfl ?_
      exact z_vxret hx hb hr hlocks hS2 (⟨g2, lab, cs', ss', fun _ => ⟨XW.kp hW1 hL1 (by omega) (by omega) (fun q hq hlb => hk2 q (fun e9 => by rw [e9] at hlb; omega)), hL1, _, (show (if 0 = 0 then lN 1 else f 0) = _ from by rw [if_pos rfl, zB_t c_1]; rfl), hPo2⟩, fun q9 => absurd hC q9, hlb1⟩) ((if_pos hC).symm) dL_turn_27 (Nat.le_of_ble_eq_true rfl) (Nat.le_of_ble_eq_true rfl)

set_option maxHeartbeats 4000000 in
set_option maxRecDepth 100000 in
theorem kL_spread (l : Launch) (D : va_G) (G : Nat → ClassId) (hl9 : l.stackTraces = false) (ax : Nat) (n m9 sp : Int) (τ ζ : Nat → Nat → Int) (g : Nat → Nat → Nat) (cs ss : Nat → Nat → Int32) (hOK : XOK n m9 sp τ ζ) (lab : Nat → Nat) (hXL : XL lab ax n m9 g) (o sz : Nat) (f : Nat → Int64) (ho : 200 ≤ lab o) (k h9 v : Int) (hr0 : -2147483648 ≤ k ∧ k ≤ 2147483647) (hr1 : -2147483648 ≤ h9 ∧ h9 ≤ 2147483647) (hr2 : -2147483648 ≤ v ∧ v ≤ 2147483647) : Met l yL_spread wsL_spread ({ frames := 8, cells := 2, slots := 12, locals := 176 }) (zPT [.ref ax, .int (zI (k)), .int (zI (h9)), .int (zI (v)), .ref o] D G (fun H => H.size = sz ∧ XW D G ax n m9 sp τ ζ g cs ss H ∧ va_P D vwCl (oL G o f) H)) (zM (some (.int (zI (if 0 ≤ k ∧ k < n then (if (0 ≤ h9 ∧ h9 ≤ τ k.toNat 0) ∧ (1 ≤ v ∧ v ≤ 127) then 0 else 2) else 1)))) (LQ D G ax sz lab n m9 sp τ ζ ((0 ≤ k ∧ k < n) ∧ ((0 ≤ h9 ∧ h9 ≤ τ k.toNat 0) ∧ (1 ≤ v ∧ v ≤ 127))) (n) (m9) (sp) (va_up τ k.toNat (xSpr (τ k.toNat) h9 v)) (ζ) (OLv D G o ((zI (xLast (τ k.toNat 0) h9 (τ k.toNat 0).toNat)).toInt64)) (OL D G o)) (LA lab o sz)) 2 12 (LA lab o sz) := by
  refine z_metX (vx_ofWH (cc := cL_spread) (maxL := 6) (ret := some .int) (hh := [(0, 12, 15, 21), (0, 12, 19, 13)]) (by decide) rfl ?_)
  intro p e s m args below meth c s₁ B hml hv
  obtain ⟨hav, ⟨hsz, hW, hPo⟩, hK, hN, hT0⟩ := hv
  have hx := B.exec
  have hb := B.bytes
  have hr := B.returns
  have hts := atoms_spec (ws := wsL_spread) B.pre
  have hown : s.vm.findClass RL = some m.cls := findClass_of_methodNamed B.named
  have hlocks : meth.locks = false := B.notSynchronized
  have htab := vx_table (x := yL_spread) B (hts _ List.mem_cons_self)
  obtain ⟨hn0, hn8, hm0, hm12, -⟩ := id hOK
  obtain ⟨g2, hW2, hL2, hg2⟩ := XN hW hXL hn8
  have hos : o < sz := by have h9 := o_lt hPo; omega
  have hS : va_S (LA lab o sz) s.heap s.heap [] := va_S.rf
  have hA1 : ∀ q : Nat, zA [g2 1 k.toNat, g2 2 k.toNat, g2 3 k.toNat] q → LA lab o sz q := by
    intro q h9; simp only [zA, List.mem_cons, List.not_mem_nil, or_false] at h9; have h8 := hg2 k.toNat; rcases h9 with e9 | e9 | e9 <;> exact Or.inl (by rw [e9]; omega)
  have hAo : ¬ zA [g2 1 k.toNat, g2 2 k.toNat, g2 3 k.toNat] o := by
    intro h9; simp only [zA, List.mem_cons, List.not_mem_nil, or_false] at h9; have h8 := hg2 k.toNat; rcases h9 with e9 | e9 | e9 <;> (rw [← e9] at h8; omega)
  refine z_entry hav (Nat.le_of_ble_eq_true rfl) rfl (fun ls hl => ?_)
  have hl : lv_has ls 6 [(0, .ref ax), (1, .int (zI (k))), (2, .int (zI (h9))), (3, .int (zI (v))), (4, .ref o)] := hl
  refine lv_aload hx hb dL_spread_0 (lv_at hl 4 rfl) ?_
  refine lv_iconst (v := zI (0)) hx hb dL_spread_2 rfl ?_
  refine lv_aload_n hx hb dL_spread_3 rfl (lv_at hl 0 rfl) ?_
  refine lv_iload_n hx hb dL_spread_4 rfl (lv_at hl 1 rfl) ?_
  refine lv_iload_n hx hb dL_spread_5 rfl (lv_at hl 2 rfl) ?_
  refine lv_iload_n hx hb dL_spread_6 rfl (lv_at hl 3 rfl) ?_
  refine z_callXM (vx_runV (As := [.int (zI (k)), .int (zI (h9)), .int (zI (v))]) (rest := [.int (zI (0)), .ref o]) ⟨hx, hb, hml, hown, hts⟩ (kX2_spread l D G hl9 ax n m9 sp τ ζ g2 cs ss hOK lab hL2 k h9 v hr0 hr1 hr2) (cwV 3 hts gL_spread_X2_spread rfl rfl rfl (by decide +kernel) ⟨Nat.le_of_ble_eq_true rfl, Nat.le_of_ble_eq_true rfl⟩) (zPTreV (va_recv hK hW2.1 (ci := 2) (q0 := 0) rfl rfl) hK hN hT0 (hW2)) rfl rfl hl.1 rfl (lv_room (Nat.le_of_ble_eq_true rfl)) dL_spread_7 ⟨Nat.le_of_ble_eq_true rfl, Nat.le_of_ble_eq_true rfl⟩) hS (fun q _ h9 => hA1 q h9) hA1 (fun E ce qx9 H1 locs1 hco hz1 hk1 hS1 hce hcv hcl => ?_) (fun H1 locs1 hC hp1 hz1 hk1 hS1 => ?_)
  · rcases hco with ⟨rfl, hn1⟩ | ⟨rfl, hc1, hn2⟩
    · refine vx_catch hown [] ⟨0, 12, 15, 21⟩ [⟨0, 12, 19, 13⟩] (htab.trans rfl) (fun _ h9 => nomatch h9) (by decide) (by decide) (hts (.classLink RL 21 "java/lang/IndexOutOfBoundsException") (by decide +kernel)) (va_Nw.use rfl (hN.2.2.1 zIO (by decide +kernel))) hce hcv hcl ?_
      refine lv_astore (lv' := [(5, .ref qx9), (0, .ref ax), (1, .int (zI (k))), (2, .int (zI (h9))), (3, .int (zI (v))), (4, .ref o)]) hx hb dL_spread_15 hl (by decide) rfl (fun ls hl => ?_)
      refine lv_iconst (v := zI (1)) hx hb dL_spread_17 rfl ?_
      exact z_vxret hx hb hr hlocks hS1 (⟨g2, lab, cs, ss, fun q9 => absurd q9 (fun q8 => hn1 q8.1), fun _ => ⟨XW.kp hW2 hL2 hn8 hm12 (fun q hq _ => hk1 q hq), hL2, f, o_kp hPo (hk1 o)⟩, fun _ _ => rfl⟩) ((if_neg hn1).symm) dL_spread_18 (Nat.le_of_ble_eq_true rfl) (Nat.le_of_ble_eq_true rfl)
    · refine vx_catch hown [⟨0, 12, 15, 21⟩] ⟨0, 12, 19, 13⟩ [] (htab.trans rfl) (fun z hz => by cases List.mem_singleton.mp hz; exact Or.inr ⟨by decide, "java/lang/IndexOutOfBoundsException", hts (.classLink RL 21 "java/lang/IndexOutOfBoundsException") (by decide +kernel), hN.2.2.2.1 (zIA, zIO) (by decide)⟩) (by decide) (by decide) (hts (.classLink RL 13 "java/lang/IllegalArgumentException") (by decide +kernel)) (va_Nw.use rfl (hN.2.2.1 zIA (by decide +kernel))) hce hcv hcl ?_
      refine lv_astore (lv' := [(5, .ref qx9), (0, .ref ax), (1, .int (zI (k))), (2, .int (zI (h9))), (3, .int (zI (v))), (4, .ref o)]) hx hb dL_spread_19 hl (by decide) rfl (fun ls hl => ?_)
      refine lv_iconst (v := zI (2)) hx hb dL_spread_21 rfl ?_
      exact z_vxret hx hb hr hlocks hS1 (⟨g2, lab, cs, ss, fun q9 => absurd q9 (fun q8 => hn2 q8.2), fun _ => ⟨XW.kp hW2 hL2 hn8 hm12 (fun q hq _ => hk1 q hq), hL2, f, o_kp hPo (hk1 o)⟩, fun _ _ => rfl⟩) (by rw [if_pos hc1, if_neg hn2]) dL_spread_22 (Nat.le_of_ble_eq_true rfl) (Nat.le_of_ble_eq_true rfl)
  · obtain ⟨cs', ss', hW1⟩ := hp1
    have hL1 := hL2
    have hlb1 : ∀ q : Nat, q < sz → lab q = lab q := fun _ _ => rfl
    have hPo1 := o_kp hPo (fun h9 => hk1 o h9 hAo)
    have ho1 : 200 ≤ lab o := by rw [hlb1 o hos]; exact ho
    refine lv_i2l (v := (zI (xLast (τ k.toNat 0) h9 (τ k.toNat 0).toNat)).toInt64) hx hb dL_spread_10 rfl ?_
    refine z_last2 hx hb hK hPo1 hS1 (Or.inr (Or.inl rfl)) 2 rfl Nat.one_pos dL_spread_11 (fun H2 locs2 hPo2 hz2 hk2 hS2 => ?_)
    refine lv_goto (tgt := 23) hx hb dL_spread_12 (by decide) ?_
    refine lv_iconst (v := zI (0)) hx hb dL_spread_23 rfl ?_
    exact z_vxret hx hb hr hlocks hS2 (⟨g2, lab, cs', ss', fun _ => ⟨XW.kp hW1 hL1 (by omega) (by omega) (fun q hq hlb => hk2 q (fun e9 => by rw [e9] at hlb; omega)), hL1, _, (if_pos rfl), hPo2⟩, fun q9 => absurd hC q9, hlb1⟩) (by rw [if_pos hC.1, if_pos hC.2]) dL_spread_24 (Nat.le_of_ble_eq_true rfl) (Nat.le_of_ble_eq_true rfl)

set_option maxHeartbeats 4000000 in
set_option maxRecDepth 100000 in
theorem kL_rotate (l : Launch) (D : va_G) (G : Nat → ClassId) (hl9 : l.stackTraces = false) (ax : Nat) (n m9 sp : Int) (τ ζ : Nat → Nat → Int) (g : Nat → Nat → Nat) (cs ss : Nat → Nat → Int32) (hOK : XOK n m9 sp τ ζ) (lab : Nat → Nat) (hXL : XL lab ax n m9 g) (o sz : Nat) (f : Nat → Int64) (ho : 200 ≤ lab o) (k q9 : Int) (hr0 : -2147483648 ≤ k ∧ k ≤ 2147483647) (hr1 : -2147483648 ≤ q9 ∧ q9 ≤ 2147483647) : Met l yL_rotate wsL_rotate ({ frames := 8, cells := 2, slots := 12, locals := 175 }) (zPT [.ref ax, .int (zI (k)), .int (zI (q9)), .ref o] D G (fun H => H.size = sz ∧ XW D G ax n m9 sp τ ζ g cs ss H ∧ va_P D vwCl (oL G o f) H)) (zM (some (.int (zI (if 0 ≤ k ∧ k < n then (if 0 ≤ q9 ∧ q9 ≤ 31 then 0 else 2) else 1)))) (LQ D G ax sz lab n m9 sp τ ζ ((0 ≤ k ∧ k < n) ∧ (0 ≤ q9 ∧ q9 ≤ 31)) (n) (m9) (sp) (va_up τ k.toNat (xRot (τ k.toNat) q9)) (ζ) (OLv D G o ((zI (xLoud (xRot (τ k.toNat) q9) (τ k.toNat 0).toNat)).toInt64)) (OL D G o)) (LA lab o sz)) 2 12 (LA lab o sz) := by
  refine z_metX (vx_ofWH (cc := cL_rotate) (maxL := 5) (ret := some .int) (hh := [(0, 10, 13, 21), (0, 10, 17, 13)]) (by decide) rfl ?_)
  intro p e s m args below meth c s₁ B hml hv
  obtain ⟨hav, ⟨hsz, hW, hPo⟩, hK, hN, hT0⟩ := hv
  have hx := B.exec
  have hb := B.bytes
  have hr := B.returns
  have hts := atoms_spec (ws := wsL_rotate) B.pre
  have hown : s.vm.findClass RL = some m.cls := findClass_of_methodNamed B.named
  have hlocks : meth.locks = false := B.notSynchronized
  have htab := vx_table (x := yL_rotate) B (hts _ List.mem_cons_self)
  obtain ⟨hn0, hn8, hm0, hm12, -⟩ := id hOK
  obtain ⟨g2, hW2, hL2, hg2⟩ := XN hW hXL hn8
  have hos : o < sz := by have h9 := o_lt hPo; omega
  have hS : va_S (LA lab o sz) s.heap s.heap [] := va_S.rf
  have hA1 : ∀ q : Nat, zA [g2 1 k.toNat, g2 2 k.toNat, g2 3 k.toNat] q → LA lab o sz q := by
    intro q h9; simp only [zA, List.mem_cons, List.not_mem_nil, or_false] at h9; have h8 := hg2 k.toNat; rcases h9 with e9 | e9 | e9 <;> exact Or.inl (by rw [e9]; omega)
  have hAo : ¬ zA [g2 1 k.toNat, g2 2 k.toNat, g2 3 k.toNat] o := by
    intro h9; simp only [zA, List.mem_cons, List.not_mem_nil, or_false] at h9; have h8 := hg2 k.toNat; rcases h9 with e9 | e9 | e9 <;> (rw [← e9] at h8; omega)
  refine z_entry hav (Nat.le_of_ble_eq_true rfl) rfl (fun ls hl => ?_)
  have hl : lv_has ls 5 [(0, .ref ax), (1, .int (zI (k))), (2, .int (zI (q9))), (3, .ref o)] := hl
  refine lv_aload_n hx hb dL_rotate_0 rfl (lv_at hl 3 rfl) ?_
  refine lv_iconst (v := zI (0)) hx hb dL_rotate_1 rfl ?_
  refine lv_aload_n hx hb dL_rotate_2 rfl (lv_at hl 0 rfl) ?_
  refine lv_iload_n hx hb dL_rotate_3 rfl (lv_at hl 1 rfl) ?_
  refine lv_iload_n hx hb dL_rotate_4 rfl (lv_at hl 2 rfl) ?_
  refine z_callXM (vx_runV (As := [.int (zI (k)), .int (zI (q9))]) (rest := [.int (zI (0)), .ref o]) ⟨hx, hb, hml, hown, hts⟩ (kX2_rotate l D G hl9 ax n m9 sp τ ζ g2 cs ss hOK lab hL2 k q9 hr0 hr1) (cwV 2 hts gL_rotate_X2_rotate rfl rfl rfl (by decide +kernel) ⟨Nat.le_of_ble_eq_true rfl, Nat.le_of_ble_eq_true rfl⟩) (zPTreV (va_recv hK hW2.1 (ci := 2) (q0 := 0) rfl rfl) hK hN hT0 (hW2)) rfl rfl hl.1 rfl (lv_room (Nat.le_of_ble_eq_true rfl)) dL_rotate_5 ⟨Nat.le_of_ble_eq_true rfl, Nat.le_of_ble_eq_true rfl⟩) hS (fun q _ h9 => hA1 q h9) hA1 (fun E ce qx9 H1 locs1 hco hz1 hk1 hS1 hce hcv hcl => ?_) (fun H1 locs1 hC hp1 hz1 hk1 hS1 => ?_)
  · rcases hco with ⟨rfl, hn1⟩ | ⟨rfl, hc1, hn2⟩
    · refine vx_catch hown [] ⟨0, 10, 13, 21⟩ [⟨0, 10, 17, 13⟩] (htab.trans rfl) (fun _ h9 => nomatch h9) (by decide) (by decide) (hts (.classLink RL 21 "java/lang/IndexOutOfBoundsException") (by decide +kernel)) (va_Nw.use rfl (hN.2.2.1 zIO (by decide +kernel))) hce hcv hcl ?_
      refine lv_astore (lv' := [(4, .ref qx9), (0, .ref ax), (1, .int (zI (k))), (2, .int (zI (q9))), (3, .ref o)]) hx hb dL_rotate_13 hl (by decide) rfl (fun ls hl => ?_)
      refine lv_iconst (v := zI (1)) hx hb dL_rotate_15 rfl ?_
      exact z_vxret hx hb hr hlocks hS1 (⟨g2, lab, cs, ss, fun q9 => absurd q9 (fun q8 => hn1 q8.1), fun _ => ⟨XW.kp hW2 hL2 hn8 hm12 (fun q hq _ => hk1 q hq), hL2, f, o_kp hPo (hk1 o)⟩, fun _ _ => rfl⟩) ((if_neg hn1).symm) dL_rotate_16 (Nat.le_of_ble_eq_true rfl) (Nat.le_of_ble_eq_true rfl)
    · refine vx_catch hown [⟨0, 10, 13, 21⟩] ⟨0, 10, 17, 13⟩ [] (htab.trans rfl) (fun z hz => by cases List.mem_singleton.mp hz; exact Or.inr ⟨by decide, "java/lang/IndexOutOfBoundsException", hts (.classLink RL 21 "java/lang/IndexOutOfBoundsException") (by decide +kernel), hN.2.2.2.1 (zIA, zIO) (by decide)⟩) (by decide) (by decide) (hts (.classLink RL 13 "java/lang/IllegalArgumentException") (by decide +kernel)) (va_Nw.use rfl (hN.2.2.1 zIA (by decide +kernel))) hce hcv hcl ?_
      refine lv_astore (lv' := [(4, .ref qx9), (0, .ref ax), (1, .int (zI (k))), (2, .int (zI (q9))), (3, .ref o)]) hx hb dL_rotate_17 hl (by decide) rfl (fun ls hl => ?_)
      refine lv_iconst (v := zI (2)) hx hb dL_rotate_19 rfl ?_
      exact z_vxret hx hb hr hlocks hS1 (⟨g2, lab, cs, ss, fun q9 => absurd q9 (fun q8 => hn2 q8.2), fun _ => ⟨XW.kp hW2 hL2 hn8 hm12 (fun q hq _ => hk1 q hq), hL2, f, o_kp hPo (hk1 o)⟩, fun _ _ => rfl⟩) (by rw [if_pos hc1, if_neg hn2]) dL_rotate_20 (Nat.le_of_ble_eq_true rfl) (Nat.le_of_ble_eq_true rfl)
  · obtain ⟨cs', ss', hW1⟩ := hp1
    have hL1 := hL2
    have hlb1 : ∀ q : Nat, q < sz → lab q = lab q := fun _ _ => rfl
    have hPo1 := o_kp hPo (fun h9 => hk1 o h9 hAo)
    have ho1 : 200 ≤ lab o := by rw [hlb1 o hos]; exact ho
    refine lv_i2l (v := (zI (xLoud (xRot (τ k.toNat) q9) (τ k.toNat 0).toNat)).toInt64) hx hb dL_rotate_8 rfl ?_
    refine z_last2 hx hb hK hPo1 hS1 (Or.inr (Or.inl rfl)) 2 rfl Nat.one_pos dL_rotate_9 (fun H2 locs2 hPo2 hz2 hk2 hS2 => ?_)
    refine lv_goto (tgt := 21) hx hb dL_rotate_10 (by decide) ?_
    refine lv_iconst (v := zI (0)) hx hb dL_rotate_21 rfl ?_
    exact z_vxret hx hb hr hlocks hS2 (⟨g2, lab, cs', ss', fun _ => ⟨XW.kp hW1 hL1 (by omega) (by omega) (fun q hq hlb => hk2 q (fun e9 => by rw [e9] at hlb; omega)), hL1, _, (if_pos rfl), hPo2⟩, fun q9 => absurd hC q9, hlb1⟩) (by rw [if_pos hC.1, if_pos hC.2]) dL_rotate_22 (Nat.le_of_ble_eq_true rfl) (Nat.le_of_ble_eq_true rfl)

set_option maxHeartbeats 4000000 in
set_option maxRecDepth 100000 in
theorem kL_stretch (l : Launch) (D : va_G) (G : Nat → ClassId) (hl9 : l.stackTraces = false) (ax : Nat) (n m9 sp : Int) (τ ζ : Nat → Nat → Int) (g : Nat → Nat → Nat) (cs ss : Nat → Nat → Int32) (hOK : XOK n m9 sp τ ζ) (lab : Nat → Nat) (hXL : XL lab ax n m9 g) (o sz : Nat) (f : Nat → Int64) (ho : 200 ≤ lab o) (k q9 : Int) (hr0 : -2147483648 ≤ k ∧ k ≤ 2147483647) (hr1 : -2147483648 ≤ q9 ∧ q9 ≤ 2147483647) : Met l yL_stretch wsL_stretch ({ frames := 8, cells := 2, slots := 12, locals := 176 }) (zPT [.ref ax, .int (zI (k)), .int (zI (q9)), .ref o] D G (fun H => H.size = sz ∧ XW D G ax n m9 sp τ ζ g cs ss H ∧ va_P D vwCl (oL G o f) H)) (zM (some (.int (zI (if 0 ≤ k ∧ k < n then (if 1 ≤ q9 ∧ q9 ≤ 32 then 0 else 2) else 1)))) (LQ D G ax sz lab n m9 sp τ ζ ((0 ≤ k ∧ k < n) ∧ (1 ≤ q9 ∧ q9 ≤ 32)) (n) (m9) (sp) (va_up τ k.toNat (xStc (τ k.toNat) q9)) (ζ) (OLv D G o ((zI (τ k.toNat 0)).toInt64)) (OL D G o)) (LA lab o sz)) 2 12 (LA lab o sz) := by
  refine z_metX (vx_ofWH (cc := cL_stretch) (maxL := 5) (ret := some .int) (hh := [(0, 10, 13, 21), (0, 10, 17, 13)]) (by decide) rfl ?_)
  intro p e s m args below meth c s₁ B hml hv
  obtain ⟨hav, ⟨hsz, hW, hPo⟩, hK, hN, hT0⟩ := hv
  have hx := B.exec
  have hb := B.bytes
  have hr := B.returns
  have hts := atoms_spec (ws := wsL_stretch) B.pre
  have hown : s.vm.findClass RL = some m.cls := findClass_of_methodNamed B.named
  have hlocks : meth.locks = false := B.notSynchronized
  have htab := vx_table (x := yL_stretch) B (hts _ List.mem_cons_self)
  obtain ⟨hn0, hn8, hm0, hm12, -⟩ := id hOK
  obtain ⟨g2, hW2, hL2, hg2⟩ := XN hW hXL hn8
  have hos : o < sz := by have h9 := o_lt hPo; omega
  have hS : va_S (LA lab o sz) s.heap s.heap [] := va_S.rf
  have hA1 : ∀ q : Nat, zA [g2 1 k.toNat, g2 2 k.toNat, g2 3 k.toNat] q → LA lab o sz q := by
    intro q h9; simp only [zA, List.mem_cons, List.not_mem_nil, or_false] at h9; have h8 := hg2 k.toNat; rcases h9 with e9 | e9 | e9 <;> exact Or.inl (by rw [e9]; omega)
  have hAo : ¬ zA [g2 1 k.toNat, g2 2 k.toNat, g2 3 k.toNat] o := by
    intro h9; simp only [zA, List.mem_cons, List.not_mem_nil, or_false] at h9; have h8 := hg2 k.toNat; rcases h9 with e9 | e9 | e9 <;> (rw [← e9] at h8; omega)
  refine z_entry hav (Nat.le_of_ble_eq_true rfl) rfl (fun ls hl => ?_)
  have hl : lv_has ls 5 [(0, .ref ax), (1, .int (zI (k))), (2, .int (zI (q9))), (3, .ref o)] := hl
  refine lv_aload_n hx hb dL_stretch_0 rfl (lv_at hl 3 rfl) ?_
  refine lv_iconst (v := zI (0)) hx hb dL_stretch_1 rfl ?_
  refine lv_aload_n hx hb dL_stretch_2 rfl (lv_at hl 0 rfl) ?_
  refine lv_iload_n hx hb dL_stretch_3 rfl (lv_at hl 1 rfl) ?_
  refine lv_iload_n hx hb dL_stretch_4 rfl (lv_at hl 2 rfl) ?_
  refine z_callXM (vx_runV (As := [.int (zI (k)), .int (zI (q9))]) (rest := [.int (zI (0)), .ref o]) ⟨hx, hb, hml, hown, hts⟩ (kX2_stretch l D G hl9 ax n m9 sp τ ζ g2 cs ss hOK lab hL2 k q9 hr0 hr1) (cwV 2 hts gL_stretch_X2_stretch rfl rfl rfl (by decide +kernel) ⟨Nat.le_of_ble_eq_true rfl, Nat.le_of_ble_eq_true rfl⟩) (zPTreV (va_recv hK hW2.1 (ci := 2) (q0 := 0) rfl rfl) hK hN hT0 (hW2)) rfl rfl hl.1 rfl (lv_room (Nat.le_of_ble_eq_true rfl)) dL_stretch_5 ⟨Nat.le_of_ble_eq_true rfl, Nat.le_of_ble_eq_true rfl⟩) hS (fun q _ h9 => hA1 q h9) hA1 (fun E ce qx9 H1 locs1 hco hz1 hk1 hS1 hce hcv hcl => ?_) (fun H1 locs1 hC hp1 hz1 hk1 hS1 => ?_)
  · rcases hco with ⟨rfl, hn1⟩ | ⟨rfl, hc1, hn2⟩
    · refine vx_catch hown [] ⟨0, 10, 13, 21⟩ [⟨0, 10, 17, 13⟩] (htab.trans rfl) (fun _ h9 => nomatch h9) (by decide) (by decide) (hts (.classLink RL 21 "java/lang/IndexOutOfBoundsException") (by decide +kernel)) (va_Nw.use rfl (hN.2.2.1 zIO (by decide +kernel))) hce hcv hcl ?_
      refine lv_astore (lv' := [(4, .ref qx9), (0, .ref ax), (1, .int (zI (k))), (2, .int (zI (q9))), (3, .ref o)]) hx hb dL_stretch_13 hl (by decide) rfl (fun ls hl => ?_)
      refine lv_iconst (v := zI (1)) hx hb dL_stretch_15 rfl ?_
      exact z_vxret hx hb hr hlocks hS1 (⟨g2, lab, cs, ss, fun q9 => absurd q9 (fun q8 => hn1 q8.1), fun _ => ⟨XW.kp hW2 hL2 hn8 hm12 (fun q hq _ => hk1 q hq), hL2, f, o_kp hPo (hk1 o)⟩, fun _ _ => rfl⟩) ((if_neg hn1).symm) dL_stretch_16 (Nat.le_of_ble_eq_true rfl) (Nat.le_of_ble_eq_true rfl)
    · refine vx_catch hown [⟨0, 10, 13, 21⟩] ⟨0, 10, 17, 13⟩ [] (htab.trans rfl) (fun z hz => by cases List.mem_singleton.mp hz; exact Or.inr ⟨by decide, "java/lang/IndexOutOfBoundsException", hts (.classLink RL 21 "java/lang/IndexOutOfBoundsException") (by decide +kernel), hN.2.2.2.1 (zIA, zIO) (by decide)⟩) (by decide) (by decide) (hts (.classLink RL 13 "java/lang/IllegalArgumentException") (by decide +kernel)) (va_Nw.use rfl (hN.2.2.1 zIA (by decide +kernel))) hce hcv hcl ?_
      refine lv_astore (lv' := [(4, .ref qx9), (0, .ref ax), (1, .int (zI (k))), (2, .int (zI (q9))), (3, .ref o)]) hx hb dL_stretch_17 hl (by decide) rfl (fun ls hl => ?_)
      refine lv_iconst (v := zI (2)) hx hb dL_stretch_19 rfl ?_
      exact z_vxret hx hb hr hlocks hS1 (⟨g2, lab, cs, ss, fun q9 => absurd q9 (fun q8 => hn2 q8.2), fun _ => ⟨XW.kp hW2 hL2 hn8 hm12 (fun q hq _ => hk1 q hq), hL2, f, o_kp hPo (hk1 o)⟩, fun _ _ => rfl⟩) (by rw [if_pos hc1, if_neg hn2]) dL_stretch_20 (Nat.le_of_ble_eq_true rfl) (Nat.le_of_ble_eq_true rfl)
  · obtain ⟨cs', ss', hW1⟩ := hp1
    have hL1 := hL2
    have hlb1 : ∀ q : Nat, q < sz → lab q = lab q := fun _ _ => rfl
    have hPo1 := o_kp hPo (fun h9 => hk1 o h9 hAo)
    have ho1 : 200 ≤ lab o := by rw [hlb1 o hos]; exact ho
    refine lv_i2l (v := (zI (τ k.toNat 0)).toInt64) hx hb dL_stretch_8 rfl ?_
    refine z_last2 hx hb hK hPo1 hS1 (Or.inr (Or.inl rfl)) 2 rfl Nat.one_pos dL_stretch_9 (fun H2 locs2 hPo2 hz2 hk2 hS2 => ?_)
    refine lv_goto (tgt := 21) hx hb dL_stretch_10 (by decide) ?_
    refine lv_iconst (v := zI (0)) hx hb dL_stretch_21 rfl ?_
    exact z_vxret hx hb hr hlocks hS2 (⟨g2, lab, cs', ss', fun _ => ⟨XW.kp hW1 hL1 (by omega) (by omega) (fun q hq hlb => hk2 q (fun e9 => by rw [e9] at hlb; omega)), hL1, _, (if_pos rfl), hPo2⟩, fun q9 => absurd hC q9, hlb1⟩) (by rw [if_pos hC.1, if_pos hC.2]) dL_stretch_22 (Nat.le_of_ble_eq_true rfl) (Nat.le_of_ble_eq_true rfl)

set_option maxHeartbeats 4000000 in
set_option maxRecDepth 100000 in
theorem kL_tap (l : Launch) (D : va_G) (G : Nat → ClassId) (hl9 : l.stackTraces = false) (ax : Nat) (n m9 sp : Int) (τ ζ : Nat → Nat → Int) (g : Nat → Nat → Nat) (cs ss : Nat → Nat → Int32) (hOK : XOK n m9 sp τ ζ) (lab : Nat → Nat) (hXL : XL lab ax n m9 g) (o sz : Nat) (f : Nat → Int64) (ho : 200 ≤ lab o) (k t9 v : Int) (hr0 : -2147483648 ≤ k ∧ k ≤ 2147483647) (hr1 : -2147483648 ≤ t9 ∧ t9 ≤ 2147483647) (hr2 : -2147483648 ≤ v ∧ v ≤ 2147483647) : Met l yL_tap wsL_tap ({ frames := 8, cells := 2, slots := 12, locals := 177 }) (zPT [.ref ax, .int (zI (k)), .int (zI (t9)), .int (zI (v)), .ref o] D G (fun H => H.size = sz ∧ XW D G ax n m9 sp τ ζ g cs ss H ∧ va_P D vwCl (oL G o f) H)) (zM (some (.int (zI (if 0 ≤ k ∧ k < n then (if (0 ≤ t9 ∧ t9 ≤ 99999) ∧ (1 ≤ v ∧ v ≤ 127) then 0 else 2) else 1)))) (LQ D G ax sz lab n m9 sp τ ζ ((0 ≤ k ∧ k < n) ∧ ((0 ≤ t9 ∧ t9 ≤ 99999) ∧ (1 ≤ v ∧ v ≤ 127))) (n) (m9) (sp) (va_up τ k.toNat (xPut (τ k.toNat) ((xNear (τ k.toNat) (xP (τ k.toNat) t9) (τ k.toNat 0 - 1).toNat).1) 0 v)) (ζ) (OLv D G o ((zI ((xNear (τ k.toNat) (xP (τ k.toNat) t9) (τ k.toNat 0 - 1).toNat).1)).toInt64)) (OL D G o)) (LA lab o sz)) 2 12 (LA lab o sz) := by
  refine z_metX (vx_ofWH (cc := cL_tap) (maxL := 6) (ret := some .int) (hh := [(0, 12, 15, 21), (0, 12, 19, 13)]) (by decide) rfl ?_)
  intro p e s m args below meth c s₁ B hml hv
  obtain ⟨hav, ⟨hsz, hW, hPo⟩, hK, hN, hT0⟩ := hv
  have hx := B.exec
  have hb := B.bytes
  have hr := B.returns
  have hts := atoms_spec (ws := wsL_tap) B.pre
  have hown : s.vm.findClass RL = some m.cls := findClass_of_methodNamed B.named
  have hlocks : meth.locks = false := B.notSynchronized
  have htab := vx_table (x := yL_tap) B (hts _ List.mem_cons_self)
  obtain ⟨hn0, hn8, hm0, hm12, -⟩ := id hOK
  obtain ⟨g2, hW2, hL2, hg2⟩ := XN hW hXL hn8
  have hos : o < sz := by have h9 := o_lt hPo; omega
  have hS : va_S (LA lab o sz) s.heap s.heap [] := va_S.rf
  have hA1 : ∀ q : Nat, zA [g2 1 k.toNat, g2 2 k.toNat, g2 3 k.toNat] q → LA lab o sz q := by
    intro q h9; simp only [zA, List.mem_cons, List.not_mem_nil, or_false] at h9; have h8 := hg2 k.toNat; rcases h9 with e9 | e9 | e9 <;> exact Or.inl (by rw [e9]; omega)
  have hAo : ¬ zA [g2 1 k.toNat, g2 2 k.toNat, g2 3 k.toNat] o := by
    intro h9; simp only [zA, List.mem_cons, List.not_mem_nil, or_false] at h9; have h8 := hg2 k.toNat; rcases h9 with e9 | e9 | e9 <;> (rw [← e9] at h8; omega)
  refine z_entry hav (Nat.le_of_ble_eq_true rfl) rfl (fun ls hl => ?_)
  have hl : lv_has ls 6 [(0, .ref ax), (1, .int (zI (k))), (2, .int (zI (t9))), (3, .int (zI (v))), (4, .ref o)] := hl
  refine lv_aload hx hb dL_tap_0 (lv_at hl 4 rfl) ?_
  refine lv_iconst (v := zI (0)) hx hb dL_tap_2 rfl ?_
  refine lv_aload_n hx hb dL_tap_3 rfl (lv_at hl 0 rfl) ?_
  refine lv_iload_n hx hb dL_tap_4 rfl (lv_at hl 1 rfl) ?_
  refine lv_iload_n hx hb dL_tap_5 rfl (lv_at hl 2 rfl) ?_
  refine lv_iload_n hx hb dL_tap_6 rfl (lv_at hl 3 rfl) ?_
  refine z_callXM (vx_runV (As := [.int (zI (k)), .int (zI (t9)), .int (zI (v))]) (rest := [.int (zI (0)), .ref o]) ⟨hx, hb, hml, hown, hts⟩ (kX2_tap l D G hl9 ax n m9 sp τ ζ g2 cs ss hOK lab hL2 k t9 v hr0 hr1 hr2) (cwV 3 hts gL_tap_X2_tap rfl rfl rfl (by decide +kernel) ⟨Nat.le_of_ble_eq_true rfl, Nat.le_of_ble_eq_true rfl⟩) (zPTreV (va_recv hK hW2.1 (ci := 2) (q0 := 0) rfl rfl) hK hN hT0 (hW2)) rfl rfl hl.1 rfl (lv_room (Nat.le_of_ble_eq_true rfl)) dL_tap_7 ⟨Nat.le_of_ble_eq_true rfl, Nat.le_of_ble_eq_true rfl⟩) hS (fun q _ h9 => hA1 q h9) hA1 (fun E ce qx9 H1 locs1 hco hz1 hk1 hS1 hce hcv hcl => ?_) (fun H1 locs1 hC hp1 hz1 hk1 hS1 => ?_)
  · rcases hco with ⟨rfl, hn1⟩ | ⟨rfl, hc1, hn2⟩
    · refine vx_catch hown [] ⟨0, 12, 15, 21⟩ [⟨0, 12, 19, 13⟩] (htab.trans rfl) (fun _ h9 => nomatch h9) (by decide) (by decide) (hts (.classLink RL 21 "java/lang/IndexOutOfBoundsException") (by decide +kernel)) (va_Nw.use rfl (hN.2.2.1 zIO (by decide +kernel))) hce hcv hcl ?_
      refine lv_astore (lv' := [(5, .ref qx9), (0, .ref ax), (1, .int (zI (k))), (2, .int (zI (t9))), (3, .int (zI (v))), (4, .ref o)]) hx hb dL_tap_15 hl (by decide) rfl (fun ls hl => ?_)
      refine lv_iconst (v := zI (1)) hx hb dL_tap_17 rfl ?_
      exact z_vxret hx hb hr hlocks hS1 (⟨g2, lab, cs, ss, fun q9 => absurd q9 (fun q8 => hn1 q8.1), fun _ => ⟨XW.kp hW2 hL2 hn8 hm12 (fun q hq _ => hk1 q hq), hL2, f, o_kp hPo (hk1 o)⟩, fun _ _ => rfl⟩) ((if_neg hn1).symm) dL_tap_18 (Nat.le_of_ble_eq_true rfl) (Nat.le_of_ble_eq_true rfl)
    · refine vx_catch hown [⟨0, 12, 15, 21⟩] ⟨0, 12, 19, 13⟩ [] (htab.trans rfl) (fun z hz => by cases List.mem_singleton.mp hz; exact Or.inr ⟨by decide, "java/lang/IndexOutOfBoundsException", hts (.classLink RL 21 "java/lang/IndexOutOfBoundsException") (by decide +kernel), hN.2.2.2.1 (zIA, zIO) (by decide)⟩) (by decide) (by decide) (hts (.classLink RL 13 "java/lang/IllegalArgumentException") (by decide +kernel)) (va_Nw.use rfl (hN.2.2.1 zIA (by decide +kernel))) hce hcv hcl ?_
      refine lv_astore (lv' := [(5, .ref qx9), (0, .ref ax), (1, .int (zI (k))), (2, .int (zI (t9))), (3, .int (zI (v))), (4, .ref o)]) hx hb dL_tap_19 hl (by decide) rfl (fun ls hl => ?_)
      refine lv_iconst (v := zI (2)) hx hb dL_tap_21 rfl ?_
      exact z_vxret hx hb hr hlocks hS1 (⟨g2, lab, cs, ss, fun q9 => absurd q9 (fun q8 => hn2 q8.2), fun _ => ⟨XW.kp hW2 hL2 hn8 hm12 (fun q hq _ => hk1 q hq), hL2, f, o_kp hPo (hk1 o)⟩, fun _ _ => rfl⟩) (by rw [if_pos hc1, if_neg hn2]) dL_tap_22 (Nat.le_of_ble_eq_true rfl) (Nat.le_of_ble_eq_true rfl)
  · obtain ⟨cs', ss', hW1⟩ := hp1
    have hL1 := hL2
    have hlb1 : ∀ q : Nat, q < sz → lab q = lab q := fun _ _ => rfl
    have hPo1 := o_kp hPo (fun h9 => hk1 o h9 hAo)
    have ho1 : 200 ≤ lab o := by rw [hlb1 o hos]; exact ho
    refine lv_i2l (v := (zI ((xNear (τ k.toNat) (xP (τ k.toNat) t9) (τ k.toNat 0 - 1).toNat).1)).toInt64) hx hb dL_tap_10 rfl ?_
    refine z_last2 hx hb hK hPo1 hS1 (Or.inr (Or.inl rfl)) 2 rfl Nat.one_pos dL_tap_11 (fun H2 locs2 hPo2 hz2 hk2 hS2 => ?_)
    refine lv_goto (tgt := 23) hx hb dL_tap_12 (by decide) ?_
    refine lv_iconst (v := zI (0)) hx hb dL_tap_23 rfl ?_
    exact z_vxret hx hb hr hlocks hS2 (⟨g2, lab, cs', ss', fun _ => ⟨XW.kp hW1 hL1 (by omega) (by omega) (fun q hq hlb => hk2 q (fun e9 => by rw [e9] at hlb; omega)), hL1, _, (if_pos rfl), hPo2⟩, fun q9 => absurd hC q9, hlb1⟩) (by rw [if_pos hC.1, if_pos hC.2]) dL_tap_24 (Nat.le_of_ble_eq_true rfl) (Nat.le_of_ble_eq_true rfl)

set_option maxHeartbeats 4000000 in
set_option maxRecDepth 100000 in
theorem kL_addSection (l : Launch) (D : va_G) (G : Nat → ClassId) (hl9 : l.stackTraces = false) (ax : Nat) (n m9 sp : Int) (τ ζ : Nat → Nat → Int) (g : Nat → Nat → Nat) (cs ss : Nat → Nat → Int32) (hOK : XOK n m9 sp τ ζ) (lab : Nat → Nat) (hXL : XL lab ax n m9 g) (o sz : Nat) (f : Nat → Int64) (ho : 200 ≤ lab o) (a b v9 : Int) (hr0 : -2147483648 ≤ a ∧ a ≤ 2147483647) (hr1 : -2147483648 ≤ b ∧ b ≤ 2147483647) (hv9 : v9 = 0 ∨ v9 = 1) : Met l yL_addSection wsL_addSection ({ frames := 8, cells := 2, slots := 12, locals := 175 }) (zPT [.ref ax, .int (zI (a)), .int (zI (b)), .int (zI (v9)), .ref o] D G (fun H => H.size = sz ∧ XW D G ax n m9 sp τ ζ g cs ss H ∧ va_P D vwCl (oL G o f) H)) (zM (some (.int (zI (if (1 ≤ a ∧ a ≤ 5000) ∧ (0 ≤ b ∧ b ≤ 255) then (if m9 < 12 then 0 else 2) else 1)))) (LQ D G ax sz lab n m9 sp τ ζ (((1 ≤ a ∧ a ≤ 5000) ∧ (0 ≤ b ∧ b ≤ 255)) ∧ m9 < 12) (n) (m9 + 1) (sp) (τ) (va_up ζ m9.toNat (xZn (if m9 = 0 then 0 else ζ (m9 - 1).toNat 0 + ζ (m9 - 1).toNat 1) a b v9)) (OLv D G o ((zI (if m9 = 0 then 0 else ζ (m9 - 1).toNat 0 + ζ (m9 - 1).toNat 1)).toInt64)) (OL D G o)) (LA lab o sz)) 2 12 (LA lab o sz) := by
  refine z_metX (vx_ofWH (cc := cL_addSection) (maxL := 6) (ret := some .int) (hh := [(0, 12, 15, 13), (0, 12, 19, 15)]) (by decide) rfl ?_)
  intro p e s m args below meth c s₁ B hml hv
  obtain ⟨hav, ⟨hsz, hW, hPo⟩, hK, hN, hT0⟩ := hv
  have hx := B.exec
  have hb := B.bytes
  have hr := B.returns
  have hts := atoms_spec (ws := wsL_addSection) B.pre
  have hown : s.vm.findClass RL = some m.cls := findClass_of_methodNamed B.named
  have hlocks : meth.locks = false := B.notSynchronized
  have htab := vx_table (x := yL_addSection) B (hts _ List.mem_cons_self)
  obtain ⟨hn0, hn8, hm0, hm12, -⟩ := id hOK
  obtain ⟨g2, hW2, hL2, hg2⟩ := XN hW hXL hn8
  have hos : o < sz := by have h9 := o_lt hPo; omega
  have hS : va_S (LA lab o sz) s.heap s.heap [] := va_S.rf
  have hgt := hL2.gt
  have hA1 : ∀ q : Nat, zAn [ax, g2 0 1] sz q → LA lab o sz q := by
    intro q h9
    simp only [zA, zAn, List.mem_cons, List.not_mem_nil, or_false] at h9
    rcases h9 with (e9 | e9) | e9
    · exact Or.inl (by rw [e9]; omega)
    · exact Or.inl (by rw [e9]; omega)
    · exact Or.inr (Or.inr e9)
  have hAo : ¬ zAn [ax, g2 0 1] sz o := by
    intro h9
    simp only [zA, zAn, List.mem_cons, List.not_mem_nil, or_false] at h9
    rcases h9 with (e9 | e9) | e9
    · rw [← e9] at hgt; omega
    · rw [← e9] at hgt; omega
    · omega
  refine z_entry hav (Nat.le_of_ble_eq_true rfl) rfl (fun ls hl => ?_)
  have hl : lv_has ls 6 [(0, .ref ax), (1, .int (zI (a))), (2, .int (zI (b))), (3, .int (zI (v9))), (4, .ref o)] := hl
  refine lv_aload hx hb dL_addSection_0 (lv_at hl 4 rfl) ?_
  refine lv_iconst (v := zI (0)) hx hb dL_addSection_2 rfl ?_
  refine lv_aload_n hx hb dL_addSection_3 rfl (lv_at hl 0 rfl) ?_
  refine lv_iload_n hx hb dL_addSection_4 rfl (lv_at hl 1 rfl) ?_
  refine lv_iload_n hx hb dL_addSection_5 rfl (lv_at hl 2 rfl) ?_
  refine lv_iload_n hx hb dL_addSection_6 rfl (lv_at hl 3 rfl) ?_
  refine z_callXM (vx_runV (As := [.int (zI (a)), .int (zI (b)), .int (zI (v9))]) (rest := [.int (zI (0)), .ref o]) ⟨hx, hb, hml, hown, hts⟩ (kX2_addSection l D G hl9 ax n m9 sp τ ζ g2 cs ss hOK lab hL2 sz a b v9 hr0 hr1 hv9) (cwV 3 hts gL_addSection_X2_addSection rfl rfl rfl (by decide +kernel) ⟨Nat.le_of_ble_eq_true rfl, Nat.le_of_ble_eq_true rfl⟩) (zPTreV (va_recv hK hW2.1 (ci := 2) (q0 := 0) rfl rfl) hK hN hT0 (⟨hsz, hW2⟩)) rfl rfl hl.1 rfl (lv_room (Nat.le_of_ble_eq_true rfl)) dL_addSection_7 ⟨Nat.le_of_ble_eq_true rfl, Nat.le_of_ble_eq_true rfl⟩) hS (fun q _ h9 => hA1 q h9) hA1 (fun E ce qx9 H1 locs1 hco hz1 hk1 hS1 hce hcv hcl => ?_) (fun H1 locs1 hC hp1 hz1 hk1 hS1 => ?_)
  · rcases hco with ⟨rfl, hn1⟩ | ⟨rfl, hc1, hn2⟩
    · refine vx_catch hown [] ⟨0, 12, 15, 13⟩ [⟨0, 12, 19, 15⟩] (htab.trans rfl) (fun _ h9 => nomatch h9) (by decide) (by decide) (hts (.classLink RL 13 "java/lang/IllegalArgumentException") (by decide +kernel)) (va_Nw.use rfl (hN.2.2.1 zIA (by decide +kernel))) hce hcv hcl ?_
      refine lv_astore (lv' := [(5, .ref qx9), (0, .ref ax), (1, .int (zI (a))), (2, .int (zI (b))), (3, .int (zI (v9))), (4, .ref o)]) hx hb dL_addSection_15 hl (by decide) rfl (fun ls hl => ?_)
      refine lv_iconst (v := zI (1)) hx hb dL_addSection_17 rfl ?_
      exact z_vxret hx hb hr hlocks hS1 (⟨g2, lab, cs, ss, fun q9 => absurd q9 (fun q8 => hn1 q8.1), fun _ => ⟨XW.kp hW2 hL2 hn8 hm12 (fun q hq _ => hk1 q hq), hL2, f, o_kp hPo (hk1 o)⟩, fun _ _ => rfl⟩) ((if_neg hn1).symm) dL_addSection_18 (Nat.le_of_ble_eq_true rfl) (Nat.le_of_ble_eq_true rfl)
    · refine vx_catch hown [⟨0, 12, 15, 13⟩] ⟨0, 12, 19, 15⟩ [] (htab.trans rfl) (fun z hz => by cases List.mem_singleton.mp hz; exact Or.inr ⟨by decide, "java/lang/IllegalArgumentException", hts (.classLink RL 13 "java/lang/IllegalArgumentException") (by decide +kernel), hN.2.2.2.1 (zIS, zIA) (by decide)⟩) (by decide) (by decide) (hts (.classLink RL 15 "java/lang/IllegalStateException") (by decide +kernel)) (va_Nw.use rfl (hN.2.2.1 zIS (by decide +kernel))) hce hcv hcl ?_
      refine lv_astore (lv' := [(5, .ref qx9), (0, .ref ax), (1, .int (zI (a))), (2, .int (zI (b))), (3, .int (zI (v9))), (4, .ref o)]) hx hb dL_addSection_19 hl (by decide) rfl (fun ls hl => ?_)
      refine lv_iconst (v := zI (2)) hx hb dL_addSection_21 rfl ?_
      exact z_vxret hx hb hr hlocks hS1 (⟨g2, lab, cs, ss, fun q9 => absurd q9 (fun q8 => hn2 q8.2), fun _ => ⟨XW.kp hW2 hL2 hn8 hm12 (fun q hq _ => hk1 q hq), hL2, f, o_kp hPo (hk1 o)⟩, fun _ _ => rfl⟩) (by rw [if_pos hc1, if_neg hn2]) dL_addSection_22 (Nat.le_of_ble_eq_true rfl) (Nat.le_of_ble_eq_true rfl)
  · obtain ⟨g', lab', hW1, hL1, hlb1⟩ := hp1
    have hPo1 := o_kp hPo (fun h9 => hk1 o h9 hAo)
    have ho1 : 200 ≤ lab' o := by rw [hlb1 o hos]; exact ho
    refine lv_i2l (v := (zI (if m9 = 0 then 0 else ζ (m9 - 1).toNat 0 + ζ (m9 - 1).toNat 1)).toInt64) hx hb dL_addSection_10 rfl ?_
    refine z_last2 hx hb hK hPo1 hS1 (Or.inr (Or.inl rfl)) 2 rfl Nat.one_pos dL_addSection_11 (fun H2 locs2 hPo2 hz2 hk2 hS2 => ?_)
    refine lv_goto (tgt := 23) hx hb dL_addSection_12 (by decide) ?_
    refine lv_iconst (v := zI (0)) hx hb dL_addSection_23 rfl ?_
    exact z_vxret hx hb hr hlocks hS2 (⟨g', lab', cs, ss, fun _ => ⟨XW.kp hW1 hL1 (by omega) (by omega) (fun q hq hlb => hk2 q (fun e9 => by rw [e9] at hlb; omega)), hL1, _, (if_pos rfl), hPo2⟩, fun q9 => absurd hC q9, hlb1⟩) (by rw [if_pos hC.1, if_pos hC.2]) dL_addSection_24 (Nat.le_of_ble_eq_true rfl) (Nat.le_of_ble_eq_true rfl)

set_option maxHeartbeats 4000000 in
set_option maxRecDepth 100000 in
theorem kL_dropSection (l : Launch) (D : va_G) (G : Nat → ClassId) (hl9 : l.stackTraces = false) (ax : Nat) (n m9 sp : Int) (τ ζ : Nat → Nat → Int) (g : Nat → Nat → Nat) (cs ss : Nat → Nat → Int32) (hOK : XOK n m9 sp τ ζ) (lab : Nat → Nat) (hXL : XL lab ax n m9 g) (o sz : Nat) (f : Nat → Int64) (ho : 200 ≤ lab o)   : Met l yL_dropSection wsL_dropSection ({ frames := 7, cells := 1, slots := 6, locals := 151 }) (zPT [.ref ax, .ref o] D G (fun H => H.size = sz ∧ XW D G ax n m9 sp τ ζ g cs ss H ∧ va_P D vwCl (oL G o f) H)) (zM (some (.int (zI (if 1 ≤ m9 then 0 else 1)))) (LQ D G ax sz lab n m9 sp τ ζ (1 ≤ m9) (n) (m9 - 1) (sp) (τ) (ζ) (OLv D G o ((zI (m9 - 1)).toInt64)) (OL D G o)) (LA lab o sz)) 1 6 (LA lab o sz) := by
  refine z_metX (vx_ofWH (cc := cL_dropSection) (maxL := 3) (ret := some .int) (hh := [(0, 8, 11, 15)]) (by decide) rfl ?_)
  intro p e s m args below meth c s₁ B hml hv
  obtain ⟨hav, ⟨hsz, hW, hPo⟩, hK, hN, hT0⟩ := hv
  have hx := B.exec
  have hb := B.bytes
  have hr := B.returns
  have hts := atoms_spec (ws := wsL_dropSection) B.pre
  have hown : s.vm.findClass RL = some m.cls := findClass_of_methodNamed B.named
  have hlocks : meth.locks = false := B.notSynchronized
  have htab := vx_table (x := yL_dropSection) B (hts _ List.mem_cons_self)
  obtain ⟨hn0, hn8, hm0, hm12, -⟩ := id hOK
  obtain ⟨g2, hW2, hL2, hg2⟩ := XN hW hXL hn8
  have hos : o < sz := by have h9 := o_lt hPo; omega
  have hS : va_S (LA lab o sz) s.heap s.heap [] := va_S.rf
  have hgt := hL2.gt
  have hA1 : ∀ q : Nat, zA [ax, g2 0 1] q → LA lab o sz q := by
    intro q h9
    simp only [zA, zAn, List.mem_cons, List.not_mem_nil, or_false] at h9
    rcases h9 with e9 | e9
    · exact Or.inl (by rw [e9]; omega)
    · exact Or.inl (by rw [e9]; omega)
  have hAo : ¬ zA [ax, g2 0 1] o := by
    intro h9
    simp only [zA, zAn, List.mem_cons, List.not_mem_nil, or_false] at h9
    rcases h9 with e9 | e9
    · rw [← e9] at hgt; omega
    · rw [← e9] at hgt; omega
  refine z_entry hav (Nat.le_of_ble_eq_true rfl) rfl (fun ls hl => ?_)
  have hl : lv_has ls 3 [(0, .ref ax), (1, .ref o)] := hl
  refine lv_aload_n hx hb dL_dropSection_0 rfl (lv_at hl 1 rfl) ?_
  refine lv_iconst (v := zI (0)) hx hb dL_dropSection_1 rfl ?_
  refine lv_aload_n hx hb dL_dropSection_2 rfl (lv_at hl 0 rfl) ?_
  refine z_callXM (vx_runV (As := []) (rest := [.int (zI (0)), .ref o]) ⟨hx, hb, hml, hown, hts⟩ (kX2_dropSection l D G hl9 ax n m9 sp τ ζ g2 cs ss hOK lab hL2  ) (cwV 0 hts gL_dropSection_X2_dropSection rfl rfl rfl (by decide +kernel) ⟨Nat.le_of_ble_eq_true rfl, Nat.le_of_ble_eq_true rfl⟩) (zPTreV (va_recv hK hW2.1 (ci := 2) (q0 := 0) rfl rfl) hK hN hT0 (hW2)) rfl rfl hl.1 rfl (lv_room (Nat.le_of_ble_eq_true rfl)) dL_dropSection_3 ⟨Nat.le_of_ble_eq_true rfl, Nat.le_of_ble_eq_true rfl⟩) hS (fun q _ h9 => hA1 q h9) hA1 (fun E ce qx9 H1 locs1 hco hz1 hk1 hS1 hce hcv hcl => ?_) (fun H1 locs1 hC hp1 hz1 hk1 hS1 => ?_)
  · obtain ⟨rfl, hn1⟩ := hco
    refine vx_catch hown [] ⟨0, 8, 11, 15⟩ [] (htab.trans rfl) (fun _ h9 => nomatch h9) (by decide) (by decide) (hts (.classLink RL 15 "java/lang/IllegalStateException") (by decide +kernel)) (va_Nw.use rfl (hN.2.2.1 zIS (by decide +kernel))) hce hcv hcl ?_
    refine lv_astore_n (lv' := [(2, .ref qx9), (0, .ref ax), (1, .ref o)]) hx hb dL_dropSection_11 rfl hl (by decide) rfl (fun ls hl => ?_)
    refine lv_iconst (v := zI (1)) hx hb dL_dropSection_12 rfl ?_
    exact z_vxret hx hb hr hlocks hS1 (⟨g2, lab, cs, ss, fun q9 => absurd q9 hn1, fun _ => ⟨XW.kp hW2 hL2 hn8 hm12 (fun q hq _ => hk1 q hq), hL2, f, o_kp hPo (hk1 o)⟩, fun _ _ => rfl⟩) ((if_neg hn1).symm) dL_dropSection_13 (Nat.le_of_ble_eq_true rfl) (Nat.le_of_ble_eq_true rfl)
  · have hW1 := hp1
    have hL1 := hL2.drop
    have hlb1 : ∀ q : Nat, q < sz → lab q = lab q := fun _ _ => rfl
    have hPo1 := o_kp hPo (fun h9 => hk1 o h9 hAo)
    have ho1 : 200 ≤ lab o := by rw [hlb1 o hos]; exact ho
    refine lv_i2l (v := (zI (m9 - 1)).toInt64) hx hb dL_dropSection_6 rfl ?_
    refine z_last2 hx hb hK hPo1 hS1 (Or.inr (Or.inl rfl)) 2 rfl Nat.one_pos dL_dropSection_7 (fun H2 locs2 hPo2 hz2 hk2 hS2 => ?_)
    refine lv_goto (tgt := 14) hx hb dL_dropSection_8 (by decide) ?_
    refine lv_iconst (v := zI (0)) hx hb dL_dropSection_14 rfl ?_
    exact z_vxret hx hb hr hlocks hS2 (⟨g2, lab, cs, ss, fun _ => ⟨XW.kp hW1 hL1 (by omega) (by omega) (fun q hq hlb => hk2 q (fun e9 => by rw [e9] at hlb; omega)), hL1, _, (if_pos rfl), hPo2⟩, fun q9 => absurd hC q9, hlb1⟩) ((if_pos hC).symm) dL_dropSection_15 (Nat.le_of_ble_eq_true rfl) (Nat.le_of_ble_eq_true rfl)

set_option maxHeartbeats 4000000 in
set_option maxRecDepth 100000 in
theorem kL_sectionAt (l : Launch) (D : va_G) (G : Nat → ClassId) (hl9 : l.stackTraces = false) (ax : Nat) (n m9 sp : Int) (τ ζ : Nat → Nat → Int) (g : Nat → Nat → Nat) (cs ss : Nat → Nat → Int32) (hOK : XOK n m9 sp τ ζ) (lab : Nat → Nat) (hXL : XL lab ax n m9 g) (o sz : Nat) (f : Nat → Int64) (ho : 200 ≤ lab o) (t9 : Int) (hr0 : -2147483648 ≤ t9 ∧ t9 ≤ 2147483647) : Met l yL_sectionAt wsL_sectionAt ({ frames := 8, cells := 1, slots := 6, locals := 171 }) (zPT [.ref ax, .int (zI (t9)), .ref o] D G (fun H => H.size = sz ∧ XW D G ax n m9 sp τ ζ g cs ss H ∧ va_P D vwCl (oL G o f) H)) (zM (some (.int (zI (if 0 ≤ t9 ∧ t9 ≤ 99999 then 0 else 1)))) (LQ D G ax sz lab n m9 sp τ ζ (0 ≤ t9 ∧ t9 ≤ 99999) (n) (m9) (sp) (τ) (ζ) (OLv D G o ((zI (xSec ζ t9 m9.toNat)).toInt64)) (OL D G o)) (LA lab o sz)) 1 6 (LA lab o sz) := by
  refine z_metX (vx_ofWH (cc := cL_sectionAt) (maxL := 4) (ret := some .int) (hh := [(0, 9, 12, 13)]) (by decide) rfl ?_)
  intro p e s m args below meth c s₁ B hml hv
  obtain ⟨hav, ⟨hsz, hW, hPo⟩, hK, hN, hT0⟩ := hv
  have hx := B.exec
  have hb := B.bytes
  have hr := B.returns
  have hts := atoms_spec (ws := wsL_sectionAt) B.pre
  have hown : s.vm.findClass RL = some m.cls := findClass_of_methodNamed B.named
  have hlocks : meth.locks = false := B.notSynchronized
  have htab := vx_table (x := yL_sectionAt) B (hts _ List.mem_cons_self)
  obtain ⟨hn0, hn8, hm0, hm12, -⟩ := id hOK
  obtain ⟨g2, hW2, hL2, hg2⟩ := XN hW hXL hn8
  have hos : o < sz := by have h9 := o_lt hPo; omega
  have hS : va_S (LA lab o sz) s.heap s.heap [] := va_S.rf
  refine z_entry hav (Nat.le_of_ble_eq_true rfl) rfl (fun ls hl => ?_)
  have hl : lv_has ls 4 [(0, .ref ax), (1, .int (zI (t9))), (2, .ref o)] := hl
  refine lv_aload_n hx hb dL_sectionAt_0 rfl (lv_at hl 2 rfl) ?_
  refine lv_iconst (v := zI (0)) hx hb dL_sectionAt_1 rfl ?_
  refine lv_aload_n hx hb dL_sectionAt_2 rfl (lv_at hl 0 rfl) ?_
  refine lv_iload_n hx hb dL_sectionAt_3 rfl (lv_at hl 1 rfl) ?_
  refine z_callX (vx_runV (As := [.int (zI (t9))]) (rest := [.int (zI (0)), .ref o]) ⟨hx, hb, hml, hown, hts⟩ (kX2_sectionAt l D G hl9 ax n m9 sp τ ζ g2 cs ss hOK t9 hr0) (cwV 1 hts gL_sectionAt_X2_sectionAt rfl rfl rfl (by decide +kernel) ⟨Nat.le_of_ble_eq_true rfl, Nat.le_of_ble_eq_true rfl⟩) (zPTreV (va_recv hK hW2.1 (ci := 2) (q0 := 0) rfl rfl) hK hN hT0 (hW2)) rfl rfl hl.1 rfl (lv_room (Nat.le_of_ble_eq_true rfl)) dL_sectionAt_4 ⟨Nat.le_of_ble_eq_true rfl, Nat.le_of_ble_eq_true rfl⟩) (fun E ce qx9 H1 hco hz1 hk1 hce hcv hcl => ?_) (fun hC => ?_)
  · have hS1 : va_S (LA lab o sz) s.heap H1 [] := ⟨hz1, fun q hq _ => hk1 q hq, fun _ h9 => nomatch h9⟩
    obtain ⟨rfl, hn1⟩ := hco
    refine vx_catch hown [] ⟨0, 9, 12, 13⟩ [] (htab.trans rfl) (fun _ h9 => nomatch h9) (by decide) (by decide) (hts (.classLink RL 13 "java/lang/IllegalArgumentException") (by decide +kernel)) (va_Nw.use rfl (hN.2.2.1 zIA (by decide +kernel))) hce hcv hcl ?_
    refine lv_astore_n (lv' := [(3, .ref qx9), (0, .ref ax), (1, .int (zI (t9))), (2, .ref o)]) hx hb dL_sectionAt_12 rfl hl (by decide) rfl (fun ls hl => ?_)
    refine lv_iconst (v := zI (1)) hx hb dL_sectionAt_13 rfl ?_
    exact z_vxret hx hb hr hlocks hS1 (⟨g2, lab, cs, ss, fun q9 => absurd q9 hn1, fun _ => ⟨XW.kp hW2 hL2 hn8 hm12 (fun q hq _ => hk1 q hq), hL2, f, o_kp hPo (hk1 o)⟩, fun _ _ => rfl⟩) ((if_neg hn1).symm) dL_sectionAt_14 (Nat.le_of_ble_eq_true rfl) (Nat.le_of_ble_eq_true rfl)
  · have hW1 := hW2
    have hL1 := hL2
    have hlb1 : ∀ q : Nat, q < sz → lab q = lab q := fun _ _ => rfl
    have hPo1 := hPo
    have hS1 := hS
    have ho1 : 200 ≤ lab o := by rw [hlb1 o hos]; exact ho
    refine lv_i2l (v := (zI (xSec ζ t9 m9.toNat)).toInt64) hx hb dL_sectionAt_7 rfl ?_
    refine z_last2 hx hb hK hPo1 hS1 (Or.inr (Or.inl rfl)) 2 rfl Nat.one_pos dL_sectionAt_8 (fun H2 locs2 hPo2 hz2 hk2 hS2 => ?_)
    refine lv_goto (tgt := 15) hx hb dL_sectionAt_9 (by decide) ?_
    refine lv_iconst (v := zI (0)) hx hb dL_sectionAt_15 rfl ?_
    exact z_vxret hx hb hr hlocks hS2 (⟨g2, lab, cs, ss, fun _ => ⟨XW.kp hW1 hL1 (by omega) (by omega) (fun q hq hlb => hk2 q (fun e9 => by rw [e9] at hlb; omega)), hL1, _, (if_pos rfl), hPo2⟩, fun q9 => absurd hC q9, hlb1⟩) ((if_pos hC).symm) dL_sectionAt_16 (Nat.le_of_ble_eq_true rfl) (Nat.le_of_ble_eq_true rfl)

set_option maxHeartbeats 4000000 in
set_option maxRecDepth 100000 in
theorem kL_loudness (l : Launch) (D : va_G) (G : Nat → ClassId) (hl9 : l.stackTraces = false) (ax : Nat) (n m9 sp : Int) (τ ζ : Nat → Nat → Int) (g : Nat → Nat → Nat) (cs ss : Nat → Nat → Int32) (hOK : XOK n m9 sp τ ζ) (lab : Nat → Nat) (hXL : XL lab ax n m9 g) (o sz : Nat) (f : Nat → Int64) (ho : 200 ≤ lab o) (k t9 : Int) (hr0 : -2147483648 ≤ k ∧ k ≤ 2147483647) (hr1 : -2147483648 ≤ t9 ∧ t9 ≤ 2147483647) : Met l yL_loudness wsL_loudness ({ frames := 8, cells := 2, slots := 12, locals := 174 }) (zPT [.ref ax, .int (zI (k)), .int (zI (t9)), .ref o] D G (fun H => H.size = sz ∧ XW D G ax n m9 sp τ ζ g cs ss H ∧ va_P D vwCl (oL G o f) H)) (zM (some (.int (zI (if 0 ≤ k ∧ k < n then (if 0 ≤ t9 ∧ t9 ≤ 99999 then 0 else 2) else 1)))) (LQ D G ax sz lab n m9 sp τ ζ ((0 ≤ k ∧ k < n) ∧ (0 ≤ t9 ∧ t9 ≤ 99999)) (n) (m9) (sp) (τ) (ζ) (OLv D G o ((zI (xLn n m9 τ ζ k t9)).toInt64)) (OL D G o)) (LA lab o sz)) 2 12 (LA lab o sz) := by
  refine z_metX (vx_ofWH (cc := cL_loudness) (maxL := 5) (ret := some .int) (hh := [(0, 10, 13, 21), (0, 10, 17, 13)]) (by decide) rfl ?_)
  intro p e s m args below meth c s₁ B hml hv
  obtain ⟨hav, ⟨hsz, hW, hPo⟩, hK, hN, hT0⟩ := hv
  have hx := B.exec
  have hb := B.bytes
  have hr := B.returns
  have hts := atoms_spec (ws := wsL_loudness) B.pre
  have hown : s.vm.findClass RL = some m.cls := findClass_of_methodNamed B.named
  have hlocks : meth.locks = false := B.notSynchronized
  have htab := vx_table (x := yL_loudness) B (hts _ List.mem_cons_self)
  obtain ⟨hn0, hn8, hm0, hm12, -⟩ := id hOK
  obtain ⟨g2, hW2, hL2, hg2⟩ := XN hW hXL hn8
  have hos : o < sz := by have h9 := o_lt hPo; omega
  have hS : va_S (LA lab o sz) s.heap s.heap [] := va_S.rf
  refine z_entry hav (Nat.le_of_ble_eq_true rfl) rfl (fun ls hl => ?_)
  have hl : lv_has ls 5 [(0, .ref ax), (1, .int (zI (k))), (2, .int (zI (t9))), (3, .ref o)] := hl
  refine lv_aload_n hx hb dL_loudness_0 rfl (lv_at hl 3 rfl) ?_
  refine lv_iconst (v := zI (0)) hx hb dL_loudness_1 rfl ?_
  refine lv_aload_n hx hb dL_loudness_2 rfl (lv_at hl 0 rfl) ?_
  refine lv_iload_n hx hb dL_loudness_3 rfl (lv_at hl 1 rfl) ?_
  refine lv_iload_n hx hb dL_loudness_4 rfl (lv_at hl 2 rfl) ?_
  refine z_callX (vx_runV (As := [.int (zI (k)), .int (zI (t9))]) (rest := [.int (zI (0)), .ref o]) ⟨hx, hb, hml, hown, hts⟩ (kX2_loudness l D G hl9 ax n m9 sp τ ζ g2 cs ss hOK k t9 hr0 hr1) (cwV 2 hts gL_loudness_X2_loudness rfl rfl rfl (by decide +kernel) ⟨Nat.le_of_ble_eq_true rfl, Nat.le_of_ble_eq_true rfl⟩) (zPTreV (va_recv hK hW2.1 (ci := 2) (q0 := 0) rfl rfl) hK hN hT0 (hW2)) rfl rfl hl.1 rfl (lv_room (Nat.le_of_ble_eq_true rfl)) dL_loudness_5 ⟨Nat.le_of_ble_eq_true rfl, Nat.le_of_ble_eq_true rfl⟩) (fun E ce qx9 H1 hco hz1 hk1 hce hcv hcl => ?_) (fun hC => ?_)
  · have hS1 : va_S (LA lab o sz) s.heap H1 [] := ⟨hz1, fun q hq _ => hk1 q hq, fun _ h9 => nomatch h9⟩
    rcases hco with ⟨rfl, hn1⟩ | ⟨rfl, hc1, hn2⟩
    · refine vx_catch hown [] ⟨0, 10, 13, 21⟩ [⟨0, 10, 17, 13⟩] (htab.trans rfl) (fun _ h9 => nomatch h9) (by decide) (by decide) (hts (.classLink RL 21 "java/lang/IndexOutOfBoundsException") (by decide +kernel)) (va_Nw.use rfl (hN.2.2.1 zIO (by decide +kernel))) hce hcv hcl ?_
      refine lv_astore (lv' := [(4, .ref qx9), (0, .ref ax), (1, .int (zI (k))), (2, .int (zI (t9))), (3, .ref o)]) hx hb dL_loudness_13 hl (by decide) rfl (fun ls hl => ?_)
      refine lv_iconst (v := zI (1)) hx hb dL_loudness_15 rfl ?_
      exact z_vxret hx hb hr hlocks hS1 (⟨g2, lab, cs, ss, fun q9 => absurd q9 (fun q8 => hn1 q8.1), fun _ => ⟨XW.kp hW2 hL2 hn8 hm12 (fun q hq _ => hk1 q hq), hL2, f, o_kp hPo (hk1 o)⟩, fun _ _ => rfl⟩) ((if_neg hn1).symm) dL_loudness_16 (Nat.le_of_ble_eq_true rfl) (Nat.le_of_ble_eq_true rfl)
    · refine vx_catch hown [⟨0, 10, 13, 21⟩] ⟨0, 10, 17, 13⟩ [] (htab.trans rfl) (fun z hz => by cases List.mem_singleton.mp hz; exact Or.inr ⟨by decide, "java/lang/IndexOutOfBoundsException", hts (.classLink RL 21 "java/lang/IndexOutOfBoundsException") (by decide +kernel), hN.2.2.2.1 (zIA, zIO) (by decide)⟩) (by decide) (by decide) (hts (.classLink RL 13 "java/lang/IllegalArgumentException") (by decide +kernel)) (va_Nw.use rfl (hN.2.2.1 zIA (by decide +kernel))) hce hcv hcl ?_
      refine lv_astore (lv' := [(4, .ref qx9), (0, .ref ax), (1, .int (zI (k))), (2, .int (zI (t9))), (3, .ref o)]) hx hb dL_loudness_17 hl (by decide) rfl (fun ls hl => ?_)
      refine lv_iconst (v := zI (2)) hx hb dL_loudness_19 rfl ?_
      exact z_vxret hx hb hr hlocks hS1 (⟨g2, lab, cs, ss, fun q9 => absurd q9 (fun q8 => hn2 q8.2), fun _ => ⟨XW.kp hW2 hL2 hn8 hm12 (fun q hq _ => hk1 q hq), hL2, f, o_kp hPo (hk1 o)⟩, fun _ _ => rfl⟩) (by rw [if_pos hc1, if_neg hn2]) dL_loudness_20 (Nat.le_of_ble_eq_true rfl) (Nat.le_of_ble_eq_true rfl)
  · have hW1 := hW2
    have hL1 := hL2
    have hlb1 : ∀ q : Nat, q < sz → lab q = lab q := fun _ _ => rfl
    have hPo1 := hPo
    have hS1 := hS
    have ho1 : 200 ≤ lab o := by rw [hlb1 o hos]; exact ho
    refine lv_i2l (v := (zI (xLn n m9 τ ζ k t9)).toInt64) hx hb dL_loudness_8 rfl ?_
    refine z_last2 hx hb hK hPo1 hS1 (Or.inr (Or.inl rfl)) 2 rfl Nat.one_pos dL_loudness_9 (fun H2 locs2 hPo2 hz2 hk2 hS2 => ?_)
    refine lv_goto (tgt := 21) hx hb dL_loudness_10 (by decide) ?_
    refine lv_iconst (v := zI (0)) hx hb dL_loudness_21 rfl ?_
    exact z_vxret hx hb hr hlocks hS2 (⟨g2, lab, cs, ss, fun _ => ⟨XW.kp hW1 hL1 (by omega) (by omega) (fun q hq hlb => hk2 q (fun e9 => by rw [e9] at hlb; omega)), hL1, _, (if_pos rfl), hPo2⟩, fun q9 => absurd hC q9, hlb1⟩) (by rw [if_pos hC.1, if_pos hC.2]) dL_loudness_22 (Nat.le_of_ble_eq_true rfl) (Nat.le_of_ble_eq_true rfl)

set_option maxHeartbeats 4000000 in
set_option maxRecDepth 100000 in
theorem kL_hits (l : Launch) (D : va_G) (G : Nat → ClassId) (hl9 : l.stackTraces = false) (ax : Nat) (n m9 sp : Int) (τ ζ : Nat → Nat → Int) (g : Nat → Nat → Nat) (cs ss : Nat → Nat → Int32) (hOK : XOK n m9 sp τ ζ) (lab : Nat → Nat) (hXL : XL lab ax n m9 g) (o sz : Nat) (f : Nat → Int64) (ho : 200 ≤ lab o) (t9 : Int) (hr0 : -2147483648 ≤ t9 ∧ t9 ≤ 2147483647) : Met l yL_hits wsL_hits ({ frames := 8, cells := 1, slots := 6, locals := 171 }) (zPT [.ref ax, .int (zI (t9)), .ref o] D G (fun H => H.size = sz ∧ XW D G ax n m9 sp τ ζ g cs ss H ∧ va_P D vwCl (oL G o f) H)) (zM (some (.int (zI (if 0 ≤ t9 ∧ t9 ≤ 99999 then 0 else 1)))) (LQ D G ax sz lab n m9 sp τ ζ (0 ≤ t9 ∧ t9 ≤ 99999) (n) (m9) (sp) (τ) (ζ) (OLv D G o ((zI ((xSet (fun j => xHit n m9 τ ζ (j : Int) t9) n.toNat : Nat))).toInt64)) (OL D G o)) (LA lab o sz)) 1 6 (LA lab o sz) := by
  refine z_metX (vx_ofWH (cc := cL_hits) (maxL := 4) (ret := some .int) (hh := [(0, 9, 12, 13)]) (by decide) rfl ?_)
  intro p e s m args below meth c s₁ B hml hv
  obtain ⟨hav, ⟨hsz, hW, hPo⟩, hK, hN, hT0⟩ := hv
  have hx := B.exec
  have hb := B.bytes
  have hr := B.returns
  have hts := atoms_spec (ws := wsL_hits) B.pre
  have hown : s.vm.findClass RL = some m.cls := findClass_of_methodNamed B.named
  have hlocks : meth.locks = false := B.notSynchronized
  have htab := vx_table (x := yL_hits) B (hts _ List.mem_cons_self)
  obtain ⟨hn0, hn8, hm0, hm12, -⟩ := id hOK
  obtain ⟨g2, hW2, hL2, hg2⟩ := XN hW hXL hn8
  have hos : o < sz := by have h9 := o_lt hPo; omega
  have hS : va_S (LA lab o sz) s.heap s.heap [] := va_S.rf
  refine z_entry hav (Nat.le_of_ble_eq_true rfl) rfl (fun ls hl => ?_)
  have hl : lv_has ls 4 [(0, .ref ax), (1, .int (zI (t9))), (2, .ref o)] := hl
  refine lv_aload_n hx hb dL_hits_0 rfl (lv_at hl 2 rfl) ?_
  refine lv_iconst (v := zI (0)) hx hb dL_hits_1 rfl ?_
  refine lv_aload_n hx hb dL_hits_2 rfl (lv_at hl 0 rfl) ?_
  refine lv_iload_n hx hb dL_hits_3 rfl (lv_at hl 1 rfl) ?_
  refine z_callX (vx_runV (As := [.int (zI (t9))]) (rest := [.int (zI (0)), .ref o]) ⟨hx, hb, hml, hown, hts⟩ (kX2_hits l D G hl9 ax n m9 sp τ ζ g2 cs ss hOK t9 hr0) (cwV 1 hts gL_hits_X2_hits rfl rfl rfl (by decide +kernel) ⟨Nat.le_of_ble_eq_true rfl, Nat.le_of_ble_eq_true rfl⟩) (zPTreV (va_recv hK hW2.1 (ci := 2) (q0 := 0) rfl rfl) hK hN hT0 (hW2)) rfl rfl hl.1 rfl (lv_room (Nat.le_of_ble_eq_true rfl)) dL_hits_4 ⟨Nat.le_of_ble_eq_true rfl, Nat.le_of_ble_eq_true rfl⟩) (fun E ce qx9 H1 hco hz1 hk1 hce hcv hcl => ?_) (fun hC => ?_)
  · have hS1 : va_S (LA lab o sz) s.heap H1 [] := ⟨hz1, fun q hq _ => hk1 q hq, fun _ h9 => nomatch h9⟩
    obtain ⟨rfl, hn1⟩ := hco
    refine vx_catch hown [] ⟨0, 9, 12, 13⟩ [] (htab.trans rfl) (fun _ h9 => nomatch h9) (by decide) (by decide) (hts (.classLink RL 13 "java/lang/IllegalArgumentException") (by decide +kernel)) (va_Nw.use rfl (hN.2.2.1 zIA (by decide +kernel))) hce hcv hcl ?_
    refine lv_astore_n (lv' := [(3, .ref qx9), (0, .ref ax), (1, .int (zI (t9))), (2, .ref o)]) hx hb dL_hits_12 rfl hl (by decide) rfl (fun ls hl => ?_)
    refine lv_iconst (v := zI (1)) hx hb dL_hits_13 rfl ?_
    exact z_vxret hx hb hr hlocks hS1 (⟨g2, lab, cs, ss, fun q9 => absurd q9 hn1, fun _ => ⟨XW.kp hW2 hL2 hn8 hm12 (fun q hq _ => hk1 q hq), hL2, f, o_kp hPo (hk1 o)⟩, fun _ _ => rfl⟩) ((if_neg hn1).symm) dL_hits_14 (Nat.le_of_ble_eq_true rfl) (Nat.le_of_ble_eq_true rfl)
  · have hW1 := hW2
    have hL1 := hL2
    have hlb1 : ∀ q : Nat, q < sz → lab q = lab q := fun _ _ => rfl
    have hPo1 := hPo
    have hS1 := hS
    have ho1 : 200 ≤ lab o := by rw [hlb1 o hos]; exact ho
    refine lv_i2l (v := (zI ((xSet (fun j => xHit n m9 τ ζ (j : Int) t9) n.toNat : Nat))).toInt64) hx hb dL_hits_7 rfl ?_
    refine z_last2 hx hb hK hPo1 hS1 (Or.inr (Or.inl rfl)) 2 rfl Nat.one_pos dL_hits_8 (fun H2 locs2 hPo2 hz2 hk2 hS2 => ?_)
    refine lv_goto (tgt := 15) hx hb dL_hits_9 (by decide) ?_
    refine lv_iconst (v := zI (0)) hx hb dL_hits_15 rfl ?_
    exact z_vxret hx hb hr hlocks hS2 (⟨g2, lab, cs, ss, fun _ => ⟨XW.kp hW1 hL1 (by omega) (by omega) (fun q hq hlb => hk2 q (fun e9 => by rw [e9] at hlb; omega)), hL1, _, (if_pos rfl), hPo2⟩, fun q9 => absurd hC q9, hlb1⟩) ((if_pos hC).symm) dL_hits_16 (Nat.le_of_ble_eq_true rfl) (Nat.le_of_ble_eq_true rfl)

set_option maxHeartbeats 4000000 in
set_option maxRecDepth 100000 in
theorem kL_sounding (l : Launch) (D : va_G) (G : Nat → ClassId) (hl9 : l.stackTraces = false) (ax : Nat) (n m9 sp : Int) (τ ζ : Nat → Nat → Int) (g : Nat → Nat → Nat) (cs ss : Nat → Nat → Int32) (hOK : XOK n m9 sp τ ζ) (lab : Nat → Nat) (hXL : XL lab ax n m9 g) (o sz : Nat) (f : Nat → Int64) (ho : 200 ≤ lab o) (t9 : Int) (hr0 : -2147483648 ≤ t9 ∧ t9 ≤ 2147483647) : Met l yL_sounding wsL_sounding ({ frames := 8, cells := 1, slots := 6, locals := 177 }) (zPT [.ref ax, .int (zI (t9)), .ref o] D G (fun H => H.size = sz ∧ XW D G ax n m9 sp τ ζ g cs ss H ∧ va_P D vwCl (oL G o f) H)) (zM (some (.int (zI (if 0 ≤ t9 ∧ t9 ≤ 99999 then 0 else 1)))) (LQ D G ax sz lab n m9 sp τ ζ (0 ≤ t9 ∧ t9 ≤ 99999) (n) (m9) (sp) (τ) (ζ) (OLv D G o ((zI ((xSet (fun j => xSnd n m9 τ ζ t9 (j : Int)) n.toNat : Nat))).toInt64)) (OL D G o)) (LA lab o sz)) 1 6 (LA lab o sz) := by
  refine z_metX (vx_ofWH (cc := cL_sounding) (maxL := 4) (ret := some .int) (hh := [(0, 9, 12, 13)]) (by decide) rfl ?_)
  intro p e s m args below meth c s₁ B hml hv
  obtain ⟨hav, ⟨hsz, hW, hPo⟩, hK, hN, hT0⟩ := hv
  have hx := B.exec
  have hb := B.bytes
  have hr := B.returns
  have hts := atoms_spec (ws := wsL_sounding) B.pre
  have hown : s.vm.findClass RL = some m.cls := findClass_of_methodNamed B.named
  have hlocks : meth.locks = false := B.notSynchronized
  have htab := vx_table (x := yL_sounding) B (hts _ List.mem_cons_self)
  obtain ⟨hn0, hn8, hm0, hm12, -⟩ := id hOK
  obtain ⟨g2, hW2, hL2, hg2⟩ := XN hW hXL hn8
  have hos : o < sz := by have h9 := o_lt hPo; omega
  have hS : va_S (LA lab o sz) s.heap s.heap [] := va_S.rf
  refine z_entry hav (Nat.le_of_ble_eq_true rfl) rfl (fun ls hl => ?_)
  have hl : lv_has ls 4 [(0, .ref ax), (1, .int (zI (t9))), (2, .ref o)] := hl
  refine lv_aload_n hx hb dL_sounding_0 rfl (lv_at hl 2 rfl) ?_
  refine lv_iconst (v := zI (0)) hx hb dL_sounding_1 rfl ?_
  refine lv_aload_n hx hb dL_sounding_2 rfl (lv_at hl 0 rfl) ?_
  refine lv_iload_n hx hb dL_sounding_3 rfl (lv_at hl 1 rfl) ?_
  refine z_callX (vx_runV (As := [.int (zI (t9))]) (rest := [.int (zI (0)), .ref o]) ⟨hx, hb, hml, hown, hts⟩ (kX2_sounding l D G hl9 ax n m9 sp τ ζ g2 cs ss hOK t9 hr0) (cwV 1 hts gL_sounding_X2_sounding rfl rfl rfl (by decide +kernel) ⟨Nat.le_of_ble_eq_true rfl, Nat.le_of_ble_eq_true rfl⟩) (zPTreV (va_recv hK hW2.1 (ci := 2) (q0 := 0) rfl rfl) hK hN hT0 (hW2)) rfl rfl hl.1 rfl (lv_room (Nat.le_of_ble_eq_true rfl)) dL_sounding_4 ⟨Nat.le_of_ble_eq_true rfl, Nat.le_of_ble_eq_true rfl⟩) (fun E ce qx9 H1 hco hz1 hk1 hce hcv hcl => ?_) (fun hC => ?_)
  · have hS1 : va_S (LA lab o sz) s.heap H1 [] := ⟨hz1, fun q hq _ => hk1 q hq, fun _ h9 => nomatch h9⟩
    obtain ⟨rfl, hn1⟩ := hco
    refine vx_catch hown [] ⟨0, 9, 12, 13⟩ [] (htab.trans rfl) (fun _ h9 => nomatch h9) (by decide) (by decide) (hts (.classLink RL 13 "java/lang/IllegalArgumentException") (by decide +kernel)) (va_Nw.use rfl (hN.2.2.1 zIA (by decide +kernel))) hce hcv hcl ?_
    refine lv_astore_n (lv' := [(3, .ref qx9), (0, .ref ax), (1, .int (zI (t9))), (2, .ref o)]) hx hb dL_sounding_12 rfl hl (by decide) rfl (fun ls hl => ?_)
    refine lv_iconst (v := zI (1)) hx hb dL_sounding_13 rfl ?_
    exact z_vxret hx hb hr hlocks hS1 (⟨g2, lab, cs, ss, fun q9 => absurd q9 hn1, fun _ => ⟨XW.kp hW2 hL2 hn8 hm12 (fun q hq _ => hk1 q hq), hL2, f, o_kp hPo (hk1 o)⟩, fun _ _ => rfl⟩) ((if_neg hn1).symm) dL_sounding_14 (Nat.le_of_ble_eq_true rfl) (Nat.le_of_ble_eq_true rfl)
  · have hW1 := hW2
    have hL1 := hL2
    have hlb1 : ∀ q : Nat, q < sz → lab q = lab q := fun _ _ => rfl
    have hPo1 := hPo
    have hS1 := hS
    have ho1 : 200 ≤ lab o := by rw [hlb1 o hos]; exact ho
    refine lv_i2l (v := (zI ((xSet (fun j => xSnd n m9 τ ζ t9 (j : Int)) n.toNat : Nat))).toInt64) hx hb dL_sounding_7 rfl ?_
    refine z_last2 hx hb hK hPo1 hS1 (Or.inr (Or.inl rfl)) 2 rfl Nat.one_pos dL_sounding_8 (fun H2 locs2 hPo2 hz2 hk2 hS2 => ?_)
    refine lv_goto (tgt := 15) hx hb dL_sounding_9 (by decide) ?_
    refine lv_iconst (v := zI (0)) hx hb dL_sounding_15 rfl ?_
    exact z_vxret hx hb hr hlocks hS2 (⟨g2, lab, cs, ss, fun _ => ⟨XW.kp hW1 hL1 (by omega) (by omega) (fun q hq hlb => hk2 q (fun e9 => by rw [e9] at hlb; omega)), hL1, _, (if_pos rfl), hPo2⟩, fun q9 => absurd hC q9, hlb1⟩) ((if_pos hC).symm) dL_sounding_16 (Nat.le_of_ble_eq_true rfl) (Nat.le_of_ble_eq_true rfl)

set_option maxHeartbeats 4000000 in
set_option maxRecDepth 100000 in
theorem kL_next (l : Launch) (D : va_G) (G : Nat → ClassId) (hl9 : l.stackTraces = false) (ax : Nat) (n m9 sp : Int) (τ ζ : Nat → Nat → Int) (g : Nat → Nat → Nat) (cs ss : Nat → Nat → Int32) (hOK : XOK n m9 sp τ ζ) (lab : Nat → Nat) (hXL : XL lab ax n m9 g) (o sz : Nat) (f : Nat → Int64) (ho : 200 ≤ lab o) (k t9 : Int) (hr0 : -2147483648 ≤ k ∧ k ≤ 2147483647) (hr1 : -2147483648 ≤ t9 ∧ t9 ≤ 2147483647) : Met l yL_next wsL_next ({ frames := 8, cells := 2, slots := 12, locals := 176 }) (zPT [.ref ax, .int (zI (k)), .int (zI (t9)), .ref o] D G (fun H => H.size = sz ∧ XW D G ax n m9 sp τ ζ g cs ss H ∧ va_P D vwCl (oL G o f) H)) (zM (some (.int (zI (if 0 ≤ k ∧ k < n then (if 0 ≤ t9 ∧ t9 ≤ 99999 then 0 else 2) else 1)))) (LQ D G ax sz lab n m9 sp τ ζ ((0 ≤ k ∧ k < n) ∧ (0 ≤ t9 ∧ t9 ≤ 99999)) (n) (m9) (sp) (τ) (ζ) (OLv D G o ((zI (xNx (fun t => xHit n m9 τ ζ k t) t9 ((if 99999 < t9 + 3000 then 99999 else t9 + 3000) + 1 - t9).toNat)).toInt64)) (OL D G o)) (LA lab o sz)) 2 12 (LA lab o sz) := by
  refine z_metX (vx_ofWH (cc := cL_next) (maxL := 5) (ret := some .int) (hh := [(0, 10, 13, 21), (0, 10, 17, 13)]) (by decide) rfl ?_)
  intro p e s m args below meth c s₁ B hml hv
  obtain ⟨hav, ⟨hsz, hW, hPo⟩, hK, hN, hT0⟩ := hv
  have hx := B.exec
  have hb := B.bytes
  have hr := B.returns
  have hts := atoms_spec (ws := wsL_next) B.pre
  have hown : s.vm.findClass RL = some m.cls := findClass_of_methodNamed B.named
  have hlocks : meth.locks = false := B.notSynchronized
  have htab := vx_table (x := yL_next) B (hts _ List.mem_cons_self)
  obtain ⟨hn0, hn8, hm0, hm12, -⟩ := id hOK
  obtain ⟨g2, hW2, hL2, hg2⟩ := XN hW hXL hn8
  have hos : o < sz := by have h9 := o_lt hPo; omega
  have hS : va_S (LA lab o sz) s.heap s.heap [] := va_S.rf
  refine z_entry hav (Nat.le_of_ble_eq_true rfl) rfl (fun ls hl => ?_)
  have hl : lv_has ls 5 [(0, .ref ax), (1, .int (zI (k))), (2, .int (zI (t9))), (3, .ref o)] := hl
  refine lv_aload_n hx hb dL_next_0 rfl (lv_at hl 3 rfl) ?_
  refine lv_iconst (v := zI (0)) hx hb dL_next_1 rfl ?_
  refine lv_aload_n hx hb dL_next_2 rfl (lv_at hl 0 rfl) ?_
  refine lv_iload_n hx hb dL_next_3 rfl (lv_at hl 1 rfl) ?_
  refine lv_iload_n hx hb dL_next_4 rfl (lv_at hl 2 rfl) ?_
  refine z_callX (vx_runV (As := [.int (zI (k)), .int (zI (t9))]) (rest := [.int (zI (0)), .ref o]) ⟨hx, hb, hml, hown, hts⟩ (kX2_next l D G hl9 ax n m9 sp τ ζ g2 cs ss hOK k t9 hr0 hr1) (cwV 2 hts gL_next_X2_next rfl rfl rfl (by decide +kernel) ⟨Nat.le_of_ble_eq_true rfl, Nat.le_of_ble_eq_true rfl⟩) (zPTreV (va_recv hK hW2.1 (ci := 2) (q0 := 0) rfl rfl) hK hN hT0 (hW2)) rfl rfl hl.1 rfl (lv_room (Nat.le_of_ble_eq_true rfl)) dL_next_5 ⟨Nat.le_of_ble_eq_true rfl, Nat.le_of_ble_eq_true rfl⟩) (fun E ce qx9 H1 hco hz1 hk1 hce hcv hcl => ?_) (fun hC => ?_)
  · have hS1 : va_S (LA lab o sz) s.heap H1 [] := ⟨hz1, fun q hq _ => hk1 q hq, fun _ h9 => nomatch h9⟩
    rcases hco with ⟨rfl, hn1⟩ | ⟨rfl, hc1, hn2⟩
    · refine vx_catch hown [] ⟨0, 10, 13, 21⟩ [⟨0, 10, 17, 13⟩] (htab.trans rfl) (fun _ h9 => nomatch h9) (by decide) (by decide) (hts (.classLink RL 21 "java/lang/IndexOutOfBoundsException") (by decide +kernel)) (va_Nw.use rfl (hN.2.2.1 zIO (by decide +kernel))) hce hcv hcl ?_
      refine lv_astore (lv' := [(4, .ref qx9), (0, .ref ax), (1, .int (zI (k))), (2, .int (zI (t9))), (3, .ref o)]) hx hb dL_next_13 hl (by decide) rfl (fun ls hl => ?_)
      refine lv_iconst (v := zI (1)) hx hb dL_next_15 rfl ?_
      exact z_vxret hx hb hr hlocks hS1 (⟨g2, lab, cs, ss, fun q9 => absurd q9 (fun q8 => hn1 q8.1), fun _ => ⟨XW.kp hW2 hL2 hn8 hm12 (fun q hq _ => hk1 q hq), hL2, f, o_kp hPo (hk1 o)⟩, fun _ _ => rfl⟩) ((if_neg hn1).symm) dL_next_16 (Nat.le_of_ble_eq_true rfl) (Nat.le_of_ble_eq_true rfl)
    · refine vx_catch hown [⟨0, 10, 13, 21⟩] ⟨0, 10, 17, 13⟩ [] (htab.trans rfl) (fun z hz => by cases List.mem_singleton.mp hz; exact Or.inr ⟨by decide, "java/lang/IndexOutOfBoundsException", hts (.classLink RL 21 "java/lang/IndexOutOfBoundsException") (by decide +kernel), hN.2.2.2.1 (zIA, zIO) (by decide)⟩) (by decide) (by decide) (hts (.classLink RL 13 "java/lang/IllegalArgumentException") (by decide +kernel)) (va_Nw.use rfl (hN.2.2.1 zIA (by decide +kernel))) hce hcv hcl ?_
      refine lv_astore (lv' := [(4, .ref qx9), (0, .ref ax), (1, .int (zI (k))), (2, .int (zI (t9))), (3, .ref o)]) hx hb dL_next_17 hl (by decide) rfl (fun ls hl => ?_)
      refine lv_iconst (v := zI (2)) hx hb dL_next_19 rfl ?_
      exact z_vxret hx hb hr hlocks hS1 (⟨g2, lab, cs, ss, fun q9 => absurd q9 (fun q8 => hn2 q8.2), fun _ => ⟨XW.kp hW2 hL2 hn8 hm12 (fun q hq _ => hk1 q hq), hL2, f, o_kp hPo (hk1 o)⟩, fun _ _ => rfl⟩) (by rw [if_pos hc1, if_neg hn2]) dL_next_20 (Nat.le_of_ble_eq_true rfl) (Nat.le_of_ble_eq_true rfl)
  · have hW1 := hW2
    have hL1 := hL2
    have hlb1 : ∀ q : Nat, q < sz → lab q = lab q := fun _ _ => rfl
    have hPo1 := hPo
    have hS1 := hS
    have ho1 : 200 ≤ lab o := by rw [hlb1 o hos]; exact ho
    refine lv_i2l (v := (zI (xNx (fun t => xHit n m9 τ ζ k t) t9 ((if 99999 < t9 + 3000 then 99999 else t9 + 3000) + 1 - t9).toNat)).toInt64) hx hb dL_next_8 rfl ?_
    refine z_last2 hx hb hK hPo1 hS1 (Or.inr (Or.inl rfl)) 2 rfl Nat.one_pos dL_next_9 (fun H2 locs2 hPo2 hz2 hk2 hS2 => ?_)
    refine lv_goto (tgt := 21) hx hb dL_next_10 (by decide) ?_
    refine lv_iconst (v := zI (0)) hx hb dL_next_21 rfl ?_
    exact z_vxret hx hb hr hlocks hS2 (⟨g2, lab, cs, ss, fun _ => ⟨XW.kp hW1 hL1 (by omega) (by omega) (fun q hq hlb => hk2 q (fun e9 => by rw [e9] at hlb; omega)), hL1, _, (if_pos rfl), hPo2⟩, fun q9 => absurd hC q9, hlb1⟩) (by rw [if_pos hC.1, if_pos hC.2]) dL_next_22 (Nat.le_of_ble_eq_true rfl) (Nat.le_of_ble_eq_true rfl)

set_option maxHeartbeats 4000000 in
set_option maxRecDepth 100000 in
theorem kL_count (l : Launch) (D : va_G) (G : Nat → ClassId) (hl9 : l.stackTraces = false) (ax : Nat) (n m9 sp : Int) (τ ζ : Nat → Nat → Int) (g : Nat → Nat → Nat) (cs ss : Nat → Nat → Int32) (hOK : XOK n m9 sp τ ζ) (lab : Nat → Nat) (hXL : XL lab ax n m9 g) (o sz : Nat) (f : Nat → Int64) (ho : 200 ≤ lab o) (k x y : Int) (hr0 : -2147483648 ≤ k ∧ k ≤ 2147483647) (hr1 : -2147483648 ≤ x ∧ x ≤ 2147483647) (hr2 : -2147483648 ≤ y ∧ y ≤ 2147483647) : Met l yL_count wsL_count ({ frames := 8, cells := 2, slots := 12, locals := 175 }) (zPT [.ref ax, .int (zI (k)), .int (zI (x)), .int (zI (y)), .ref o] D G (fun H => H.size = sz ∧ XW D G ax n m9 sp τ ζ g cs ss H ∧ va_P D vwCl (oL G o f) H)) (zM (some (.int (zI (if 0 ≤ k ∧ k < n then (if (0 ≤ x ∧ x ≤ 99999) ∧ (0 ≤ y ∧ y ≤ 99999) ∧ x ≤ y ∧ y - x ≤ 3000 then 0 else 2) else 1)))) (LQ D G ax sz lab n m9 sp τ ζ ((0 ≤ k ∧ k < n) ∧ ((0 ≤ x ∧ x ≤ 99999) ∧ (0 ≤ y ∧ y ≤ 99999) ∧ x ≤ y ∧ y - x ≤ 3000)) (n) (m9) (sp) (τ) (ζ) (OLv D G o ((zI (xCnt (fun t => xHit n m9 τ ζ k t ∧ xHit n m9 τ ζ k t) x (y - x).toNat)).toInt64)) (OL D G o)) (LA lab o sz)) 2 12 (LA lab o sz) := by
  refine z_metX (vx_ofWH (cc := cL_count) (maxL := 6) (ret := some .int) (hh := [(0, 12, 15, 21), (0, 12, 19, 13)]) (by decide) rfl ?_)
  intro p e s m args below meth c s₁ B hml hv
  obtain ⟨hav, ⟨hsz, hW, hPo⟩, hK, hN, hT0⟩ := hv
  have hx := B.exec
  have hb := B.bytes
  have hr := B.returns
  have hts := atoms_spec (ws := wsL_count) B.pre
  have hown : s.vm.findClass RL = some m.cls := findClass_of_methodNamed B.named
  have hlocks : meth.locks = false := B.notSynchronized
  have htab := vx_table (x := yL_count) B (hts _ List.mem_cons_self)
  obtain ⟨hn0, hn8, hm0, hm12, -⟩ := id hOK
  obtain ⟨g2, hW2, hL2, hg2⟩ := XN hW hXL hn8
  have hos : o < sz := by have h9 := o_lt hPo; omega
  have hS : va_S (LA lab o sz) s.heap s.heap [] := va_S.rf
  refine z_entry hav (Nat.le_of_ble_eq_true rfl) rfl (fun ls hl => ?_)
  have hl : lv_has ls 6 [(0, .ref ax), (1, .int (zI (k))), (2, .int (zI (x))), (3, .int (zI (y))), (4, .ref o)] := hl
  refine lv_aload hx hb dL_count_0 (lv_at hl 4 rfl) ?_
  refine lv_iconst (v := zI (0)) hx hb dL_count_2 rfl ?_
  refine lv_aload_n hx hb dL_count_3 rfl (lv_at hl 0 rfl) ?_
  refine lv_iload_n hx hb dL_count_4 rfl (lv_at hl 1 rfl) ?_
  refine lv_iload_n hx hb dL_count_5 rfl (lv_at hl 2 rfl) ?_
  refine lv_iload_n hx hb dL_count_6 rfl (lv_at hl 3 rfl) ?_
  refine z_callX (vx_runV (As := [.int (zI (k)), .int (zI (x)), .int (zI (y))]) (rest := [.int (zI (0)), .ref o]) ⟨hx, hb, hml, hown, hts⟩ (kX2_count l D G hl9 ax n m9 sp τ ζ g2 cs ss hOK k x y hr0 hr1 hr2) (cwV 3 hts gL_count_X2_count rfl rfl rfl (by decide +kernel) ⟨Nat.le_of_ble_eq_true rfl, Nat.le_of_ble_eq_true rfl⟩) (zPTreV (va_recv hK hW2.1 (ci := 2) (q0 := 0) rfl rfl) hK hN hT0 (hW2)) rfl rfl hl.1 rfl (lv_room (Nat.le_of_ble_eq_true rfl)) dL_count_7 ⟨Nat.le_of_ble_eq_true rfl, Nat.le_of_ble_eq_true rfl⟩) (fun E ce qx9 H1 hco hz1 hk1 hce hcv hcl => ?_) (fun hC => ?_)
  · have hS1 : va_S (LA lab o sz) s.heap H1 [] := ⟨hz1, fun q hq _ => hk1 q hq, fun _ h9 => nomatch h9⟩
    rcases hco with ⟨rfl, hn1⟩ | ⟨rfl, hc1, hn2⟩
    · refine vx_catch hown [] ⟨0, 12, 15, 21⟩ [⟨0, 12, 19, 13⟩] (htab.trans rfl) (fun _ h9 => nomatch h9) (by decide) (by decide) (hts (.classLink RL 21 "java/lang/IndexOutOfBoundsException") (by decide +kernel)) (va_Nw.use rfl (hN.2.2.1 zIO (by decide +kernel))) hce hcv hcl ?_
      refine lv_astore (lv' := [(5, .ref qx9), (0, .ref ax), (1, .int (zI (k))), (2, .int (zI (x))), (3, .int (zI (y))), (4, .ref o)]) hx hb dL_count_15 hl (by decide) rfl (fun ls hl => ?_)
      refine lv_iconst (v := zI (1)) hx hb dL_count_17 rfl ?_
      exact z_vxret hx hb hr hlocks hS1 (⟨g2, lab, cs, ss, fun q9 => absurd q9 (fun q8 => hn1 q8.1), fun _ => ⟨XW.kp hW2 hL2 hn8 hm12 (fun q hq _ => hk1 q hq), hL2, f, o_kp hPo (hk1 o)⟩, fun _ _ => rfl⟩) ((if_neg hn1).symm) dL_count_18 (Nat.le_of_ble_eq_true rfl) (Nat.le_of_ble_eq_true rfl)
    · refine vx_catch hown [⟨0, 12, 15, 21⟩] ⟨0, 12, 19, 13⟩ [] (htab.trans rfl) (fun z hz => by cases List.mem_singleton.mp hz; exact Or.inr ⟨by decide, "java/lang/IndexOutOfBoundsException", hts (.classLink RL 21 "java/lang/IndexOutOfBoundsException") (by decide +kernel), hN.2.2.2.1 (zIA, zIO) (by decide)⟩) (by decide) (by decide) (hts (.classLink RL 13 "java/lang/IllegalArgumentException") (by decide +kernel)) (va_Nw.use rfl (hN.2.2.1 zIA (by decide +kernel))) hce hcv hcl ?_
      refine lv_astore (lv' := [(5, .ref qx9), (0, .ref ax), (1, .int (zI (k))), (2, .int (zI (x))), (3, .int (zI (y))), (4, .ref o)]) hx hb dL_count_19 hl (by decide) rfl (fun ls hl => ?_)
      refine lv_iconst (v := zI (2)) hx hb dL_count_21 rfl ?_
      exact z_vxret hx hb hr hlocks hS1 (⟨g2, lab, cs, ss, fun q9 => absurd q9 (fun q8 => hn2 q8.2), fun _ => ⟨XW.kp hW2 hL2 hn8 hm12 (fun q hq _ => hk1 q hq), hL2, f, o_kp hPo (hk1 o)⟩, fun _ _ => rfl⟩) (by rw [if_pos hc1, if_neg hn2]) dL_count_22 (Nat.le_of_ble_eq_true rfl) (Nat.le_of_ble_eq_true rfl)
  · have hW1 := hW2
    have hL1 := hL2
    have hlb1 : ∀ q : Nat, q < sz → lab q = lab q := fun _ _ => rfl
    have hPo1 := hPo
    have hS1 := hS
    have ho1 : 200 ≤ lab o := by rw [hlb1 o hos]; exact ho
    refine lv_i2l (v := (zI (xCnt (fun t => xHit n m9 τ ζ k t ∧ xHit n m9 τ ζ k t) x (y - x).toNat)).toInt64) hx hb dL_count_10 rfl ?_
    refine z_last2 hx hb hK hPo1 hS1 (Or.inr (Or.inl rfl)) 2 rfl Nat.one_pos dL_count_11 (fun H2 locs2 hPo2 hz2 hk2 hS2 => ?_)
    refine lv_goto (tgt := 23) hx hb dL_count_12 (by decide) ?_
    refine lv_iconst (v := zI (0)) hx hb dL_count_23 rfl ?_
    exact z_vxret hx hb hr hlocks hS2 (⟨g2, lab, cs, ss, fun _ => ⟨XW.kp hW1 hL1 (by omega) (by omega) (fun q hq hlb => hk2 q (fun e9 => by rw [e9] at hlb; omega)), hL1, _, (if_pos rfl), hPo2⟩, fun q9 => absurd hC q9, hlb1⟩) (by rw [if_pos hC.1, if_pos hC.2]) dL_count_24 (Nat.le_of_ble_eq_true rfl) (Nat.le_of_ble_eq_true rfl)

set_option maxHeartbeats 4000000 in
set_option maxRecDepth 100000 in
theorem kL_together (l : Launch) (D : va_G) (G : Nat → ClassId) (hl9 : l.stackTraces = false) (ax : Nat) (n m9 sp : Int) (τ ζ : Nat → Nat → Int) (g : Nat → Nat → Nat) (cs ss : Nat → Nat → Int32) (hOK : XOK n m9 sp τ ζ) (lab : Nat → Nat) (hXL : XL lab ax n m9 g) (o sz : Nat) (f : Nat → Int64) (ho : 200 ≤ lab o) (a b x y : Int) (hr0 : -2147483648 ≤ a ∧ a ≤ 2147483647) (hr1 : -2147483648 ≤ b ∧ b ≤ 2147483647) (hr2 : -2147483648 ≤ x ∧ x ≤ 2147483647) (hr3 : -2147483648 ≤ y ∧ y ≤ 2147483647) : Met l yL_together wsL_together ({ frames := 8, cells := 3, slots := 18, locals := 176 }) (zPT [.ref ax, .int (zI (a)), .int (zI (b)), .int (zI (x)), .int (zI (y)), .ref o] D G (fun H => H.size = sz ∧ XW D G ax n m9 sp τ ζ g cs ss H ∧ va_P D vwCl (oL G o f) H)) (zM (some (.int (zI (if (0 ≤ a ∧ a < n) ∧ (0 ≤ b ∧ b < n) then (if (0 ≤ x ∧ x ≤ 99999) ∧ (0 ≤ y ∧ y ≤ 99999) ∧ x ≤ y ∧ y - x ≤ 3000 then 0 else 2) else 1)))) (LQ D G ax sz lab n m9 sp τ ζ (((0 ≤ a ∧ a < n) ∧ (0 ≤ b ∧ b < n)) ∧ ((0 ≤ x ∧ x ≤ 99999) ∧ (0 ≤ y ∧ y ≤ 99999) ∧ x ≤ y ∧ y - x ≤ 3000)) (n) (m9) (sp) (τ) (ζ) (OLv D G o ((zI (xCnt (fun t => xHit n m9 τ ζ a t ∧ xHit n m9 τ ζ b t) x (y - x).toNat)).toInt64)) (OL D G o)) (LA lab o sz)) 3 18 (LA lab o sz) := by
  refine z_metX (vx_ofWH (cc := cL_together) (maxL := 7) (ret := some .int) (hh := [(0, 14, 17, 21), (0, 14, 21, 13)]) (by decide) rfl ?_)
  intro p e s m args below meth c s₁ B hml hv
  obtain ⟨hav, ⟨hsz, hW, hPo⟩, hK, hN, hT0⟩ := hv
  have hx := B.exec
  have hb := B.bytes
  have hr := B.returns
  have hts := atoms_spec (ws := wsL_together) B.pre
  have hown : s.vm.findClass RL = some m.cls := findClass_of_methodNamed B.named
  have hlocks : meth.locks = false := B.notSynchronized
  have htab := vx_table (x := yL_together) B (hts _ List.mem_cons_self)
  obtain ⟨hn0, hn8, hm0, hm12, -⟩ := id hOK
  obtain ⟨g2, hW2, hL2, hg2⟩ := XN hW hXL hn8
  have hos : o < sz := by have h9 := o_lt hPo; omega
  have hS : va_S (LA lab o sz) s.heap s.heap [] := va_S.rf
  refine z_entry hav (Nat.le_of_ble_eq_true rfl) rfl (fun ls hl => ?_)
  have hl : lv_has ls 7 [(0, .ref ax), (1, .int (zI (a))), (2, .int (zI (b))), (3, .int (zI (x))), (4, .int (zI (y))), (5, .ref o)] := hl
  refine lv_aload hx hb dL_together_0 (lv_at hl 5 rfl) ?_
  refine lv_iconst (v := zI (0)) hx hb dL_together_2 rfl ?_
  refine lv_aload_n hx hb dL_together_3 rfl (lv_at hl 0 rfl) ?_
  refine lv_iload_n hx hb dL_together_4 rfl (lv_at hl 1 rfl) ?_
  refine lv_iload_n hx hb dL_together_5 rfl (lv_at hl 2 rfl) ?_
  refine lv_iload_n hx hb dL_together_6 rfl (lv_at hl 3 rfl) ?_
  refine lv_iload hx hb dL_together_7 (lv_at hl 4 rfl) ?_
  refine z_callX (vx_runV (As := [.int (zI (a)), .int (zI (b)), .int (zI (x)), .int (zI (y))]) (rest := [.int (zI (0)), .ref o]) ⟨hx, hb, hml, hown, hts⟩ (kX2_together l D G hl9 ax n m9 sp τ ζ g2 cs ss hOK a b x y hr0 hr1 hr2 hr3) (cwV 4 hts gL_together_X2_together rfl rfl rfl (by decide +kernel) ⟨Nat.le_of_ble_eq_true rfl, Nat.le_of_ble_eq_true rfl⟩) (zPTreV (va_recv hK hW2.1 (ci := 2) (q0 := 0) rfl rfl) hK hN hT0 (hW2)) rfl rfl hl.1 rfl (lv_room (Nat.le_of_ble_eq_true rfl)) dL_together_9 ⟨Nat.le_of_ble_eq_true rfl, Nat.le_of_ble_eq_true rfl⟩) (fun E ce qx9 H1 hco hz1 hk1 hce hcv hcl => ?_) (fun hC => ?_)
  · have hS1 : va_S (LA lab o sz) s.heap H1 [] := ⟨hz1, fun q hq _ => hk1 q hq, fun _ h9 => nomatch h9⟩
    rcases hco with ⟨rfl, hn1⟩ | ⟨rfl, hc1, hn2⟩
    · refine vx_catch hown [] ⟨0, 14, 17, 21⟩ [⟨0, 14, 21, 13⟩] (htab.trans rfl) (fun _ h9 => nomatch h9) (by decide) (by decide) (hts (.classLink RL 21 "java/lang/IndexOutOfBoundsException") (by decide +kernel)) (va_Nw.use rfl (hN.2.2.1 zIO (by decide +kernel))) hce hcv hcl ?_
      refine lv_astore (lv' := [(6, .ref qx9), (0, .ref ax), (1, .int (zI (a))), (2, .int (zI (b))), (3, .int (zI (x))), (4, .int (zI (y))), (5, .ref o)]) hx hb dL_together_17 hl (by decide) rfl (fun ls hl => ?_)
      refine lv_iconst (v := zI (1)) hx hb dL_together_19 rfl ?_
      exact z_vxret hx hb hr hlocks hS1 (⟨g2, lab, cs, ss, fun q9 => absurd q9 (fun q8 => hn1 q8.1), fun _ => ⟨XW.kp hW2 hL2 hn8 hm12 (fun q hq _ => hk1 q hq), hL2, f, o_kp hPo (hk1 o)⟩, fun _ _ => rfl⟩) ((if_neg hn1).symm) dL_together_20 (Nat.le_of_ble_eq_true rfl) (Nat.le_of_ble_eq_true rfl)
    · refine vx_catch hown [⟨0, 14, 17, 21⟩] ⟨0, 14, 21, 13⟩ [] (htab.trans rfl) (fun z hz => by cases List.mem_singleton.mp hz; exact Or.inr ⟨by decide, "java/lang/IndexOutOfBoundsException", hts (.classLink RL 21 "java/lang/IndexOutOfBoundsException") (by decide +kernel), hN.2.2.2.1 (zIA, zIO) (by decide)⟩) (by decide) (by decide) (hts (.classLink RL 13 "java/lang/IllegalArgumentException") (by decide +kernel)) (va_Nw.use rfl (hN.2.2.1 zIA (by decide +kernel))) hce hcv hcl ?_
      refine lv_astore (lv' := [(6, .ref qx9), (0, .ref ax), (1, .int (zI (a))), (2, .int (zI (b))), (3, .int (zI (x))), (4, .int (zI (y))), (5, .ref o)]) hx hb dL_together_21 hl (by decide) rfl (fun ls hl => ?_)
      refine lv_iconst (v := zI (2)) hx hb dL_together_23 rfl ?_
      exact z_vxret hx hb hr hlocks hS1 (⟨g2, lab, cs, ss, fun q9 => absurd q9 (fun q8 => hn2 q8.2), fun _ => ⟨XW.kp hW2 hL2 hn8 hm12 (fun q hq _ => hk1 q hq), hL2, f, o_kp hPo (hk1 o)⟩, fun _ _ => rfl⟩) (by rw [if_pos hc1, if_neg hn2]) dL_together_24 (Nat.le_of_ble_eq_true rfl) (Nat.le_of_ble_eq_true rfl)
  · have hW1 := hW2
    have hL1 := hL2
    have hlb1 : ∀ q : Nat, q < sz → lab q = lab q := fun _ _ => rfl
    have hPo1 := hPo
    have hS1 := hS
    have ho1 : 200 ≤ lab o := by rw [hlb1 o hos]; exact ho
    refine lv_i2l (v := (zI (xCnt (fun t => xHit n m9 τ ζ a t ∧ xHit n m9 τ ζ b t) x (y - x).toNat)).toInt64) hx hb dL_together_12 rfl ?_
    refine z_last2 hx hb hK hPo1 hS1 (Or.inr (Or.inl rfl)) 2 rfl Nat.one_pos dL_together_13 (fun H2 locs2 hPo2 hz2 hk2 hS2 => ?_)
    refine lv_goto (tgt := 25) hx hb dL_together_14 (by decide) ?_
    refine lv_iconst (v := zI (0)) hx hb dL_together_25 rfl ?_
    exact z_vxret hx hb hr hlocks hS2 (⟨g2, lab, cs, ss, fun _ => ⟨XW.kp hW1 hL1 (by omega) (by omega) (fun q hq hlb => hk2 q (fun e9 => by rw [e9] at hlb; omega)), hL1, _, (if_pos rfl), hPo2⟩, fun q9 => absurd hC q9, hlb1⟩) (by rw [if_pos hC.1, if_pos hC.2]) dL_together_26 (Nat.le_of_ble_eq_true rfl) (Nat.le_of_ble_eq_true rfl)

set_option maxHeartbeats 4000000 in
set_option maxRecDepth 100000 in
theorem kL_rounds (l : Launch) (D : va_G) (G : Nat → ClassId) (hl9 : l.stackTraces = false) (ax : Nat) (n m9 sp : Int) (τ ζ : Nat → Nat → Int) (g : Nat → Nat → Nat) (cs ss : Nat → Nat → Int32) (hOK : XOK n m9 sp τ ζ) (lab : Nat → Nat) (hXL : XL lab ax n m9 g) (o sz : Nat) (f : Nat → Int64) (ho : 200 ≤ lab o) (k : Int) (hr0 : -2147483648 ≤ k ∧ k ≤ 2147483647) : Met l yL_rounds wsL_rounds ({ frames := 8, cells := 1, slots := 6, locals := 173 }) (zPT [.ref ax, .int (zI (k)), .ref o] D G (fun H => H.size = sz ∧ XW D G ax n m9 sp τ ζ g cs ss H ∧ va_P D vwCl (oL G o f) H)) (zM (some (.int (zI (if 0 ≤ k ∧ k < n then 0 else 1)))) (LQ D G ax sz lab n m9 sp τ ζ (0 ≤ k ∧ k < n) (n) (m9) (sp) (τ) (ζ) (OLv D G o ((zI ((xRnd (τ k.toNat) (τ k.toNat 0).toNat : Int))).toInt64)) (OL D G o)) (LA lab o sz)) 1 6 (LA lab o sz) := by
  refine z_metX (vx_ofWH (cc := cL_rounds) (maxL := 4) (ret := some .int) (hh := [(0, 9, 12, 21)]) (by decide) rfl ?_)
  intro p e s m args below meth c s₁ B hml hv
  obtain ⟨hav, ⟨hsz, hW, hPo⟩, hK, hN, hT0⟩ := hv
  have hx := B.exec
  have hb := B.bytes
  have hr := B.returns
  have hts := atoms_spec (ws := wsL_rounds) B.pre
  have hown : s.vm.findClass RL = some m.cls := findClass_of_methodNamed B.named
  have hlocks : meth.locks = false := B.notSynchronized
  have htab := vx_table (x := yL_rounds) B (hts _ List.mem_cons_self)
  obtain ⟨hn0, hn8, hm0, hm12, -⟩ := id hOK
  obtain ⟨g2, hW2, hL2, hg2⟩ := XN hW hXL hn8
  have hos : o < sz := by have h9 := o_lt hPo; omega
  have hS : va_S (LA lab o sz) s.heap s.heap [] := va_S.rf
  refine z_entry hav (Nat.le_of_ble_eq_true rfl) rfl (fun ls hl => ?_)
  have hl : lv_has ls 4 [(0, .ref ax), (1, .int (zI (k))), (2, .ref o)] := hl
  refine lv_aload_n hx hb dL_rounds_0 rfl (lv_at hl 2 rfl) ?_
  refine lv_iconst (v := zI (0)) hx hb dL_rounds_1 rfl ?_
  refine lv_aload_n hx hb dL_rounds_2 rfl (lv_at hl 0 rfl) ?_
  refine lv_iload_n hx hb dL_rounds_3 rfl (lv_at hl 1 rfl) ?_
  refine z_callX (vx_runV (As := [.int (zI (k))]) (rest := [.int (zI (0)), .ref o]) ⟨hx, hb, hml, hown, hts⟩ (kX2_rounds l D G hl9 ax n m9 sp τ ζ g2 cs ss hOK k hr0) (cwV 1 hts gL_rounds_X2_rounds rfl rfl rfl (by decide +kernel) ⟨Nat.le_of_ble_eq_true rfl, Nat.le_of_ble_eq_true rfl⟩) (zPTreV (va_recv hK hW2.1 (ci := 2) (q0 := 0) rfl rfl) hK hN hT0 (hW2)) rfl rfl hl.1 rfl (lv_room (Nat.le_of_ble_eq_true rfl)) dL_rounds_4 ⟨Nat.le_of_ble_eq_true rfl, Nat.le_of_ble_eq_true rfl⟩) (fun E ce qx9 H1 hco hz1 hk1 hce hcv hcl => ?_) (fun hC => ?_)
  · have hS1 : va_S (LA lab o sz) s.heap H1 [] := ⟨hz1, fun q hq _ => hk1 q hq, fun _ h9 => nomatch h9⟩
    obtain ⟨rfl, hn1⟩ := hco
    refine vx_catch hown [] ⟨0, 9, 12, 21⟩ [] (htab.trans rfl) (fun _ h9 => nomatch h9) (by decide) (by decide) (hts (.classLink RL 21 "java/lang/IndexOutOfBoundsException") (by decide +kernel)) (va_Nw.use rfl (hN.2.2.1 zIO (by decide +kernel))) hce hcv hcl ?_
    refine lv_astore_n (lv' := [(3, .ref qx9), (0, .ref ax), (1, .int (zI (k))), (2, .ref o)]) hx hb dL_rounds_12 rfl hl (by decide) rfl (fun ls hl => ?_)
    refine lv_iconst (v := zI (1)) hx hb dL_rounds_13 rfl ?_
    exact z_vxret hx hb hr hlocks hS1 (⟨g2, lab, cs, ss, fun q9 => absurd q9 hn1, fun _ => ⟨XW.kp hW2 hL2 hn8 hm12 (fun q hq _ => hk1 q hq), hL2, f, o_kp hPo (hk1 o)⟩, fun _ _ => rfl⟩) ((if_neg hn1).symm) dL_rounds_14 (Nat.le_of_ble_eq_true rfl) (Nat.le_of_ble_eq_true rfl)
  · have hW1 := hW2
    have hL1 := hL2
    have hlb1 : ∀ q : Nat, q < sz → lab q = lab q := fun _ _ => rfl
    have hPo1 := hPo
    have hS1 := hS
    have ho1 : 200 ≤ lab o := by rw [hlb1 o hos]; exact ho
    refine lv_i2l (v := (zI ((xRnd (τ k.toNat) (τ k.toNat 0).toNat : Int))).toInt64) hx hb dL_rounds_7 rfl ?_
    refine z_last2 hx hb hK hPo1 hS1 (Or.inr (Or.inl rfl)) 2 rfl Nat.one_pos dL_rounds_8 (fun H2 locs2 hPo2 hz2 hk2 hS2 => ?_)
    refine lv_goto (tgt := 15) hx hb dL_rounds_9 (by decide) ?_
    refine lv_iconst (v := zI (0)) hx hb dL_rounds_15 rfl ?_
    exact z_vxret hx hb hr hlocks hS2 (⟨g2, lab, cs, ss, fun _ => ⟨XW.kp hW1 hL1 (by omega) (by omega) (fun q hq hlb => hk2 q (fun e9 => by rw [e9] at hlb; omega)), hL1, _, (if_pos rfl), hPo2⟩, fun q9 => absurd hC q9, hlb1⟩) ((if_pos hC).symm) dL_rounds_16 (Nat.le_of_ble_eq_true rfl) (Nat.le_of_ble_eq_true rfl)

set_option maxHeartbeats 4000000 in
set_option maxRecDepth 100000 in
theorem kL_density (l : Launch) (D : va_G) (G : Nat → ClassId) (hl9 : l.stackTraces = false) (ax : Nat) (n m9 sp : Int) (τ ζ : Nat → Nat → Int) (g : Nat → Nat → Nat) (cs ss : Nat → Nat → Int32) (hOK : XOK n m9 sp τ ζ) (lab : Nat → Nat) (hXL : XL lab ax n m9 g) (o sz : Nat) (f : Nat → UInt64) (ho : 200 ≤ lab o) (k : Int) (hr0 : -2147483648 ≤ k ∧ k ≤ 2147483647) : Met l yL_density wsL_density ({ frames := 8, cells := 1, slots := 6, locals := 173 }) (zPT [.ref ax, .int (zI (k)), .ref o] D G (fun H => H.size = sz ∧ XW D G ax n m9 sp τ ζ g cs ss H ∧ va_P D vwCl (oD G o f) H)) (zM (some (.int (zI (if 0 ≤ k ∧ k < n then 0 else 1)))) (LQ D G ax sz lab n m9 sp τ ζ (0 ≤ k ∧ k < n) (n) (m9) (sp) (τ) (ζ) (ODv D G o (xDen (τ k.toNat) (τ k.toNat 0).toNat)) (OD D G o)) (LA lab o sz)) 1 6 (LA lab o sz) := by
  refine z_metX (vx_ofWH (cc := cL_density) (maxL := 4) (ret := some .int) (hh := [(0, 8, 11, 21)]) (by decide) rfl ?_)
  intro p e s m args below meth c s₁ B hml hv
  obtain ⟨hav, ⟨hsz, hW, hPo⟩, hK, hN, hT0⟩ := hv
  have hx := B.exec
  have hb := B.bytes
  have hr := B.returns
  have hts := atoms_spec (ws := wsL_density) B.pre
  have hown : s.vm.findClass RL = some m.cls := findClass_of_methodNamed B.named
  have hlocks : meth.locks = false := B.notSynchronized
  have htab := vx_table (x := yL_density) B (hts _ List.mem_cons_self)
  obtain ⟨hn0, hn8, hm0, hm12, -⟩ := id hOK
  obtain ⟨g2, hW2, hL2, hg2⟩ := XN hW hXL hn8
  have hos : o < sz := by have h9 := o_lt hPo; omega
  have hS : va_S (LA lab o sz) s.heap s.heap [] := va_S.rf
  refine z_entry hav (Nat.le_of_ble_eq_true rfl) rfl (fun ls hl => ?_)
  have hl : lv_has ls 4 [(0, .ref ax), (1, .int (zI (k))), (2, .ref o)] := hl
  refine lv_aload_n hx hb dL_density_0 rfl (lv_at hl 2 rfl) ?_
  refine lv_iconst (v := zI (0)) hx hb dL_density_1 rfl ?_
  refine lv_aload_n hx hb dL_density_2 rfl (lv_at hl 0 rfl) ?_
  refine lv_iload_n hx hb dL_density_3 rfl (lv_at hl 1 rfl) ?_
  refine z_callX (vx_runV (As := [.int (zI (k))]) (rest := [.int (zI (0)), .ref o]) ⟨hx, hb, hml, hown, hts⟩ (kX2_density l D G hl9 ax n m9 sp τ ζ g2 cs ss hOK k hr0) (cwV 1 hts gL_density_X2_density rfl rfl rfl (by decide +kernel) ⟨Nat.le_of_ble_eq_true rfl, Nat.le_of_ble_eq_true rfl⟩) (zPTreV (va_recv hK hW2.1 (ci := 2) (q0 := 0) rfl rfl) hK hN hT0 (hW2)) rfl rfl hl.1 rfl (lv_room (Nat.le_of_ble_eq_true rfl)) dL_density_4 ⟨Nat.le_of_ble_eq_true rfl, Nat.le_of_ble_eq_true rfl⟩) (fun E ce qx9 H1 hco hz1 hk1 hce hcv hcl => ?_) (fun hC => ?_)
  · have hS1 : va_S (LA lab o sz) s.heap H1 [] := ⟨hz1, fun q hq _ => hk1 q hq, fun _ h9 => nomatch h9⟩
    obtain ⟨rfl, hn1⟩ := hco
    refine vx_catch hown [] ⟨0, 8, 11, 21⟩ [] (htab.trans rfl) (fun _ h9 => nomatch h9) (by decide) (by decide) (hts (.classLink RL 21 "java/lang/IndexOutOfBoundsException") (by decide +kernel)) (va_Nw.use rfl (hN.2.2.1 zIO (by decide +kernel))) hce hcv hcl ?_
    refine lv_astore_n (lv' := [(3, .ref qx9), (0, .ref ax), (1, .int (zI (k))), (2, .ref o)]) hx hb dL_density_11 rfl hl (by decide) rfl (fun ls hl => ?_)
    refine lv_iconst (v := zI (1)) hx hb dL_density_12 rfl ?_
    exact z_vxret hx hb hr hlocks hS1 (⟨g2, lab, cs, ss, fun q9 => absurd q9 hn1, fun _ => ⟨XW.kp hW2 hL2 hn8 hm12 (fun q hq _ => hk1 q hq), hL2, f, o_kp hPo (hk1 o)⟩, fun _ _ => rfl⟩) ((if_neg hn1).symm) dL_density_13 (Nat.le_of_ble_eq_true rfl) (Nat.le_of_ble_eq_true rfl)
  · have hW1 := hW2
    have hL1 := hL2
    have hlb1 : ∀ q : Nat, q < sz → lab q = lab q := fun _ _ => rfl
    have hPo1 := hPo
    have hS1 := hS
    have ho1 : 200 ≤ lab o := by rw [hlb1 o hos]; exact ho
    refine z_dast2 hx hb hK hPo1 hS1 (Or.inr (Or.inl rfl)) 3 rfl Nat.one_pos dL_density_7 (fun H2 locs2 hPo2 hz2 hk2 hS2 => ?_)
    refine lv_goto (tgt := 14) hx hb dL_density_8 (by decide) ?_
    refine lv_iconst (v := zI (0)) hx hb dL_density_14 rfl ?_
    exact z_vxret hx hb hr hlocks hS2 (⟨g2, lab, cs, ss, fun _ => ⟨XW.kp hW1 hL1 (by omega) (by omega) (fun q hq hlb => hk2 q (fun e9 => by rw [e9] at hlb; omega)), hL1, _, (if_pos rfl), hPo2⟩, fun q9 => absurd hC q9, hlb1⟩) ((if_pos hC).symm) dL_density_15 (Nat.le_of_ble_eq_true rfl) (Nat.le_of_ble_eq_true rfl)

set_option maxHeartbeats 4000000 in
set_option maxRecDepth 100000 in
theorem kL_setSpeed (l : Launch) (D : va_G) (G : Nat → ClassId) (hl9 : l.stackTraces = false) (ax : Nat) (n m9 sp : Int) (τ ζ : Nat → Nat → Int) (g : Nat → Nat → Nat) (cs ss : Nat → Nat → Int32) (hOK : XOK n m9 sp τ ζ) (lab : Nat → Nat) (hXL : XL lab ax n m9 g) (o sz : Nat) (f : Nat → Int64) (ho : 200 ≤ lab o) (a : Int) (hr0 : -2147483648 ≤ a ∧ a ≤ 2147483647) : Met l yL_setSpeed wsL_setSpeed ({ frames := 8, cells := 1, slots := 6, locals := 172 }) (zPT [.ref ax, .int (zI (a)), .ref o] D G (fun H => H.size = sz ∧ XW D G ax n m9 sp τ ζ g cs ss H ∧ va_P D vwCl (oL G o f) H)) (zM (some (.int (zI (if 30 ≤ a ∧ a ≤ 300 then 0 else 1)))) (LQ D G ax sz lab n m9 sp τ ζ (30 ≤ a ∧ a ≤ 300) (n) (m9) (a) (τ) (ζ) (OLv D G o ((zI (sp)).toInt64)) (OL D G o)) (LA lab o sz)) 1 6 (LA lab o sz) := by
  refine z_metX (vx_ofWH (cc := cL_setSpeed) (maxL := 4) (ret := some .int) (hh := [(0, 9, 12, 13)]) (by decide) rfl ?_)
  intro p e s m args below meth c s₁ B hml hv
  obtain ⟨hav, ⟨hsz, hW, hPo⟩, hK, hN, hT0⟩ := hv
  have hx := B.exec
  have hb := B.bytes
  have hr := B.returns
  have hts := atoms_spec (ws := wsL_setSpeed) B.pre
  have hown : s.vm.findClass RL = some m.cls := findClass_of_methodNamed B.named
  have hlocks : meth.locks = false := B.notSynchronized
  have htab := vx_table (x := yL_setSpeed) B (hts _ List.mem_cons_self)
  obtain ⟨hn0, hn8, hm0, hm12, -⟩ := id hOK
  obtain ⟨g2, hW2, hL2, hg2⟩ := XN hW hXL hn8
  have hos : o < sz := by have h9 := o_lt hPo; omega
  have hS : va_S (LA lab o sz) s.heap s.heap [] := va_S.rf
  have hgt := hL2.gt
  have hA1 : ∀ q : Nat, zA [ax] q → LA lab o sz q := by
    intro q h9
    simp only [zA, zAn, List.mem_cons, List.not_mem_nil, or_false] at h9
    exact Or.inl (by rw [h9]; omega)
  have hAo : ¬ zA [ax] o := by
    intro h9
    simp only [zA, zAn, List.mem_cons, List.not_mem_nil, or_false] at h9
    rw [← h9] at hgt; omega
  refine z_entry hav (Nat.le_of_ble_eq_true rfl) rfl (fun ls hl => ?_)
  have hl : lv_has ls 4 [(0, .ref ax), (1, .int (zI (a))), (2, .ref o)] := hl
  refine lv_aload_n hx hb dL_setSpeed_0 rfl (lv_at hl 2 rfl) ?_
  refine lv_iconst (v := zI (0)) hx hb dL_setSpeed_1 rfl ?_
  refine lv_aload_n hx hb dL_setSpeed_2 rfl (lv_at hl 0 rfl) ?_
  refine lv_iload_n hx hb dL_setSpeed_3 rfl (lv_at hl 1 rfl) ?_
  refine z_callXM (vx_runV (As := [.int (zI (a))]) (rest := [.int (zI (0)), .ref o]) ⟨hx, hb, hml, hown, hts⟩ (kX2_setSpeed l D G hl9 ax n m9 sp τ ζ g2 cs ss hOK lab hL2 a hr0) (cwV 1 hts gL_setSpeed_X2_setSpeed rfl rfl rfl (by decide +kernel) ⟨Nat.le_of_ble_eq_true rfl, Nat.le_of_ble_eq_true rfl⟩) (zPTreV (va_recv hK hW2.1 (ci := 2) (q0 := 0) rfl rfl) hK hN hT0 (hW2)) rfl rfl hl.1 rfl (lv_room (Nat.le_of_ble_eq_true rfl)) dL_setSpeed_4 ⟨Nat.le_of_ble_eq_true rfl, Nat.le_of_ble_eq_true rfl⟩) hS (fun q _ h9 => hA1 q h9) hA1 (fun E ce qx9 H1 locs1 hco hz1 hk1 hS1 hce hcv hcl => ?_) (fun H1 locs1 hC hp1 hz1 hk1 hS1 => ?_)
  · obtain ⟨rfl, hn1⟩ := hco
    refine vx_catch hown [] ⟨0, 9, 12, 13⟩ [] (htab.trans rfl) (fun _ h9 => nomatch h9) (by decide) (by decide) (hts (.classLink RL 13 "java/lang/IllegalArgumentException") (by decide +kernel)) (va_Nw.use rfl (hN.2.2.1 zIA (by decide +kernel))) hce hcv hcl ?_
    refine lv_astore_n (lv' := [(3, .ref qx9), (0, .ref ax), (1, .int (zI (a))), (2, .ref o)]) hx hb dL_setSpeed_12 rfl hl (by decide) rfl (fun ls hl => ?_)
    refine lv_iconst (v := zI (1)) hx hb dL_setSpeed_13 rfl ?_
    exact z_vxret hx hb hr hlocks hS1 (⟨g2, lab, cs, ss, fun q9 => absurd q9 hn1, fun _ => ⟨XW.kp hW2 hL2 hn8 hm12 (fun q hq _ => hk1 q hq), hL2, f, o_kp hPo (hk1 o)⟩, fun _ _ => rfl⟩) ((if_neg hn1).symm) dL_setSpeed_14 (Nat.le_of_ble_eq_true rfl) (Nat.le_of_ble_eq_true rfl)
  · have hW1 := hp1
    have hL1 := hL2
    have hlb1 : ∀ q : Nat, q < sz → lab q = lab q := fun _ _ => rfl
    have hPo1 := o_kp hPo (fun h9 => hk1 o h9 hAo)
    have ho1 : 200 ≤ lab o := by rw [hlb1 o hos]; exact ho
    refine lv_i2l (v := (zI (sp)).toInt64) hx hb dL_setSpeed_7 rfl ?_
    refine z_last2 hx hb hK hPo1 hS1 (Or.inr (Or.inl rfl)) 2 rfl Nat.one_pos dL_setSpeed_8 (fun H2 locs2 hPo2 hz2 hk2 hS2 => ?_)
    refine lv_goto (tgt := 15) hx hb dL_setSpeed_9 (by decide) ?_
    refine lv_iconst (v := zI (0)) hx hb dL_setSpeed_15 rfl ?_
    exact z_vxret hx hb hr hlocks hS2 (⟨g2, lab, cs, ss, fun _ => ⟨XW.kp hW1 hL1 (by omega) (by omega) (fun q hq hlb => hk2 q (fun e9 => by rw [e9] at hlb; omega)), hL1, _, (if_pos rfl), hPo2⟩, fun q9 => absurd hC q9, hlb1⟩) ((if_pos hC).symm) dL_setSpeed_16 (Nat.le_of_ble_eq_true rfl) (Nat.le_of_ble_eq_true rfl)

set_option maxHeartbeats 4000000 in
set_option maxRecDepth 100000 in
theorem kL_seconds (l : Launch) (D : va_G) (G : Nat → ClassId) (hl9 : l.stackTraces = false) (ax : Nat) (n m9 sp : Int) (τ ζ : Nat → Nat → Int) (g : Nat → Nat → Nat) (cs ss : Nat → Nat → Int32) (hOK : XOK n m9 sp τ ζ) (lab : Nat → Nat) (hXL : XL lab ax n m9 g) (o sz : Nat) (f : Nat → UInt64) (ho : 200 ≤ lab o) (t9 : Int) (hr0 : -2147483648 ≤ t9 ∧ t9 ≤ 2147483647) : Met l yL_seconds wsL_seconds ({ frames := 8, cells := 1, slots := 6, locals := 171 }) (zPT [.ref ax, .int (zI (t9)), .ref o] D G (fun H => H.size = sz ∧ XW D G ax n m9 sp τ ζ g cs ss H ∧ va_P D vwCl (oD G o f) H)) (zM (some (.int (zI (if 0 ≤ t9 ∧ t9 ≤ 99999 then 0 else 1)))) (LQ D G ax sz lab n m9 sp τ ζ (0 ≤ t9 ∧ t9 ≤ 99999) (n) (m9) (sp) (τ) (ζ) (ODv D G o (xSecs sp t9)) (OD D G o)) (LA lab o sz)) 1 6 (LA lab o sz) := by
  refine z_metX (vx_ofWH (cc := cL_seconds) (maxL := 4) (ret := some .int) (hh := [(0, 8, 11, 13)]) (by decide) rfl ?_)
  intro p e s m args below meth c s₁ B hml hv
  obtain ⟨hav, ⟨hsz, hW, hPo⟩, hK, hN, hT0⟩ := hv
  have hx := B.exec
  have hb := B.bytes
  have hr := B.returns
  have hts := atoms_spec (ws := wsL_seconds) B.pre
  have hown : s.vm.findClass RL = some m.cls := findClass_of_methodNamed B.named
  have hlocks : meth.locks = false := B.notSynchronized
  have htab := vx_table (x := yL_seconds) B (hts _ List.mem_cons_self)
  obtain ⟨hn0, hn8, hm0, hm12, -⟩ := id hOK
  obtain ⟨g2, hW2, hL2, hg2⟩ := XN hW hXL hn8
  have hos : o < sz := by have h9 := o_lt hPo; omega
  have hS : va_S (LA lab o sz) s.heap s.heap [] := va_S.rf
  refine z_entry hav (Nat.le_of_ble_eq_true rfl) rfl (fun ls hl => ?_)
  have hl : lv_has ls 4 [(0, .ref ax), (1, .int (zI (t9))), (2, .ref o)] := hl
  refine lv_aload_n hx hb dL_seconds_0 rfl (lv_at hl 2 rfl) ?_
  refine lv_iconst (v := zI (0)) hx hb dL_seconds_1 rfl ?_
  refine lv_aload_n hx hb dL_seconds_2 rfl (lv_at hl 0 rfl) ?_
  refine lv_iload_n hx hb dL_seconds_3 rfl (lv_at hl 1 rfl) ?_
  refine z_callX (vx_runV (As := [.int (zI (t9))]) (rest := [.int (zI (0)), .ref o]) ⟨hx, hb, hml, hown, hts⟩ (kX2_seconds l D G hl9 ax n m9 sp τ ζ g2 cs ss hOK t9 hr0) (cwV 1 hts gL_seconds_X2_seconds rfl rfl rfl (by decide +kernel) ⟨Nat.le_of_ble_eq_true rfl, Nat.le_of_ble_eq_true rfl⟩) (zPTreV (va_recv hK hW2.1 (ci := 2) (q0 := 0) rfl rfl) hK hN hT0 (hW2)) rfl rfl hl.1 rfl (lv_room (Nat.le_of_ble_eq_true rfl)) dL_seconds_4 ⟨Nat.le_of_ble_eq_true rfl, Nat.le_of_ble_eq_true rfl⟩) (fun E ce qx9 H1 hco hz1 hk1 hce hcv hcl => ?_) (fun hC => ?_)
  · have hS1 : va_S (LA lab o sz) s.heap H1 [] := ⟨hz1, fun q hq _ => hk1 q hq, fun _ h9 => nomatch h9⟩
    obtain ⟨rfl, hn1⟩ := hco
    refine vx_catch hown [] ⟨0, 8, 11, 13⟩ [] (htab.trans rfl) (fun _ h9 => nomatch h9) (by decide) (by decide) (hts (.classLink RL 13 "java/lang/IllegalArgumentException") (by decide +kernel)) (va_Nw.use rfl (hN.2.2.1 zIA (by decide +kernel))) hce hcv hcl ?_
    refine lv_astore_n (lv' := [(3, .ref qx9), (0, .ref ax), (1, .int (zI (t9))), (2, .ref o)]) hx hb dL_seconds_11 rfl hl (by decide) rfl (fun ls hl => ?_)
    refine lv_iconst (v := zI (1)) hx hb dL_seconds_12 rfl ?_
    exact z_vxret hx hb hr hlocks hS1 (⟨g2, lab, cs, ss, fun q9 => absurd q9 hn1, fun _ => ⟨XW.kp hW2 hL2 hn8 hm12 (fun q hq _ => hk1 q hq), hL2, f, o_kp hPo (hk1 o)⟩, fun _ _ => rfl⟩) ((if_neg hn1).symm) dL_seconds_13 (Nat.le_of_ble_eq_true rfl) (Nat.le_of_ble_eq_true rfl)
  · have hW1 := hW2
    have hL1 := hL2
    have hlb1 : ∀ q : Nat, q < sz → lab q = lab q := fun _ _ => rfl
    have hPo1 := hPo
    have hS1 := hS
    have ho1 : 200 ≤ lab o := by rw [hlb1 o hos]; exact ho
    refine z_dast2 hx hb hK hPo1 hS1 (Or.inr (Or.inl rfl)) 3 rfl Nat.one_pos dL_seconds_7 (fun H2 locs2 hPo2 hz2 hk2 hS2 => ?_)
    refine lv_goto (tgt := 14) hx hb dL_seconds_8 (by decide) ?_
    refine lv_iconst (v := zI (0)) hx hb dL_seconds_14 rfl ?_
    exact z_vxret hx hb hr hlocks hS2 (⟨g2, lab, cs, ss, fun _ => ⟨XW.kp hW1 hL1 (by omega) (by omega) (fun q hq hlb => hk2 q (fun e9 => by rw [e9] at hlb; omega)), hL1, _, (if_pos rfl), hPo2⟩, fun q9 => absurd hC q9, hlb1⟩) ((if_pos hC).symm) dL_seconds_15 (Nat.le_of_ble_eq_true rfl) (Nat.le_of_ble_eq_true rfl)
