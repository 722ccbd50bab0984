theorem z_dfl2 : ∀ j : Nat, j < 5 → defaultValue (tyX2 j) = vp_V [.null, .int (0), .null, .int (0), .int (0)] j := by
  intro j hj
  match j, hj with
  | 0, _ => rfl
  | 1, _ => rfl
  | 2, _ => rfl
  | 3, _ => rfl
  | 4, _ => rfl
theorem z_dfl3 : ∀ j : Nat, j < 14 → defaultValue (tyX3 j) = vp_V [.int (0), .int (0), .null, .null, .null, .null, .null, .null, .null, .int (0), .null, .null, .null, .int (0)] j := by
  intro j hj
  match j, hj with
  | 0, _ => rfl
  | 1, _ => rfl
  | 2, _ => rfl
  | 3, _ => rfl
  | 4, _ => rfl
  | 5, _ => rfl
  | 6, _ => rfl
  | 7, _ => rfl
  | 8, _ => rfl
  | 9, _ => rfl
  | 10, _ => rfl
  | 11, _ => rfl
  | 12, _ => rfl
  | 13, _ => rfl
theorem va_P.keptLt {D : va_G} {cl : List vw_C} {ws : va_W} {H H1 : Heap} (hP : va_P D cl ws H) (h : ∀ q : Nat, q < H.size → H1[q]? = H[q]?) : va_P D cl ws H1 := hP.kept (fun i q hq => h _ (hP i q hq).lt)
theorem va_S.old {H0 H : Heap} {locs : List Loc} (hS : va_S (fun q => H0.size ≤ q) H0 H locs) : ∀ q : Nat, q < H0.size → H[q]? = H0[q]? := fun q hq => hS.2.1 q hq (Nat.not_le.mpr hq)
theorem va_S.tr {n : Nat} {H0 H1 H2 : Heap} {locs l2 : List Loc} (h1 : va_S (fun q => n ≤ q) H0 H1 locs) (h2 : va_S (fun q => H1.size ≤ q) H1 H2 l2) : va_S (fun q => n ≤ q) H0 H2 [] :=
  ⟨Nat.le_trans h1.1 h2.1, fun q hq hn => (h2.old q (Nat.lt_of_lt_of_le hq h1.1)).trans (h1.2.1 q hq hn), fun _ h => nomatch h⟩
theorem mW.hlt {D : va_G} {G : Nat → ClassId} {am : Nat} {th n m sp : Int} {h : Nat → Nat} {M : Nat → Nat → Int32} {H : Heap} (hP : va_P D vwCl (mW G am th n m sp h M) H) (j : Nat) (hj : j < 10) : h j < H.size := by
  match j, hj with
  | 0, _ => exact (hP 1 _ rfl).lt
  | 1, _ => exact (hP 2 _ rfl).lt
  | 2, _ => exact (hP 3 _ rfl).lt
  | 3, _ => exact (hP 4 _ rfl).lt
  | 4, _ => exact (hP 5 _ rfl).lt
  | 5, _ => exact (hP 6 _ rfl).lt
  | 6, _ => exact (hP 7 _ rfl).lt
  | 7, _ => exact (hP 8 _ rfl).lt
  | 8, _ => exact (hP 9 _ rfl).lt
  | 9, _ => exact (hP 10 _ rfl).lt
theorem va_S.nil {A : Nat → Prop} {H0 H : Heap} {locs : List Loc} (h : va_S A H0 H locs) : va_S A H0 H [] := ⟨h.1, h.2.1, fun _ h => nomatch h⟩
set_option maxHeartbeats 4000000 in
set_option maxRecDepth 100000 in
/-- YOUR PART: from the entry, for every script of at most 2560 ints, the law comes to its end with true -/
theorem whole_start {p : Program} {e : Env} {s : State} {m : MethodId} {below : List Frame} {meth : Method} {c : Code} (l : Launch) (hflags : l.flags = flags0) {b L : Nat} {xs : Nat → Int32} (hL : L ≤ 2560) (C0 : lw_At p s m meth c b L xs) : W p l e room_1 s m #[Value.ref b] below meth c s.heap [] 0 0 (lw_Z below #[Value.ref b] s) (entryFrame m ([Value.ref b] : List Value).toArray 9) := by
  obtain ⟨hx, hb, hr, hml, hown, hts, hX, hbl, hlocks, hgv⟩ := id C0
  have hl9 : l.stackTraces = false := by unfold Launch.stackTraces; rw [hflags]; decide
  have hown : s.vm.findClass RL = some m.cls := hown
  have hb : c.code = cL_law := hb
  obtain ⟨D, G, hK⟩ := K_start hts
  have hN := zN_start hts hgv
  have hT0 := zT_start hts hgv
  have htl : ∀ w ∈ wsL_law, w.before #[Value.ref b] s = true := fun w hw => hts w (wsL_law_in w hw)
  have hP0 : ∀ H : Heap, va_P D vwCl [] H := fun H k q h => by simp at h
  have hD0 : ∀ A : Nat → Prop, va_D A [] := fun A => ⟨fun i j p q h => by simp at h, fun k q h => by simp at h⟩
  refine z_entry rfl (Nat.le_of_ble_eq_true rfl) rfl (fun ls hl => ?_)
  have hl : lv_has ls 9 [(0, .ref b)] := hl
  refine va_new (D := D) (ws := []) (A := fun q => s.heap.size ≤ q) (H0 := s.heap) (ci := 2) (C := RX2) (T := TX2) (N := 5) (fs := [.null, .int (0), .null, .int (0), .int (0)]) hx hb hts inX2 tyX2 tyX2_ok hown (htl (.classLink RL 8 RX2) (by decide +kernel)) (htl (.instantiable RX2 5) (by decide +kernel)) (htl (.initialized RX2) (by decide +kernel)) hK (hP0 _) (hD0 _) va_S.rf (fun _ h => h) rfl z_dfl2 (Nat.le_of_ble_eq_true rfl) (Nat.le_of_ble_eq_true rfl) dL_law_0 (fun ax H1 hP1 hD1 hS1 => ?_)
  have hP1 : va_P D vwCl [(ax, .inr (2, [.null, .int (0), .null, .int (0), .int (0)]))] H1 := hP1
  have hax : s.heap.size ≤ ax := hD1.2 0 _ rfl
  have hax1 : ax < H1.size := o_lt hP1
  refine lv_dup hx hb dL_law_3 rfl ?_
  refine z_callM (va_runI (As := []) (rest := [.ref ax]) ⟨hx, hb, hml, hown, htl⟩ (kX2_init l D G ax H1.size) (cwI 0 htl gL_law_X2_init rfl rfl rfl (htl (.initialized RX2) (by decide +kernel)) (htl (.methodLink RL 95 yX2_init) (by decide +kernel)) (htl (.instanceMethod yX2_init) (by decide +kernel)) rfl (by decide +kernel) ⟨Nat.le_of_ble_eq_true rfl, Nat.le_of_ble_eq_true rfl⟩) (zPreS hK hN ⟨rfl, hP1⟩) rfl rfl hl.1 rfl (lv_room (Nat.le_of_ble_eq_true rfl)) dL_law_4 ⟨Nat.le_of_ble_eq_true rfl, Nat.le_of_ble_eq_true rfl⟩) hS1 (fun q _ h9 => h9.elim (fun h9 => by rw [List.mem_singleton.mp h9]; exact hax) (fun h9 => Nat.le_trans hS1.1 h9)) (fun q h9 => h9.elim (fun h9 => by rw [List.mem_singleton.mp h9]; exact hax) (fun h9 => Nat.le_trans hS1.1 h9)) (fun H2 locs2 hp2 hz2 hk2 hS2 => ?_)
  obtain ⟨ta, sa, hP2, hnd2, hta, hsa⟩ := hp2
  have hta2 : ta < H2.size := (hP2 1 _ rfl).lt
  have hsa2 : sa < H2.size := (hP2 2 _ rfl).lt
  refine va_forget hS2.2.2 ?_
  refine W.widen (k := 10) (n := 100) (Nat.le_of_ble_eq_true rfl) (Nat.le_of_ble_eq_true rfl) ?_
  refine lv_astore_n (lv' := [(1, .ref ax), (0, .ref b)]) hx hb dL_law_7 rfl hl (by decide) rfl (fun ls hl => ?_)
  refine va_new (D := D) (ws := []) (A := fun q => H2.size ≤ q) (H0 := H2) (ci := 3) (C := RX3) (T := TX3) (N := 14) (fs := [.int (0), .int (0), .null, .null, .null, .null, .null, .null, .null, .int (0), .null, .null, .null, .int (0)]) hx hb hts inX3 tyX3 tyX3_ok hown (htl (.classLink RL 96 RX3) (by decide +kernel)) (htl (.instantiable RX3 14) (by decide +kernel)) (htl (.initialized RX3) (by decide +kernel)) hK (hP0 _) (hD0 _) va_S.rf (fun _ h => h) rfl z_dfl3 (Nat.le_of_ble_eq_true rfl) (Nat.le_of_ble_eq_true rfl) dL_law_8 (fun am H3 hP3 hD3 hS3 => ?_)
  have hP3 : va_P D vwCl [(am, .inr (3, [.int (0), .int (0), .null, .null, .null, .null, .null, .null, .null, .int (0), .null, .null, .null, .int (0)]))] H3 := hP3
  have ham : H2.size ≤ am := hD3.2 0 _ rfl
  have ham3 : am < H3.size := o_lt hP3
  have hS3' := hS2.tr hS3
  refine lv_dup hx hb dL_law_11 rfl ?_
  refine z_callM (va_runI (As := []) (rest := [.ref am]) ⟨hx, hb, hml, hown, htl⟩ (kX3_init l D G am H3.size) (cwI 0 htl gL_law_X3_init rfl rfl rfl (htl (.initialized RX3) (by decide +kernel)) (htl (.methodLink RL 98 yX3_init) (by decide +kernel)) (htl (.instanceMethod yX3_init) (by decide +kernel)) rfl (by decide +kernel) ⟨Nat.le_of_ble_eq_true rfl, Nat.le_of_ble_eq_true rfl⟩) (zPreS hK hN ⟨rfl, hP3⟩) rfl rfl hl.1 rfl (lv_room (Nat.le_of_ble_eq_true rfl)) dL_law_12 ⟨Nat.le_of_ble_eq_true rfl, Nat.le_of_ble_eq_true rfl⟩) hS3' (fun q _ h9 => h9.elim (fun h9 => by rw [List.mem_singleton.mp h9]; exact Nat.le_trans hS2.1 ham) (fun h9 => Nat.le_trans hS3'.1 h9)) (fun q h9 => h9.elim (fun h9 => by rw [List.mem_singleton.mp h9]; exact Nat.le_trans hS2.1 ham) (fun h9 => Nat.le_trans hS3'.1 h9)) (fun H4 locs4 hp4 hz4 hk4 hS4 => ?_)
  obtain ⟨h, hP4, hnd4, hh⟩ := hp4
  have hP4m : va_P D vwCl (mW G am 0 0 0 120 h (fun _ _ => 0)) H4 := hP4
  have hf4 : ∀ q : Nat, q < H2.size → H4[q]? = H2[q]? := fun q hq => (hk4 q (Nat.lt_of_lt_of_le hq hS3.1) (fun h9 => h9.elim (fun h9 => by have h8 := List.mem_singleton.mp h9; omega) (fun h9 => by have h8 := hS3.1; omega))).trans (hS3.old q hq)
  refine va_forget hS4.2.2 ?_
  refine W.widen (k := 30) (n := 2000) (Nat.le_of_ble_eq_true rfl) (Nat.le_of_ble_eq_true rfl) ?_
  refine lv_astore_n (lv' := [(2, .ref am), (1, .ref ax), (0, .ref b)]) hx hb dL_law_15 rfl hl (by decide) rfl (fun ls hl => ?_)
  refine lv_iconst (v := zI (1)) hx hb dL_law_16 rfl ?_
  refine z_newa (D := D) (ws := []) (A := fun q => H4.size ≤ q) (H0 := H4) (atype := .long) (ty := .long) hx hb (htl (.arrayClass .long) (by decide +kernel)) rfl hK (hP0 _) (hD0 _) va_S.rf (fun _ h => h) 2 rfl (N' := 1) (a0 := (1, .inr (.inl (fun _ => 0)))) (fun _ => rfl) rfl ⟨Nat.le_of_ble_eq_true rfl, Nat.le_of_ble_eq_true rfl⟩ (Nat.le_of_ble_eq_true rfl) (Nat.le_of_ble_eq_true rfl) dL_law_17 (fun o1 H5 hP5 _ hS5 ho1 => ?_)
  have hP5 : va_P D vwCl (oL G o1 (fun _ => 0)) H5 := hP5
  refine lv_astore_n (lv' := [(3, .ref o1), (2, .ref am), (1, .ref ax), (0, .ref b)]) hx hb dL_law_19 rfl hl (by decide) rfl (fun ls hl => ?_)
  refine lv_iconst (v := zI (1)) hx hb dL_law_20 rfl ?_
  refine z_newa (D := D) (ws := []) (A := fun q => H5.size ≤ q) (H0 := H5) (atype := .double) (ty := .double) hx hb (htl (.arrayClass .double) (by decide +kernel)) rfl hK (hP0 _) (hD0 _) va_S.rf (fun _ h => h) 3 rfl (N' := 1) (a0 := (1, .inr (.inr (.inr (.inl (fun _ => 0)))))) (fun _ => rfl) rfl ⟨Nat.le_of_ble_eq_true rfl, Nat.le_of_ble_eq_true rfl⟩ (Nat.le_of_ble_eq_true rfl) (Nat.le_of_ble_eq_true rfl) dL_law_21 (fun o2 H6 hP6 _ hS6 ho2 => ?_)
  have hP6 : va_P D vwCl (oD G o2 (fun _ => 0)) H6 := hP6
  refine lv_astore (lv' := [(4, .ref o2), (3, .ref o1), (2, .ref am), (1, .ref ax), (0, .ref b)]) hx hb dL_law_23 hl (by decide) rfl (fun ls hl => ?_)
  refine lv_iconst (v := zI (0)) hx hb dL_law_25 rfl ?_
  refine lv_istore (lv' := [(5, .int (zI (0))), (4, .ref o2), (3, .ref o1), (2, .ref am), (1, .ref ax), (0, .ref b)]) hx hb dL_law_26 hl (by decide) rfl (fun ls hl => ?_)
  have hS6' : va_S (fun q => s.heap.size ≤ q) s.heap H6 [] := (hS4.tr hS5).tr hS6
  have hI : LI D G ax am o1 o2 s.heap.size h 0 H6 := by
    have hP2' := ((hP2.keptLt hf4).keptLt hS5.old).keptLt hS6.old
    have hP4' := (hP4m.keptLt hS5.old).keptLt hS6.old
    have hP5' := hP5.keptLt hS6.old
    exact LI.start (s1 := H1.size) (s2 := H2.size) (s3 := H3.size) (s4 := H4.size) (s5 := H5.size) ⟨hax, hax1⟩ hnd2 ⟨hta, hta2⟩ ⟨hsa, hsa2⟩ ⟨ham, ham3⟩ hnd4 (fun j hj => ⟨hh j hj, mW.hlt hP4m j hj⟩) ⟨ho1, o_lt hP5⟩ ho2 hS1.1 hz2 hS3.1 hz4 hS5.1 hP2' hP4' ⟨_, hP5'⟩ ⟨_, hP6⟩
  refine W.widen (k := 100) (n := 4000) (Nat.le_of_ble_eq_true rfl) (Nat.le_of_ble_eq_true rfl) ?_
  exact law_loop l hl9 hx hb hml hown htl hK hN hT0 hX hbl hL (fun H1 locs1 cells slots ls1 hS1 hc hs => by
    refine lv_iconst (v := 1) hx hb dL_law_2005 rfl ?_
    refine va_forget hS1.2.2 ?_
    refine W.widen (k := 601024) (n := 7293034) hc hs ?_
    exact lw_ret (d0 := s.drawn) (Drawn.sameBut.refl s.drawn lw_cs) hx hb hr hlocks dL_law_2006) (L + 1) 0 0 100 4000 (by omega) rfl rfl (by omega) (by omega) H6 [] 0 ls hS6' hI (lv_sub hl [5, 4, 3, 2, 1, 0] rfl)
