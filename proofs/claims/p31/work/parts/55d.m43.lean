/-- the class and the told numbers at the beginning -/
theorem PI.start {D : va_G} {G : Nat → ClassId} {ax ta sa o z0 N : Nat} {f : Nat → Int32} {H H1 : Heap} (hz : z0 ≤ ax ∧ z0 ≤ ta ∧ z0 ≤ sa) (hn : [ax, ta, sa].Nodup)
    (hC0 : va_P D vwCl [(ax, .inr (2, [.ref ta, .int (zI 0), .ref sa, .int (zI 0), .int (zI 120)])), (ta, .inl (G 4, 8, .inr (.inr (.inr (.inr (fun _ => none)))))), (sa, .inl (G 5, 12, .inr (.inr (.inr (.inr (fun _ => none))))))] H)
    (hP1 : va_P D vwCl (oI G o N f) H1) (ho : H.size ≤ o) (hk1 : ∀ q : Nat, q < H.size → H1[q]? = H[q]?) : PI D G ax z0 o N 0 0 (fun _ _ => 0) (fun _ _ => 0) f H1 := by
  have hax : ax < H.size := (hC0 0 _ rfl).lt
  have hta : ta < H.size := (hC0 1 _ rfl).lt
  have hsa : sa < H.size := (hC0 2 _ rfl).lt
  simp only [List.nodup_cons, List.mem_cons, List.not_mem_nil, or_false, List.nodup_nil, and_true, not_or, not_false_eq_true] at hn
  have hC1 := hC0.keptLt hk1
  refine ⟨fun i k => if i = 0 then (if k = 0 then ta else sa) else 0, fun q => if q = ax then 1 else if q = ta then 2 else if q = sa then 3 else if q = o then 200 else 300, fun _ _ => 0, fun _ _ => 0, XOK_0, ⟨if_pos rfl, ?_, ?_, fun k hk => absurd hk (by omega), fun k hk => absurd hk (by omega)⟩, ?_, fun q hq => ?_, ⟨?_, fun k hk => absurd hk (by omega), fun k hk => absurd hk (by omega)⟩, hP1⟩
  · show (if ta = ax then 1 else if ta = ta then 2 else _) = 2
    rw [if_neg (by omega), if_pos rfl]
  · show (if sa = ax then 1 else if sa = ta then 2 else if sa = sa then 3 else _) = 3
    rw [if_neg (by omega), if_neg (by omega), if_pos rfl]
  · show (if o = ax then 1 else if o = ta then 2 else if o = sa then 3 else if o = o then 200 else 300) = 200
    rw [if_neg (by omega), if_neg (by omega), if_neg (by omega), if_pos rfl]
  · show (if q = ax then 1 else if q = ta then 2 else if q = sa then 3 else if q = o then 200 else 300) = 300
    rw [if_neg (by omega), if_neg (by omega), if_neg (by omega), if_neg (by omega)]
  · unfold xOb
    rw [xRef_0, xRef_0]
    exact hC1
set_option maxHeartbeats 4000000 in
set_option maxRecDepth 100000 in
theorem pw_sec (l : Launch) (hl9 : l.stackTraces = false) {p : Program} {e : Env} {s : State} {m : MethodId} {below : List Frame} {meth : Method} {c : Code} {Q : State → Prop} {D : va_G} {G : Nat → ClassId} {b L : Nat} {xs : Nat → Int32} {ax : Nat} {n : Int} {τ ζ : Nat → Nat → Int} {f : Nat → Int32} {o N : Nat} {H : Heap} {locs : List Loc} {cells slots : Nat} {ls : Array Slot} {k : Int} (hx : p.tables.exec = Jvm.exec) (hb : c.code = cL_law) (hml : c.maxLocals = 20) (hown : s.vm.findClass RL = some m.cls) (hts : ∀ w ∈ wsL_law, w.before #[Value.ref b] s = true) (hK : va_K D vwCl (zTy G) s) (hN : zN s) (hT0 : zTz s.heap.size s s.heap) (hX : va_X b L xs s s.heap) (hbl : b < s.heap.size) (hL9 : L ≤ 260) (hn : 2 ≤ n ∧ n ≤ 7) (hS : va_S (fun q => s.heap.size ≤ q) s.heap H locs) (hI : PI D G ax s.heap.size o N n 0 τ ζ f H) (hcB : cells ≤ 10000) (hsB : slots ≤ 100000) (hk : 0 ≤ k ∧ k ≤ 3) (hl : lv_has ls 20 [(0, .ref b), (1, .ref ax), (2, .int (zI (n))), (4, .int (zI (k)))]) (kend : ∀ (m9 : Int) (ζ1 : Nat → Nat → Int) (H1 : Heap) (locs1 : List Loc) (c1 s1 : Nat) (ls1 : Array Slot), 0 ≤ m9 ∧ m9 ≤ 3 → va_S (fun q => s.heap.size ≤ q) s.heap H1 locs1 → PI D G ax s.heap.size o N n m9 τ ζ1 f H1 → c1 ≤ cells + 10 → s1 ≤ slots + 100 → lv_has ls1 20 [(0, .ref b), (1, .ref ax), (2, .int (zI (n)))] → W p l e room_1 s m #[Value.ref b] below meth c H1 locs1 c1 s1 Q (F0 m 117 ls1 [])) : W p l e room_1 s m #[Value.ref b] below meth c H locs cells slots Q (F0 m 47 ls []) := by
  have hbz : ¬ s.heap.size ≤ b := Nat.not_le.mpr hbl
  have hzz : s.heap.size ≤ s.heap.size := Nat.le_refl _
  have hrc : ∀ k : Nat, k ≤ 600104 → k ≤ room_1.cells := fun _ h => h
  have hrs : ∀ k : Nat, k ≤ 7301314 → k ≤ room_1.slots := fun _ h => h
  have loop_47 : ∀ (fu : Nat) (k m9 : Int) (ζ : Nat → Nat → Int), (0 ≤ k ∧ k ≤ 3) → (0 ≤ m9 ∧ m9 + k ≤ 3) → k < (fu : Int) → ∀ (H : Heap) (locs : List Loc) (c1 s1 : Nat), ((c1 : Int) ≤ cells + 2 * (3 - k)) → ((s1 : Int) ≤ slots + 12 * (3 - k)) → (va_S (fun q => s.heap.size ≤ q) s.heap H locs) → (PI D G ax s.heap.size o N n m9 τ ζ f H) → ∀ ls : Array Slot, lv_has ls 20 [(0, .ref b), (1, .ref ax), (2, .int (zI (n))), (4, .int (zI (k)))] → W p l e room_1 s m #[Value.ref b] below meth c H locs (c1) (s1) Q (F0 m 47 ls []) := by
    intro fu
    induction fu with
    | zero =>
      intro k m9 ζ hk hm9 hm
      exfalso; omega
    | succ fu ih =>
      intro k m9 ζ hk hm9 hm H locs c1 s1 hc2 hs2 hS hI ls hl
      have ih_47 := ih
      clear ih
      obtain ⟨g, lab, cs, ss, hOK, hXL, ho, hzl, hW, hP⟩ := id hI
      refine lv_iload hx hb dL_law_47 (lv_at hl 3 rfl) ?_
      refine z_if_le (tgt := 117) hx hb (by omega) dL_law_49 (by decide) (fun c_1 => ?_) (fun c_1 => ?_)
      · exact kend _ _ _ _ _ _ _ (by omega) hS hI (by omega) (by omega) (lv_sub hl [0, 1, 2] rfl)
      · refine lv_aload_n hx hb dL_law_52 rfl (lv_at hl 1 rfl) ?_
        refine lv_iconst (v := zI (1)) hx hb dL_law_53 rfl ?_
        refine lv_aload_n hx hb dL_law_54 rfl (lv_at hl 0 rfl) ?_
        refine lv_bipush (v := zI (7)) hx hb dL_law_55 (by decide) ?_
        refine z_call (va_runS (As := [.ref b, .int (zI (7))]) (rest := [.int (zI (1)), .ref ax]) ⟨hx, hb, hml, hown, hts⟩ (kL_cell l b L xs hL9 (7) (by omega)) (va_cwS 2 hts gL_law_L_cell rfl rfl rfl (by decide +kernel) ⟨Nat.le_of_ble_eq_true rfl, Nat.le_of_ble_eq_true rfl⟩) (zPsreS (hX.kept (hS.2.1 b hbl hbz))) rfl rfl hl.1 rfl (lv_room (Nat.le_of_ble_eq_true rfl)) dL_law_57 ⟨hrc _ (by omega), hrs _ (by omega)⟩) ?_
        obtain ⟨x57, he_x57⟩ : ∃ q : Int32, pCl L xs (7) = q := ⟨_, rfl⟩
        refine z_raw he_x57 ?_
        refine lv_iload hx hb dL_law_60 (lv_at hl 3 rfl) ?_
        refine lv_ishr hx hb dL_law_62 ?_
        refine lv_bipush (v := zI (90)) hx hb dL_law_63 (by decide) ?_
        refine z_call (va_runS (As := [.int ((x57) >>> (zI (k) &&& 31)), .int (zI (90))]) (rest := [.int (zI (1)), .ref ax]) ⟨hx, hb, hml, hown, hts⟩ (kL_below l D G (((x57) >>> (zI (k) &&& 31))) (90) (by omega)) (va_cwS 2 hts gL_law_L_below rfl rfl rfl (by decide +kernel) ⟨Nat.le_of_ble_eq_true rfl, Nat.le_of_ble_eq_true rfl⟩) (zPreS hK hN trivial) rfl rfl hl.1 rfl (lv_room (Nat.le_of_ble_eq_true rfl)) dL_law_65 ⟨hrc _ (by omega), hrs _ (by omega)⟩) ?_
        obtain ⟨b65, he_b65, hb_b65⟩ : ∃ q : Int, pBl (((x57) >>> (zI (k) &&& 31))) (90) = q ∧ 0 ≤ q ∧ q < 90 := ⟨_, rfl, pBl_b (by omega)⟩
        refine z_val he_b65 ?_
        refine z_iadd hx hb dL_law_68 ?_
        refine lv_aload_n hx hb dL_law_69 rfl (lv_at hl 0 rfl) ?_
        refine lv_bipush (v := zI (8)) hx hb dL_law_70 (by decide) ?_
        refine z_call (va_runS (As := [.ref b, .int (zI (8))]) (rest := [.int (zI ((1) + (b65))), .ref ax]) ⟨hx, hb, hml, hown, hts⟩ (kL_cell l b L xs hL9 (8) (by omega)) (va_cwS 2 hts gL_law_L_cell rfl rfl rfl (by decide +kernel) ⟨Nat.le_of_ble_eq_true rfl, Nat.le_of_ble_eq_true rfl⟩) (zPsreS (hX.kept (hS.2.1 b hbl hbz))) rfl rfl hl.1 rfl (lv_room (Nat.le_of_ble_eq_true rfl)) dL_law_72 ⟨hrc _ (by omega), hrs _ (by omega)⟩) ?_
        obtain ⟨x72, he_x72⟩ : ∃ q : Int32, pCl L xs (8) = q := ⟨_, rfl⟩
        refine z_raw he_x72 ?_
        refine lv_iconst (v := zI (2)) hx hb dL_law_75 rfl ?_
        refine lv_iload hx hb dL_law_76 (lv_at hl 3 rfl) ?_
        refine z_imul hx hb dL_law_78 ?_
        refine lv_ishr hx hb dL_law_79 ?_
        refine lv_sipush (v := zI (256)) hx hb dL_law_80 (by decide) ?_
        refine z_call (va_runS (As := [.int ((x72) >>> (zI ((2) * (k)) &&& 31)), .int (zI (256))]) (rest := [.int (zI ((1) + (b65))), .ref ax]) ⟨hx, hb, hml, hown, hts⟩ (kL_below l D G (((x72) >>> (zI ((2) * (k)) &&& 31))) (256) (by omega)) (va_cwS 2 hts gL_law_L_below rfl rfl rfl (by decide +kernel) ⟨Nat.le_of_ble_eq_true rfl, Nat.le_of_ble_eq_true rfl⟩) (zPreS hK hN trivial) rfl rfl hl.1 rfl (lv_room (Nat.le_of_ble_eq_true rfl)) dL_law_83 ⟨hrc _ (by omega), hrs _ (by omega)⟩) ?_
        obtain ⟨b83, he_b83, hb_b83⟩ : ∃ q : Int, pBl (((x72) >>> (zI ((2) * (k)) &&& 31))) (256) = q ∧ 0 ≤ q ∧ q < 256 := ⟨_, rfl, pBl_b (by omega)⟩
        refine z_val he_b83 ?_
        refine lv_aload_n hx hb dL_law_86 rfl (lv_at hl 0 rfl) ?_
        refine lv_bipush (v := zI (9)) hx hb dL_law_87 (by decide) ?_
        refine z_call (va_runS (As := [.ref b, .int (zI (9))]) (rest := [.int (zI (b83)), .int (zI ((1) + (b65))), .ref ax]) ⟨hx, hb, hml, hown, hts⟩ (kL_cell l b L xs hL9 (9) (by omega)) (va_cwS 2 hts gL_law_L_cell rfl rfl rfl (by decide +kernel) ⟨Nat.le_of_ble_eq_true rfl, Nat.le_of_ble_eq_true rfl⟩) (zPsreS (hX.kept (hS.2.1 b hbl hbz))) rfl rfl hl.1 rfl (lv_room (Nat.le_of_ble_eq_true rfl)) dL_law_89 ⟨hrc _ (by omega), hrs _ (by omega)⟩) ?_
        obtain ⟨x89, he_x89⟩ : ∃ q : Int32, pCl L xs (9) = q := ⟨_, rfl⟩
        refine z_raw he_x89 ?_
        refine lv_iload hx hb dL_law_92 (lv_at hl 3 rfl) ?_
        refine lv_ishr hx hb dL_law_94 ?_
        refine lv_iconst (v := zI (2)) hx hb dL_law_95 rfl ?_
        refine z_call (va_runS (As := [.int ((x89) >>> (zI (k) &&& 31)), .int (zI (2))]) (rest := [.int (zI (b83)), .int (zI ((1) + (b65))), .ref ax]) ⟨hx, hb, hml, hown, hts⟩ (kL_below l D G (((x89) >>> (zI (k) &&& 31))) (2) (by omega)) (va_cwS 2 hts gL_law_L_below rfl rfl rfl (by decide +kernel) ⟨Nat.le_of_ble_eq_true rfl, Nat.le_of_ble_eq_true rfl⟩) (zPreS hK hN trivial) rfl rfl hl.1 rfl (lv_room (Nat.le_of_ble_eq_true rfl)) dL_law_96 ⟨hrc _ (by omega), hrs _ (by omega)⟩) ?_
        obtain ⟨b96, he_b96, hb_b96⟩ : ∃ q : Int, pBl (((x89) >>> (zI (k) &&& 31))) (2) = q ∧ 0 ≤ q ∧ q < 2 := ⟨_, rfl, pBl_b (by omega)⟩
        refine z_val he_b96 ?_
        refine z_pick hx hb (P := b96 = 0) dL_law_102 dL_law_103 dL_law_106 (fun kt kf => z_if_ne (tgt := 106) hx hb (by omega) dL_law_99 (by decide) (fun c9 => kf c9) (fun c9 => kt c9)) ?_
        refine z_raw (pO_z (b96 = 0)) ?_
        obtain ⟨v8, he_v8, hv8⟩ : ∃ q : Int, pO (b96 = 0) = q ∧ (q = 0 ∨ q = 1) := ⟨_, rfl, pO_b _⟩
        refine z_val he_v8 ?_
        have hA9 := PI.hA1 hXL hzl (H := H) (Nat.le_trans hzz hS.1)
        refine z_callXM (vx_runV (As := [.int (zI ((1) + (b65))), .int (zI (b83)), .int (zI (v8))]) (rest := []) ⟨hx, hb, hml, hown, hts⟩ (kX2_addSection l D G hl9 ax n m9 120 τ ζ g cs ss hOK lab hXL H.size ((1) + (b65)) (b83) (v8) (by omega) (by omega) (by omega)) (cwV 3 hts gL_law_X2_addSection rfl rfl rfl (by decide +kernel) ⟨Nat.le_of_ble_eq_true rfl, Nat.le_of_ble_eq_true rfl⟩) (zPTreV (va_recv hK hW.1 (ci := 2) (q0 := 0) rfl rfl) hK hN (hT0.kp hS).t ⟨rfl, hW⟩) rfl rfl hl.1 rfl (lv_room (Nat.le_of_ble_eq_true rfl)) dL_law_107 ⟨hrc _ (by omega), hrs _ (by omega)⟩) hS (fun q _ h9 => hA9 q h9) hA9 (fun E ce qx9 H1 locs1 hco hz1 hk1 hS1 hce hcv hcl => False.elim (hco.elim (fun h9 => h9.2 (by omega)) (fun h9 => h9.2.2 (by omega)))) (fun H2 locs2 hC hp1 hz1 hk1 hS1 => ?_)
        have hOK9 := hOK.sec9 hC.2 hC.1.1 hC.1.2 (show v8 = 0 ∨ v8 = 1 by omega)
        have hI9 := PI.sec hXL ho hzl (Nat.le_trans hzz hS.1) hP hOK9 hp1 hk1
        clear hA9 hp1 hk1
        have hS := hS1
        refine lv_pop hx hb dL_law_110 rfl ?_
        refine lv_iinc (v := zI (k - 1)) (lv' := [(4, .int (zI (k - 1))), (0, .ref b), (1, .ref ax), (2, .int (zI (n)))]) hx hb dL_law_111 hl (k := 3) rfl (zI_add (k) (-1)) (by decide) rfl (fun ls hl => ?_)
        refine lv_goto (tgt := 47) hx hb dL_law_114 (by decide) ?_
        exact ih_47 (k - 1) (m9 + 1) _ (by omega) (by omega) (by omega) _ _ _ _ (by omega) (by omega) (hS) (hI9) _ (lv_sub hl [1, 2, 3, 0] rfl)
  exact loop_47 (5) (k) (0) _ (by omega) (by omega) (by omega) _ _ _ _ (by omega) (by omega) (hS) (hI) _ (lv_sub hl [0, 1, 2, 3] rfl)

set_option maxHeartbeats 4000000 in
set_option maxRecDepth 100000 in
theorem pw_end (l : Launch) (hl9 : l.stackTraces = false) {p : Program} {e : Env} {s : State} {m : MethodId} {below : List Frame} {meth : Method} {c : Code} {Q : State → Prop} {D : va_G} {G : Nat → ClassId} {b L : Nat} {xs : Nat → Int32} {ax : Nat} {n m9 : Int} {τ ζ : Nat → Nat → Int} {f : Nat → Int32} {o N : Nat} {H : Heap} {locs : List Loc} {cells slots : Nat} {ls : Array Slot} {tm : Int} (hx : p.tables.exec = Jvm.exec) (hb : c.code = cL_law) (hml : c.maxLocals = 20) (hown : s.vm.findClass RL = some m.cls) (hts : ∀ w ∈ wsL_law, w.before #[Value.ref b] s = true) (hK : va_K D vwCl (zTy G) s) (hN : zN s) (hT0 : zTz s.heap.size s s.heap) (hX : va_X b L xs s s.heap) (hbl : b < s.heap.size) (hL9 : L ≤ 260) (hn : 2 ≤ n ∧ n ≤ 7) (hS : va_S (fun q => s.heap.size ≤ q) s.heap H locs) (hI : PI D G ax s.heap.size o N n m9 τ ζ f H) (hcB : cells ≤ 500000) (hsB : slots ≤ 6000000) (hl : lv_has ls 20 [(0, .ref b), (1, .ref ax), (2, .int (zI (n))), (4, .int (zI (tm)))]) (kend : ∀ (c1 s1 : Nat) (ls1 : Array Slot), c1 ≤ cells + 10 → s1 ≤ slots + 100 → W p l e room_1 s m #[Value.ref b] below meth c H locs c1 s1 Q (F0 m 718 ls1 [.int (zI (1))])) : W p l e room_1 s m #[Value.ref b] below meth c H locs cells slots Q (F0 m 702 ls []) := by
  have hbz : ¬ s.heap.size ≤ b := Nat.not_le.mpr hbl
  have hzz : s.heap.size ≤ s.heap.size := Nat.le_refl _
  have hrc : ∀ k : Nat, k ≤ 600104 → k ≤ room_1.cells := fun _ h => h
  have hrs : ∀ k : Nat, k ≤ 7301314 → k ≤ room_1.slots := fun _ h => h
  obtain ⟨g, lab, cs, ss, hOK, hXL, ho, hzl, hW, hP⟩ := id hI
  refine lv_aload_n hx hb dL_law_702 rfl (lv_at hl 1 rfl) ?_
  refine lv_bipush (v := zI (24)) hx hb dL_law_703 (by decide) ?_
  refine z_callX (vx_runV (As := [.int (zI (24))]) (rest := []) ⟨hx, hb, hml, hown, hts⟩ (kX2_seconds l D G hl9 ax (n) (m9) 120 τ ζ g cs ss hOK (24) (by omega)) (cwV 1 hts gL_law_X2_seconds rfl rfl rfl (by decide +kernel) ⟨Nat.le_of_ble_eq_true rfl, Nat.le_of_ble_eq_true rfl⟩) (zPTreV (va_recv hK hW.1 (ci := 2) (q0 := 0) rfl rfl) hK hN (hT0.kp hS).t hW) rfl rfl hl.1 rfl (lv_room (Nat.le_of_ble_eq_true rfl)) dL_law_705 ⟨hrc _ (by omega), hrs _ (by omega)⟩) (fun E ce qx9 H1 hco hz1 hk1 hce hcv hcl => False.elim (hco.2 (by omega))) (fun hC => ?_)
  refine lv_dconst0 hx hb dL_law_708 ?_
  refine lv_dcmp hx hb dL_law_709 ?_
  refine z_raw (y := zI 1) pSecs ?_
  refine z_if_le (tgt := 717) hx hb (by omega) dL_law_710 (by decide) (fun c_1 => ?_) (fun c_1 => ?_)
  · exfalso; omega
  · refine lv_iconst (v := zI (1)) hx hb dL_law_713 rfl ?_
    refine lv_goto (tgt := 718) hx hb dL_law_714 (by decide) ?_
    exact kend _ _ _ (by omega) (by omega)

set_option maxHeartbeats 4000000 in
set_option maxRecDepth 100000 in
theorem pw_begin (l : Launch) (hl9 : l.stackTraces = false) {p : Program} {e : Env} {s : State} {m : MethodId} {below : List Frame} {meth : Method} {c : Code} {Q : State → Prop} {D : va_G} {G : Nat → ClassId} {b L : Nat} {xs : Nat → Int32} {ax : Nat} {ta sa : Nat} {H : Heap} {locs : List Loc} {cells slots : Nat} {ls : Array Slot} (hx : p.tables.exec = Jvm.exec) (hb : c.code = cL_law) (hml : c.maxLocals = 20) (hown : s.vm.findClass RL = some m.cls) (hts : ∀ w ∈ wsL_law, w.before #[Value.ref b] s = true) (hK : va_K D vwCl (zTy G) s) (hN : zN s) (hT0 : zTz s.heap.size s s.heap) (hX : va_X b L xs s s.heap) (hbl : b < s.heap.size) (hL9 : L ≤ 260) (hS : va_S (fun q => s.heap.size ≤ q) s.heap H locs) (hC0 : va_P D vwCl [(ax, .inr (2, [.ref ta, .int (zI 0), .ref sa, .int (zI 0), .int (zI 120)])), (ta, .inl (G 4, 8, .inr (.inr (.inr (.inr (fun _ => none)))))), (sa, .inl (G 5, 12, .inr (.inr (.inr (.inr (fun _ => none))))))] H) (hnd : [ax, ta, sa].Nodup) (hzs : s.heap.size ≤ ax ∧ s.heap.size ≤ ta ∧ s.heap.size ≤ sa) (hcB : cells ≤ 100) (hsB : slots ≤ 1000) (hl : lv_has ls 20 [(1, .ref ax), (0, .ref b)]) (kend : ∀ (H1 : Heap) (locs1 : List Loc) (c1 s1 : Nat) (ls1 : Array Slot), va_S (fun q => s.heap.size ≤ q) s.heap H1 locs1 → c1 ≤ 600104 → s1 ≤ 7301314 → W p l e room_1 s m #[Value.ref b] below meth c H1 locs1 c1 s1 Q (F0 m 718 ls1 [.int (zI (1))])) : W p l e room_1 s m #[Value.ref b] below meth c H locs cells slots Q (F0 m 8 ls []) := by
  have hbz : ¬ s.heap.size ≤ b := Nat.not_le.mpr hbl
  have hzz : s.heap.size ≤ s.heap.size := Nat.le_refl _
  have hrc : ∀ k : Nat, k ≤ 600104 → k ≤ room_1.cells := fun _ h => h
  have hrs : ∀ k : Nat, k ≤ 7301314 → k ≤ room_1.slots := fun _ h => h
  refine lv_iconst (v := zI (2)) hx hb dL_law_8 rfl ?_
  refine lv_aload_n hx hb dL_law_9 rfl (lv_at hl 1 rfl) ?_
  refine lv_iconst (v := zI (0)) hx hb dL_law_10 rfl ?_
  refine z_call (va_runS (As := [.ref b, .int (zI (0))]) (rest := [.int (zI (2))]) ⟨hx, hb, hml, hown, hts⟩ (kL_cell l b L xs hL9 (0) (by omega)) (va_cwS 2 hts gL_law_L_cell rfl rfl rfl (by decide +kernel) ⟨Nat.le_of_ble_eq_true rfl, Nat.le_of_ble_eq_true rfl⟩) (zPsreS (hX.kept (hS.2.1 b hbl hbz))) rfl rfl hl.1 rfl (lv_room (Nat.le_of_ble_eq_true rfl)) dL_law_11 ⟨hrc _ (by omega), hrs _ (by omega)⟩) ?_
  obtain ⟨x11, he_x11⟩ : ∃ q : Int32, pCl L xs (0) = q := ⟨_, rfl⟩
  refine z_raw he_x11 ?_
  refine lv_bipush (v := zI (6)) hx hb dL_law_14 (by decide) ?_
  refine z_call (va_runS (As := [.int (x11), .int (zI (6))]) (rest := [.int (zI (2))]) ⟨hx, hb, hml, hown, hts⟩ (kL_below l D G ((x11)) (6) (by omega)) (va_cwS 2 hts gL_law_L_below rfl rfl rfl (by decide +kernel) ⟨Nat.le_of_ble_eq_true rfl, Nat.le_of_ble_eq_true rfl⟩) (zPreS hK hN trivial) rfl rfl hl.1 rfl (lv_room (Nat.le_of_ble_eq_true rfl)) dL_law_16 ⟨hrc _ (by omega), hrs _ (by omega)⟩) ?_
  obtain ⟨b16, he_b16, hb_b16⟩ : ∃ q : Int, pBl ((x11)) (6) = q ∧ 0 ≤ q ∧ q < 6 := ⟨_, rfl, pBl_b (by omega)⟩
  refine z_val he_b16 ?_
  refine z_iadd hx hb dL_law_19 ?_
  refine lv_istore_n (lv' := [(2, .int (zI ((2) + (b16)))), (1, .ref ax), (0, .ref b)]) hx hb dL_law_20 rfl hl (by decide) rfl (fun ls hl => ?_)
  refine lv_sipush (v := zI (1600)) hx hb dL_law_21 (by decide) ?_
  refine va_forget hS.2.2 ?_
  refine z_newa (D := D) (ws := []) (A := fun q => H.size ≤ q) (H0 := H) (atype := .int) (ty := .int) hx hb (hts (.arrayClass .int) (by decide +kernel)) rfl hK (fun k q h => by simp at h) ⟨fun i j p q h => by simp at h, fun k q h => by simp at h⟩ va_S.rf (fun _ h => h) 0 rfl (N' := 1600) (a0 := (1600, .inl (fun _ => 0))) (fun _ => rfl) rfl ⟨Nat.le_of_ble_eq_true rfl, Nat.le_of_ble_eq_true rfl⟩ (hrc _ (by omega)) (hrs _ (by omega)) dL_law_24 (fun o H8 hPn _ hSn hon => ?_)
  have hI : PI D G ax s.heap.size o 1600 0 0 (fun _ _ => 0) (fun _ _ => 0) (fun _ => 0) H8 := PI.start hzs hnd hC0 hPn hon hSn.old
  have hS := hS.tr hSn
  refine lv_astore_n (lv' := [(3, .ref o), (2, .int (zI ((2) + (b16)))), (1, .ref ax), (0, .ref b)]) hx hb dL_law_26 rfl hl (by decide) rfl (fun ls hl => ?_)
  refine lv_aload_n hx hb dL_law_27 rfl (lv_at hl 2 rfl) ?_
  refine lv_aload_n hx hb dL_law_28 rfl (lv_at hl 3 rfl) ?_
  refine lv_iconst (v := zI (1)) hx hb dL_law_29 rfl ?_
  refine lv_iload_n hx hb dL_law_30 rfl (lv_at hl 1 rfl) ?_
  refine lv_aload_n hx hb dL_law_31 rfl (lv_at hl 0 rfl) ?_
  refine z_callM (va_runS (As := [.ref ax, .ref b, .int (zI (1)), .int (zI ((2) + (b16))), .ref o]) (rest := []) ⟨hx, hb, hml, hown, hts⟩ (kL_tracks l D G hl9 ax s.heap.size o b L xs hL9 hbz ((2) + (b16)) (by omega) (fun _ _ => 0) (fun _ _ => 0) (fun _ => 0)) (va_cwS 5 hts gL_law_L_tracks rfl rfl rfl (by decide +kernel) ⟨Nat.le_of_ble_eq_true rfl, Nat.le_of_ble_eq_true rfl⟩) (zPXreS hK hN (hT0.kp hS) (hX.kept (hS.2.1 b hbl hbz)) ⟨hS.1, hI⟩) rfl rfl hl.1 rfl (lv_room (Nat.le_of_ble_eq_true rfl)) dL_law_32 ⟨hrc _ (by omega), hrs _ (by omega)⟩) hS (fun q _ h9 => h9) (fun q h9 => h9) (fun H9 locs9 hp1 hz1 hk1 hS1 => ?_)
  obtain ⟨τ, f, hI, hPB⟩ := hp1
  have hS := hS1
  refine lv_aload_n hx hb dL_law_35 rfl (lv_at hl 3 rfl) ?_
  refine lv_bipush (v := zI (6)) hx hb dL_law_36 (by decide) ?_
  refine z_call (va_runS (As := [.ref b, .int (zI (6))]) (rest := []) ⟨hx, hb, hml, hown, hts⟩ (kL_cell l b L xs hL9 (6) (by omega)) (va_cwS 2 hts gL_law_L_cell rfl rfl rfl (by decide +kernel) ⟨Nat.le_of_ble_eq_true rfl, Nat.le_of_ble_eq_true rfl⟩) (zPsreS (hX.kept (hS.2.1 b hbl hbz))) rfl rfl hl.1 rfl (lv_room (Nat.le_of_ble_eq_true rfl)) dL_law_38 ⟨hrc _ (by omega), hrs _ (by omega)⟩) ?_
  obtain ⟨x38, he_x38⟩ : ∃ q : Int32, pCl L xs (6) = q := ⟨_, rfl⟩
  refine z_raw he_x38 ?_
  refine lv_iconst (v := zI (4)) hx hb dL_law_41 rfl ?_
  refine z_call (va_runS (As := [.int (x38), .int (zI (4))]) (rest := []) ⟨hx, hb, hml, hown, hts⟩ (kL_below l D G ((x38)) (4) (by omega)) (va_cwS 2 hts gL_law_L_below rfl rfl rfl (by decide +kernel) ⟨Nat.le_of_ble_eq_true rfl, Nat.le_of_ble_eq_true rfl⟩) (zPreS hK hN trivial) rfl rfl hl.1 rfl (lv_room (Nat.le_of_ble_eq_true rfl)) dL_law_42 ⟨hrc _ (by omega), hrs _ (by omega)⟩) ?_
  obtain ⟨b42, he_b42, hb_b42⟩ : ∃ q : Int, pBl ((x38)) (4) = q ∧ 0 ≤ q ∧ q < 4 := ⟨_, rfl, pBl_b (by omega)⟩
  refine z_val he_b42 ?_
  refine lv_istore (lv' := [(4, .int (zI (b42))), (3, .ref o), (2, .int (zI ((2) + (b16)))), (1, .ref ax), (0, .ref b)]) hx hb dL_law_45 hl (by decide) rfl (fun ls hl => ?_)
  refine pw_sec l hl9 hx hb hml hown hts hK hN hT0 hX hbl hL9 (k := b42) (n := (2) + (b16)) (by omega) hS hI (by omega) (by omega) (by omega) (lv_sub hl [4, 3, 2, 0] rfl) (fun m9 ζ9 H10 locs10 c10 s10 ls hm9 hS hI hc10 hs10 hl => ?_)
  refine lv_iconst (v := zI (0)) hx hb dL_law_117 rfl ?_
  refine lv_istore (lv' := [(4, .int (zI (0))), (0, .ref b), (1, .ref ax), (2, .int (zI ((2) + (b16))))]) hx hb dL_law_118 hl (by decide) rfl (fun ls hl => ?_)
  exact pw_times l hl9 hx hb hml hown hts hK hN hT0 hX hbl hL9 (n := (2) + (b16)) (by omega) hS hI hPB (by omega) (by omega) (lv_sub hl [1, 2, 3, 0] rfl) (fun tm o1 N1 τ1 f1 H1 locs1 c1 s1 ls1 hS1 hI1 hc1 hs1 hl1 => pw_end l hl9 hx hb hml hown hts hK hN hT0 hX hbl hL9 (n := (2) + (b16)) (by omega) hS1 hI1 (by omega) (by omega) hl1 (fun c2 s2 ls2 hc2 hs2 => kend _ _ _ _ _ hS1 (by omega) (by omega)))
