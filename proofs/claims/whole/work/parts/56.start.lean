/-! ===== the start: what the tables and the statement give ===== -/
set_option maxRecDepth 100000 in
theorem K_start {b : Nat} {s : State} (hts : ∀ w ∈ lw_tbl, w.before #[Value.ref b] s = true) : ∃ (D : va_G) (G : Nat → ClassId), va_K D vwCl (zTy G) s := by
  obtain ⟨c0, i0, h0⟩ := u_known (C := RX0) (T := TX0) (N := 4) (n := 4) hts inX0 (hts (.instantiable RX0 4) (by decide +kernel))
  obtain ⟨c1, i1, h1⟩ := u_known (C := RX1) (T := TX1) (N := 10) (n := 10) hts inX1 (hts (.instantiable RX1 10) (by decide +kernel))
  obtain ⟨c2, i2, h2⟩ := u_known (C := RX2) (T := TX2) (N := 5) (n := 5) hts inX2 (hts (.instantiable RX2 5) (by decide +kernel))
  obtain ⟨c3, i3, h3⟩ := u_known (C := RX3) (T := TX3) (N := 14) (n := 14) hts inX3 (hts (.instantiable RX3 14) (by decide +kernel))
  obtain ⟨a0, k0, p0, f0, g0, e0⟩ := Cond.arrayClass_spec (hts (.arrayClass .int) (by decide +kernel))
  obtain ⟨a1, k1, p1, f1, g1, e1⟩ := Cond.arrayClass_spec (hts (.arrayClass .boolean) (by decide +kernel))
  obtain ⟨a2, k2, p2, f2, g2, e2⟩ := Cond.arrayClass_spec (hts (.arrayClass .long) (by decide +kernel))
  obtain ⟨a3, k3, p3, f3, g3, e3⟩ := Cond.arrayClass_spec (hts (.arrayClass .double) (by decide +kernel))
  obtain ⟨p4, a4, k4, f4, -, g4, e4, n4⟩ := Cond.arrayOver_spec (hts (.arrayOver (.object "PolyDrums$Track")) (by decide +kernel))
  obtain ⟨p5, a5, k5, f5, -, g5, e5, n5⟩ := Cond.arrayOver_spec (hts (.arrayOver (.object "PolyDrums$Section")) (by decide +kernel))
  refine ⟨(fun k => match k with | 0 => c0 | 1 => c1 | 2 => c2 | _ => c3, fun k => match k with | 0 => i0 | 1 => i1 | 2 => i2 | _ => i3), fun k => match k with | 0 => a0 | 1 => a1 | 2 => a2 | 3 => a3 | 4 => a4 | _ => a5, ?_, ?_⟩
  · intro k q hq
    match k, hq with
    | 0, hq => cases hq; exact h0
    | 1, hq => cases hq; exact h1
    | 2, hq => cases hq; exact h2
    | 3, hq => cases hq; exact h3
    | k + 4, hq => simp [vwCl] at hq
  · intro k q hq
    match k, hq with
    | 0, hq => cases hq; exact ⟨fun n z => ⟨fun k h => (by cases h), k0, g0, p0, e0⟩, f0⟩
    | 1, hq => cases hq; exact ⟨fun n z => ⟨fun k h => (by cases h), k1, g1, p1, e1⟩, f1⟩
    | 2, hq => cases hq; exact ⟨fun n z => ⟨fun k h => (by cases h), k2, g2, p2, e2⟩, f2⟩
    | 3, hq => cases hq; exact ⟨fun n z => ⟨fun k h => (by cases h), k3, g3, p3, e3⟩, f3⟩
    | 4, hq => cases hq; exact ⟨fun n z => ⟨fun k h => (by cases h), k4, g4, p4, e4⟩, k4, p4, g4, e4, f4, n4⟩
    | 5, hq => cases hq; exact ⟨fun n z => ⟨fun k h => (by cases h), k5, g5, p5, e5⟩, k5, p5, g5, e5, f5, n5⟩
    | k + 6, hq => simp [zTy] at hq
theorem zNM_in : ∀ q ∈ zNM, Cond.methodLinkNest q.1 q.2.1 q.2.2 RX2 ∈ lw_tbl := by decide +kernel
theorem zNF_in : ∀ q ∈ zNF, Cond.fieldLinkNest RX2 q.1 q.2.1 q.2.2.1 q.2.2.2 RX2 ∈ lw_tbl := by decide +kernel
theorem zCa_in : ∀ E ∈ [zIA, zIS, zIO], Cond.castable E E ∈ lw_tbl := by decide +kernel
theorem zDe_in : ∀ C ∈ ["java/lang/RuntimeException", "java/lang/Exception", "java/lang/Throwable"], Cond.declares (Bundle.initS C) ∈ lw_tbl := by decide +kernel
theorem zAO_in : ∀ C ∈ ["PolyDrums$Track", "PolyDrums$Section"], Cond.arrayOver (.object C) ∈ lw_tbl := by decide +kernel
theorem zCl_in : Cond.castable "[I" "java/lang/Cloneable" ∈ lw_tbl := by decide +kernel
theorem zSt_in : ∀ q ∈ zSt, Cond.stringRef RX2 q.1 q.2 ∈ lw_tbl := by decide +kernel
theorem zSx_in : ∀ q ∈ zSt, Cond.exactly (.string RX2 q.1) "java/lang/String" ∈ flatC (Jvm.Cond.and given_1 narrow_1) := by decide +kernel
theorem zNc_in : ∀ q ∈ [(zIS, zIA), (zIA, zIO)], Cond.not (.castable q.1 q.2) ∈ flatC (Jvm.Cond.and given_1 narrow_1) := by decide +kernel
theorem zTs_in : Cond.isRef (.static Bundle.tN "UNASSIGNED_STACK" Bundle.steD) ∈ flatC (Jvm.Cond.and given_1 narrow_1) := by decide +kernel
theorem zTl_in : Cond.isRef (.static Bundle.tN "SUPPRESSED_SENTINEL" Bundle.listD) ∈ flatC (Jvm.Cond.and given_1 narrow_1) := by decide +kernel
theorem zN_start {b : Nat} {s : State} (hts : ∀ w ∈ lw_tbl, w.before #[Value.ref b] s = true) (hgv : (Jvm.Cond.and given_1 narrow_1).before #[Value.ref b] s = true) : zN s := by
  have hs := flat_of_before _ hgv
  have st : ∀ q ∈ zSt, ∃ a, vk_R RX2 q.1 q.2 a s := fun q hq => by
    obtain ⟨a, -, -, -, ha, -⟩ := Cond.exactly_spec (hs _ (zSx_in q hq))
    exact ⟨a, vk_R.of (hts _ (zSt_in q hq)) ha⟩
  obtain ⟨b1, h1⟩ := st (210, "an argument is beyond its limits") (by decide +kernel)
  obtain ⟨b2, h2⟩ := st (41, "there are 8 tracks") (by decide +kernel)
  obtain ⟨b3, h3⟩ := st (218, "there is no such track") (by decide +kernel)
  obtain ⟨b4, h4⟩ := st (215, "there is no such thing") (by decide +kernel)
  obtain ⟨b5, h5⟩ := st (115, "there are 12 sections") (by decide +kernel)
  obtain ⟨b6, h6⟩ := st (123, "there is no section") (by decide +kernel)
  refine ⟨fun q hq => va_Nw.of rfl (hts _ (zNM_in q hq)), fun q hq => va_Nw.of rfl (hts _ (zNF_in q hq)), fun E hE => va_Nw.of rfl (hts _ (zCa_in E hE)), fun q hq => va_Nc.of (hs _ (zNc_in q hq)), fun C hC => va_Nw.of rfl (hts _ (zDe_in C hC)), ⟨fun C hC => va_AO.of (hts _ (zAO_in C hC)), va_Nw.of rfl (hts _ zCl_in)⟩, fun k => if k = 210 then b1 else if k = 41 then b2 else if k = 218 then b3 else if k = 215 then b4 else if k = 115 then b5 else b6, ?_⟩
  exact List.forall_mem_cons.mpr ⟨h1, List.forall_mem_cons.mpr ⟨h2, List.forall_mem_cons.mpr ⟨h3, List.forall_mem_cons.mpr ⟨h4, List.forall_mem_cons.mpr ⟨h5, List.forall_mem_cons.mpr ⟨h6, fun _ h => absurd h List.not_mem_nil⟩⟩⟩⟩⟩⟩
theorem zT_start {b : Nat} {s : State} (hts : ∀ w ∈ lw_tbl, w.before #[Value.ref b] s = true) (hgv : (Jvm.Cond.and given_1 narrow_1).before #[Value.ref b] s = true) : zT s s.heap := by
  have hs := flat_of_before _ hgv
  exact ⟨vx_Zqof (hts (.laysStatic Bundle.tN "UNASSIGNED_STACK" Bundle.steD) (by decide +kernel)) (hts (.initialized Bundle.tN) (by decide +kernel)) (hs _ zTs_in) (fun _ _ h => h), vx_Zqof (hts (.laysStatic Bundle.tN "SUPPRESSED_SENTINEL" Bundle.listD) (by decide +kernel)) (hts (.initialized Bundle.tN) (by decide +kernel)) (hs _ zTl_in) (fun _ _ h => h)⟩
/-- labels by a list of addresses -/
def labOf : List (Nat × Nat) → Nat → Nat
  | [], _ => 300
  | (a, v) :: L, q => if q = a then v else labOf L q
theorem labOf_in : ∀ {L : List (Nat × Nat)}, (L.map Prod.fst).Nodup → ∀ {a v : Nat}, (a, v) ∈ L → labOf L a = v := by
  intro L
  induction L with
  | nil => intro _ a v h; exact absurd h List.not_mem_nil
  | cons x L ih =>
    intro hn a v h
    obtain ⟨a0, v0⟩ := x
    rw [List.map_cons, List.nodup_cons] at hn
    show (if a = a0 then v0 else labOf L a) = v
    rcases List.mem_cons.mp h with e | h
    · cases e; exact if_pos rfl
    · have hne : a ≠ a0 := fun e => hn.1 (by rw [← e]; exact List.mem_map.mpr ⟨(a, v), h, rfl⟩)
      rw [if_neg hne]
      exact ih hn.2 h
theorem labOf_out : ∀ {L : List (Nat × Nat)} {q : Nat}, (∀ x ∈ L, q ≠ x.1) → labOf L q = 300 := by
  intro L
  induction L with
  | nil => intro q _; rfl
  | cons x L ih =>
    intro q h
    obtain ⟨a0, v0⟩ := x
    show (if q = a0 then v0 else labOf L q) = 300
    rw [if_neg (h (a0, v0) List.mem_cons_self)]
    exact ih (fun y hy => h y (List.mem_cons_of_mem _ hy))
theorem MR_0 : MR 0 0 (fun _ _ => 0) (fun _ _ => 0) (fun _ _ => 0) :=
  ⟨fun k hk => absurd hk (by omega), fun k hk => absurd hk (by omega), fun k hk => absurd hk (by omega), fun k _ _ => ⟨rfl, rfl, fun _ _ => rfl⟩, rfl, fun k hk => absurd hk (by omega)⟩
theorem XOK_0 : XOK 0 0 120 (fun _ _ => 0) (fun _ _ => 0) := ⟨by omega, by omega, by omega, by omega, by omega, by omega, fun k hk => absurd hk (by omega), fun k hk => absurd hk (by omega), fun h => absurd h (by omega), fun k hk => absurd hk (by omega)⟩
theorem xRef_0 (f : Nat → Nat) : xRef 0 f = fun _ => none := by
  funext k
  exact if_neg (by omega)
/-- the invariant at the loop's start -/
theorem LI.start {D : va_G} {G : Nat → ClassId} {ax am ta sa o1 o2 z0 s1 s2 s3 s4 s5 : Nat} {h : Nat → Nat} {H : Heap} (hax : z0 ≤ ax ∧ ax < s1) (hn1 : [ax, ta, sa].Nodup) (hta : s1 ≤ ta ∧ ta < s2) (hsa : s1 ≤ sa ∧ sa < s2) (ham : s2 ≤ am ∧ am < s3) (hn2 : [am, h 0, h 1, h 2, h 3, h 4, h 5, h 6, h 7, h 8, h 9].Nodup) (hh : ∀ j : Nat, j < 10 → s3 ≤ h j ∧ h j < s4) (ho1 : s4 ≤ o1 ∧ o1 < s5) (ho2 : s5 ≤ o2)
    (h1 : z0 ≤ s1) (h2 : s1 ≤ s2) (h3 : s2 ≤ s3) (h4 : s3 ≤ s4) (h5 : s4 ≤ s5)
    (hP1 : va_P D vwCl [(ax, .inr (2, [.ref ta, .int (zI 0), .ref sa, .int (zI 0), .int (zI 120)])), (ta, .inl (G 4, 8, .inr (.inr (.inr (.inr (fun _ => none)))))), (sa, .inl (G 5, 12, .inr (.inr (.inr (.inr (fun _ => none))))))] H)
    (hP2 : va_P D vwCl (mW G am 0 0 0 120 h (fun _ _ => 0)) H) (hO1 : OL D G o1 H) (hO2 : OD D G o2 H) : LI D G ax am o1 o2 z0 h 0 H := by
  obtain ⟨L, hL⟩ : ∃ L : List (Nat × Nat), L = [(ax, 1), (ta, 2), (sa, 3)] ++ ([(am, 100), (h 0, 101), (h 1, 102), (h 2, 103), (h 3, 104), (h 4, 105), (h 5, 106), (h 6, 107), (h 7, 108), (h 8, 109), (h 9, 110)] ++ [(o1, 200), (o2, 201)]) := ⟨_, rfl⟩
  have hm : ∀ q ∈ [am, h 0, h 1, h 2, h 3, h 4, h 5, h 6, h 7, h 8, h 9], s2 ≤ q ∧ q < s4 := by
    intro q hq
    simp only [List.mem_cons, List.not_mem_nil, or_false] at hq
    rcases hq with e | e | e | e | e | e | e | e | e | e | e
    · omega
    · have := hh 0 (by omega); omega
    · have := hh 1 (by omega); omega
    · have := hh 2 (by omega); omega
    · have := hh 3 (by omega); omega
    · have := hh 4 (by omega); omega
    · have := hh 5 (by omega); omega
    · have := hh 6 (by omega); omega
    · have := hh 7 (by omega); omega
    · have := hh 8 (by omega); omega
    · have := hh 9 (by omega); omega
  have hc : ∀ q ∈ [ax, ta, sa], z0 ≤ q ∧ q < s2 := by
    intro q hq
    simp only [List.mem_cons, List.not_mem_nil, or_false] at hq
    rcases hq with e | e | e <;> omega
  have ho : ∀ q ∈ [o1, o2], s4 ≤ q := by
    intro q hq
    simp only [List.mem_cons, List.not_mem_nil, or_false] at hq
    rcases hq with e | e <;> omega
  have hoN : [o1, o2].Nodup := by
    simp only [List.nodup_cons, List.mem_cons, List.not_mem_nil, or_false, List.nodup_nil, and_true, not_false_eq_true]
    omega
  have hfst : L.map Prod.fst = [ax, ta, sa] ++ ([am, h 0, h 1, h 2, h 3, h 4, h 5, h 6, h 7, h 8, h 9] ++ [o1, o2]) := by rw [hL]; rfl
  have hN : (L.map Prod.fst).Nodup := by
    rw [hfst]
    refine List.nodup_append.mpr ⟨hn1, List.nodup_append.mpr ⟨hn2, hoN, fun a ha b hb e => ?_⟩, fun a ha b hb e => ?_⟩
    · have := hm a ha; have := ho b hb; omega
    · have := hc a ha
      rcases List.mem_append.mp hb with hb | hb
      · have := hm b hb; omega
      · have := ho b hb; omega
  have hz : ∀ q : Nat, q < z0 → labOf L q = 300 := by
    intro q hq
    refine labOf_out (fun x hx e => ?_)
    have hx1 : x.1 ∈ L.map Prod.fst := List.mem_map.mpr ⟨x, hx, rfl⟩
    rw [hfst] at hx1
    rcases List.mem_append.mp hx1 with hb | hb
    · have := hc _ hb; omega
    · rcases List.mem_append.mp hb with hb | hb
      · have := hm _ hb; omega
      · have := ho _ hb; omega
  have at' : ∀ (i : Nat) (a v : Nat), L[i]? = some (a, v) → labOf L a = v := fun i a v hi => labOf_in hN (List.mem_of_getElem? hi)
  subst hL
  refine ⟨_, 0, 0, 120, fun _ _ => 0, fun _ _ => 0, fun i k => if i = 0 then (if k = 0 then ta else sa) else 0, fun _ _ => 0, fun _ _ => 0, fun _ _ => 0, XOK_0, MR_0, ⟨at' 0 _ _ rfl, at' 1 _ _ rfl, at' 2 _ _ rfl, fun k hk => absurd hk (by omega), fun k hk => absurd hk (by omega)⟩, ⟨at' 3 _ _ rfl, fun j hj => ?_⟩, at' 14 _ _ rfl, at' 15 _ _ rfl, hz, ⟨?_, fun k hk => absurd hk (by omega), fun k hk => absurd hk (by omega)⟩, hP2, hO1, hO2⟩
  · match j, hj with
    | 0, _ => exact at' 4 _ _ rfl
    | 1, _ => exact at' 5 _ _ rfl
    | 2, _ => exact at' 6 _ _ rfl
    | 3, _ => exact at' 7 _ _ rfl
    | 4, _ => exact at' 8 _ _ rfl
    | 5, _ => exact at' 9 _ _ rfl
    | 6, _ => exact at' 10 _ _ rfl
    | 7, _ => exact at' 11 _ _ rfl
    | 8, _ => exact at' 12 _ _ rfl
    | 9, _ => exact at' 13 _ _ rfl
  · unfold xOb
    rw [xRef_0, xRef_0]
    exact hP1
