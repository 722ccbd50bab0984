/-! ===== p31: the start: what the tables and the statement give ===== -/
set_option maxRecDepth 100000 in
theorem K_start {b : Nat} {s : State} (hts : ∀ w ∈ lw_tbl, w.before #[Value.ref b] s = true) : ∃ (D : va_G) (G : Nat → ClassId), va_K D vwCl (zTy G) s := by
  obtain ⟨c0, i0, h0⟩ := u_known (C := RX0) (T := TX0) (N := 4) (n := 4) hts inX0 (hts (.instantiable RX0 4) (by decide +kernel))
  obtain ⟨c1, i1, h1⟩ := u_known (C := RX1) (T := TX1) (N := 10) (n := 10) hts inX1 (hts (.instantiable RX1 10) (by decide +kernel))
  obtain ⟨c2, i2, h2⟩ := u_known (C := RX2) (T := TX2) (N := 5) (n := 5) hts inX2 (hts (.instantiable RX2 5) (by decide +kernel))
  obtain ⟨a0, k0, p0, f0, g0, e0⟩ := Cond.arrayClass_spec (hts (.arrayClass .int) (by decide +kernel))
  obtain ⟨p4, a4, k4, f4, -, g4, e4, n4⟩ := Cond.arrayOver_spec (hts (.arrayOver (.object "PolyDrums$Track")) (by decide +kernel))
  obtain ⟨p5, a5, k5, f5, -, g5, e5, n5⟩ := Cond.arrayOver_spec (hts (.arrayOver (.object "PolyDrums$Section")) (by decide +kernel))
  refine ⟨(fun k => match k with | 0 => c0 | 1 => c1 | _ => c2, fun k => match k with | 0 => i0 | 1 => i1 | _ => i2), fun k => match k with | 0 => a0 | 1 => a0 | 2 => a0 | 3 => a0 | 4 => a4 | _ => a5, ?_, ?_⟩
  · intro k q hq
    match k, hq with
    | 0, hq => cases hq; exact h0
    | 1, hq => cases hq; exact h1
    | 2, hq => cases hq; exact h2
    | k + 3, hq => simp [vwCl] at hq
  · intro k q hq
    match k, hq with
    | 0, hq => cases hq; exact ⟨fun n z => ⟨fun k h => (by cases h), k0, g0, p0, e0⟩, f0⟩
    | 1, hq => cases hq; exact ⟨fun n z => ⟨fun k h => (by cases h), k0, g0, p0, e0⟩, f0⟩
    | 2, hq => cases hq; exact ⟨fun n z => ⟨fun k h => (by cases h), k0, g0, p0, e0⟩, f0⟩
    | 3, hq => cases hq; exact ⟨fun n z => ⟨fun k h => (by cases h), k0, g0, p0, e0⟩, f0⟩
    | 4, hq => cases hq; exact ⟨fun n z => ⟨fun k h => (by cases h), k4, g4, p4, e4⟩, k4, p4, g4, e4, f4, n4⟩
    | 5, hq => cases hq; exact ⟨fun n z => ⟨fun k h => (by cases h), k5, g5, p5, e5⟩, k5, p5, g5, e5, f5, n5⟩
    | k + 6, hq => simp [zTy] at hq
theorem zNM_in : ∀ q ∈ zNM, Cond.methodLinkNest q.1 q.2.1 q.2.2 RX2 ∈ lw_tbl := by decide +kernel
theorem zNF_in : ∀ q ∈ zNF, Cond.fieldLinkNest RX2 q.1 q.2.1 q.2.2.1 q.2.2.2 RX2 ∈ lw_tbl := by decide +kernel
theorem zCa_in : ∀ E ∈ [zIA, zIS, zIO], Cond.castable E E ∈ lw_tbl := by decide +kernel
theorem zDe_in : ∀ C ∈ ["java/lang/RuntimeException", "java/lang/Exception", "java/lang/Throwable"], Cond.declares (Bundle.initS C) ∈ lw_tbl := by decide +kernel
theorem zAO_in : ∀ C ∈ ["PolyDrums$Track", "PolyDrums$Section"], Cond.arrayOver (.object C) ∈ lw_tbl := by decide +kernel
theorem zSt_in : ∀ q ∈ zSt, Cond.stringRef RX2 q.1 q.2 ∈ lw_tbl := by decide +kernel
theorem zSx_in : ∀ q ∈ zSt, Cond.exactly (.string RX2 q.1) "java/lang/String" ∈ flatC (Jvm.Cond.and given_1 narrow_1) := by decide +kernel
theorem zTs_in : Cond.isRef (.static Bundle.tN "UNASSIGNED_STACK" Bundle.steD) ∈ flatC (Jvm.Cond.and given_1 narrow_1) := by decide +kernel
theorem zTl_in : Cond.isRef (.static Bundle.tN "SUPPRESSED_SENTINEL" Bundle.listD) ∈ flatC (Jvm.Cond.and given_1 narrow_1) := by decide +kernel
theorem zN_start {b : Nat} {s : State} (hts : ∀ w ∈ lw_tbl, w.before #[Value.ref b] s = true) (hgv : (Jvm.Cond.and given_1 narrow_1).before #[Value.ref b] s = true) : zN s := by
  have hs := flat_of_before _ hgv
  have st : ∀ q ∈ zSt, ∃ a, vk_R RX2 q.1 q.2 a s := fun q hq => by
    obtain ⟨a, -, -, -, ha, -⟩ := Cond.exactly_spec (hs _ (zSx_in q hq))
    exact ⟨a, vk_R.of (hts _ (zSt_in q hq)) ha⟩
  obtain ⟨b1, h1⟩ := st (210, "an argument is beyond its limits") (by decide +kernel)
  obtain ⟨b2, h2⟩ := st (41, "there are 8 tracks") (by decide +kernel)
  obtain ⟨b3, h3⟩ := st (218, "there is no such track") (by decide +kernel)
  obtain ⟨b4, h4⟩ := st (215, "there is no such thing") (by decide +kernel)
  obtain ⟨b5, h5⟩ := st (115, "there are 12 sections") (by decide +kernel)
  refine ⟨fun q hq => va_Nw.of rfl (hts _ (zNM_in q hq)), fun q hq => va_Nw.of rfl (hts _ (zNF_in q hq)), fun E hE => va_Nw.of rfl (hts _ (zCa_in E hE)), fun q hq => absurd hq List.not_mem_nil, fun C hC => va_Nw.of rfl (hts _ (zDe_in C hC)), ⟨fun C hC => va_AO.of (hts _ (zAO_in C hC)), trivial⟩, fun k => if k = 210 then b1 else if k = 41 then b2 else if k = 218 then b3 else if k = 215 then b4 else b5, ?_⟩
  exact List.forall_mem_cons.mpr ⟨h1, List.forall_mem_cons.mpr ⟨h2, List.forall_mem_cons.mpr ⟨h3, List.forall_mem_cons.mpr ⟨h4, List.forall_mem_cons.mpr ⟨h5, fun _ h => absurd h List.not_mem_nil⟩⟩⟩⟩⟩
theorem zTz_start {b : Nat} {s : State} (hts : ∀ w ∈ lw_tbl, w.before #[Value.ref b] s = true) (hgv : (Jvm.Cond.and given_1 narrow_1).before #[Value.ref b] s = true) : zTz s.heap.size s s.heap := by
  have hs := flat_of_before _ hgv
  exact ⟨vx_Zqof (hts (.laysStatic Bundle.tN "UNASSIGNED_STACK" Bundle.steD) (by decide +kernel)) (hts (.initialized Bundle.tN) (by decide +kernel)) (hs _ zTs_in) (fun a h => Nat.not_le.mpr h), vx_Zqof (hts (.laysStatic Bundle.tN "SUPPRESSED_SENTINEL" Bundle.listD) (by decide +kernel)) (hts (.initialized Bundle.tN) (by decide +kernel)) (hs _ zTl_in) (fun a h => Nat.not_le.mpr h)⟩
