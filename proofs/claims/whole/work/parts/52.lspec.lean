/-! ===== the law's world: class, model, the two out arrays, by labels ===== -/
abbrev oL (G : Nat → ClassId) (o : Nat) (f : Nat → Int64) : va_W := [(o, .inl (G 2, 1, .inr (.inl f)))]
abbrev oD (G : Nat → ClassId) (o : Nat) (f : Nat → UInt64) : va_W := [(o, .inl (G 3, 1, .inr (.inr (.inr (.inl f)))))]
def OL (D : va_G) (G : Nat → ClassId) (o : Nat) (H : Heap) : Prop := ∃ f : Nat → Int64, va_P D vwCl (oL G o f) H
def OLv (D : va_G) (G : Nat → ClassId) (o : Nat) (v : Int64) (H : Heap) : Prop := ∃ f : Nat → Int64, f 0 = v ∧ va_P D vwCl (oL G o f) H
def OD (D : va_G) (G : Nat → ClassId) (o : Nat) (H : Heap) : Prop := ∃ f : Nat → UInt64, va_P D vwCl (oD G o f) H
def ODv (D : va_G) (G : Nat → ClassId) (o : Nat) (v : UInt64) (H : Heap) : Prop := ∃ f : Nat → UInt64, f 0 = v ∧ va_P D vwCl (oD G o f) H
theorem OLv.o {D : va_G} {G : Nat → ClassId} {o : Nat} {v : Int64} {H : Heap} (h : OLv D G o v H) : OL D G o H := by
  obtain ⟨f, -, h⟩ := h
  exact ⟨f, h⟩
theorem ODv.o {D : va_G} {G : Nat → ClassId} {o : Nat} {v : UInt64} {H : Heap} (h : ODv D G o v H) : OD D G o H := by
  obtain ⟨f, -, h⟩ := h
  exact ⟨f, h⟩
theorem o_kp {D : va_G} {o : Nat} {e : va_E} {H H1 : Heap} (h : va_P D vwCl [(o, e)] H) (hq : o < H.size → H1[o]? = H[o]?) : va_P D vwCl [(o, e)] H1 := by
  refine h.kept (fun i q hq' => ?_)
  match i, hq' with
  | 0, hq' => cases hq'; exact hq (h 0 _ rfl).lt
  | i + 1, hq' => simp at hq'
theorem o_lt {D : va_G} {o : Nat} {e : va_E} {H : Heap} (h : va_P D vwCl [(o, e)] H) : o < H.size := (h 0 _ rfl).lt
/-- what a law's helper may change -/
def LA (lab : Nat → Nat) (o sz : Nat) : Nat → Prop := fun q => lab q < 100 ∨ q = o ∨ sz ≤ q
/-- what it leaves: under C the new state and an answer, else the old one -/
def LQ (D : va_G) (G : Nat → ClassId) (ax sz : Nat) (lab : Nat → Nat) (n m sp : Int) (τ ζ : Nat → Nat → Int) (C : Prop) (n' m' sp' : Int) (τ' ζ' : Nat → Nat → Int) (OC OA : Heap → Prop) (H : Heap) : Prop :=
  ∃ (g' : Nat → Nat → Nat) (lab' : Nat → Nat) (cs' ss' : Nat → Nat → Int32), (C → XW D G ax n' m' sp' τ' ζ' g' cs' ss' H ∧ XL lab' ax n' m' g' ∧ OC H) ∧ (¬ C → XW D G ax n m sp τ ζ g' cs' ss' H ∧ XL lab' ax n m g' ∧ OA H) ∧ ∀ q : Nat, q < sz → lab' q = lab q
/-- the addresses beyond the tracks that stand don't matter -/
def xGn (n : Int) (ax : Nat) (g : Nat → Nat → Nat) : Nat → Nat → Nat := fun i k => if i = 0 ∨ i = 4 then g i k else if (k : Int) < n then g i k else ax
theorem xGn_0 (n : Int) (ax : Nat) (g : Nat → Nat → Nat) : xGn n ax g 0 = g 0 := by funext k; exact if_pos (Or.inl rfl)
theorem xGn_4 (n : Int) (ax : Nat) (g : Nat → Nat → Nat) : xGn n ax g 4 = g 4 := by funext k; exact if_pos (Or.inr rfl)
theorem xGn_in {n : Int} {ax : Nat} {g : Nat → Nat → Nat} {i k : Nat} (h : (k : Int) < n) : xGn n ax g i k = g i k := by
  unfold xGn
  by_cases q : i = 0 ∨ i = 4
  · rw [if_pos q]
  · rw [if_neg q, if_pos h]
theorem xGn_out {n : Int} {ax : Nat} {g : Nat → Nat → Nat} {i k : Nat} (hi : 1 ≤ i ∧ i ≤ 3) (h : ¬ (k : Int) < n) : xGn n ax g i k = ax := by
  unfold xGn
  rw [if_neg (by omega), if_neg h]
section XN
variable {D : va_G} {G : Nat → ClassId} {lab : Nat → Nat} {ax : Nat} {n m sp : Int} {τ ζ : Nat → Nat → Int} {g : Nat → Nat → Nat} {cs ss : Nat → Nat → Int32} {H H1 : Heap}
theorem XN (hW : XW D G ax n m sp τ ζ g cs ss H) (hL : XL lab ax n m g) (hn : n ≤ 8) : ∃ g2 : Nat → Nat → Nat, XW D G ax n m sp τ ζ g2 cs ss H ∧ XL lab ax n m g2 ∧ ∀ k : Nat, lab (g2 1 k) < 100 ∧ lab (g2 2 k) < 100 ∧ lab (g2 3 k) < 100 := by
  have h1 : xRef n (xGn n ax g 1) = xRef n (g 1) := by
    funext k
    unfold xRef
    by_cases q : (k : Int) < n
    · rw [if_pos q, if_pos q, xGn_in q]
    · rw [if_neg q, if_neg q]
  obtain ⟨hO, hT, hZ⟩ := hW
  obtain ⟨l1, l2, l3, l4, l5⟩ := hL
  refine ⟨xGn n ax g, ⟨?_, fun k hk => ?_, fun k hk => ?_⟩, ⟨l1, ?_, ?_, fun k hk => ?_, fun k hk => ?_⟩, fun k => ?_⟩
  · show va_P D vwCl [(ax, .inr (2, [.ref (xGn n ax g 0 0), .int (zI n), .ref (xGn n ax g 0 1), .int (zI m), .int (zI sp)])), (xGn n ax g 0 0, .inl (G 4, 8, .inr (.inr (.inr (.inr (xRef n (xGn n ax g 1))))))), (xGn n ax g 0 1, .inl (G 5, 12, .inr (.inr (.inr (.inr (xRef m (xGn n ax g 4)))))))] H
    rw [h1, xGn_0, xGn_4]
    exact hO
  · rw [xGn_in hk, xGn_in hk, xGn_in hk]
    exact hT k hk
  · rw [xGn_4]
    exact hZ k hk
  · rw [xGn_0]; exact l2
  · rw [xGn_0]; exact l3
  · rw [xGn_in hk, xGn_in hk, xGn_in hk]
    exact l4 k hk
  · rw [xGn_4]
    exact l5 k hk
  · by_cases hk : (k : Int) < n
    · rw [xGn_in hk, xGn_in hk, xGn_in hk]
      have := l4 k hk
      omega
    · rw [xGn_out (by omega) hk, xGn_out (by omega) hk, xGn_out (by omega) hk, l1]
      omega
/-- nothing of the class has changed -/
theorem XW.kp (h : XW D G ax n m sp τ ζ g cs ss H) (hL : XL lab ax n m g) (hn : n ≤ 8) (hm : m ≤ 12) (hfr : ∀ q : Nat, q < H.size → lab q < 100 → H1[q]? = H[q]?) : XW D G ax n m sp τ ζ g cs ss H1 := by
  obtain ⟨hO, hT, hZ⟩ := h
  obtain ⟨l1, l2, l3, l4, l5⟩ := hL
  refine ⟨hO.kept (fun i q hq => hfr _ (hO i q hq).lt ?_), fun j hj => ⟨(hT j hj).1.kept (fun i q hq => hfr _ ((hT j hj).1 i q hq).lt ?_), (hT j hj).2⟩, fun j hj => (hZ j hj).kept (fun i q hq => hfr _ (hZ j hj i q hq).lt ?_)⟩
  · match i, hq with
    | 0, hq => cases hq; show lab ax < 100; omega
    | 1, hq => cases hq; show lab (g 0 0) < 100; omega
    | 2, hq => cases hq; show lab (g 0 1) < 100; omega
    | i + 3, hq => simp [xOb] at hq
  · have hlj := l4 j hj
    match i, hq with
    | 0, hq => cases hq; show lab (g 1 j) < 100; omega
    | 1, hq => cases hq; show lab (g 2 j) < 100; omega
    | 2, hq => cases hq; show lab (g 3 j) < 100; omega
    | i + 3, hq => simp [xTw] at hq
  · match i, hq with
    | 0, hq => cases hq; show lab (g 4 j) < 100; have := l5 j hj; omega
    | i + 1, hq => simp [xZw] at hq
theorem XL.gt (h : XL lab ax n m g) : lab ax < 100 ∧ lab (g 0 0) < 100 ∧ lab (g 0 1) < 100 := ⟨by rw [h.1]; omega, by rw [h.2.1]; omega, by rw [h.2.2.1]; omega⟩
end XN
/-- the model's addresses -/
def ML (lab : Nat → Nat) (am : Nat) (h : Nat → Nat) : Prop := lab am = 100 ∧ ∀ j : Nat, j < 10 → lab (h j) = 101 + j
theorem ML.nd {lab : Nat → Nat} {am : Nat} {h : Nat → Nat} (hL : ML lab am h) : [am, h 0, h 1, h 2, h 3, h 4, h 5, h 6, h 7, h 8, h 9].Nodup := by
  have e : [am, h 0, h 1, h 2, h 3, h 4, h 5, h 6, h 7, h 8, h 9].map lab = [100, 101, 102, 103, 104, 105, 106, 107, 108, 109, 110] := by
    simp only [List.map, hL.1, hL.2 0 (by omega), hL.2 1 (by omega), hL.2 2 (by omega), hL.2 3 (by omega), hL.2 4 (by omega), hL.2 5 (by omega), hL.2 6 (by omega), hL.2 7 (by omega), hL.2 8 (by omega), hL.2 9 (by omega)]
  have h1 : ([am, h 0, h 1, h 2, h 3, h 4, h 5, h 6, h 7, h 8, h 9].map lab).Pairwise (· ≠ ·) := by rw [e]; decide
  exact (List.pairwise_map.mp h1).imp (fun hne e9 => hne (congrArg lab e9))
theorem ML.in {lab : Nat → Nat} {am : Nat} {h : Nat → Nat} (hL : ML lab am h) {q : Nat} (hq : q ∈ [am, h 0, h 1, h 2, h 3, h 4, h 5, h 6, h 7, h 8, h 9]) : 100 ≤ lab q ∧ lab q < 200 := by
  have h0 := hL.1
  have hj := hL.2
  simp only [List.mem_cons, List.not_mem_nil, or_false] at hq
  rcases hq with e | e | e | e | e | e | e | e | e | e | e
  · rw [e]; omega
  · rw [e, hj 0 (by omega)]; omega
  · rw [e, hj 1 (by omega)]; omega
  · rw [e, hj 2 (by omega)]; omega
  · rw [e, hj 3 (by omega)]; omega
  · rw [e, hj 4 (by omega)]; omega
  · rw [e, hj 5 (by omega)]; omega
  · rw [e, hj 6 (by omega)]; omega
  · rw [e, hj 7 (by omega)]; omega
  · rw [e, hj 8 (by omega)]; omega
  · rw [e, hj 9 (by omega)]; omega
section MK
variable {D : va_G} {G : Nat → ClassId} {lab lab' : Nat → Nat} {am : Nat} {th n m sp : Int} {h : Nat → Nat} {M : Nat → Nat → Int32} {H H1 : Heap}
theorem mW.at (hP : va_P D vwCl (mW G am th n m sp h M) H) : ∀ q ∈ [am, h 0, h 1, h 2, h 3, h 4, h 5, h 6, h 7, h 8, h 9], q < H.size := by
  intro q hq
  simp only [List.mem_cons, List.not_mem_nil, or_false] at hq
  rcases hq with e | e | e | e | e | e | e | e | e | e | e
  · rw [e]; exact (hP 0 _ rfl).lt
  · rw [e]; exact (hP 1 _ rfl).lt
  · rw [e]; exact (hP 2 _ rfl).lt
  · rw [e]; exact (hP 3 _ rfl).lt
  · rw [e]; exact (hP 4 _ rfl).lt
  · rw [e]; exact (hP 5 _ rfl).lt
  · rw [e]; exact (hP 6 _ rfl).lt
  · rw [e]; exact (hP 7 _ rfl).lt
  · rw [e]; exact (hP 8 _ rfl).lt
  · rw [e]; exact (hP 9 _ rfl).lt
  · rw [e]; exact (hP 10 _ rfl).lt
theorem mW.in {i : Nat} {q : Nat × va_E} (hq : (mW G am th n m sp h M)[i]? = some q) : q.1 ∈ [am, h 0, h 1, h 2, h 3, h 4, h 5, h 6, h 7, h 8, h 9] :=
  List.mem_map.mpr ⟨q, List.mem_of_getElem? hq, rfl⟩
theorem mW.kp (hP : va_P D vwCl (mW G am th n m sp h M) H) (hL : ML lab am h) (hfr : ∀ q : Nat, q < H.size → 100 ≤ lab q → lab q < 200 → H1[q]? = H[q]?) : va_P D vwCl (mW G am th n m sp h M) H1 :=
  hP.kept (fun i q hq => hfr _ (hP i q hq).lt (hL.in (mW.in hq)).1 (hL.in (mW.in hq)).2)
theorem ML.same (hL : ML lab am h) (hP : va_P D vwCl (mW G am th n m sp h M) H) (hlab : ∀ q : Nat, q < H.size → lab' q = lab q) : ML lab' am h := by
  refine ⟨by rw [hlab _ (hP 0 _ rfl).lt]; exact hL.1, fun j hj => ?_⟩
  rw [hlab _ (mW.at hP (h j) ?_)]
  · exact hL.2 j hj
  · match j, hj with
    | 0, _ => simp
    | 1, _ => simp
    | 2, _ => simp
    | 3, _ => simp
    | 4, _ => simp
    | 5, _ => simp
    | 6, _ => simp
    | 7, _ => simp
    | 8, _ => simp
    | 9, _ => simp
end MK
/-- the law's invariant -/
def LI (D : va_G) (G : Nat → ClassId) (ax am o1 o2 z0 : Nat) (h : Nat → Nat) (th : Int) (H : Heap) : Prop :=
  ∃ (lab : Nat → Nat) (n m sp : Int) (τ ζ : Nat → Nat → Int) (g : Nat → Nat → Nat) (cs ss M : Nat → Nat → Int32), XOK n m sp τ ζ ∧ MR n m τ ζ M ∧ XL lab ax n m g ∧ ML lab am h ∧ lab o1 = 200 ∧ lab o2 = 201 ∧ (∀ q : Nat, q < z0 → lab q = 300) ∧ XW D G ax n m sp τ ζ g cs ss H ∧ va_P D vwCl (mW G am th n m sp h M) H ∧ OL D G o1 H ∧ OD D G o2 H
/-- the states that come out of a call -/
theorem XOK.sp9 {n m sp : Int} {τ ζ : Nat → Nat → Int} (h : XOK n m sp τ ζ) {a : Int} (ha : 30 ≤ a ∧ a ≤ 300) : XOK n m a τ ζ := by
  obtain ⟨h1, h2, h3, h4, -, -, h7⟩ := h
  exact ⟨h1, h2, h3, h4, ha.1, ha.2, h7⟩
theorem XOK.drop9 {n m sp : Int} {τ ζ : Nat → Nat → Int} (h : XOK n m sp τ ζ) (hm : 1 ≤ m) : XOK n (m - 1) sp τ ζ := by
  obtain ⟨h1, h2, h3, h4, h5, h6, h7, h8, h9, h10⟩ := h
  exact ⟨h1, h2, by omega, by omega, h5, h6, h7, fun k hk => h8 k (by omega), fun q => h9 (by omega), fun k hk => h10 k (by omega)⟩
theorem XOK.add9 {n m sp : Int} {τ ζ : Nat → Nat → Int} (h : XOK n m sp τ ζ) (hn : n < 8) {f : Nat → Int} (hf : TOK f) : XOK (n + 1) m sp (va_up τ n.toNat f) ζ := by
  obtain ⟨h1, h2, h3, h4, h5, h6, h7, h8⟩ := h
  refine ⟨by omega, by omega, h3, h4, h5, h6, fun k hk => ?_, h8⟩
  by_cases e : k = n.toNat
  · rw [e, va_up_self]; exact hf
  · rw [va_up_ne _ _ e]; exact h7 k (by omega)
theorem XOK.sec9 {n m sp : Int} {τ ζ : Nat → Nat → Int} (h : XOK n m sp τ ζ) (hm : m < 12) {a b v : Int} (ha : 1 ≤ a ∧ a ≤ 5000) (hb : 0 ≤ b ∧ b ≤ 255) (hv : v = 0 ∨ v = 1) : XOK n (m + 1) sp τ (va_up ζ m.toNat (xZn (if m = 0 then 0 else ζ (m - 1).toNat 0 + ζ (m - 1).toNat 1) a b v)) := by
  have hzb := h.zb
  obtain ⟨h1, h2, h3, h4, h5, h6, h7, h8, h9, h10⟩ := h
  refine ⟨h1, h2, by omega, by omega, h5, h6, h7, fun k hk => ?_, fun _ => ?_, fun k hk => ?_⟩
  · by_cases e : k = m.toNat
    · rw [e, va_up_self]
      refine ⟨?_, ha.1, ha.2, hb.1, hb.2, hv⟩
      show 0 ≤ (if m = 0 then 0 else ζ (m - 1).toNat 0 + ζ (m - 1).toNat 1)
      by_cases q : m = 0
      · rw [if_pos q]; omega
      · rw [if_neg q]
        have := hzb (m - 1).toNat (by omega)
        omega
    · rw [va_up_ne _ _ e]; exact h8 k (by omega)
  · by_cases e : m = 0
    · subst e
      rw [show (0 : Int).toNat = 0 from rfl, va_up_self]
      exact if_pos rfl
    · rw [va_up_ne _ _ (show 0 ≠ m.toNat by omega)]; exact h9 (by omega)
  · have e1 : k ≠ m.toNat := by omega
    rw [va_up_ne _ _ e1]
    by_cases e : k + 1 = m.toNat
    · rw [e, va_up_self]
      show (if m = 0 then 0 else ζ (m - 1).toNat 0 + ζ (m - 1).toNat 1) = ζ k 0 + ζ k 1
      rw [if_neg (by omega), show (m - 1).toNat = k by omega]
    · rw [va_up_ne _ _ e]; exact h10 k (by omega)
theorem zK1 {C1 : Prop} [Decidable C1] (e : zI (if C1 then 0 else 1) = 0) : C1 := by
  by_cases h : C1
  · exact h
  · rw [if_neg h] at e
    exact absurd e (by decide)
theorem zK2 {C1 C2 : Prop} [Decidable C1] [Decidable C2] (e : zI (if C1 then (if C2 then 0 else 2) else 1) = 0) : C1 ∧ C2 := by
  by_cases h : C1
  · by_cases h2 : C2
    · exact ⟨h, h2⟩
    · rw [if_pos h, if_neg h2] at e
      exact absurd e (by decide)
  · rw [if_neg h] at e
    exact absurd e (by decide)
theorem z_cmp_self (x : Int64) : lg_cmp x x = 0 := by simp [lg_cmp]
section ZZ
variable {p : Program} {l : Launch} {e : Env} {R : Room} {s : State} {m : MethodId} {args : Array Value} {below : List Frame} {meth : Method} {c : Code} {H : Heap} {locs : List Loc} {cells slots : Nat} {Q : State → Prop}
variable {cc : ByteArray} {pc : Nat} {ls : Array Slot} {rest : List Value} {D : va_G} {cl : List vw_C} {A : Nat → Prop} {a : Nat} {tys : List (ClassId × FieldType)} {ws : va_W} {H0 : Heap}
/-- a store into the out array: nothing else changes -/
theorem z_last2 (hexec : p.tables.exec = Jvm.exec) (hb : c.code = cc) (hK : va_K D cl tys s) {f : Nat → Int64} {n : Nat} {cA : ClassId} (hP : va_P D cl [(a, .inl (cA, n, .inr (.inl f)))] H) (hS : va_S A H0 H locs) (hA : A a) (t0 : Nat) (ht : tys[t0]? = some (cA, .long)) {x : Int64} (hn : 0 < n) (hdg : decode cc pc = .ok (.lastore, 1))
    (kk : ∀ (H1 : Heap) (locs1 : List Loc), va_P D cl [(a, .inl (cA, n, .inr (.inl (vp_updL f 0 x))))] H1 → H1.size = H.size → (∀ q : Nat, q ≠ a → H1[q]? = H[q]?) → va_S A H0 H1 locs1 → W p l e R s m args below meth c H1 locs1 cells slots Q (F0 m (pc + 1) ls rest)) : W p l e R s m args below meth c H locs cells slots Q (F0 m pc ls (.long x :: .int (zI 0) :: .ref a :: rest)) := by
  have e0 : (zI 0).toNatClampNeg = 0 := by decide
  refine W.last hexec hb (hP 0 _ rfl) ((hK.2 t0 _ ht).1 n (fun j => .long (f j))) (fun q => by cases q) (by show ¬ (zI 0 < 0 ∨ (arrV _ _ _).slots.size ≤ _); rw [arrV_size, e0]; exact fun h => h.elim (fun h => absurd h (by decide)) (fun h => Nat.not_lt.mpr h hn)) rfl rfl hdg fun H1 e z oq => ?_
  refine kk H1 _ ?_ z oq (hS.put z oq hA)
  refine va_P.one ?_
  show H1[a]? = some (vp_cell _ _)
  rw [e]
  rw [vp_cell_l, vp_cell_l, arrV_store, e0]
  congr 2
  funext q
  by_cases hq : q = 0
  · subst hq
    simp [updV, vp_updL]
  · simp [updV, vp_updL, hq]
theorem z_dast2 (hexec : p.tables.exec = Jvm.exec) (hb : c.code = cc) (hK : va_K D cl tys s) {f : Nat → UInt64} {n : Nat} {cA : ClassId} (hP : va_P D cl [(a, .inl (cA, n, .inr (.inr (.inr (.inl f)))))] H) (hS : va_S A H0 H locs) (hA : A a) (t0 : Nat) (ht : tys[t0]? = some (cA, .double)) {x : UInt64} (hn : 0 < n) (hdg : decode cc pc = .ok (.dastore, 1))
    (kk : ∀ (H1 : Heap) (locs1 : List Loc), va_P D cl [(a, .inl (cA, n, .inr (.inr (.inr (.inl (vf_upd f 0 x))))))] H1 → H1.size = H.size → (∀ q : Nat, q ≠ a → H1[q]? = H[q]?) → va_S A H0 H1 locs1 → W p l e R s m args below meth c H1 locs1 cells slots Q (F0 m (pc + 1) ls rest)) : W p l e R s m args below meth c H locs cells slots Q (F0 m pc ls (.double x :: .int (zI 0) :: .ref a :: rest)) := by
  have e0 : (zI 0).toNatClampNeg = 0 := by decide
  refine W.dast hexec hb (hP 0 _ rfl) ((hK.2 t0 _ ht).1 n (fun j => .double (f j))) (fun q => by cases q) (by show ¬ (zI 0 < 0 ∨ (arrV _ _ _).slots.size ≤ _); rw [arrV_size, e0]; exact fun h => h.elim (fun h => absurd h (by decide)) (fun h => Nat.not_lt.mpr h hn)) rfl rfl hdg fun H1 e z oq => ?_
  refine kk H1 _ ?_ z oq (hS.put z oq hA)
  refine va_P.one ?_
  show H1[a]? = some (vp_cell _ _)
  rw [e]
  rw [vp_cell_d, vp_cell_d, arrV_store, e0]
  congr 2
  funext q
  by_cases hq : q = 0
  · subst hq
    simp [updV, vf_upd]
  · simp [updV, vf_upd, hq]
/-- an int of the script -/
theorem z_sld (hexec : p.tables.exec = Jvm.exec) (hb : c.code = cc) {b L : Nat} {xs : Nat → Int32} (hX : va_X b L xs s H0) (hbl : b < H0.size) (hbA : ¬ A b) (hS : va_S A H0 H locs) {i x : Int} (hi : 0 ≤ i ∧ i < L) (hL : L ≤ 100000) (hx : xs i.toNat = zI x) (hdg : decode cc pc = .ok (.iaload, 1))
    (kk : W p l e R s m args below meth c H locs cells slots Q (F0 m (pc + 1) ls (.int (zI x) :: rest))) : W p l e R s m args below meth c H locs cells slots Q (F0 m pc ls (.int (zI i) :: .ref b :: rest)) := by
  refine va_sld hexec hb hX hbl hbA hS (zI_in hi (by omega)) hdg ?_
  rw [zI_clamp (by omega), hx]
  exact kk
end ZZ
/-- a method that catches all that it throws -/
theorem z_metX {l : Launch} {y : MethodName} {ws : List Cond} {rm : Room} {Pc : Array Value → State → Prop} {Qc : Array Value → State → Outcome → State → Prop} {mc ms : Nat} {free : Addr → Prop} (h : vx_Met l y ws rm Pc Qc (fun _ _ _ => False) mc ms free) : Met l y ws rm Pc Qc mc ms free := by
  intro p e ha hc hk s m args below hf happ hp hk'
  obtain ⟨n, o, h1, h2, h3, h4⟩ := h p e ha hc hk s m args below hf happ hp hk'
  refine ⟨n, o, h1, h2, h3, ?_⟩
  rcases h4 with h4 | ⟨q, -, E, ce, L, hx, -⟩
  · exact h4
  · exact hx.elim
theorem z_vxret {p : Program} {l : Launch} {e : Env} {R : Room} {s : State} {m : MethodId} {args : Array Value} {below : List Frame} {meth : Method} {c : Code} {H : Heap} {locs : List Loc} {cells slots mc ms : Nat} {cc : ByteArray} {pc : Nat} {ls : Array Slot} {P : Heap → Prop} {A : Nat → Prop} {XC : String → State → State → Prop} {x y : Int} (hexec : p.tables.exec = Jvm.exec) (hb : c.code = cc) (hr : meth.sig.returnType = some .int) (hlocks : meth.locks = false) (hS : va_S A s.heap H locs) (h : P H) (hv : x = y) (hdg : decode cc pc = .ok (.ireturn, 1)) (hc : cells ≤ mc) (hs : slots ≤ ms) :
    W p l e R s m args below meth c H locs cells slots (vx_MQ below (zM (some (.int (zI y))) P A) XC args s mc ms A) (F0 m pc ls [.int (zI x)]) :=
  W.widen hc hs (vx_ret (zm_iret hexec hb hr hlocks hS h hv hdg))
theorem MR.drop9 {n m : Int} {τ ζ : Nat → Nat → Int} {M : Nat → Nat → Int32} (h : MR n m τ ζ M) : MR n (m - 1) τ ζ M := by
  obtain ⟨h1, h2, h3, h4, h5, h6⟩ := h
  exact ⟨h1, h2, h3, h4, h5, fun k hk => h6 k (by omega)⟩
theorem x_near0 {f : Nat → Int} (hf : TOK f) {t : Int} {k : Nat} : 0 ≤ (xNear f (xP f t) k).1 := by
  have hp := x_place hf t
  exact (xNear_b (f := f) (q := xP f t) hp.1 hp.2.1 (fun k _ => (xDelay_b hf k).1) k).1
theorem z_rc {k : Nat} (h : k ≤ 601024) : k ≤ room_1.cells := h
theorem z_rs {k : Nat} (h : k ≤ 7293034) : k ≤ room_1.slots := h
theorem zT.kp {s : State} {H : Heap} {locs : List Loc} (h : zT s s.heap) (hS : va_S (fun q => s.heap.size ≤ q) s.heap H locs) : zT s H :=
  ⟨vx_Zq.kept h.1 (fun a ha _ => hS.2.1 a ha (Nat.not_le.mpr ha)), vx_Zq.kept h.2 (fun a ha _ => hS.2.1 a ha (Nat.not_le.mpr ha))⟩
section FIN
variable {D : va_G} {G : Nat → ClassId} {lab : Nat → Nat} {ax am o1 o2 z0 : Nat} {h : Nat → Nat} {K n m sp n' m' sp' n2 m2 sp2 : Int} {τ ζ τ' ζ' : Nat → Nat → Int} {g : Nat → Nat → Nat} {cs ss M M' : Nat → Nat → Int32} {H1 H2 : Heap} {C : Prop}
theorem LI.fin {v : Int64} (hOK : XOK n m sp τ ζ) (hOK' : C → XOK n' m' sp' τ' ζ') (hM : MR n m τ ζ M) (hMC : C → MR n' m' τ' ζ' M') (hMN : ¬ C → M' = M) (hML : ML lab am h) (ho1 : lab o1 = 200) (ho2 : lab o2 = 201) (hz0 : ∀ q : Nat, q < z0 → lab q = 300)
    (hqC : C → XW D G ax n' m' sp' τ' ζ' g cs ss H1 ∧ XL lab ax n' m' g ∧ OLv D G o1 v H1) (hqN : ¬ C → XW D G ax n m sp τ ζ g cs ss H1 ∧ XL lab ax n m g ∧ OL D G o1 H1) (hO2 : OD D G o2 H1)
    (hPm : va_P D vwCl (mW G am K n2 m2 sp2 h M') H2) (hn1 : C → n2 = n' ∧ m2 = m' ∧ sp2 = sp') (hn2 : ¬ C → n2 = n ∧ m2 = m ∧ sp2 = sp) (hfr : ∀ q : Nat, q < H1.size → (lab q < 100 ∨ 200 ≤ lab q) → H2[q]? = H1[q]?) :
    LI D G ax am o1 o2 z0 h K H2 ∧ (C → OLv D G o1 v H2) := by
  obtain ⟨f2, hO2⟩ := hO2
  have hO2' : OD D G o2 H2 := ⟨f2, o_kp hO2 (fun q => hfr o2 q (Or.inr (by omega)))⟩
  by_cases hC : C
  · obtain ⟨hW, hL, f1, hf1, hO1⟩ := hqC hC
    obtain ⟨e1, e2, e3⟩ := hn1 hC
    subst e1; subst e2; subst e3
    have hOK2 := hOK' hC
    obtain ⟨-, hn8, -, hm12, -⟩ := id hOK2
    have hO1' := o_kp (H1 := H2) hO1 (fun q => hfr o1 q (Or.inr (by omega)))
    exact ⟨⟨lab, _, _, _, _, _, g, cs, ss, M', hOK2, hMC hC, hL, hML, ho1, ho2, hz0, hW.kp hL hn8 hm12 (fun q hq hl => hfr q hq (Or.inl hl)), hPm, ⟨f1, hO1'⟩, hO2'⟩, fun _ => ⟨f1, hf1, hO1'⟩⟩
  · obtain ⟨hW, hL, f1, hO1⟩ := hqN hC
    obtain ⟨e1, e2, e3⟩ := hn2 hC
    subst e1; subst e2; subst e3
    obtain ⟨-, hn8, -, hm12, -⟩ := id hOK
    have hO1' := o_kp (H1 := H2) hO1 (fun q => hfr o1 q (Or.inr (by omega)))
    exact ⟨⟨lab, _, _, _, _, _, g, cs, ss, M', hOK, by rw [hMN hC]; exact hM, hL, hML, ho1, ho2, hz0, hW.kp hL hn8 hm12 (fun q hq hl => hfr q hq (Or.inl hl)), hPm, ⟨f1, hO1'⟩, hO2'⟩, fun q => absurd q hC⟩
theorem LI.finD {v : UInt64} (hOK : XOK n m sp τ ζ) (hOK' : C → XOK n' m' sp' τ' ζ') (hM : MR n m τ ζ M) (hMC : C → MR n' m' τ' ζ' M') (hMN : ¬ C → M' = M) (hML : ML lab am h) (ho1 : lab o1 = 200) (ho2 : lab o2 = 201) (hz0 : ∀ q : Nat, q < z0 → lab q = 300)
    (hqC : C → XW D G ax n' m' sp' τ' ζ' g cs ss H1 ∧ XL lab ax n' m' g ∧ ODv D G o2 v H1) (hqN : ¬ C → XW D G ax n m sp τ ζ g cs ss H1 ∧ XL lab ax n m g ∧ OD D G o2 H1) (hO2 : OL D G o1 H1)
    (hPm : va_P D vwCl (mW G am K n2 m2 sp2 h M') H2) (hn1 : C → n2 = n' ∧ m2 = m' ∧ sp2 = sp') (hn2 : ¬ C → n2 = n ∧ m2 = m ∧ sp2 = sp) (hfr : ∀ q : Nat, q < H1.size → (lab q < 100 ∨ 200 ≤ lab q) → H2[q]? = H1[q]?) :
    LI D G ax am o1 o2 z0 h K H2 ∧ (C → ODv D G o2 v H2) := by
  obtain ⟨f2, hO2⟩ := hO2
  have hO2' : OL D G o1 H2 := ⟨f2, o_kp hO2 (fun q => hfr o1 q (Or.inr (by omega)))⟩
  by_cases hC : C
  · obtain ⟨hW, hL, f1, hf1, hO1⟩ := hqC hC
    obtain ⟨e1, e2, e3⟩ := hn1 hC
    subst e1; subst e2; subst e3
    have hOK2 := hOK' hC
    obtain ⟨-, hn8, -, hm12, -⟩ := id hOK2
    have hO1' := o_kp (H1 := H2) hO1 (fun q => hfr o2 q (Or.inr (by omega)))
    exact ⟨⟨lab, _, _, _, _, _, g, cs, ss, M', hOK2, hMC hC, hL, hML, ho1, ho2, hz0, hW.kp hL hn8 hm12 (fun q hq hl => hfr q hq (Or.inl hl)), hPm, hO2', ⟨f1, hO1'⟩⟩, fun _ => ⟨f1, hf1, hO1'⟩⟩
  · obtain ⟨hW, hL, f1, hO1⟩ := hqN hC
    obtain ⟨e1, e2, e3⟩ := hn2 hC
    subst e1; subst e2; subst e3
    obtain ⟨-, hn8, -, hm12, -⟩ := id hOK
    have hO1' := o_kp (H1 := H2) hO1 (fun q => hfr o2 q (Or.inr (by omega)))
    exact ⟨⟨lab, _, _, _, _, _, g, cs, ss, M', hOK, by rw [hMN hC]; exact hM, hL, hML, ho1, ho2, hz0, hW.kp hL hn8 hm12 (fun q hq hl => hfr q hq (Or.inl hl)), hPm, hO2', ⟨f1, hO1'⟩⟩, fun q => absurd q hC⟩
/-- the model alone was asked -/
theorem LI.finM {th : Int} (hOK : XOK n m sp τ ζ) (hM : MR n m τ ζ M) (hXL : XL lab ax n m g) (hML : ML lab am h) (ho1 : lab o1 = 200) (ho2 : lab o2 = 201) (hz0 : ∀ q : Nat, q < z0 → lab q = 300) (hW : XW D G ax n m sp τ ζ g cs ss H1) (hO1 : OL D G o1 H1) (hO2 : OD D G o2 H1)
    (hPm : va_P D vwCl (mW G am th n m sp h M) H2) (hfr : ∀ q : Nat, q < H1.size → (lab q < 100 ∨ 200 ≤ lab q) → H2[q]? = H1[q]?) : LI D G ax am o1 o2 z0 h th H2 := by
  obtain ⟨f1, hO1⟩ := hO1
  obtain ⟨f2, hO2⟩ := hO2
  obtain ⟨-, hn8, -, hm12, -⟩ := id hOK
  exact ⟨lab, n, m, sp, τ, ζ, g, cs, ss, M, hOK, hM, hXL, hML, ho1, ho2, hz0, hW.kp hXL hn8 hm12 (fun q hq hl => hfr q hq (Or.inl hl)), hPm, ⟨f1, o_kp hO1 (fun q => hfr o1 q (Or.inr (by omega)))⟩, ⟨f2, o_kp hO2 (fun q => hfr o2 q (Or.inr (by omega)))⟩⟩
end FIN
