/-! ===== a machine grows and shrinks ===== -/
theorem z_Dn2 {A : Nat → Prop} {ws : va_W} {L : List Nat} (h : L.Nodup) (hw : ws.map Prod.fst = L) (hA : ∀ a ∈ L, A a) : va_D A ws := by
  subst hw
  exact (z_Dof h rfl).weaken (fun k q hk _ => hA _ (List.mem_map.mpr ⟨q, List.mem_of_getElem? hk, rfl⟩))
theorem XW.lt {D : va_G} {G : Nat → ClassId} {ax : Nat} {n m sp : Int} {τ ζ : Nat → Nat → Int} {g : Nat → Nat → Nat} {cs ss : Nat → Nat → Int32} {H : Heap} (h : XW D G ax n m sp τ ζ g cs ss H) : ax < H.size ∧ g 0 0 < H.size ∧ g 0 1 < H.size ∧ (∀ k : Nat, (k : Int) < n → g 1 k < H.size ∧ g 2 k < H.size ∧ g 3 k < H.size) ∧ ∀ k : Nat, (k : Int) < m → g 4 k < H.size :=
  ⟨(h.1 0 _ rfl).lt, (h.1 1 _ rfl).lt, (h.1 2 _ rfl).lt, fun k hk => ⟨((h.2.1 k hk).1 0 _ rfl).lt, ((h.2.1 k hk).1 1 _ rfl).lt, ((h.2.1 k hk).1 2 _ rfl).lt⟩, fun k hk => (h.2.2 k hk 0 _ rfl).lt⟩
/-- the tracks' and the sections' cells stay, where only others change -/
theorem XW.kept2 {D : va_G} {G : Nat → ClassId} {lab : Nat → Nat} {ax : Nat} {n m sp : Int} {τ ζ : Nat → Nat → Int} {g : Nat → Nat → Nat} {cs ss : Nat → Nat → Int32} {H H1 : Heap} (h : XW D G ax n m sp τ ζ g cs ss H) (hL : XL lab ax n m g) (hfr : ∀ q : Nat, q < H.size → 10 ≤ lab q → H1[q]? = H[q]?) :
    (∀ k : Nat, (k : Int) < n → va_P D vwCl (xTw G (τ k) (g 1 k) (g 2 k) (g 3 k) (cs k) (ss k)) H1 ∧ TR (τ k) (cs k)) ∧ ∀ k : Nat, (k : Int) < m → va_P D vwCl (xZw (ζ k) (g 4 k)) H1 := by
  obtain ⟨-, hT, hZ⟩ := h
  obtain ⟨-, -, -, l4, l5⟩ := hL
  refine ⟨fun j hj => ⟨(hT j hj).1.kept (fun i q hq => hfr _ ((hT j hj).1 i q hq).lt ?_), (hT j hj).2⟩, fun j hj => (hZ j hj).kept (fun i q hq => hfr _ (hZ j hj i q hq).lt ?_)⟩
  · have hlj := l4 j hj
    match i, hq with
    | 0, hq => cases hq; show 10 ≤ lab (g 1 j); omega
    | 1, hq => cases hq; show 10 ≤ lab (g 2 j); omega
    | 2, hq => cases hq; show 10 ≤ lab (g 3 j); omega
    | i + 3, hq => simp [xTw] at hq
  · match i, hq with
    | 0, hq => cases hq; show 10 ≤ lab (g 4 j); have := l5 j hj; omega
    | i + 1, hq => simp [xZw] at hq
theorem va_P.one {D : va_G} {cl : List vw_C} {q : Nat × va_E} {H : Heap} (h : va_at D cl q H) : va_P D cl [q] H := by
  intro k p hk
  match k, hk with
  | 0, hk => cases hk; exact h
  | k + 1, hk => simp at hk
theorem XW_sp {D : va_G} {G : Nat → ClassId} {lab : Nat → Nat} {ax : Nat} {n m sp sp' : Int} {τ ζ : Nat → Nat → Int} {g : Nat → Nat → Nat} {cs ss : Nat → Nat → Int32} {H H1 : Heap} (hW : XW D G ax n m sp τ ζ g cs ss H) (hL : XL lab ax n m g)
    (h1 : va_P D vwCl [(ax, .inr (2, [.ref (g 0 0), .int (zI n), .ref (g 0 1), .int (zI m), .int (zI sp')]))] H1) (hfr : ∀ q : Nat, q < H.size → ¬ zA [ax] q → H1[q]? = H[q]?) : XW D G ax n m sp' τ ζ g cs ss H1 := by
  have hn : ∀ q : Nat, lab q ≠ 1 → ¬ zA [ax] q := by
    intro q hq hz
    simp only [zA, List.mem_cons, List.not_mem_nil, or_false] at hz
    rw [hz] at hq
    exact hq hL.1
  have hk := hW.kept2 hL (fun q h1 h2 => hfr q h1 (hn q (by omega)))
  have hlt := hW.lt
  refine ⟨?_, hk.1, hk.2⟩
  have h2 := (hW.1 1 _ rfl).kept (hfr _ hlt.2.1 (hn _ (by rw [hL.2.1]; omega)))
  have h3 := (hW.1 2 _ rfl).kept (hfr _ hlt.2.2.1 (hn _ (by rw [hL.2.2.1]; omega)))
  exact h1.app ((va_P.one h2).app (va_P.one h3))
theorem xRef_drop {m : Int} {f : Nat → Nat} (hm : 1 ≤ m) : va_up (xRef m f) (m - 1).toNat none = xRef (m - 1) f := by
  funext k
  unfold va_up xRef
  by_cases h : k = (m - 1).toNat
  · rw [if_pos h, if_neg (by omega)]
  · rw [if_neg h]
    by_cases h2 : (k : Int) < m
    · rw [if_pos h2, if_pos (by omega)]
    · rw [if_neg h2, if_neg (by omega)]
theorem xRef_add {n : Int} {f : Nat → Nat} {q : Nat} (hn : 0 ≤ n) : va_up (xRef n f) n.toNat (some q) = xRef (n + 1) (va_up f n.toNat q) := by
  funext k
  unfold va_up xRef
  by_cases h : k = n.toNat
  · rw [if_pos h, if_pos (by omega)]
    exact congrArg some (if_pos h).symm
  · rw [if_neg h]
    by_cases h2 : (k : Int) < n
    · rw [if_pos h2, if_pos (by omega)]
      exact congrArg some (if_neg h).symm
    · rw [if_neg h2, if_neg (by omega)]
theorem XW_drop {D : va_G} {G : Nat → ClassId} {lab : Nat → Nat} {ax : Nat} {n m sp : Int} {τ ζ : Nat → Nat → Int} {g : Nat → Nat → Nat} {cs ss : Nat → Nat → Int32} {H H1 : Heap} (hW : XW D G ax n m sp τ ζ g cs ss H) (hL : XL lab ax n m g) (hm : 1 ≤ m)
    (h1 : va_P D vwCl [(ax, .inr (2, [.ref (g 0 0), .int (zI n), .ref (g 0 1), .int (zI (m - 1)), .int (zI sp)])), (g 0 1, .inl (G 5, 12, .inr (.inr (.inr (.inr (va_up (xRef m (g 4)) (m - 1).toNat none))))))] H1) (hfr : ∀ q : Nat, q < H.size → ¬ zA [ax, g 0 1] q → H1[q]? = H[q]?) : XW D G ax n (m - 1) sp τ ζ g cs ss H1 := by
  have hn : ∀ q : Nat, lab q ≠ 1 → lab q ≠ 3 → ¬ zA [ax, g 0 1] q := by
    intro q hq hq3 hz
    simp only [zA, List.mem_cons, List.not_mem_nil, or_false] at hz
    rcases hz with hz | hz
    · rw [hz] at hq; exact hq hL.1
    · rw [hz] at hq3; exact hq3 hL.2.2.1
  have hk := hW.kept2 hL (fun q h1 h2 => hfr q h1 (hn q (by omega) (by omega)))
  have hlt := hW.lt
  have h2 := (hW.1 1 _ rfl).kept (hfr _ hlt.2.1 (hn _ (by rw [hL.2.1]; omega) (by rw [hL.2.1]; omega)))
  rw [xRef_drop hm] at h1
  exact ⟨((h1.sub [0] rfl).app ((va_P.one h2).app (h1.sub [1] rfl)) : va_P D vwCl _ H1), hk.1, fun k hk2 => hk.2 k (by omega)⟩
theorem XL.drop {lab : Nat → Nat} {ax : Nat} {n m : Int} {g : Nat → Nat → Nat} (h : XL lab ax n m g) : XL lab ax n (m - 1) g := ⟨h.1, h.2.1, h.2.2.1, h.2.2.2.1, fun k hk => h.2.2.2.2 k (by omega)⟩
def xG1 (g : Nat → Nat → Nat) (k ta ca pa : Nat) : Nat → Nat → Nat := fun i => if i = 1 then va_up (g 1) k ta else if i = 2 then va_up (g 2) k ca else if i = 3 then va_up (g 3) k pa else g i
def xG4 (g : Nat → Nat → Nat) (k sa : Nat) : Nat → Nat → Nat := fun i => if i = 4 then va_up (g 4) k sa else g i
def xLb1 (lab : Nat → Nat) (k ta ca pa : Nat) : Nat → Nat := va_up (va_up (va_up lab ta (10 + 3 * k)) ca (11 + 3 * k)) pa (12 + 3 * k)
theorem XW_add {D : va_G} {G : Nat → ClassId} {lab : Nat → Nat} {ax : Nat} {n m sp : Int} {τ ζ : Nat → Nat → Int} {g : Nat → Nat → Nat} {cs ss : Nat → Nat → Int32} {H H1 : Heap} (hW : XW D G ax n m sp τ ζ g cs ss H) (hL : XL lab ax n m g) (hn0 : 0 ≤ n) {ta ca pa : Nat} {f : Nat → Int} {cn sn : Nat → Int32}
    (h1 : va_P D vwCl [(ax, .inr (2, [.ref (g 0 0), .int (zI (n + 1)), .ref (g 0 1), .int (zI m), .int (zI sp)])), (g 0 0, .inl (G 4, 8, .inr (.inr (.inr (.inr (va_up (xRef n (g 1)) n.toNat (some ta)))))))] H1) (hT : va_P D vwCl (xTw G f ta ca pa cn sn) H1) (hR : TR f cn) (hta : H.size ≤ ta) (hca : H.size ≤ ca) (hpa : H.size ≤ pa) (hnd : [ta, ca, pa].Nodup)
    (hfr : ∀ q : Nat, q < H.size → ¬ zA [ax, g 0 0] q → H1[q]? = H[q]?) :
    XW D G ax (n + 1) m sp (va_up τ n.toNat f) ζ (xG1 g n.toNat ta ca pa) (va_up cs n.toNat cn) (va_up ss n.toNat sn) H1 ∧ XL (xLb1 lab n.toNat ta ca pa) ax (n + 1) m (xG1 g n.toNat ta ca pa) ∧ ∀ q : Nat, q < H.size → xLb1 lab n.toNat ta ca pa q = lab q := by
  simp only [List.nodup_cons, List.mem_cons, List.not_mem_nil, or_false, List.nodup_nil, and_true, not_or, not_false_eq_true] at hnd
  have hn : ∀ q : Nat, lab q ≠ 1 → lab q ≠ 2 → ¬ zA [ax, g 0 0] q := by
    intro q hq hq3 hz
    simp only [zA, List.mem_cons, List.not_mem_nil, or_false] at hz
    rcases hz with hz | hz
    · rw [hz] at hq; exact hq hL.1
    · rw [hz] at hq3; exact hq3 hL.2.1
  have hk := hW.kept2 hL (fun q h1 h2 => hfr q h1 (hn q (by omega) (by omega)))
  have hlt := hW.lt
  have h3 := (hW.1 2 _ rfl).kept (hfr _ hlt.2.2.1 (hn _ (by rw [hL.2.2.1]; omega) (by rw [hL.2.2.1]; omega)))
  have hlab : ∀ q : Nat, q < H.size → xLb1 lab n.toNat ta ca pa q = lab q := by
    intro q hq
    unfold xLb1
    rw [va_up_ne _ _ (by omega), va_up_ne _ _ (by omega), va_up_ne _ _ (by omega)]
  rw [xRef_add hn0] at h1
  refine ⟨⟨((h1.sub [0, 1] rfl).app (va_P.one h3) : va_P D vwCl _ H1), fun j hj => ?_, hk.2⟩, ⟨?_, ?_, ?_, fun j hj => ?_, fun j hj => ?_⟩, hlab⟩
  · show va_P D vwCl (xTw G (va_up τ n.toNat f j) (va_up (g 1) n.toNat ta j) (va_up (g 2) n.toNat ca j) (va_up (g 3) n.toNat pa j) (va_up cs n.toNat cn j) (va_up ss n.toNat sn j)) H1 ∧ TR (va_up τ n.toNat f j) (va_up cs n.toNat cn j)
    by_cases e : j = n.toNat
    · subst e
      rw [va_up_self, va_up_self, va_up_self, va_up_self, va_up_self, va_up_self]
      exact ⟨hT, hR⟩
    · rw [va_up_ne _ _ e, va_up_ne _ _ e, va_up_ne _ _ e, va_up_ne _ _ e, va_up_ne _ _ e, va_up_ne _ _ e]
      exact hk.1 j (by omega)
  · rw [hlab _ hlt.1]; exact hL.1
  · show xLb1 lab n.toNat ta ca pa (g 0 0) = 2
    rw [hlab _ hlt.2.1]; exact hL.2.1
  · show xLb1 lab n.toNat ta ca pa (g 0 1) = 3
    rw [hlab _ hlt.2.2.1]; exact hL.2.2.1
  · show xLb1 lab n.toNat ta ca pa (va_up (g 1) n.toNat ta j) = 10 + 3 * j ∧ xLb1 lab n.toNat ta ca pa (va_up (g 2) n.toNat ca j) = 11 + 3 * j ∧ xLb1 lab n.toNat ta ca pa (va_up (g 3) n.toNat pa j) = 12 + 3 * j
    by_cases e : j = n.toNat
    · subst e
      rw [va_up_self, va_up_self, va_up_self]
      unfold xLb1
      refine ⟨?_, ?_, ?_⟩
      · rw [va_up_ne _ _ (by omega), va_up_ne _ _ (by omega), va_up_self]
      · rw [va_up_ne _ _ (by omega), va_up_self]
      · rw [va_up_self]
    · rw [va_up_ne _ _ e, va_up_ne _ _ e, va_up_ne _ _ e]
      have h4 := hlt.2.2.2.1 j (by omega)
      rw [hlab _ h4.1, hlab _ h4.2.1, hlab _ h4.2.2]
      exact hL.2.2.2.1 j (by omega)
  · show xLb1 lab n.toNat ta ca pa (g 4 j) = 50 + j
    rw [hlab _ (hlt.2.2.2.2 j hj)]
    exact hL.2.2.2.2 j hj
theorem XW_sec {D : va_G} {G : Nat → ClassId} {lab : Nat → Nat} {ax : Nat} {n m sp : Int} {τ ζ : Nat → Nat → Int} {g : Nat → Nat → Nat} {cs ss : Nat → Nat → Int32} {H H1 : Heap} (hW : XW D G ax n m sp τ ζ g cs ss H) (hL : XL lab ax n m g) (hm0 : 0 ≤ m) {sa : Nat} {z : Nat → Int}
    (h1 : va_P D vwCl [(ax, .inr (2, [.ref (g 0 0), .int (zI n), .ref (g 0 1), .int (zI (m + 1)), .int (zI sp)])), (g 0 1, .inl (G 5, 12, .inr (.inr (.inr (.inr (va_up (xRef m (g 4)) m.toNat (some sa)))))))] H1) (hZ : va_P D vwCl (xZw z sa) H1) (hsa : H.size ≤ sa)
    (hfr : ∀ q : Nat, q < H.size → ¬ zA [ax, g 0 1] q → H1[q]? = H[q]?) :
    XW D G ax n (m + 1) sp τ (va_up ζ m.toNat z) (xG4 g m.toNat sa) cs ss H1 ∧ XL (va_up lab sa (50 + m.toNat)) ax n (m + 1) (xG4 g m.toNat sa) ∧ ∀ q : Nat, q < H.size → va_up lab sa (50 + m.toNat) q = lab q := by
  have hn : ∀ q : Nat, lab q ≠ 1 → lab q ≠ 3 → ¬ zA [ax, g 0 1] q := by
    intro q hq hq3 hz
    simp only [zA, List.mem_cons, List.not_mem_nil, or_false] at hz
    rcases hz with hz | hz
    · rw [hz] at hq; exact hq hL.1
    · rw [hz] at hq3; exact hq3 hL.2.2.1
  have hk := hW.kept2 hL (fun q h1 h2 => hfr q h1 (hn q (by omega) (by omega)))
  have hlt := hW.lt
  have h3 := (hW.1 1 _ rfl).kept (hfr _ hlt.2.1 (hn _ (by rw [hL.2.1]; omega) (by rw [hL.2.1]; omega)))
  have hlab : ∀ q : Nat, q < H.size → va_up lab sa (50 + m.toNat) q = lab q := fun q hq => va_up_ne _ _ (by omega)
  rw [xRef_add hm0] at h1
  refine ⟨⟨((h1.sub [0] rfl).app ((va_P.one h3).app (h1.sub [1] rfl)) : va_P D vwCl _ H1), hk.1, fun j hj => ?_⟩, ⟨?_, ?_, ?_, fun j hj => ?_, fun j hj => ?_⟩, hlab⟩
  · show va_P D vwCl (xZw (va_up ζ m.toNat z j) (va_up (g 4) m.toNat sa j)) H1
    by_cases e : j = m.toNat
    · subst e
      rw [va_up_self, va_up_self]
      exact hZ
    · rw [va_up_ne _ _ e, va_up_ne _ _ e]
      exact hk.2 j (by omega)
  · rw [hlab _ hlt.1]; exact hL.1
  · show va_up lab sa (50 + m.toNat) (g 0 0) = 2
    rw [hlab _ hlt.2.1]; exact hL.2.1
  · show va_up lab sa (50 + m.toNat) (g 0 1) = 3
    rw [hlab _ hlt.2.2.1]; exact hL.2.2.1
  · show va_up lab sa (50 + m.toNat) (g 1 j) = 10 + 3 * j ∧ va_up lab sa (50 + m.toNat) (g 2 j) = 11 + 3 * j ∧ va_up lab sa (50 + m.toNat) (g 3 j) = 12 + 3 * j
    have h4 := hlt.2.2.2.1 j hj
    rw [hlab _ h4.1, hlab _ h4.2.1, hlab _ h4.2.2]
    exact hL.2.2.2.1 j hj
  · show va_up lab sa (50 + m.toNat) (va_up (g 4) m.toNat sa j) = 50 + j
    by_cases e : j = m.toNat
    · subst e
      rw [va_up_self, va_up_self]
    · rw [va_up_ne _ _ e, hlab _ (hlt.2.2.2.2 j (by omega))]
      exact hL.2.2.2.2 j (by omega)
def xZn (b l z w : Int) : Nat → Int := fun i => if i = 0 then b else if i = 1 then l else if i = 2 then z else w
theorem z_mergeN {D : va_G} {cl : List vw_C} {ws w1 wr wn : va_W} {H H1 : Heap} {L : List Nat} (hP : va_P D cl ws H) (hk : ∀ q : Nat, q < H.size → ¬ zAn L H.size q → H1[q]? = H[q]?) (hP1 : va_P D cl w1 H1)
    (isR : List Nat) (hR : isR.filterMap (fun i => ws[i]?) = wr) (hdis : ∀ q ∈ wr.map Prod.fst, q ∉ L) (pm : List Nat) (hn : pm.filterMap (fun i => (w1 ++ wr)[i]?) = wn) : va_P D cl wn H1 :=
  z_merge hP (fun q hq hz => hk q hq (fun h => h.elim hz (fun h => by omega))) hP1 isR hR hdis pm hn
