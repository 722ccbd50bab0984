/-! ===== p31: what the law's checks rest on ===== -/
noncomputable def pO (P : Prop) : Int := @ite Int P (Classical.propDecidable P) 1 0
theorem pO_t {P : Prop} (h : P) : pO P = 1 := by unfold pO; exact if_pos h
theorem pO_f {P : Prop} (h : ¬ P) : pO P = 0 := by unfold pO; exact if_neg h
theorem pO_z (P : Prop) : zB P = zI (pO P) := by
  by_cases h : P
  · rw [zB_t h, pO_t h]; rfl
  · rw [zB_f h, pO_f h]; rfl
theorem pO_b (P : Prop) : pO P = 0 ∨ pO P = 1 := by
  by_cases h : P
  · rw [pO_t h]; exact Or.inr rfl
  · rw [pO_f h]; exact Or.inl rfl
theorem zB_or (P R : Prop) : zB P ||| zB R = zB (P ∨ R) := by
  by_cases h : P
  · by_cases q : R
    · rw [zB_t h, zB_t q, zB_t (Or.inl h)]; rfl
    · rw [zB_t h, zB_f q, zB_t (Or.inl h)]; rfl
  · by_cases q : R
    · rw [zB_f h, zB_t q, zB_t (Or.inr q)]; rfl
    · rw [zB_f h, zB_f q, zB_f (fun x => x.elim h q)]; rfl
theorem pSh {S n : Int} (hn : 0 ≤ n ∧ n ≤ 8) (hS : 0 ≤ S ∧ S < 2 ^ n.toNat) : zI S >>> (zI n &&& 31) = zI 0 := by
  obtain ⟨a, rfl⟩ := Int.eq_ofNat_of_zero_le hS.1
  obtain ⟨j, rfl⟩ := Int.eq_ofNat_of_zero_le hn.1
  have hp : 2 ^ j ≤ 2 ^ 8 := Nat.pow_le_pow_right (by omega) (by omega)
  have h2 : a < 2 ^ j := by have := hS.2; rw [Int.toNat_natCast] at this; exact_mod_cast this
  rw [← zI_nI, ← zI_nI]
  rw [pk_shrN (n := a) (by omega) (nI j &&& 31) j (x_sl j (by omega)), Nat.div_eq_of_lt h2]
  rfl
theorem pSet (P : Int → Prop) (n : Int) (hn : 0 ≤ n ∧ n ≤ 8) : ∃ S : Int, ((xSet (fun j => P (j : Int)) n.toNat : Nat) : Int) = S ∧ (0 ≤ S ∧ S ≤ 255) ∧ zI S >>> (zI n &&& 31) = zI 0 ∧ ∀ t : Int, 0 ≤ t → t < n → (xBit S t ↔ P t) := by
  have hb := xSet_b (fun j => P (j : Int)) n.toNat
  have hp : 2 ^ n.toNat ≤ 2 ^ 8 := Nat.pow_le_pow_right (by omega) (by omega)
  refine ⟨_, rfl, ⟨by omega, by omega⟩, pSh hn ⟨by omega, by exact_mod_cast hb⟩, fun t h1 h2 => ?_⟩
  unfold xBit
  rw [Int.toNat_natCast, xSet_bit, Int.toNat_of_nonneg h1]
  exact ⟨fun q => q.2, fun q => ⟨by omega, q⟩⟩
theorem pLn {n m sp : Int} {τ ζ : Nat → Nat → Int} (h : XOK n m sp τ ζ) {k : Int} (hk : 0 ≤ k ∧ k < n) (t : Int) : ∃ v : Int, xLn n m τ ζ k t = v ∧ (0 ≤ v ∧ v ≤ 127) ∧ (0 < v ↔ xHit n m τ ζ k t) := by
  have h1 := xStr_b h (t := t) hk
  have h2 := xAcc_b h t n.toNat (by have := h.1; omega)
  refine ⟨_, rfl, ?_, ?_⟩
  · unfold xLn
    split
    · split <;> omega
    · omega
  · by_cases q : xHit n m τ ζ k t
    · have h3 := q.2
      unfold xLn
      rw [if_pos q]
      refine ⟨fun _ => q, fun _ => ?_⟩
      split <;> omega
    · unfold xLn
      rw [if_neg q]
      exact ⟨fun h => absurd h (by omega), fun h => absurd h q⟩
theorem pHit_sil {n m : Int} {τ ζ : Nat → Nat → Int} {k t : Int} (h : xHit n m τ ζ k t) : ¬ xSil n τ k := by
  intro q
  have h1 := h.2
  unfold xStr at h1
  rw [if_pos q] at h1
  omega
theorem pSnd {n m : Int} {τ ζ : Nat → Nat → Int} {k t : Int} (h : xSnd n m τ ζ t k) : ∃ b : Int, 0 ≤ b ∧ b ≤ t ∧ b < τ k.toNat 3 ∧ xHit n m τ ζ k (t - b) := by
  obtain ⟨b, h1, h2, h3, h4, -⟩ := h
  exact ⟨b, h1, h2, h3, h4⟩
/-- the counts while the law goes through a tick -/
def CI (P : Int → Int → Prop) (n a u t : Int) (f : Nat → Int32) : Prop := ∀ j : Int, 0 ≤ j → j < n → f j.toNat = zI (xCnt (P j) a (if j < t then u + 1 - a else u - a).toNat)
theorem CI.zero (P : Int → Int → Prop) (n a : Int) : CI P n a a 0 (fun _ => 0) := by
  intro j h1 h2
  rw [if_neg (by omega), show (a - a).toNat = 0 by omega]
  rfl
theorem CI.next {P : Int → Int → Prop} {n a u t : Int} {f : Nat → Int32} (h : CI P n a u t f) (ht : n ≤ t) : CI P n a (u + 1) 0 f := by
  intro j h1 h2
  rw [h j h1 h2, if_pos (by omega), if_neg (by omega)]
theorem CI.get {P : Int → Int → Prop} {n a u t : Int} {f : Nat → Int32} (h : CI P n a u t f) (ht : 0 ≤ t ∧ t < n) : f t.toNat = zI (xCnt (P t) a (u - a).toNat) := by
  rw [h t ht.1 ht.2, if_neg (by omega)]
theorem CI.at0 {P : Int → Int → Prop} {n a u j : Int} {f : Nat → Int32} (h : CI P n a u 0 f) (ht : 0 ≤ j ∧ j < n) : f j.toNat = zI (xCnt (P j) a (u - a).toNat) := by
  rw [h j ht.1 ht.2, if_neg (by omega)]
theorem CI.put {P : Int → Int → Prop} {n a u t : Int} {f : Nat → Int32} (h : CI P n a u t f) (ht : 0 ≤ t ∧ t < n) (hu : a ≤ u) {R : Prop} (hR : P t u ↔ R) : CI P n a u (t + 1) (upd f t.toNat (zI (xCnt (P t) a (u - a).toNat + pO R))) := by
  intro j h1 h2
  by_cases e : j = t
  · subst e
    rw [pk_us, if_pos (by omega)]
    by_cases q : P j u
    · rw [xCnt_t hu q, pO_t (hR.mp q)]
    · rw [xCnt_f hu q, pO_f (fun r => q (hR.mpr r)), Int.add_zero]
  · rw [pk_un (by omega), h j h1 h2]
    by_cases q : j < t
    · rw [if_pos q, if_pos (by omega)]
    · rw [if_neg q, if_neg (by omega)]
theorem pCnt_pos (P : Int → Prop) (a : Int) : ∀ j : Nat, 0 < xCnt P a j ↔ ∃ i : Nat, i < j ∧ P (a + i)
  | 0 => ⟨fun h => absurd h (by show ¬ (0 : Int) < 0; omega), fun ⟨i, h, _⟩ => absurd h (by omega)⟩
  | j + 1 => by
    have ih := pCnt_pos P a j
    have hb := xCnt_b P a j
    unfold xCnt
    split
    · rename_i q
      exact ⟨fun _ => ⟨j, by omega, q⟩, fun _ => by omega⟩
    · rename_i q
      rw [ih]
      constructor
      · rintro ⟨i, h1, h2⟩; exact ⟨i, by omega, h2⟩
      · rintro ⟨i, h1, h2⟩
        by_cases e : i = j
        · subst e; exact absurd h2 q
        · exact ⟨i, by omega, h2⟩
theorem pNx_spec (P : Int → Prop) (a : Int) (ha : 0 ≤ a) : ∀ j : Nat, (xNx P a j = -1 ∧ ∀ i : Nat, i < j → ¬ P (a + i)) ∨ ∃ i : Nat, i < j ∧ xNx P a j = a + i ∧ P (a + i) ∧ ∀ k : Nat, k < i → ¬ P (a + k)
  | 0 => Or.inl ⟨rfl, fun i h => absurd h (by omega)⟩
  | j + 1 => by
    rcases pNx_spec P a ha j with ⟨h1, h2⟩ | ⟨i, h1, h2, h3, h4⟩
    · by_cases q : P (a + j)
      · refine Or.inr ⟨j, by omega, ?_, q, h2⟩
        unfold xNx
        rw [if_pos h1, if_pos q]
      · refine Or.inl ⟨?_, fun i hi => ?_⟩
        · unfold xNx
          rw [if_pos h1, if_neg q]
        · by_cases e : i = j
          · subst e; exact q
          · exact h2 i (by omega)
    · refine Or.inr ⟨i, by omega, ?_, h3, h4⟩
      unfold xNx
      rw [if_neg (by omega), h2]
/-- counted, and found: the same -/
theorem pNx_cnt {P R : Int → Prop} (hPR : ∀ u, R u ↔ P u) {a w : Int} {N : Nat} (ha : 0 ≤ a) (hw : 0 ≤ w) (hN : w ≤ N) : (0 ≤ xNx P a N ∧ xNx P a N < a + w) ↔ 0 < xCnt R a (a + w - a).toNat := by
  rw [pCnt_pos]
  rcases pNx_spec P a ha N with ⟨h1, h2⟩ | ⟨i, h1, h2, h3, h4⟩
  · rw [h1]
    constructor
    · rintro ⟨h, -⟩; omega
    · rintro ⟨i, hi, hp⟩; exact absurd ((hPR _).mp hp) (h2 i (by omega))
  · rw [h2]
    constructor
    · rintro ⟨-, h⟩; exact ⟨i, by omega, (hPR _).mpr h3⟩
    · rintro ⟨j, hj, hp⟩
      refine ⟨by omega, ?_⟩
      by_cases e : j < i
      · exact absurd ((hPR _).mp hp) (h4 j e)
      · omega
theorem pAA {P : Int → Prop} : ∀ u, (P u ∧ P u) ↔ P u := fun _ => ⟨fun h => h.1, fun h => ⟨h, h⟩⟩
theorem pMod (a b n : Int) : (a + b % n) % n = (a + b) % n := by
  rw [Int.add_emod, Int.emod_emod, ← Int.add_emod]
/-- moved on by q and then by the rest of n: every step is where it was -/
theorem pRot {f : Nat → Int} {q k w : Int} (hq : 0 ≤ q ∧ q < f 0) (hk : 0 ≤ k ∧ k < f 0) (hw : 0 ≤ w ∧ w < 4) : xC (xRot (xRot f q) (f 0 - q)) k w = xC f k w := by
  have e0 : xRot f q 0 = f 0 := xRot_lo 0 (by omega)
  have hb : 0 ≤ (f 0 - (f 0 - q) % f 0 + k) % f 0 := Int.emod_nonneg _ (by omega)
  rw [xRot_c hk.1 hw, e0, xRot_c hb hw]
  congr 1
  rw [pMod, Int.emod_eq_of_lt hq.1 hq.2]
  by_cases e : q = 0
  · subst e
    rw [show f 0 - 0 = f 0 by omega, Int.emod_self, show f 0 + (f 0 - 0 + k) = k + f 0 + f 0 by omega, Int.add_emod_right, Int.add_emod_right, Int.emod_eq_of_lt hk.1 hk.2]
  · rw [Int.emod_eq_of_lt (a := f 0 - q) (by omega) (by omega), show f 0 - q + (f 0 - (f 0 - q) + k) = k + f 0 by omega, Int.add_emod_right, Int.emod_eq_of_lt hk.1 hk.2]
theorem pMs {f f' : Nat → Int} (d : Int64) (h : ∀ i, i < 8 → f' i = f i) : ∀ j : Nat, j ≤ 8 → xMs f' d j = xMs f d j
  | 0, _ => rfl
  | j + 1, hj => by
    show xMix (xMs f' d j) (f' j) = xMix (xMs f d j) (f j)
    rw [pMs d h j (by omega), h j (by omega)]
theorem pMc {f f' : Nat → Int} (d : Int64) {N : Nat} (h : ∀ i, i < N → f' (8 + i) = f (8 + i)) : ∀ j : Nat, j ≤ N → xMc f' d j = xMc f d j
  | 0, _ => rfl
  | j + 1, hj => by
    show xMix (xMc f' d j) (f' (8 + j)) = xMix (xMc f d j) (f (8 + j))
    rw [pMc d h j (by omega), h j (by omega)]
theorem pMt {f f' : Nat → Int} (d : Int64) (h : ∀ i, i < 8 → f' i = f i) (hc : ∀ k w : Int, 0 ≤ k → k < f 0 → 0 ≤ w → w < 4 → xC f' k w = xC f k w) : xMt f' d = xMt f d := by
  unfold xMt
  rw [pMs d h 8 (by omega), h 0 (by omega)]
  refine pMc _ (N := (4 * f 0).toNat) (fun i hi => ?_) _ (Nat.le_refl _)
  have h1 := hc ((i : Int) / 4) ((i : Int) % 4) (by omega) (by omega) (by omega) (by omega)
  unfold xC at h1
  rw [show (8 + 4 * ((i : Int) / 4) + (i : Int) % 4).toNat = 8 + i by omega] at h1
  exact h1
theorem pDt {τ τ' : Nat → Nat → Int} (d : Int64) {k : Nat} (h : ∀ j, j ≠ k → τ' j = τ j) (hk : ∀ d : Int64, xMt (τ' k) d = xMt (τ k) d) : ∀ j : Nat, xDt τ' d j = xDt τ d j
  | 0 => rfl
  | j + 1 => by
    show xMt (τ' j) (xDt τ' d j) = xMt (τ j) (xDt τ d j)
    rw [pDt d h hk j]
    by_cases e : j = k
    · subst e; exact hk _
    · rw [h j e]
/-- the checksum behind the two turns is what it was -/
theorem pDig {n m sp : Int} {τ τ1 τ2 ζ : Nat → Nat → Int} {k q : Int} (hq : 0 ≤ q ∧ q < τ k.toNat 0) (h1 : τ1 = va_up τ k.toNat (xRot (τ k.toNat) q)) (h2 : τ2 = va_up τ1 k.toNat (xRot (τ1 k.toNat) (τ k.toNat 0 - q))) : xDig n m sp τ2 ζ = xDig n m sp τ ζ := by
  have e1 : τ1 k.toNat = xRot (τ k.toNat) q := by rw [h1]; exact if_pos rfl
  have e2 : τ2 k.toNat = xRot (xRot (τ k.toNat) q) (τ k.toNat 0 - q) := by rw [h2, e1]; exact if_pos rfl
  unfold xDig
  rw [pDt (τ := τ) (τ' := τ2) _ (k := k.toNat) (fun j hj => ?_) (fun d => ?_)]
  · rw [h2, h1]
    show va_up (va_up τ k.toNat _) k.toNat _ j = τ j
    exact (va_up_ne _ _ hj).trans (va_up_ne _ _ hj)
  · rw [e2]
    refine pMt d (fun i hi => (xRot_lo i hi).trans (xRot_lo i hi)) (fun s w hs1 hs2 hw1 hw2 => pRot hq ⟨hs1, hs2⟩ ⟨hw1, hw2⟩)
theorem pSecs : Op.cmpValue (FP.dcmp (xSecs 120 24) FP.dconst0) .l = 1 := by decide +kernel
