/-! ===== the machine: n tracks, m sections, the speed sp; the rows of the tracks τ, of the sections ζ (begin, length, set, whether it begins anew) ===== -/
def xRef (n : Int) (f : Nat → Nat) : Nat → Option Nat := fun k => if (k : Int) < n then some (f k) else none
noncomputable def xOpt (n : Int) (f : Nat → Nat) (k : Int) : Option Nat := if 0 ≤ k ∧ k < n then some (f k.toNat) else none
theorem xOpt_t {n k : Int} {f : Nat → Nat} (h : 0 ≤ k ∧ k < n) : xOpt n f k = some (f k.toNat) := if_pos h
theorem xOpt_f {n k : Int} {f : Nat → Nat} (h : ¬ (0 ≤ k ∧ k < n)) : xOpt n f k = none := if_neg h
theorem xOpt_r {n k : Int} {f : Nat → Nat} (h : 0 ≤ k) : xRef n f k.toNat = xOpt n f k := by
  unfold xRef xOpt
  by_cases q : k < n
  · rw [if_pos (by omega), if_pos (by omega)]
  · rw [if_neg (by omega), if_neg (by omega)]
def ZOK (z : Nat → Int) : Prop := 0 ≤ z 0 ∧ 1 ≤ z 1 ∧ z 1 ≤ 5000 ∧ 0 ≤ z 2 ∧ z 2 ≤ 255 ∧ (z 3 = 0 ∨ z 3 = 1)
/-- what a machine's numbers keep to -/
def XOK (n m sp : Int) (τ ζ : Nat → Nat → Int) : Prop := 0 ≤ n ∧ n ≤ 8 ∧ 0 ≤ m ∧ m ≤ 12 ∧ 30 ≤ sp ∧ sp ≤ 300 ∧ (∀ k : Nat, (k : Int) < n → TOK (τ k)) ∧ (∀ k : Nat, (k : Int) < m → ZOK (ζ k)) ∧ (0 < m → ζ 0 0 = 0) ∧ ∀ k : Nat, ((k + 1 : Nat) : Int) < m → ζ (k + 1) 0 = ζ k 0 + ζ k 1
abbrev xOb (G : Nat → ClassId) (ax : Nat) (n m sp : Int) (g : Nat → Nat → Nat) : va_W := [(ax, .inr (2, [.ref (g 0 0), .int (zI n), .ref (g 0 1), .int (zI m), .int (zI sp)])), (g 0 0, .inl (G 4, 8, .inr (.inr (.inr (.inr (xRef n (g 1))))))), (g 0 1, .inl (G 5, 12, .inr (.inr (.inr (.inr (xRef m (g 4)))))))]
abbrev xTw (G : Nat → ClassId) (f : Nat → Int) (ta ca pa : Nat) (cn sn : Nat → Int32) : va_W := [(ta, .inr (1, [.int (zI (f 1)), .int (zI (f 0)), .int (zI (f 2)), .int (zI (f 3)), .int (zI (f 4)), .int (zI (f 5)), .int (zI (f 6)), .int (zI (f 7)), .ref ca, .ref pa])), (ca, .inl (G 0, 128, .inl cn)), (pa, .inl (G 0, 128, .inl sn))]
abbrev xZw (z : Nat → Int) (a : Nat) : va_W := [(a, .inr (0, [.int (zI (z 0)), .int (zI (z 1)), .int (zI (z 2)), .int (zI (z 3))]))]
/-- the cells of a PolyDrums -/
def XW (D : va_G) (G : Nat → ClassId) (ax : Nat) (n m sp : Int) (τ ζ : Nat → Nat → Int) (g : Nat → Nat → Nat) (cs ss : Nat → Nat → Int32) (H : Heap) : Prop :=
  va_P D vwCl (xOb G ax n m sp g) H ∧ (∀ k : Nat, (k : Int) < n → va_P D vwCl (xTw G (τ k) (g 1 k) (g 2 k) (g 3 k) (cs k) (ss k)) H ∧ TR (τ k) (cs k)) ∧ ∀ k : Nat, (k : Int) < m → va_P D vwCl (xZw (ζ k) (g 4 k)) H
theorem XOK.t {n m sp : Int} {τ ζ : Nat → Nat → Int} (h : XOK n m sp τ ζ) {k : Int} (hk : 0 ≤ k ∧ k < n) : TOK (τ k.toNat) := h.2.2.2.2.2.2.1 k.toNat (by omega)
theorem XOK.z {n m sp : Int} {τ ζ : Nat → Nat → Int} (h : XOK n m sp τ ζ) {k : Int} (hk : 0 ≤ k ∧ k < m) : ZOK (ζ k.toNat) := h.2.2.2.2.2.2.2.1 k.toNat (by omega)
/-- where the sections lie -/
theorem XOK.zb {n m sp : Int} {τ ζ : Nat → Nat → Int} (h : XOK n m sp τ ζ) : ∀ k : Nat, (k : Int) < m → 0 ≤ ζ k 0 ∧ ζ k 0 ≤ 5000 * k ∧ 1 ≤ ζ k 1 ∧ ζ k 1 ≤ 5000
  | 0, hk => by
    have h1 := h.2.2.2.2.2.2.2.1 0 hk
    have h2 := h.2.2.2.2.2.2.2.2.1 (by omega)
    unfold ZOK at h1
    omega
  | k + 1, hk => by
    have h1 := h.2.2.2.2.2.2.2.1 (k + 1) hk
    have h2 := h.2.2.2.2.2.2.2.2.2 k hk
    have h3 := XOK.zb h k (by omega)
    unfold ZOK at h1
    omega
theorem XOK.zb' {n m sp : Int} {τ ζ : Nat → Nat → Int} (h : XOK n m sp τ ζ) {k : Int} (hk : 0 ≤ k ∧ k < m) : 0 ≤ ζ k.toNat 0 ∧ ζ k.toNat 0 ≤ 55000 ∧ 1 ≤ ζ k.toNat 1 ∧ ζ k.toNat 1 ≤ 5000 ∧ 0 ≤ ζ k.toNat 2 ∧ ζ k.toNat 2 ≤ 255 ∧ (ζ k.toNat 3 = 0 ∨ ζ k.toNat 3 = 1) := by
  have h1 := h.zb k.toNat (by omega)
  have h2 := h.z hk
  have h3 := h.2.2.2.1
  unfold ZOK at h2
  omega
theorem XOK.tb {n m sp : Int} {τ ζ : Nat → Nat → Int} (h : XOK n m sp τ ζ) {k : Int} (hk : 0 ≤ k ∧ k < n) : 1 ≤ τ k.toNat 0 ∧ τ k.toNat 0 ≤ 32 ∧ 1 ≤ τ k.toNat 1 ∧ τ k.toNat 1 ≤ 48 ∧ 0 ≤ τ k.toNat 2 ∧ τ k.toNat 2 < τ k.toNat 1 ∧ 1 ≤ τ k.toNat 3 ∧ τ k.toNat 3 ≤ 200 ∧ 0 ≤ τ k.toNat 4 ∧ τ k.toNat 4 ≤ 3 ∧ (τ k.toNat 5 = 0 ∨ τ k.toNat 5 = 1) ∧ (τ k.toNat 6 = 0 ∨ τ k.toNat 6 = 1) ∧ (τ k.toNat 7 = 0 ∨ τ k.toNat 7 = 1) := by
  have h1 := h.t hk
  unfold TOK at h1
  omega
def xSolo (n : Int) (τ : Nat → Nat → Int) : Prop := ∃ k : Int, 0 ≤ k ∧ k < n ∧ τ k.toNat 6 = 1
def xSil (n : Int) (τ : Nat → Nat → Int) (k : Int) : Prop := τ k.toNat 5 = 1 ∨ (τ k.toNat 6 = 0 ∧ xSolo n τ)
/-- the section of a tick, among the first ones -/
def xSec (ζ : Nat → Nat → Int) (t : Int) : Nat → Int
  | 0 => -1
  | j + 1 => if xSec ζ t j = -1 then (if t < ζ j 0 + ζ j 1 then (j : Int) else -1) else xSec ζ t j
theorem xSec_up {ζ : Nat → Nat → Int} {t : Int} : ∀ {i : Nat} (j : Nat), xSec ζ t i ≠ -1 → i ≤ j → xSec ζ t j = xSec ζ t i
  | i, 0, h, hij => by rw [show i = 0 by omega]
  | i, j + 1, h, hij => by
    by_cases e : i = j + 1
    · rw [e]
    · have h1 := xSec_up j h (by omega)
      show (if xSec ζ t j = -1 then _ else xSec ζ t j) = _
      rw [h1, if_neg h]
theorem xSec_s {ζ : Nat → Nat → Int} {t k : Int} (hk : 0 ≤ k) (h : xSec ζ t k.toNat = -1) : xSec ζ t (k + 1).toNat = if t < ζ k.toNat 0 + ζ k.toNat 1 then k else -1 := by
  rw [show (k + 1).toNat = k.toNat + 1 by omega]
  show (if xSec ζ t k.toNat = -1 then (if t < ζ k.toNat 0 + ζ k.toNat 1 then ((k.toNat : Nat) : Int) else -1) else xSec ζ t k.toNat) = _
  rw [if_pos h, Int.toNat_of_nonneg hk]
theorem xSec_b (ζ : Nat → Nat → Int) (t : Int) : ∀ j : Nat, -1 ≤ xSec ζ t j ∧ xSec ζ t j < j
  | 0 => by unfold xSec; omega
  | j + 1 => by
    have := xSec_b ζ t j
    unfold xSec
    split
    · split <;> omega
    · omega
/-- a tick's section begins before it -/
theorem xSec_in {n m sp : Int} {τ ζ : Nat → Nat → Int} (h : XOK n m sp τ ζ) {t : Int} (ht : 0 ≤ t) : ∀ j : Nat, (j : Int) ≤ m → (xSec ζ t j = -1 → 0 < j → ∃ i : Nat, j = i + 1 ∧ ζ i 0 + ζ i 1 ≤ t) ∧ (xSec ζ t j ≠ -1 → ζ (xSec ζ t j).toNat 0 ≤ t ∧ t < ζ (xSec ζ t j).toNat 0 + ζ (xSec ζ t j).toNat 1)
  | 0, _ => ⟨fun _ q => absurd q (by omega), fun q => absurd rfl q⟩
  | j + 1, hj => by
    have ih := xSec_in h ht j (by omega)
    by_cases e : xSec ζ t j = -1
    · have e2 : xSec ζ t (j + 1) = if t < ζ j 0 + ζ j 1 then (j : Int) else -1 := by
        show (if xSec ζ t j = -1 then _ else xSec ζ t j) = _
        rw [if_pos e]
      by_cases q : t < ζ j 0 + ζ j 1
      · rw [if_pos q] at e2
        rw [e2]
        refine ⟨fun q2 => by omega, fun _ => ?_⟩
        rw [Int.toNat_natCast]
        refine ⟨?_, q⟩
        cases j with
        | zero => have := h.2.2.2.2.2.2.2.2.1 (by omega); omega
        | succ i =>
          obtain ⟨i2, e3, h3⟩ := ih.1 e (by omega)
          cases e3
          have := h.2.2.2.2.2.2.2.2.2 i (by omega)
          omega
      · rw [if_neg q] at e2
        rw [e2]
        exact ⟨fun _ _ => ⟨j, rfl, by omega⟩, fun q2 => absurd rfl q2⟩
    · have e2 : xSec ζ t (j + 1) = xSec ζ t j := by
        show (if xSec ζ t j = -1 then _ else xSec ζ t j) = _
        rw [if_neg e]
      rw [e2]
      exact ⟨fun q => absurd q e, ih.2⟩
/-- a track's local time at a tick; -1 where it does not play -/
noncomputable def xLoc (m : Int) (ζ : Nat → Nat → Int) (k t : Int) : Int :=
  if m = 0 then t else if xSec ζ t m.toNat = -1 then -1 else @ite Int (xBit (ζ (xSec ζ t m.toNat).toNat 2) k) (Classical.propDecidable _) (if ζ (xSec ζ t m.toNat).toNat 3 = 1 then t - ζ (xSec ζ t m.toNat).toNat 0 else t) (-1)
theorem xLoc_b {n m sp : Int} {τ ζ : Nat → Nat → Int} (h : XOK n m sp τ ζ) {k t : Int} (ht : 0 ≤ t ∧ t ≤ 99999) : -1 ≤ xLoc m ζ k t ∧ xLoc m ζ k t ≤ 99999 := by
  unfold xLoc
  by_cases h0 : m = 0
  · rw [if_pos h0]; omega
  · rw [if_neg h0]
    by_cases h1 : xSec ζ t m.toNat = -1
    · rw [if_pos h1]; omega
    · rw [if_neg h1]
      have hm := h.2.2.1
      have h2 := (xSec_in h ht.1 m.toNat (by omega)).2 h1
      by_cases h3 : xBit (ζ (xSec ζ t m.toNat).toNat 2) k
      · rw [if_pos h3]
        have hb := xSec_b ζ t m.toNat
        have h4 := h.zb' (k := xSec ζ t m.toNat) ⟨by omega, by omega⟩
        by_cases h5 : ζ (xSec ζ t m.toNat).toNat 3 = 1
        · rw [if_pos h5]; omega
        · rw [if_neg h5]; omega
      · rw [if_neg h3]; omega
/-- the force with which a track strikes at a tick, 0 if it does not -/
noncomputable def xStr (n m : Int) (τ ζ : Nat → Nat → Int) (k t : Int) : Int := @ite Int (xSil n τ k) (Classical.propDecidable _) 0 (if xLoc m ζ k t = -1 then 0 else xForce (τ k.toNat) (xLoc m ζ k t))
theorem xForce_b {f : Nat → Int} (hf : TOK f) (u : Int) : 0 ≤ xForce f u ∧ xForce f u ≤ 127 := by
  have hp := x_place hf u
  have hc := hf.2.2.2.2.2.2.2.2.2.2.2.2.2 (xS f u) hp.2.2.1 hp.2.2.2.1
  unfold xForce
  split <;> omega
theorem xStr_b {n m sp : Int} {τ ζ : Nat → Nat → Int} (h : XOK n m sp τ ζ) {k t : Int} (hk : 0 ≤ k ∧ k < n) : 0 ≤ xStr n m τ ζ k t ∧ xStr n m τ ζ k t ≤ 127 := by
  unfold xStr
  split
  · omega
  · split
    · omega
    · exact xForce_b (h.t hk) _
def xHit (n m : Int) (τ ζ : Nat → Nat → Int) (k t : Int) : Prop := τ k.toNat 7 = 0 ∧ 0 < xStr n m τ ζ k t
/-- the accents' forces together -/
noncomputable def xAcc (n m : Int) (τ ζ : Nat → Nat → Int) (t : Int) : Nat → Int
  | 0 => 0
  | j + 1 => if τ j 7 = 1 then xAcc n m τ ζ t j + xStr n m τ ζ (j : Int) t else xAcc n m τ ζ t j
theorem xAcc_s {n m : Int} {τ ζ : Nat → Nat → Int} {t k : Int} (hk : 0 ≤ k) : xAcc n m τ ζ t (k + 1).toNat = if τ k.toNat 7 = 1 then xAcc n m τ ζ t k.toNat + xStr n m τ ζ k t else xAcc n m τ ζ t k.toNat := by
  rw [show (k + 1).toNat = k.toNat + 1 by omega]
  show (if τ k.toNat 7 = 1 then xAcc n m τ ζ t k.toNat + xStr n m τ ζ ((k.toNat : Nat) : Int) t else xAcc n m τ ζ t k.toNat) = _
  rw [Int.toNat_of_nonneg hk]
theorem xAcc_b {n m sp : Int} {τ ζ : Nat → Nat → Int} (h : XOK n m sp τ ζ) (t : Int) : ∀ j : Nat, (j : Int) ≤ n → 0 ≤ xAcc n m τ ζ t j ∧ xAcc n m τ ζ t j ≤ 127 * j
  | 0, _ => by unfold xAcc; omega
  | j + 1, hj => by
    have ih := xAcc_b h t j (by omega)
    have h1 := xStr_b h (k := (j : Int)) (t := t) ⟨by omega, by omega⟩
    unfold xAcc
    split <;> omega
noncomputable def xLn (n m : Int) (τ ζ : Nat → Nat → Int) (k t : Int) : Int := @ite Int (xHit n m τ ζ k t) (Classical.propDecidable _) (if 127 < xStr n m τ ζ k t + xAcc n m τ ζ t n.toNat / 4 then 127 else xStr n m τ ζ k t + xAcc n m τ ζ t n.toNat / 4) 0
/-- sets of tracks, as numbers -/
noncomputable def xSet (P : Nat → Prop) : Nat → Nat
  | 0 => 0
  | j + 1 => @ite Nat (P j) (Classical.propDecidable _) (xSet P j ||| 2 ^ j) (xSet P j)
theorem xSet_b (P : Nat → Prop) : ∀ j : Nat, xSet P j < 2 ^ j
  | 0 => by unfold xSet; omega
  | j + 1 => by
    have h1 := xSet_b P j
    have h2 : 2 ^ j < 2 ^ (j + 1) := Nat.pow_lt_pow_right (by omega) (by omega)
    unfold xSet
    split
    · exact Nat.or_lt_two_pow (by omega) h2
    · omega
theorem xSet_bit (P : Nat → Prop) (i : Nat) : ∀ j : Nat, (xSet P j).testBit i = true ↔ (i < j ∧ P i)
  | 0 => by unfold xSet; simp
  | j + 1 => by
    have h1 := xSet_bit P i j
    unfold xSet
    split
    · rename_i h
      rw [Nat.testBit_or, Bool.or_eq_true, h1, Nat.testBit_two_pow]
      simp only [decide_eq_true_eq]
      constructor
      · rintro (⟨a, b⟩ | a)
        · exact ⟨by omega, b⟩
        · subst a; exact ⟨by omega, h⟩
      · rintro ⟨a, b⟩
        by_cases e : j = i
        · exact Or.inr e
        · exact Or.inl ⟨by omega, b⟩
    · rename_i h
      rw [h1]
      constructor
      · rintro ⟨a, b⟩; exact ⟨by omega, b⟩
      · rintro ⟨a, b⟩
        refine ⟨?_, b⟩
        by_cases e : i = j
        · subst e; exact absurd b h
        · omega
theorem xSet_s {P : Nat → Prop} {k : Int} (hk : 0 ≤ k) (h : P k.toNat) : xSet P (k + 1).toNat = xSet P k.toNat ||| 2 ^ k.toNat := by
  rw [show (k + 1).toNat = k.toNat + 1 by omega]
  exact if_pos h
theorem xSet_n {P : Nat → Prop} {k : Int} (hk : 0 ≤ k) (h : ¬ P k.toNat) : xSet P (k + 1).toNat = xSet P k.toNat := by
  rw [show (k + 1).toNat = k.toNat + 1 by omega]
  exact if_neg h
theorem zI_or (a b : Nat) : zI (a : Int) ||| zI (b : Int) = zI ((a ||| b : Nat) : Int) := by
  show nI a ||| nI b = nI (a ||| b)
  apply Int32.toBitVec_inj.mp
  rw [Int32.toBitVec_or]
  show BitVec.ofNat 32 a ||| BitVec.ofNat 32 b = BitVec.ofNat 32 (a ||| b)
  exact (BitVec.ofNat_or).symm
theorem zI_and (a b : Nat) : zI (a : Int) &&& zI (b : Int) = zI ((a &&& b : Nat) : Int) := by
  show nI a &&& nI b = nI (a &&& b)
  apply Int32.toBitVec_inj.mp
  rw [Int32.toBitVec_and]
  show BitVec.ofNat 32 a &&& BitVec.ofNat 32 b = BitVec.ofNat 32 (a &&& b)
  exact (BitVec.ofNat_and).symm
theorem zI_shl {k : Int} (h : 0 ≤ k ∧ k ≤ 30) : zI 1 <<< (zI k &&& 31) = zI ((2 ^ k.toNat : Nat) : Int) := by
  obtain ⟨j, rfl⟩ := Int.eq_ofNat_of_zero_le h.1
  rw [Int.toNat_natCast]
  show nI 1 <<< (nI j &&& 31) = nI (2 ^ j)
  have hp : 2 ^ j ≤ 2 ^ 30 := Nat.pow_le_pow_right (by omega) (by omega)
  rw [pk_shlN (n := 1) (nI j &&& 31) j (x_sl j (by omega)) (by omega), Nat.one_mul]
/-- how many ticks from a tick on have it -/
noncomputable def xCnt (P : Int → Prop) (a : Int) : Nat → Int
  | 0 => 0
  | j + 1 => @ite Int (P (a + j)) (Classical.propDecidable _) (xCnt P a j + 1) (xCnt P a j)
theorem xCnt_t {P : Int → Prop} {a t : Int} (h : a ≤ t) (q : P t) : xCnt P a (t + 1 - a).toNat = xCnt P a (t - a).toNat + 1 := by
  rw [show (t + 1 - a).toNat = (t - a).toNat + 1 by omega]
  exact if_pos (by rw [show a + ((t - a).toNat : Int) = t by omega]; exact q)
theorem xCnt_f {P : Int → Prop} {a t : Int} (h : a ≤ t) (q : ¬ P t) : xCnt P a (t + 1 - a).toNat = xCnt P a (t - a).toNat := by
  rw [show (t + 1 - a).toNat = (t - a).toNat + 1 by omega]
  exact if_neg (by rw [show a + ((t - a).toNat : Int) = t by omega]; exact q)
theorem xCnt_b (P : Int → Prop) (a : Int) : ∀ j : Nat, 0 ≤ xCnt P a j ∧ xCnt P a j ≤ j
  | 0 => by unfold xCnt; omega
  | j + 1 => by
    have := xCnt_b P a j
    unfold xCnt
    split <;> omega
theorem xSec_ret {ζ : Nat → Nat → Int} {t k m : Int} (hk : 0 ≤ k) (hm : k < m) (h : xSec ζ t k.toNat = -1) (q : t < ζ k.toNat 0 + ζ k.toNat 1) : k = xSec ζ t m.toNat := by
  have h9 : xSec ζ t (k + 1).toNat = k := by rw [xSec_s hk h, if_pos q]
  rw [xSec_up (i := (k + 1).toNat) m.toNat (by omega) (by omega), h9]
def zL (z : Int) : Int64 := Int64.ofInt z
theorem zL_n (n : Nat) : lN n = zL (n : Int) := rfl
theorem zI_l {x : Int} (h : 0 ≤ x ∧ x ≤ 2147483647) : (zI x).toInt64 = lN x.toNat := by
  obtain ⟨n, rfl⟩ := Int.eq_ofNat_of_zero_le h.1
  rw [Int.toNat_natCast, ← nI_l (by omega), zI_nI]
/-- the ticks after which a track comes round again -/
def xOwn (f : Nat → Int) : Nat := (f 0 * f 1).toNat * xRnd f (f 0).toNat
theorem xOwn_b {f : Nat → Int} (hf : TOK f) : 1 ≤ xOwn f ∧ xOwn f ≤ 1290240 := by
  have h1 := x_round hf
  have h0 : 1 ≤ f 0 := by unfold TOK at hf; omega
  have h2 := xRnd_b hf (k := (f 0).toNat) (by omega)
  unfold xOwn
  have h3 : (f 0 * f 1).toNat * xRnd f (f 0).toNat ≤ 1536 * 840 := Nat.mul_le_mul (by omega) h2.2
  have h4 : 1 * 1 ≤ (f 0 * f 1).toNat * xRnd f (f 0).toNat := Nat.mul_le_mul (by omega) h2.1
  omega
/-- the period of the first tracks; -1 where it is too great -/
def xPer (τ : Nat → Nat → Int) : Nat → Int
  | 0 => 1
  | j + 1 => if xPer τ j = -1 then -1 else if 1000000000 < Nat.lcm (xPer τ j).toNat (xOwn (τ j)) then -1 else (Nat.lcm (xPer τ j).toNat (xOwn (τ j)) : Int)
theorem xPer_s {τ : Nat → Nat → Int} {k : Int} {p : Nat} (hk : 0 ≤ k) (h : (p : Int) = xPer τ k.toNat) : xPer τ (k + 1).toNat = if 1000000000 < Nat.lcm p (xOwn (τ k.toNat)) then -1 else (Nat.lcm p (xOwn (τ k.toNat)) : Int) := by
  rw [show (k + 1).toNat = k.toNat + 1 by omega]
  show (if xPer τ k.toNat = -1 then -1 else _) = _
  rw [← h, if_neg (by omega), Int.toNat_natCast]
theorem xPer_up {τ : Nat → Nat → Int} {i : Nat} (h : xPer τ i = -1) : ∀ j : Nat, i ≤ j → xPer τ j = -1
  | 0, hij => by rw [show i = 0 by omega] at h; exact h
  | j + 1, hij => by
    by_cases e : i = j + 1
    · rw [← e]; exact h
    · have h1 := xPer_up h j (by omega)
      show (if xPer τ j = -1 then _ else _) = _
      rw [if_pos h1]
theorem x_lcmb {p q : Nat} (hp : 1 ≤ p) (hq : 1 ≤ q) : 1 ≤ Nat.lcm p q ∧ Nat.lcm p q ≤ p * q := by
  have h1 := Nat.lcm_pos (show 0 < p by omega) (show 0 < q by omega)
  exact ⟨h1, Nat.le_of_dvd (Nat.mul_pos (by omega) (by omega)) (Nat.lcm_dvd (Nat.dvd_mul_right _ _) (Nat.dvd_mul_left _ _))⟩
/-- the checksum -/
def xDt (τ : Nat → Nat → Int) (d : Int64) : Nat → Int64
  | 0 => d
  | j + 1 => xMt (τ j) (xDt τ d j)
theorem xDt_s {τ : Nat → Nat → Int} {d : Int64} {k : Int} (hk : 0 ≤ k) : xDt τ d (k + 1).toNat = xMt (τ k.toNat) (xDt τ d k.toNat) := by
  rw [show (k + 1).toNat = k.toNat + 1 by omega]; rfl
def xDz (ζ : Nat → Nat → Int) (d : Int64) : Nat → Int64
  | 0 => d
  | j + 1 => xMix (xMix (xMix (xDz ζ d j) (ζ j 1)) (ζ j 2)) (ζ j 3)
theorem xDz_s {ζ : Nat → Nat → Int} {d : Int64} {k : Int} (hk : 0 ≤ k) : xDz ζ d (k + 1).toNat = xMix (xMix (xMix (xDz ζ d k.toNat) (ζ k.toNat 1)) (ζ k.toNat 2)) (ζ k.toNat 3) := by
  rw [show (k + 1).toNat = k.toNat + 1 by omega]; rfl
def xDig (n m sp : Int) (τ ζ : Nat → Nat → Int) : Int64 := xDz ζ (xMix (xDt τ (xMix (xMix 313 sp) n) n.toNat) m) m.toNat
