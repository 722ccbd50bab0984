/-! ===== what sounds: h says who hits at which age, q is the group, r the ring ===== -/
def yG (q : Int → Int) (k j : Int) : Prop := j ≠ k ∧ q k ≠ 0 ∧ q j = q k
def yC (n : Int) (h : Int → Int → Prop) (q : Int → Int) (k a : Int) : Prop := ∀ b : Int, 0 ≤ b → b < a → ¬ h k b ∧ ∀ j : Int, 0 ≤ j → j < n → yG q k j → ¬ h j b
def yS (n : Int) (h : Int → Int → Prop) (q r : Int → Int) (k a : Int) : Prop := a < r k ∧ h k a ∧ yC n h q k a ∧ ∀ j : Int, 0 ≤ j → j < n → yG q k j → h j a → j < k
def yIO (n : Int) (h : Int → Int → Prop) (q : Int → Int) (a i : Int) (O : Nat) : Prop := ∀ k : Nat, O.testBit k = true ↔ ((k : Int) < n ∧ yC n h q k a ∧ ∀ j : Int, i < j → j < n → h j a → ¬ (j = k ∨ yG q k j))
def yIS (n : Int) (h : Int → Int → Prop) (q r : Int → Int) (a i : Int) (S : Nat) : Prop := ∀ k : Nat, S.testBit k = true ↔ ((k : Int) < n ∧ ((∃ b : Int, 0 ≤ b ∧ b < a ∧ yS n h q r k b) ∨ (i < k ∧ yS n h q r k a)))
def yJO (n : Int) (h : Int → Int → Prop) (q : Int → Int) (a : Int) (O : Nat) : Prop := ∀ k : Nat, O.testBit k = true ↔ ((k : Int) < n ∧ yC n h q k a)
def yJS (n : Int) (h : Int → Int → Prop) (q r : Int → Int) (a : Int) (S : Nat) : Prop := ∀ k : Nat, S.testBit k = true ↔ ((k : Int) < n ∧ ∃ b : Int, 0 ≤ b ∧ b < a ∧ yS n h q r k b)
section Y
variable {n : Int} {h : Int → Int → Prop} {q r : Int → Int} {a i : Int} {O S : Nat}
theorem yG.symm {k j : Int} (g : yG q k j) : yG q j k := ⟨fun e => g.1 e.symm, by rw [g.2.2]; exact g.2.1, g.2.2.symm⟩
theorem yG.trans {k j j' : Int} (g : yG q k j) (g' : yG q j j') : j' = k ∨ yG q k j' := by
  by_cases e : j' = k
  · exact Or.inl e
  · exact Or.inr ⟨e, g.2.1, g'.2.2.trans g.2.2⟩
/-- one of a group is clean where another is -/
theorem yC.mate {k j a : Int} (hc : yC n h q k a) (hk : 0 ≤ k ∧ k < n) (hj : 0 ≤ j ∧ j < n) (g : yG q k j) : yC n h q j a := by
  intro b hb hba
  obtain ⟨h1, h2⟩ := hc b hb hba
  refine ⟨h2 j hj.1 hj.2 g, fun j' h3 h4 g' => ?_⟩
  rcases g.trans g' with e | g2
  · rw [e]; exact h1
  · exact h2 j' h3 h4 g2
theorem yC.down {k a b : Int} (hc : yC n h q k a) (hb : b ≤ a) : yC n h q k b := fun c h1 h2 => hc c h1 (by omega)
theorem y_in0 (hJ : yJO n h q a O) : yIO n h q a (n - 1) O := by
  intro k
  rw [hJ k]
  exact ⟨fun ⟨h1, h2⟩ => ⟨h1, h2, fun j h3 h4 => absurd h4 (by omega)⟩, fun ⟨h1, h2, _⟩ => ⟨h1, h2⟩⟩
theorem y_in0s (hJ : yJS n h q r a S) : yIS n h q r a (n - 1) S := by
  intro k
  rw [hJ k]
  constructor
  · rintro ⟨h1, h2⟩; exact ⟨h1, Or.inl h2⟩
  · rintro ⟨h1, h2 | ⟨h2, _⟩⟩
    · exact ⟨h1, h2⟩
    · omega
theorem y_out (hI : yIO n h q a i O) (hi : i = -1) (ha : 0 ≤ a) : yJO n h q (a + 1) O := by
  subst hi
  intro k
  rw [hI k]
  constructor
  · rintro ⟨h1, h2, h3⟩
    refine ⟨h1, fun b hb hba => ?_⟩
    rcases Int.lt_or_eq_of_le (show b ≤ a by omega) with e | e
    · exact h2 b hb e
    · subst e
      exact ⟨fun hh => h3 k (by omega) h1 hh (Or.inl rfl), fun j h4 h5 g hh => h3 j (by omega) h5 hh (Or.inr g)⟩
  · rintro ⟨h1, h2⟩
    refine ⟨h1, h2.down (by omega), fun j h3 h4 hh e => ?_⟩
    obtain ⟨h5, h6⟩ := h2 a ha (by omega)
    rcases e with e | g
    · rw [e] at hh; exact h5 hh
    · exact h6 j (by omega) h4 g hh
theorem y_outs (hI : yIS n h q r a i S) (hi : i = -1) (ha : 0 ≤ a) : yJS n h q r (a + 1) S := by
  subst hi
  intro k
  rw [hI k]
  constructor
  · rintro ⟨h1, ⟨b, h2, h3, h4⟩ | ⟨_, h2⟩⟩
    · exact ⟨h1, b, h2, by omega, h4⟩
    · exact ⟨h1, a, ha, by omega, h2⟩
  · rintro ⟨h1, b, h2, h3, h4⟩
    refine ⟨h1, ?_⟩
    rcases Int.lt_or_eq_of_le (show b ≤ a by omega) with e | e
    · exact Or.inl ⟨b, h2, e, h4⟩
    · subst e; exact Or.inr ⟨by omega, h4⟩
/-- track i doesn't hit, or isn't open -/
theorem y_skip (hI : yIO n h q a i O) (hi : 0 ≤ i ∧ i < n) (hh : ¬ (h i a ∧ O.testBit i.toNat = true)) : yIO n h q a (i - 1) O := by
  intro k
  rw [hI k]
  constructor
  · rintro ⟨h1, h2, h3⟩
    refine ⟨h1, h2, fun j h4 h5 h6 e => ?_⟩
    rcases Int.lt_or_eq_of_le (show i ≤ j by omega) with e2 | e2
    · exact h3 j e2 h5 h6 e
    · subst e2
      refine hh ⟨h6, ?_⟩
      rw [hI i.toNat, Int.toNat_of_nonneg hi.1]
      rcases e with e | g
      · have e3 : (i.toNat : Int) = k := by omega
        refine ⟨hi.2, by rw [e]; exact h2, fun j h7 h8 h9 e4 => ?_⟩
        rw [e] at e4
        exact h3 j h7 h8 h9 e4
      · refine ⟨hi.2, h2.mate ⟨by omega, h1⟩ hi g, fun j h7 h8 h9 e4 => h3 j h7 h8 h9 ?_⟩
        rcases e4 with e4 | g2
        · rw [e4]; exact Or.inr g
        · exact g.trans g2
  · rintro ⟨h1, h2, h3⟩
    exact ⟨h1, h2, fun j h4 h5 h6 e => h3 j (by omega) h5 h6 e⟩
theorem y_skips (hI : yIS n h q r a i S) (hO : yIO n h q a i O) (hi : 0 ≤ i ∧ i < n) (hh : ¬ (h i a ∧ O.testBit i.toNat = true)) : yIS n h q r a (i - 1) S := by
  intro k
  rw [hI k]
  constructor
  · rintro ⟨h1, h2 | ⟨h2, h3⟩⟩
    · exact ⟨h1, Or.inl h2⟩
    · exact ⟨h1, Or.inr ⟨by omega, h3⟩⟩
  · rintro ⟨h1, h2 | ⟨h2, h3⟩⟩
    · exact ⟨h1, Or.inl h2⟩
    · refine ⟨h1, Or.inr ⟨?_, h3⟩⟩
      rcases Int.lt_or_eq_of_le (show i ≤ k by omega) with e2 | e2
      · exact e2
      · exfalso
        obtain ⟨h4, h5, h6, h7⟩ := h3
        rw [← e2] at h5 h6 h7
        refine hh ⟨h5, ?_⟩
        rw [hO i.toNat, Int.toNat_of_nonneg hi.1]
        refine ⟨hi.2, h6, fun j h8 h9 h10 e => ?_⟩
        rcases e with e | g
        · omega
        · have := h7 j (by omega) h9 g h10
          omega
/-- track i hits, and is open -/
theorem y_hit {O' : Nat} (hI : yIO n h q a i O) (hi : 0 ≤ i ∧ i < n) (hh : h i a) (hO' : ∀ k : Nat, O'.testBit k = true ↔ (O.testBit k = true ∧ ¬ ((k : Int) = i ∨ (q i ≠ 0 ∧ q k = q i)))) : yIO n h q a (i - 1) O' := by
  intro k
  rw [hO' k, hI k]
  constructor
  · rintro ⟨⟨h1, h2, h3⟩, h4⟩
    refine ⟨h1, h2, fun j h5 h6 h7 e => ?_⟩
    rcases Int.lt_or_eq_of_le (show i ≤ j by omega) with e2 | e2
    · exact h3 j e2 h6 h7 e
    · subst e2
      refine h4 ?_
      rcases e with e | g
      · exact Or.inl e.symm
      · exact Or.inr ⟨g.symm.2.1, g.symm.2.2⟩
  · rintro ⟨h1, h2, h3⟩
    refine ⟨⟨h1, h2, fun j h4 h5 h6 e => h3 j (by omega) h5 h6 e⟩, fun e => h3 i (by omega) hi.2 hh ?_⟩
    by_cases e2 : i = k
    · exact Or.inl e2
    · rcases e with e | ⟨g1, g2⟩
      · exact Or.inl e.symm
      · exact Or.inr ⟨e2, by rw [g2]; exact g1, g2.symm⟩
theorem y_hits {S' : Nat} (hI : yIS n h q r a i S) (hO : yIO n h q a i O) (hi : 0 ≤ i ∧ i < n) (hh : h i a) (ho : O.testBit i.toNat = true) (hS' : ∀ k : Nat, S'.testBit k = true ↔ (S.testBit k = true ∨ ((k : Int) = i ∧ a < r i))) : yIS n h q r a (i - 1) S' := by
  have ho2 := (hO i.toNat).mp ho
  rw [Int.toNat_of_nonneg hi.1] at ho2
  intro k
  rw [hS' k, hI k]
  constructor
  · rintro (⟨h1, h2 | ⟨h2, h3⟩⟩ | ⟨h1, h2⟩)
    · exact ⟨h1, Or.inl h2⟩
    · exact ⟨h1, Or.inr ⟨by omega, h3⟩⟩
    · rw [h1]
      refine ⟨hi.2, Or.inr ⟨by omega, h2, hh, ho2.2.1, fun j h3 h4 g h5 => ?_⟩⟩
      rcases Int.lt_trichotomy j i with e | e | e
      · exact e
      · exact absurd e g.1
      · exact absurd (Or.inr g) (ho2.2.2 j e h4 h5)
  · rintro ⟨h1, h2 | ⟨h2, h3⟩⟩
    · exact Or.inl ⟨h1, Or.inl h2⟩
    · rcases Int.lt_or_eq_of_le (show i ≤ k by omega) with e2 | e2
      · exact Or.inl ⟨h1, Or.inr ⟨e2, h3⟩⟩
      · refine Or.inr ⟨e2.symm, ?_⟩
        rw [e2]; exact h3.1
/-- all is found -/
theorem y_end {t : Int} (hJ : yJS n h q r a S) (hO : yJO n h q a O) (hr : ∀ k : Int, 0 ≤ k → k < n → r k ≤ 200) (hx : 200 ≤ a ∨ t < a ∨ O = 0) (hat : a ≤ t + 1) (ha : 0 ≤ a) (k : Nat) : S.testBit k = true ↔ ((k : Int) < n ∧ ∃ b : Int, 0 ≤ b ∧ b ≤ t ∧ yS n h q r k b) := by
  rw [hJ k]
  constructor
  · rintro ⟨h1, b, h2, h3, h4⟩
    exact ⟨h1, b, h2, by omega, h4⟩
  · rintro ⟨h1, b, h2, h3, h4⟩
    refine ⟨h1, b, h2, ?_, h4⟩
    rcases (show b < a ∨ a ≤ b by omega) with e | e
    · exact e
    · exfalso
      have h5 := hr k (by omega) h1
      have h6 := h4.1
      rcases hx with e2 | e2 | e2
      · omega
      · omega
      · have h7 := (hO k).mpr ⟨h1, h4.2.2.1.down e⟩
        rw [e2] at h7
        simp at h7
end Y
/-- a track sounds at a tick -/
def xSnd (n m : Int) (τ ζ : Nat → Nat → Int) (t k : Int) : Prop := ∃ b : Int, 0 ≤ b ∧ b ≤ t ∧ yS n (fun k b => xHit n m τ ζ k (t - b)) (fun k => τ k.toNat 4) (fun k => τ k.toNat 3) k b
theorem x_setEq {S : Nat} {P : Nat → Prop} {n : Int} (hn : 0 ≤ n) (h : ∀ k : Nat, S.testBit k = true ↔ ((k : Int) < n ∧ P k)) : S = xSet P n.toNat := by
  apply Nat.eq_of_testBit_eq
  intro k
  have h1 := h k
  have h2 := xSet_bit P k n.toNat
  rw [Bool.eq_iff_iff, h1, h2]
  constructor
  · rintro ⟨a, b⟩; exact ⟨by omega, b⟩
  · rintro ⟨a, b⟩; exact ⟨by omega, b⟩
theorem zI_m1 : zI (-1) = zI ((4294967295 : Nat) : Int) := by decide
theorem zI_xor (a b : Nat) : zI (a : Int) ^^^ zI (b : Int) = zI ((a ^^^ b : Nat) : Int) := by
  show nI a ^^^ nI b = nI (a ^^^ b)
  apply Int32.toBitVec_inj.mp
  rw [Int32.toBitVec_xor]
  show BitVec.ofNat 32 a ^^^ BitVec.ofNat 32 b = BitVec.ofNat 32 (a ^^^ b)
  exact (BitVec.ofNat_xor).symm
theorem x_clrBit (O M k : Nat) (hO : O < 256) : (O &&& (M ^^^ 4294967295)).testBit k = true ↔ (O.testBit k = true ∧ ¬ M.testBit k = true) := by
  rw [Nat.testBit_and, Bool.and_eq_true]
  constructor
  · rintro ⟨h1, h2⟩
    refine ⟨h1, fun h3 => ?_⟩
    have hk : k < 8 := by
      rcases Nat.lt_or_ge k 8 with e | e
      · exact e
      · rw [Nat.testBit_lt_two_pow (Nat.lt_of_lt_of_le hO (show 2 ^ 8 ≤ 2 ^ k from Nat.pow_le_pow_right (by omega) e))] at h1
        cases h1
    rw [Nat.testBit_xor, h3, show (4294967295 : Nat) = 2 ^ 32 - 1 from rfl, Nat.testBit_two_pow_sub_one, decide_eq_true (show k < 32 by omega)] at h2
    cases h2
  · rintro ⟨h1, h2⟩
    refine ⟨h1, ?_⟩
    have hk : k < 8 := by
      rcases Nat.lt_or_ge k 8 with e | e
      · exact e
      · rw [Nat.testBit_lt_two_pow (Nat.lt_of_lt_of_le hO (show 2 ^ 8 ≤ 2 ^ k from Nat.pow_le_pow_right (by omega) e))] at h1
        cases h1
    rw [Nat.testBit_xor, show (4294967295 : Nat) = 2 ^ 32 - 1 from rfl, Nat.testBit_two_pow_sub_one, decide_eq_true (show k < 32 by omega)]
    cases e : M.testBit k
    · rfl
    · exact absurd e h2
theorem x_orBit (S i k : Nat) : (S ||| 2 ^ i).testBit k = true ↔ (S.testBit k = true ∨ k = i) := by
  rw [Nat.testBit_or, Bool.or_eq_true, Nat.testBit_two_pow, decide_eq_true_eq]
  constructor <;> rintro (h | h) <;> first | exact Or.inl h | exact Or.inr h.symm
theorem x_and_le {O M : Nat} (hO : O < 256) : O &&& M < 256 := Nat.lt_of_le_of_lt Nat.and_le_left hO
theorem x_or_lt {S i : Nat} (hS : S < 256) (hi : i < 8) : S ||| 2 ^ i < 256 := Nat.or_lt_two_pow (n := 8) hS (Nat.pow_lt_pow_right (by omega) hi)
/-- the first tick from a on that has it, of so many -/
noncomputable def xNx (P : Int → Prop) (a : Int) : Nat → Int
  | 0 => -1
  | j + 1 => if xNx P a j = -1 then @ite Int (P (a + j)) (Classical.propDecidable _) (a + j) (-1) else xNx P a j
theorem xNx_up {P : Int → Prop} {a : Int} : ∀ {i : Nat} (j : Nat), xNx P a i ≠ -1 → i ≤ j → xNx P a j = xNx P a i
  | i, 0, h, hij => by rw [show i = 0 by omega]
  | i, j + 1, h, hij => by
    by_cases e : i = j + 1
    · rw [e]
    · have h1 := xNx_up j h (by omega)
      show (if xNx P a j = -1 then _ else xNx P a j) = _
      rw [h1, if_neg h]
theorem xNx_f {P : Int → Prop} {a t : Int} (h : a ≤ t) (h0 : xNx P a (t - a).toNat = -1) (q : ¬ P t) : xNx P a (t + 1 - a).toNat = -1 := by
  rw [show (t + 1 - a).toNat = (t - a).toNat + 1 by omega]
  show (if xNx P a (t - a).toNat = -1 then @ite Int (P (a + ((t - a).toNat : Nat))) (Classical.propDecidable _) _ (-1) else _) = _
  rw [if_pos h0, if_neg (by rw [show a + ((t - a).toNat : Int) = t by omega]; exact q)]
theorem xNx_ret {P : Int → Prop} {a t : Int} {N : Nat} (ha : 0 ≤ a) (h : a ≤ t) (hN : t < a + N) (h0 : xNx P a (t - a).toNat = -1) (q : P t) : t = xNx P a N := by
  have h1 : xNx P a ((t - a).toNat + 1) = t := by
    show (if xNx P a (t - a).toNat = -1 then @ite Int (P (a + ((t - a).toNat : Nat))) (Classical.propDecidable _) _ (-1) else _) = _
    rw [if_pos h0, if_pos (by rw [show a + ((t - a).toNat : Int) = t by omega]; exact q)]
    omega
  rw [xNx_up (i := (t - a).toNat + 1) N (by omega) (by omega), h1]
def xSecs (sp t : Int) : UInt64 := FP.ddiv (FP.ddiv (FP.dmul (FP.i2d (zI t)) 4633641066610819072) (FP.i2d (zI sp))) 4627448617123184640
theorem x_oclr {o : Nat} {i n : Int} {Q : Nat → Prop} (ho : o < 256) (hi : 0 ≤ i) (hb : ∀ k : Nat, o.testBit k = true → (k : Int) < n) (k : Nat) : (o &&& ((2 ^ i.toNat ||| xSet Q n.toNat) ^^^ 4294967295)).testBit k = true ↔ (o.testBit k = true ∧ ¬ ((k : Int) = i ∨ Q k)) := by
  rw [x_clrBit _ _ _ ho, Nat.testBit_or, Bool.or_eq_true, Nat.testBit_two_pow, decide_eq_true_eq, xSet_bit]
  constructor
  · rintro ⟨h1, h2⟩
    refine ⟨h1, fun h3 => h2 ?_⟩
    rcases h3 with h3 | h3
    · exact Or.inl (by omega)
    · exact Or.inr ⟨by have := hb k h1; omega, h3⟩
  · rintro ⟨h1, h2⟩
    refine ⟨h1, fun h3 => h2 ?_⟩
    rcases h3 with h3 | h3
    · exact Or.inl (by omega)
    · exact Or.inr h3.2
