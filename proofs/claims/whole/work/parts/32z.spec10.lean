def mAny (P : Int → Prop) (a v : Int) : Prop := (v = 1 ∧ ∃ j : Int, 0 ≤ j ∧ j < a ∧ P j) ∨ (v = 0 ∧ ∀ j : Int, 0 ≤ j → j < a → ¬ P j)
theorem mAny.z (P : Int → Prop) : mAny P 0 0 := Or.inr ⟨rfl, fun j h1 h2 => by omega⟩
theorem mAny.s {P : Int → Prop} {a v v' : Int} (h : mAny P a v) (ha : 0 ≤ a) (h' : (v' = 1 ∧ (v ≠ 0 ∨ P a)) ∨ (v' = 0 ∧ v = 0 ∧ ¬ P a)) : mAny P (a + 1) v' := by
  rcases h' with ⟨h1, h2⟩ | ⟨h1, h2, h3⟩
  · refine Or.inl ⟨h1, ?_⟩
    rcases h2 with h2 | h2
    · rcases h with ⟨-, j, a1, a2, a3⟩ | ⟨e, -⟩
      · exact ⟨j, a1, by omega, a3⟩
      · exact absurd e h2
    · exact ⟨a, ha, by omega, h2⟩
  · rcases h with ⟨e, -⟩ | ⟨-, h4⟩
    · omega
    · exact Or.inr ⟨h1, x_lts h4 h3⟩
theorem mAny.t {P : Int → Prop} {a v : Int} (h : mAny P a v) (hv : v ≠ 0) : ∃ j : Int, 0 ≤ j ∧ j < a ∧ P j := by
  rcases h with ⟨-, h⟩ | ⟨e, -⟩
  · exact h
  · exact absurd e hv
theorem mAny.f {P : Int → Prop} {a v : Int} (h : mAny P a v) (hv : v = 0) : ∀ j : Int, 0 ≤ j → j < a → ¬ P j := by
  rcases h with ⟨e, -⟩ | ⟨-, h⟩
  · omega
  · exact h
section SND
variable {n m : Int} {τ ζ : Nat → Nat → Int} {t k a j : Int}
abbrev mH (n m : Int) (τ ζ : Nat → Nat → Int) (t : Int) : Int → Int → Prop := fun k b => xHit n m τ ζ k (t - b)
abbrev mQ (τ : Nat → Nat → Int) : Int → Int := fun k => τ k.toNat 4
theorem mC_0 : yC n (mH n m τ ζ t) (mQ τ) k (t - t) := fun b h1 h2 => by omega
theorem mC_s (h : yC n (mH n m τ ζ t) (mQ τ) k (t - a)) (ho : ¬ xHit n m τ ζ k a) (hin : ∀ i : Int, 0 ≤ i → i < n → yG (mQ τ) k i → xHit n m τ ζ i a → xHit n m τ ζ k a ∧ i < k) : yC n (mH n m τ ζ t) (mQ τ) k (t - (a - 1)) := by
  intro b h1 h2
  rcases Int.lt_or_eq_of_le (show b ≤ t - a by omega) with q | q
  · exact h b h1 q
  · subst q
    have e : t - (t - a) = a := by omega
    refine ⟨?_, fun j j1 j2 j3 => ?_⟩
    · show ¬ xHit n m τ ζ k (t - (t - a))
      rw [e]; exact ho
    · show ¬ xHit n m τ ζ j (t - (t - a))
      rw [e]; exact fun q => ho (hin j j1 j2 j3 q).1
theorem mS_t (h : yC n (mH n m τ ζ t) (mQ τ) k (t - a)) (ha : 0 ≤ a ∧ a ≤ t) (hr : t - a < τ k.toNat 3) (ho : xHit n m τ ζ k a) (hin : ∀ i : Int, 0 ≤ i → i < n → yG (mQ τ) k i → xHit n m τ ζ i a → xHit n m τ ζ k a ∧ i < k) : xSnd n m τ ζ t k := by
  have e : t - (t - a) = a := by omega
  refine ⟨t - a, by omega, by omega, hr, ?_, h, fun j j1 j2 j3 j4 => ?_⟩
  · show xHit n m τ ζ k (t - (t - a))
    rw [e]; exact ho
  · have j5 : xHit n m τ ζ j (t - (t - a)) := j4
    rw [e] at j5
    exact (hin j j1 j2 j3 j5).2
theorem mS_c (h : yC n (mH n m τ ζ t) (mQ τ) k (t - a)) (ha : 0 ≤ a ∧ a ≤ t) (hj : 0 ≤ j ∧ j < n) (hg : yG (mQ τ) k j) (hh : xHit n m τ ζ j a) (hn : ¬ xHit n m τ ζ k a ∨ k < j) : ¬ xSnd n m τ ζ t k := by
  have e : t - (t - a) = a := by omega
  rintro ⟨b, b1, b2, b3, b4, b5, b6⟩
  rcases Int.lt_or_le b (t - a) with q | q
  · exact (h b b1 q).1 b4
  · rcases Int.lt_or_eq_of_le q with q | q
    · refine (b5 (t - a) (by omega) q).2 j hj.1 hj.2 hg ?_
      show xHit n m τ ζ j (t - (t - a))
      rw [e]; exact hh
    · subst q
      have b7 : xHit n m τ ζ k (t - (t - a)) := b4
      rw [e] at b7
      rcases hn with hn | hn
      · exact hn b7
      · have := b6 j hj.1 hj.2 hg (by show xHit n m τ ζ j (t - (t - a)); rw [e]; exact hh)
        omega
theorem mS_e (h : yC n (mH n m τ ζ t) (mQ τ) k (t - a)) (ha : a < 0 ∨ a ≤ t - τ k.toNat 3) : ¬ xSnd n m τ ζ t k := by
  rintro ⟨b, b1, b2, b3, b4, b5, b6⟩
  have b7 : b < τ k.toNat 3 := b3
  exact (h b b1 (by omega)).1 b4
end SND
theorem m_in {n m k a j : Int} {τ ζ : Nat → Nat → Int} (h : ∀ i : Int, 0 ≤ i → i < j → yG (mQ τ) k i → xHit n m τ ζ i a → xHit n m τ ζ k a ∧ i < k) (hj : yG (mQ τ) k j → xHit n m τ ζ j a → xHit n m τ ζ k a ∧ j < k) : ∀ i : Int, 0 ≤ i → i < j + 1 → yG (mQ τ) k i → xHit n m τ ζ i a → xHit n m τ ζ k a ∧ i < k := fun i h1 h2 => by
  rcases Int.lt_or_eq_of_le (show i ≤ j by omega) with q | q
  · exact h i h1 q
  · rw [q]; exact hj
