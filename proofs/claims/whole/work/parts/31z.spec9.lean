theorem m_sil {τ : Nat → Nat → Int} {k a v v' : Int} (hv : (v = 1 ∧ ∃ j : Int, 0 ≤ j ∧ j < a ∧ j ≠ k ∧ τ j.toNat 6 = 1) ∨ (v = 0 ∧ ∀ j : Int, 0 ≤ j → j < a → j ≠ k → ¬ τ j.toNat 6 = 1)) (ha : 0 ≤ a)
    (h : (v' = 1 ∧ (v ≠ 0 ∨ (a ≠ k ∧ τ a.toNat 6 = 1))) ∨ (v' = 0 ∧ v = 0 ∧ (a ≠ k → ¬ τ a.toNat 6 = 1))) : (v' = 1 ∧ ∃ j : Int, 0 ≤ j ∧ j < a + 1 ∧ j ≠ k ∧ τ j.toNat 6 = 1) ∨ (v' = 0 ∧ ∀ j : Int, 0 ≤ j → j < a + 1 → j ≠ k → ¬ τ j.toNat 6 = 1) := by
  rcases h with ⟨h1, h2⟩ | ⟨h1, h2, h3⟩
  · refine Or.inl ⟨h1, ?_⟩
    rcases h2 with h2 | ⟨h2, h3⟩
    · rcases hv with ⟨-, j, a1, a2, a3, a4⟩ | ⟨e, -⟩
      · exact ⟨j, a1, by omega, a3, a4⟩
      · exact absurd e h2
    · exact ⟨a, ha, by omega, h2, h3⟩
  · refine Or.inr ⟨h1, fun j a1 a2 a3 => ?_⟩
    rcases hv with ⟨e, -⟩ | ⟨-, h4⟩
    · omega
    · rcases Int.lt_or_eq_of_le (show j ≤ a by omega) with q | q
      · exact h4 j a1 q a3
      · rw [q]; exact h3 (q ▸ a3)
theorem m_sil1 {τ : Nat → Nat → Int} {n k a v : Int} (hv : (v = 1 ∧ ∃ j : Int, 0 ≤ j ∧ j < a ∧ j ≠ k ∧ τ j.toNat 6 = 1) ∨ (v = 0 ∧ ∀ j : Int, 0 ≤ j → j < a → j ≠ k → ¬ τ j.toNat 6 = 1)) (h : v ≠ 0) (ha : a ≤ n) : xSolo n τ := by
  rcases hv with ⟨-, j, h2, h3, h4, h5⟩ | ⟨h1, -⟩
  · exact ⟨j, h2, by omega, h5⟩
  · exact absurd h1 h
