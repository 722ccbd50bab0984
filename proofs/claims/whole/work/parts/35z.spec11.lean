theorem m_len {n m : Int} {τ ζ : Nat → Nat → Int} {M : Nat → Nat → Int32} (h : MR n m τ ζ M) (hm : 0 ≤ m) : M 7 m.toNat = zI (if m = 0 then 0 else ζ (m - 1).toNat 0 + ζ (m - 1).toNat 1) := by
  by_cases e : m = 0
  · subst e
    exact h.2.2.2.2.1
  · rw [if_neg e]
    exact h.e (k := m - 1) (by omega) (by omega)
