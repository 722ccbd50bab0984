theorem m_len {n m : Int} {τ ζ : Nat → Nat → Int} {M : Nat → Nat → Int32} (h : MR n m τ ζ M) (hm : 0 ≤ m) : M 7 m.toNat = zI (if m = 0 then 0 else ζ (m - 1).toNat 0 + ζ (m - 1).toNat 1) := by
  by_cases e : m = 0
  · subst e
    exact h.2.2.2.2.1
  · rw [if_neg e]
    exact h.e (k := m - 1) (by omega) (by omega)
theorem m_l2 {a b : Int} (ha : 0 ≤ a ∧ a ≤ 2147483647) (hb : 0 ≤ b ∧ b ≤ 2147483647) : (zI a).toInt64 * (zI b).toInt64 = lN (a * b).toNat := by
  rw [zI_l (by omega), zI_l (by omega), lN_mul]
  congr 1
  have h := Int.mul_nonneg ha.1 hb.1
  have e1 : ((a.toNat * b.toNat : Nat) : Int) = a * b := by rw [Int.natCast_mul, Int.toNat_of_nonneg ha.1, Int.toNat_of_nonneg hb.1]
  omega
