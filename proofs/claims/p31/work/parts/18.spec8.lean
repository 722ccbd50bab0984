/-! ===== the model: rows ===== -/
abbrev mW (G : Nat → ClassId) (am : Nat) (th n m sp : Int) (h : Nat → Nat) (M : Nat → Nat → Int32) : va_W := [(am, .inr (3, [.int (zI th), .int (zI n), .ref (h 0), .ref (h 1), .ref (h 2), .ref (h 3), .ref (h 4), .ref (h 5), .ref (h 6), .int (zI m), .ref (h 7), .ref (h 8), .ref (h 9), .int (zI sp)])), (h 0, .inl (G 0, 8, .inl (M 0))), (h 1, .inl (G 0, 8, .inl (M 1))), (h 2, .inl (G 0, 8, .inl (M 2))), (h 3, .inl (G 0, 8, .inl (M 3))), (h 4, .inl (G 0, 8, .inl (M 4))), (h 5, .inl (G 1, 24, .inl (M 5))), (h 6, .inl (G 0, 1024, .inl (M 6))), (h 7, .inl (G 0, 13, .inl (M 7))), (h 8, .inl (G 0, 12, .inl (M 8))), (h 9, .inl (G 1, 12, .inl (M 9)))]
def MR (n m : Int) (τ ζ : Nat → Nat → Int) (M : Nat → Nat → Int32) : Prop :=
  (∀ k : Nat, (k : Int) < n → ∀ i : Nat, i < 5 → M i k = zI (τ k i)) ∧
  (∀ k : Nat, (k : Int) < n → ∀ i : Nat, i < 3 → M 5 (3 * k + i) = zI (τ k (5 + i))) ∧
  (∀ k : Nat, (k : Int) < n → ∀ s w : Int, 0 ≤ s → s < τ k 0 → 0 ≤ w → w < 4 → M 6 (4 * (32 * k + s) + w).toNat = zI (xC (τ k) s w)) ∧
  (∀ k : Nat, n ≤ (k : Int) → k < 8 → M 2 k = zI 0 ∧ M 4 k = zI 0 ∧ ∀ i : Nat, i < 3 → M 5 (3 * k + i) = zI 0) ∧
  M 7 0 = zI 0 ∧ ∀ k : Nat, (k : Int) < m → M 7 k = zI (ζ k 0) ∧ M 7 (k + 1) = zI (ζ k 0 + ζ k 1) ∧ M 8 k = zI (ζ k 2) ∧ M 9 k = zI (ζ k 3)
section MM
variable {n m sp : Int} {τ ζ : Nat → Nat → Int} {M : Nat → Nat → Int32}
theorem MR.a (h : MR n m τ ζ M) {k : Int} (hk : 0 ≤ k ∧ k < n) (i : Nat) (hi : i < 5) : M i k.toNat = zI (τ k.toNat i) := h.1 k.toNat (by omega) i hi
theorem zI_is1 {x : Int} (h : x = 0 ∨ x = 1) : zI x = zB (x = 1) := by
  rcases h with h | h
  · rw [zB_f (by omega), h]; rfl
  · rw [zB_t h, h]; rfl
theorem MR.fl (h : MR n m τ ζ M) (hO : XOK n m sp τ ζ) {k j : Int} (i : Nat) (hk : 0 ≤ k ∧ k < n) (hi : i < 3) (hj : j = 3 * k + (i : Int)) : M 5 j.toNat = zB (τ k.toNat (5 + i) = 1) := by
  have h1 := h.2.1 k.toNat (by omega) i hi
  rw [show j.toNat = 3 * k.toNat + i by omega, h1]
  have h2 := hO.t hk
  obtain ⟨-, -, -, -, -, -, -, -, -, -, h5, h6, h7, -⟩ := h2
  refine zI_is1 ?_
  match i, hi with
  | 0, _ => exact h5
  | 1, _ => exact h6
  | 2, _ => exact h7
theorem MR.st (h : MR n m τ ζ M) {k s w j : Int} (hk : 0 ≤ k ∧ k < n) (hs : 0 ≤ s ∧ s < τ k.toNat 0) (hw : 0 ≤ w ∧ w < 4) (hj : j = 4 * (32 * k + s) + w) : M 6 j.toNat = zI (xC (τ k.toNat) s w) := by
  have h1 := h.2.2.1 k.toNat (by omega) s w hs.1 hs.2 hw.1 hw.2
  rw [← h1, hj, show ((k.toNat : Nat) : Int) = k by omega]
theorem MR.b (h : MR n m τ ζ M) {k : Int} (hk : 0 ≤ k ∧ k < m) : M 7 k.toNat = zI (ζ k.toNat 0) := (h.2.2.2.2.2 k.toNat (by omega)).1
theorem MR.e (h : MR n m τ ζ M) {k j : Int} (hk : 0 ≤ k ∧ k < m) (hj : j = k + 1) : M 7 j.toNat = zI (ζ k.toNat 0 + ζ k.toNat 1) := by
  rw [show j.toNat = k.toNat + 1 by omega]
  exact (h.2.2.2.2.2 k.toNat (by omega)).2.1
theorem MR.z (h : MR n m τ ζ M) {k : Int} (hk : 0 ≤ k ∧ k < m) : M 8 k.toNat = zI (ζ k.toNat 2) := (h.2.2.2.2.2 k.toNat (by omega)).2.2.1
theorem MR.w (h : MR n m τ ζ M) (hO : XOK n m sp τ ζ) {k : Int} (hk : 0 ≤ k ∧ k < m) : M 9 k.toNat = zB (ζ k.toNat 3 = 1) := by
  rw [(h.2.2.2.2.2 k.toNat (by omega)).2.2.2]
  exact zI_is1 ((hO.z hk).2.2.2.2.2)
end MM
