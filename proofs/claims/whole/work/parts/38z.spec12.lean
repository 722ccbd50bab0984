/-! ===== the model's rows change ===== -/
def mSh (S : Nat → Int32) (k : Nat) : Nat → Int32 := fun i => S (128 * k + i)
theorem mSh_upd {S : Nat → Int32} {k : Nat} {K s w j : Int} {x : Int32} (hK : K.toNat = k ∧ 0 ≤ K) (hs : 0 ≤ s) (hw : 0 ≤ w) (hj : j = 4 * (32 * K + s) + w) : mSh (upd S j.toNat x) k = upd (mSh S k) (s * 4 + w).toNat x := by
  funext i
  unfold mSh upd
  by_cases h : i = (s * 4 + w).toNat
  · rw [if_pos h, if_pos (by omega)]
  · rw [if_neg h, if_neg (by omega)]
theorem upd_out {S : Nat → Int32} {i j : Nat} {x : Int32} (h : i ≠ j) : upd S j x i = S i := if_neg h
section MG
variable {n m sp : Int} {τ ζ : Nat → Nat → Int} {M : Nat → Nat → Int32}
theorem MR.tr (h : MR n m τ ζ M) {k : Nat} (hk : (k : Int) < n) : TR (τ k) (mSh (M 6) k) := by
  intro s w h1 h2 h3 h4
  have := h.2.2.1 k hk s w h1 h2 h3 h4
  unfold mSh
  rw [← this]
  congr 1
  omega
theorem MR.gen (h : MR n m τ ζ M) (hO : XOK n m sp τ ζ) {k : Nat} (hk : (k : Int) < n) {f' : Nat → Int} {M' : Nat → Nat → Int32}
    (h1 : ∀ i, i < 5 → M' i k = zI (f' i)) (h1' : ∀ i j, i < 5 → j ≠ k → M' i j = M i j)
    (h2 : ∀ i, i < 3 → M' 5 (3 * k + i) = zI (f' (5 + i))) (h2' : ∀ j i, j ≠ k → i < 3 → M' 5 (3 * j + i) = M 5 (3 * j + i))
    (h3 : TR f' (mSh (M' 6) k)) (h3' : ∀ i, ¬ (128 * k ≤ i ∧ i < 128 * k + 128) → M' 6 i = M 6 i)
    (h7 : M' 7 = M 7) (h8 : M' 8 = M 8) (h9 : M' 9 = M 9) : MR n m (va_up τ k f') ζ M' := by
  refine ⟨fun j hj i hi => ?_, fun j hj i hi => ?_, fun j hj s w s1 s2 w1 w2 => ?_, fun j hj j8 => ?_, ?_⟩
  · by_cases e : j = k
    · subst e; rw [va_up_self]; exact h1 i hi
    · rw [va_up_ne _ _ e, h1' i j hi e]; exact h.1 j hj i hi
  · by_cases e : j = k
    · subst e; rw [va_up_self]; exact h2 i hi
    · rw [va_up_ne _ _ e, h2' j i e hi]; exact h.2.1 j hj i hi
  · by_cases e : j = k
    · subst e
      rw [va_up_self] at s2 ⊢
      rw [← h3 s w s1 s2 w1 w2]
      unfold mSh
      congr 1
      omega
    · rw [va_up_ne _ _ e] at s2 ⊢
      have h32 := (hO.tb (k := (j : Int)) ⟨by omega, hj⟩).2.1
      rw [Int.toNat_natCast] at h32
      rw [h3' _ (by omega)]
      exact h.2.2.1 j hj s w s1 s2 w1 w2
  · have e : j ≠ k := by omega
    rw [h1' 2 j (by omega) e, h1' 4 j (by omega) e]
    exact ⟨(h.2.2.2.1 j hj j8).1, (h.2.2.2.1 j hj j8).2.1, fun i hi => by rw [h2' j i e hi]; exact (h.2.2.2.1 j hj j8).2.2 i hi⟩
  · rw [h7, h8, h9]
    exact h.2.2.2.2
theorem MR.g6 (h : MR n m τ ζ M) (hO : XOK n m sp τ ζ) {k : Nat} (hk : (k : Int) < n) {f' : Nat → Int} {S : Nat → Int32} (h8 : ∀ i, i < 8 → f' i = τ k i) (h3 : TR f' (mSh S k)) (h3' : ∀ i, ¬ (128 * k ≤ i ∧ i < 128 * k + 128) → S i = M 6 i) : MR n m (va_up τ k f') ζ (va_up M 6 S) := by
  refine MR.gen h hO hk (fun i hi => ?_) (fun i j hi _ => ?_) (fun i hi => ?_) (fun j i _ hi => ?_) ?_ ?_ ?_ ?_ ?_
  · rw [va_up_ne _ _ (by omega), h8 i (by omega)]; exact h.1 k hk i hi
  · rw [va_up_ne _ _ (by omega)]
  · rw [va_up_ne _ _ (by omega), h8 (5 + i) (by omega)]; exact h.2.1 k hk i hi
  · rw [va_up_ne _ _ (by omega)]
  · rw [va_up_self]; exact h3
  · rw [va_up_self]; exact h3'
  · exact va_up_ne _ _ (by omega)
  · exact va_up_ne _ _ (by omega)
  · exact va_up_ne _ _ (by omega)
end MG
