/-! ===== the model's rows change ===== -/
def mSh (S : Nat → Int32) (k : Nat) : Nat → Int32 := fun i => S (128 * k + i)
theorem mSh_upd {S : Nat → Int32} {k : Nat} {K s w j : Int} {x : Int32} (hK : K.toNat = k ∧ 0 ≤ K) (hs : 0 ≤ s) (hw : 0 ≤ w) (hj : j = 4 * (32 * K + s) + w) : mSh (upd S j.toNat x) k = upd (mSh S k) (s * 4 + w).toNat x := by
  funext i
  unfold mSh upd
  by_cases h : i = (s * 4 + w).toNat
  · rw [if_pos h, if_pos (by omega)]
  · rw [if_neg h, if_neg (by omega)]
theorem upd_out {S : Nat → Int32} {i j : Nat} {x : Int32} (h : i ≠ j) : upd S j x i = S i := if_neg h
section MG
variable {n m sp : Int} {τ ζ : Nat → Nat → Int} {M : Nat → Nat → Int32}
theorem MR.tr (h : MR n m τ ζ M) {k : Nat} (hk : (k : Int) < n) : TR (τ k) (mSh (M 6) k) := by
  intro s w h1 h2 h3 h4
  have := h.2.2.1 k hk s w h1 h2 h3 h4
  unfold mSh
  rw [← this]
  congr 1
  omega
theorem MR.gen (h : MR n m τ ζ M) (hO : XOK n m sp τ ζ) {k : Nat} (hk : (k : Int) < n) {f' : Nat → Int} {M' : Nat → Nat → Int32}
    (h1 : ∀ i, i < 5 → M' i k = zI (f' i)) (h1' : ∀ i j, i < 5 → j ≠ k → M' i j = M i j)
    (h2 : ∀ i, i < 3 → M' 5 (3 * k + i) = zI (f' (5 + i))) (h2' : ∀ j i, j ≠ k → i < 3 → M' 5 (3 * j + i) = M 5 (3 * j + i))
    (h3 : TR f' (mSh (M' 6) k)) (h3' : ∀ i, ¬ (128 * k ≤ i ∧ i < 128 * k + 128) → M' 6 i = M 6 i)
    (h7 : M' 7 = M 7) (h8 : M' 8 = M 8) (h9 : M' 9 = M 9) : MR n m (va_up τ k f') ζ M' := by
  refine ⟨fun j hj i hi => ?_, fun j hj i hi => ?_, fun j hj s w s1 s2 w1 w2 => ?_, fun j hj j8 => ?_, ?_⟩
  · by_cases e : j = k
    · subst e; rw [va_up_self]; exact h1 i hi
    · rw [va_up_ne _ _ e, h1' i j hi e]; exact h.1 j hj i hi
  · by_cases e : j = k
    · subst e; rw [va_up_self]; exact h2 i hi
    · rw [va_up_ne _ _ e, h2' j i e hi]; exact h.2.1 j hj i hi
  · by_cases e : j = k
    · subst e
      rw [va_up_self] at s2 ⊢
      rw [← h3 s w s1 s2 w1 w2]
      unfold mSh
      congr 1
      omega
    · rw [va_up_ne _ _ e] at s2 ⊢
      have h32 := (hO.tb (k := (j : Int)) ⟨by omega, hj⟩).2.1
      rw [Int.toNat_natCast] at h32
      rw [h3' _ (by omega)]
      exact h.2.2.1 j hj s w s1 s2 w1 w2
  · have e : j ≠ k := by omega
    rw [h1' 2 j (by omega) e, h1' 4 j (by omega) e]
    exact ⟨(h.2.2.2.1 j hj j8).1, (h.2.2.2.1 j hj j8).2.1, fun i hi => by rw [h2' j i e hi]; exact (h.2.2.2.1 j hj j8).2.2 i hi⟩
  · rw [h7, h8, h9]
    exact h.2.2.2.2
theorem MR.g6 (h : MR n m τ ζ M) (hO : XOK n m sp τ ζ) {k : Nat} (hk : (k : Int) < n) {f' : Nat → Int} {S : Nat → Int32} (h8 : ∀ i, i < 8 → f' i = τ k i) (h3 : TR f' (mSh S k)) (h3' : ∀ i, ¬ (128 * k ≤ i ∧ i < 128 * k + 128) → S i = M 6 i) : MR n m (va_up τ k f') ζ (va_up M 6 S) := by
  refine MR.gen h hO hk (fun i hi => ?_) (fun i j hi _ => ?_) (fun i hi => ?_) (fun j i _ hi => ?_) ?_ ?_ ?_ ?_ ?_
  · rw [va_up_ne _ _ (by omega), h8 i (by omega)]; exact h.1 k hk i hi
  · rw [va_up_ne _ _ (by omega)]
  · rw [va_up_ne _ _ (by omega), h8 (5 + i) (by omega)]; exact h.2.1 k hk i hi
  · rw [va_up_ne _ _ (by omega)]
  · rw [va_up_self]; exact h3
  · rw [va_up_self]; exact h3'
  · exact va_up_ne _ _ (by omega)
  · exact va_up_ne _ _ (by omega)
  · exact va_up_ne _ _ (by omega)
end MG
theorem zi_vnar {x : Int} (h : x = 0 ∨ x = 1) : vp_nar .boolean (zI x) = zI x := by rw [zI_b h]; exact zB_vnar
section MT
variable {n m sp : Int} {τ ζ : Nat → Nat → Int} {M : Nat → Nat → Int32}
theorem MR.tn (h : MR n m τ ζ M) (hO : XOK n m sp τ ζ) {k : Nat} (hk : (k : Int) < n) {a b c : Int} : MR n m (va_up τ k (xFu (τ k) a b c)) ζ (va_up (va_up (va_up M 2 (upd (M 2) k (zI a))) 3 (upd (M 3) k (zI b))) 4 (upd (M 4) k (zI c))) := by
  have hr : ∀ i j, i < 5 → j ≠ k → va_up (va_up (va_up M 2 (upd (M 2) k (zI a))) 3 (upd (M 3) k (zI b))) 4 (upd (M 4) k (zI c)) i j = M i j := by
    intro i j hi hj
    match i, hi with
    | 0, _ => rfl
    | 1, _ => rfl
    | 2, _ => exact upd_out hj
    | 3, _ => exact upd_out hj
    | 4, _ => exact upd_out hj
  refine MR.gen h hO hk (fun i hi => ?_) hr (fun i hi => ?_) (fun _ _ _ _ => rfl) ?_ (fun _ _ => rfl) rfl rfl rfl
  · match i, hi with
    | 0, _ => exact h.1 k hk 0 (by omega)
    | 1, _ => exact h.1 k hk 1 (by omega)
    | 2, _ => exact if_pos rfl
    | 3, _ => exact if_pos rfl
    | 4, _ => exact if_pos rfl
  · have := h.2.1 k hk i hi
    match i, hi with
    | 0, _ => exact this
    | 1, _ => exact this
    | 2, _ => exact this
  · exact x_upTR (x_upTR (x_upTR (h.tr hk) (by omega)) (by omega)) (by omega)
theorem MR.fu (h : MR n m τ ζ M) (hO : XOK n m sp τ ζ) {k w : Nat} (hk : (k : Int) < n) (hw : w < 3) {x : Int} {j : Nat} (hj : j = 3 * k + w) : MR n m (va_up τ k (va_up (τ k) (5 + w) x)) ζ (va_up M 5 (upd (M 5) j (zI x))) := by
  subst hj
  refine MR.gen h hO hk (fun i hi => ?_) (fun i j hi hj => ?_) (fun i hi => ?_) (fun j i hj hi => ?_) ?_ (fun _ _ => ?_) ?_ ?_ ?_
  · rw [va_up_ne _ _ (by omega), va_up_ne _ _ (by omega)]; exact h.1 k hk i hi
  · rw [va_up_ne _ _ (by omega)]
  · rw [va_up_self]
    by_cases e : i = w
    · subst e; rw [va_up_self]; exact if_pos rfl
    · rw [va_up_ne _ _ (by omega), upd_out (by omega)]; exact h.2.1 k hk i hi
  · rw [va_up_self]; exact upd_out (by omega)
  · rw [va_up_ne _ _ (by omega)]; exact x_upTR (h.tr hk) (by omega)
  · rw [va_up_ne _ _ (by omega)]
  · exact va_up_ne _ _ (by omega)
  · exact va_up_ne _ _ (by omega)
  · exact va_up_ne _ _ (by omega)
end MT
def mPl (S : Nat → Int32) (k s v : Int) : Nat → Int32 := upd (upd (upd (upd S ((4 * (32 * (k) + (s))) + (0)).toNat (zI v)) ((4 * (32 * (k) + (s))) + (1)).toNat (zI 1)) ((4 * (32 * (k) + (s))) + (2)).toNat (zI 0)) ((4 * (32 * (k) + (s))) + (3)).toNat (zI 1)
theorem mPl_sh {S : Nat → Int32} {k s v : Int} (hk : 0 ≤ k) (hs : 0 ≤ s) : mSh (mPl S k s v) k.toNat = xClr (mSh S k.toNat) s v := by
  unfold mPl
  rw [mSh_upd (K := k) (s := s) (w := 3) ⟨rfl, hk⟩ hs (by omega) rfl, mSh_upd (K := k) (s := s) (w := 2) ⟨rfl, hk⟩ hs (by omega) rfl, mSh_upd (K := k) (s := s) (w := 1) ⟨rfl, hk⟩ hs (by omega) rfl, mSh_upd (K := k) (s := s) (w := 0) ⟨rfl, hk⟩ hs (by omega) rfl]
  rfl
theorem mPl_out {S : Nat → Int32} {k s v : Int} (hk : 0 ≤ k) (hs : 0 ≤ s ∧ s < 32) {i : Nat} (hi : ¬ (128 * k.toNat ≤ i ∧ i < 128 * k.toNat + 128)) : mPl S k s v i = S i := by
  unfold mPl
  rw [upd_out (by omega), upd_out (by omega), upd_out (by omega), upd_out (by omega)]
section MS
variable {n m sp : Int} {τ ζ : Nat → Nat → Int} {M : Nat → Nat → Int32}
theorem MR.adds (h : MR n m τ ζ M) (hm : 0 ≤ m) {a b v : Int} : MR n (m + 1) τ (va_up ζ m.toNat (xZn (if m = 0 then 0 else ζ (m - 1).toNat 0 + ζ (m - 1).toNat 1) a b v)) (va_up (va_up (va_up M 7 (upd (M 7) (m + 1).toNat (zI ((if m = 0 then 0 else ζ (m - 1).toNat 0 + ζ (m - 1).toNat 1) + a)))) 8 (upd (M 8) m.toNat (zI b))) 9 (upd (M 9) m.toNat (zI v))) := by
  have hln := m_len h hm
  refine ⟨fun j hj i hi => ?_, h.2.1, h.2.2.1, h.2.2.2.1, ?_, fun k hk => ?_⟩
  · have := h.1 j hj i hi
    match i, hi with
    | 0, _ => exact this
    | 1, _ => exact this
    | 2, _ => exact this
    | 3, _ => exact this
    | 4, _ => exact this
  · exact (upd_out (by omega)).trans h.2.2.2.2.1
  · show upd (M 7) (m + 1).toNat _ k = _ ∧ upd (M 7) (m + 1).toNat _ (k + 1) = _ ∧ upd (M 8) m.toNat _ k = _ ∧ upd (M 9) m.toNat _ k = _
    by_cases e : k = m.toNat
    · subst e
      rw [va_up_self]
      refine ⟨(upd_out (by omega)).trans hln, ?_, if_pos rfl, if_pos rfl⟩
      rw [show (m + 1).toNat = m.toNat + 1 by omega]
      exact if_pos rfl
    · rw [va_up_ne _ _ e]
      have h1 := h.2.2.2.2.2 k (by omega)
      exact ⟨(upd_out (by omega)).trans h1.1, (upd_out (by omega)).trans h1.2.1, (upd_out e).trans h1.2.2.1, (upd_out e).trans h1.2.2.2⟩
theorem MR.add (h : MR n m τ ζ M) (hO : XOK n m sp τ ζ) (hn : 0 ≤ n ∧ n < 8) {a b : Int} {S : Nat → Int32} (hT : TR (xF0 a b) (mSh S n.toNat)) (hout : ∀ i, ¬ (128 * n.toNat ≤ i ∧ i < 128 * n.toNat + 128) → S i = M 6 i) : MR (n + 1) m (va_up τ n.toNat (xF0 a b)) ζ (va_up (va_up (va_up (va_up M 0 (upd (M 0) n.toNat (zI a))) 1 (upd (M 1) n.toNat (zI b))) 3 (upd (M 3) n.toNat (zI 10))) 6 S) := by
  have hz := h.2.2.2.1 n.toNat (by omega) (by omega)
  refine ⟨fun j hj i hi => ?_, fun j hj i hi => ?_, fun j hj s w s1 s2 w1 w2 => ?_, fun j hj j8 => ?_, h.2.2.2.2⟩
  · by_cases e : j = n.toNat
    · subst e; rw [va_up_self]
      match i, hi with
      | 0, _ => exact if_pos rfl
      | 1, _ => exact if_pos rfl
      | 2, _ => exact hz.1
      | 3, _ => exact if_pos rfl
      | 4, _ => exact hz.2.1
    · rw [va_up_ne _ _ e]
      have h1 := h.1 j (by omega) i hi
      match i, hi with
      | 0, _ => exact (upd_out e).trans h1
      | 1, _ => exact (upd_out e).trans h1
      | 2, _ => exact h1
      | 3, _ => exact (upd_out e).trans h1
      | 4, _ => exact h1
  · show M 5 (3 * j + i) = _
    by_cases e : j = n.toNat
    · subst e; rw [va_up_self, hz.2.2 i hi]
      match i, hi with
      | 0, _ => rfl
      | 1, _ => rfl
      | 2, _ => rfl
    · rw [va_up_ne _ _ e]; exact h.2.1 j (by omega) i hi
  · show S _ = _
    by_cases e : j = n.toNat
    · subst e
      rw [va_up_self] at s2 ⊢
      rw [← hT s w s1 s2 w1 w2]
      unfold mSh
      congr 1
      omega
    · rw [va_up_ne _ _ e] at s2 ⊢
      have h32 := (hO.tb (k := (j : Int)) ⟨by omega, by omega⟩).2.1
      rw [Int.toNat_natCast] at h32
      rw [hout _ (by omega)]
      exact h.2.2.1 j (by omega) s w s1 s2 w1 w2
  · exact h.2.2.2.1 j (by omega) j8
end MS
