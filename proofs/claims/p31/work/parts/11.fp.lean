/-! ===== doubles that are numbers, not below zero: their bits are at most those of the infinity ===== -/
def zFb : Nat := 9218868437227405312
def zFn (r : UInt64) : Prop := r.toNat ≤ zFb
def zFd (d : Jvm.FP.Core.Datum) : Prop := (∃ (c : Nat) (q : Int), d = .fin false c q) ∨ d = .inf false
theorem zF_enc_bound {c : Nat} {q : Int} (hc : c < 2 ^ 53) : Jvm.FP.Core.encode Jvm.FP.Core.b64 (Jvm.FP.Core.bound Jvm.FP.Core.b64 false c q) ≤ zFb := by
  unfold Jvm.FP.Core.bound
  by_cases h : q ≤ Jvm.FP.Core.b64.qmax
  · rw [if_pos h]
    have hq : q ≤ 971 := h
    show (if c < 4503599627370496 then (0 * 2048 + 0) * 4503599627370496 + c else (0 * 2048 + ((q - (-1074)).toNat + 1)) * 4503599627370496 + (c - 4503599627370496)) ≤ 9218868437227405312
    by_cases h2 : c < 4503599627370496
    · rw [if_pos h2]; omega
    · rw [if_neg h2]
      have h3 : (q - (-1074)).toNat + 1 ≤ 2046 := by omega
      omega
  · rw [if_neg h]
    show (0 * 2048 + (2048 - 1)) * 4503599627370496 + 0 ≤ 9218868437227405312
    omega
theorem zF_enc_settle (c : Nat) (q : Int) : Jvm.FP.Core.encode Jvm.FP.Core.b64 (Jvm.FP.Core.settle Jvm.FP.Core.b64 false c q) ≤ zFb := by
  unfold Jvm.FP.Core.settle
  by_cases h : c < 2 ^ Jvm.FP.Core.b64.p
  · rw [if_pos h]; exact zF_enc_bound h
  · rw [if_neg h]; exact zF_enc_bound (by decide)
theorem zF_enc_ratio (a b : Nat) (e : Int) : Jvm.FP.Core.encode Jvm.FP.Core.b64 (Jvm.FP.Core.roundRatio Jvm.FP.Core.b64 false a b e) ≤ zFb := by
  unfold Jvm.FP.Core.roundRatio
  by_cases h : a = 0
  · rw [if_pos h]; decide
  · rw [if_neg h]; exact zF_enc_settle _ _
theorem zF_enc_round {d : Jvm.FP.Core.Datum} (h : zFd d) : Jvm.FP.Core.encode Jvm.FP.Core.b64 (Jvm.FP.Core.round Jvm.FP.Core.b64 d) ≤ zFb := by
  rcases h with ⟨c, q, rfl⟩ | rfl
  · exact zF_enc_ratio _ _ _
  · decide
theorem zF_dec {r : UInt64} (h : zFn r) : zFd (Jvm.FP.Core.decode Jvm.FP.Core.b64 r.toNat) := by
  have hn : r.toNat ≤ 9218868437227405312 := h
  generalize r.toNat = n at hn ⊢
  have e1 : Jvm.FP.Core.fieldS Jvm.FP.Core.b64 n = false := by
    show (n / 4503599627370496 / 2048 % 2 == 1) = false
    have : n / 4503599627370496 / 2048 = 0 := by omega
    rw [this]; rfl
  unfold Jvm.FP.Core.decode
  rw [e1]
  by_cases h1 : Jvm.FP.Core.fieldE Jvm.FP.Core.b64 n = Jvm.FP.Core.b64.exps - 1
  · rw [if_pos h1]
    have h2 : n / 4503599627370496 % 2048 = 2047 := h1
    have h3 : Jvm.FP.Core.fieldT Jvm.FP.Core.b64 n = 0 := by
      show n % 4503599627370496 = 0
      omega
    rw [if_pos h3]
    exact Or.inr rfl
  · rw [if_neg h1]
    by_cases h4 : Jvm.FP.Core.fieldE Jvm.FP.Core.b64 n = 0
    · rw [if_pos h4]; exact Or.inl ⟨_, _, rfl⟩
    · rw [if_neg h4]; exact Or.inl ⟨_, _, rfl⟩
theorem zF_of {n : Nat} (h : n ≤ zFb) : zFn (UInt64.ofNat n) := by
  unfold zFn
  have h1 : n ≤ 9218868437227405312 := h
  rw [UInt64.toNat_ofNat']
  exact Nat.le_trans (Nat.mod_le _ _) h
theorem zFn_n64 {r : UInt64} (h : zFn r) : vf_n64 r := by
  unfold vf_n64
  rw [UInt64.le_iff_toNat_le, UInt64.toNat_and]
  exact Nat.le_trans Nat.and_le_left h
theorem zF_add {x y : UInt64} (hx : zFn x) (hy : zFn y) : zFn (FP.dadd x y) := by
  refine zF_of (zF_enc_round ?_)
  have h1 := zF_dec hx
  have h2 := zF_dec hy
  rcases h1 with ⟨c, q, e1⟩ | e1 <;> rcases h2 with ⟨c2, q2, e2⟩ | e2 <;> rw [e1, e2]
  · refine Or.inl ⟨(Jvm.FP.Core.sumUnits false c q false c2 q2 (min q q2)).natAbs, min q q2, ?_⟩
    show Jvm.FP.Core.Datum.fin (Jvm.FP.Core.sumSign false false (Jvm.FP.Core.sumUnits false c q false c2 q2 (min q q2))) _ _ = _
    have hv : 0 ≤ Jvm.FP.Core.sumUnits false c q false c2 q2 (min q q2) := by
      unfold Jvm.FP.Core.sumUnits Jvm.FP.Core.signed
      simp only [Bool.false_eq_true, if_false]
      omega
    have hs : Jvm.FP.Core.sumSign false false (Jvm.FP.Core.sumUnits false c q false c2 q2 (min q q2)) = false := by
      unfold Jvm.FP.Core.sumSign
      split
      · rfl
      · exact decide_eq_false (by omega)
    rw [hs]
  · exact Or.inr rfl
  · exact Or.inr rfl
  · exact Or.inr rfl
/-- a positive number -/
def zFp (x : UInt64) : Prop := ∃ (c : Nat) (q : Int), Jvm.FP.Core.decode Jvm.FP.Core.b64 x.toNat = .fin false c q ∧ c ≠ 0
theorem zF_mul {x y : UInt64} (hx : zFn x) (hy : zFp y) : zFn (FP.dmul x y) := by
  refine zF_of (zF_enc_round ?_)
  obtain ⟨c2, q2, e2, h2⟩ := hy
  rcases zF_dec hx with ⟨c, q, e1⟩ | e1 <;> rw [e1, e2]
  · exact Or.inl ⟨_, _, rfl⟩
  · refine Or.inr ?_
    show (if c2 = 0 then Jvm.FP.Core.Datum.nan else .inf (false != false)) = _
    rw [if_neg h2]; rfl
theorem zF_div {x y : UInt64} (hx : zFn x) (hy : zFp y) : zFn (FP.ddiv x y) := by
  refine zF_of ?_
  obtain ⟨c2, q2, e2, h2⟩ := hy
  show Jvm.FP.Core.encode Jvm.FP.Core.b64 (Jvm.FP.Core.quotient Jvm.FP.Core.b64 _ _) ≤ zFb
  rcases zF_dec hx with ⟨c, q, e1⟩ | e1 <;> rw [e1, e2]
  · show Jvm.FP.Core.encode Jvm.FP.Core.b64 (if c2 = 0 then (if c = 0 then Jvm.FP.Core.Datum.nan else .inf (false != false)) else Jvm.FP.Core.roundRatio Jvm.FP.Core.b64 (false != false) c c2 (q - q2)) ≤ zFb
    rw [if_neg h2]
    exact zF_enc_ratio _ _ _
  · show Jvm.FP.Core.encode Jvm.FP.Core.b64 (.inf (false != false)) ≤ zFb
    decide
theorem zF_i2d {t : Int} (h : 0 ≤ t ∧ t ≤ 2147483647) : zFn (FP.i2d (zI t)) := by
  refine zF_of (zF_enc_round (Or.inl ⟨t.natAbs, 0, ?_⟩))
  rw [zI_toInt (by omega)]
  show Jvm.FP.Core.Datum.fin (decide (t < 0)) t.natAbs 0 = _
  rw [decide_eq_false (by omega)]
theorem zF_tab : ∀ b : Nat, b < 301 → 1 ≤ b → (match Jvm.FP.Core.decode Jvm.FP.Core.b64 (FP.i2d (nI b)).toNat with | .fin s c _ => !s && c != 0 | _ => false) = true := by decide +kernel
theorem zFp_of {x : UInt64} (h : (match Jvm.FP.Core.decode Jvm.FP.Core.b64 x.toNat with | .fin s c _ => !s && c != 0 | _ => false) = true) : zFp x := by
  cases e : Jvm.FP.Core.decode Jvm.FP.Core.b64 x.toNat with
  | nan => rw [e] at h; cases h
  | inf s => rw [e] at h; cases h
  | fin s c q =>
    rw [e] at h
    cases s with
    | true => cases h
    | false =>
      refine ⟨c, q, e, ?_⟩
      simpa using h
theorem zF_i2dp {b : Int} (h : 1 ≤ b ∧ b ≤ 300) : zFp (FP.i2d (zI b)) := by
  obtain ⟨n, rfl⟩ := Int.eq_ofNat_of_zero_le (show 0 ≤ b by omega)
  exact zFp_of (zF_tab n (by omega) (by omega))
theorem zF_60 : zFp 4633641066610819072 := zFp_of (by decide +kernel)
theorem zF_24 : zFp 4627448617123184640 := zFp_of (by decide +kernel)
theorem zF_0 : zFn 0 := by unfold zFn; decide
theorem zF_cmp {x : UInt64} (h : zFn x) : FP.dcmp x x = some .eq := by
  show Jvm.FP.Core.order (Jvm.FP.Core.decode Jvm.FP.Core.b64 x.toNat) (Jvm.FP.Core.decode Jvm.FP.Core.b64 x.toNat) = _
  rcases zF_dec h with ⟨c, q, e1⟩ | e1 <;> rw [e1]
  · show some (compare _ _) = _
    simp
  · rfl
theorem xDen_n {f : Nat → Int} (hf : TOK f) : ∀ k : Nat, (k : Int) ≤ f 0 → zFn (xDen f k)
  | 0, _ => by unfold xDen; exact (show zFn FP.dconst0 by unfold zFn; decide)
  | k + 1, h => by
    have h1 := xDen_n hf k (by omega)
    unfold xDen
    split
    · have h2 := hf.2.2.2.2.2.2.2.2.2.2.2.2.2 (k : Int) (by omega) (by omega)
      exact zF_add h1 (zF_div (zF_i2d (by omega)) (zF_i2dp (by omega)))
    · exact h1
