/-! ===== the state, in whole numbers: a track is a row f: 0 its steps, 1 their ticks, 2 swing, 3 ring, 4 group, 5 muted, 6 solo, 7 accent, then four numbers a step ===== -/
def xC (f : Nat → Int) (s w : Int) : Int := f (8 + 4 * s + w).toNat
def xDelay (f : Nat → Int) (s : Int) : Int := if s % 2 = 1 then f 2 else 0
def TOK (f : Nat → Int) : Prop := 1 ≤ f 0 ∧ f 0 ≤ 32 ∧ 1 ≤ f 1 ∧ f 1 ≤ 48 ∧ 0 ≤ f 2 ∧ f 2 < f 1 ∧ 1 ≤ f 3 ∧ f 3 ≤ 200 ∧ 0 ≤ f 4 ∧ f 4 ≤ 3 ∧ (f 5 = 0 ∨ f 5 = 1) ∧ (f 6 = 0 ∨ f 6 = 1) ∧ (f 7 = 0 ∨ f 7 = 1) ∧
  ∀ s : Int, 0 ≤ s → s < f 0 → 0 ≤ xC f s 0 ∧ xC f s 0 ≤ 127 ∧ 1 ≤ xC f s 1 ∧ xC f s 1 ≤ 4 ∧ 0 ≤ xC f s 2 ∧ xC f s 2 < xC f s 3 ∧ xC f s 3 ≤ 8
/-- a row of cells holds a track's steps -/
def TR (f : Nat → Int) (c : Nat → Int32) : Prop := ∀ s w : Int, 0 ≤ s → s < f 0 → 0 ≤ w → w < 4 → c (4 * s + w).toNat = zI (xC f s w)
/-- a number's bit -/
def xBit (z k : Int) : Prop := z.toNat.testBit k.toNat = true
theorem x_sl : ∀ n, n < 32 → ((nI n &&& 31).toBitVec.smod 32).toNat = n := by decide
theorem xBit_shr {z k : Int} (hz : 0 ≤ z ∧ z ≤ 2147483647) (hk : 0 ≤ k ∧ k ≤ 31) : (zI z >>> (zI k &&& 31)) &&& zI 1 = zB (xBit z k) := by
  obtain ⟨n, rfl⟩ := Int.eq_ofNat_of_zero_le hz.1
  obtain ⟨j, rfl⟩ := Int.eq_ofNat_of_zero_le hk.1
  rw [← zI_nI, ← zI_nI]
  rw [pk_shrN (n := n) (by omega) (nI j &&& 31) j (x_sl j (by omega))]
  have h1 : n / 2 ^ j ≤ n := Nat.div_le_self _ _
  have h2 : nI (n / 2 ^ j) &&& zI 1 = nI (n / 2 ^ j % 2 ^ 1) := pk_andN (by omega) 1 (by decide)
  rw [h2]
  have h3 : xBit (n : Int) (j : Int) ↔ n / 2 ^ j % 2 = 1 := by
    unfold xBit
    rw [Int.toNat_natCast, Int.toNat_natCast, Nat.testBit_eq_decide_div_mod_eq]
    simp
  by_cases h : xBit (n : Int) (j : Int)
  · rw [zB_t h, Nat.pow_one, h3.mp h]; rfl
  · rw [zB_f h, Nat.pow_one]
    have h4 : n / 2 ^ j % 2 = 0 := by
      have : ¬ n / 2 ^ j % 2 = 1 := fun q => h (h3.mpr q)
      omega
    rw [h4]; rfl
/-- a stroke begins at this tick of the span -/
def xStroke (t span r : Int) : Prop := ∃ i : Int, 0 ≤ i ∧ i < r ∧ t = i * span / r
section ZB2
variable {p : Program} {l : Launch} {e : Env} {R : Room} {s : State} {m : MethodId} {args : Array Value} {below : List Frame} {meth : Method} {c : Code} {H : Heap} {locs : List Loc} {cells slots : Nat} {Q : State → Prop}
variable {cc : ByteArray} {pc : Nat} {ls : Array Slot} {rest : List Value}
theorem z_ne1B (hexec : p.tables.exec = Jvm.exec) (hb : c.code = cc) {P : Prop} {off : Int} {tgt : Nat} (hdg : decode cc pc = .ok (.if_icmp .ne off, 3)) (ht : (pc : Int) + off = (tgt : Int))
    (kt : ¬ P → W p l e R s m args below meth c H locs cells slots Q (F0 m tgt ls rest)) (kf : P → W p l e R s m args below meth c H locs cells slots Q (F0 m (pc + 3) ls rest)) : W p l e R s m args below meth c H locs cells slots Q (F0 m pc ls (.int (zI 1) :: .int (zB P) :: rest)) :=
  lv_icmp_ne hexec hb hdg ht (fun q => kt (fun h => q (by rw [zB_t h]; rfl))) (fun q => kf (Classical.byContradiction fun h => by rw [zB_f h] at q; exact absurd q (by decide)))
end ZB2
/-! ===== the greatest common divisor, by divisions ===== -/
theorem x_gcd_step (x y : Nat) : Nat.gcd y (x % y) = Nat.gcd x y := by
  rw [Nat.gcd_comm y, ← Nat.gcd_rec, Nat.gcd_comm]
theorem x_gcd_t {x y t : Nat} {i : Int} (hy : 0 < y) (h : x * y < 2 ^ t) (hor : (y ≤ x ∧ i + t ≤ 131) ∨ i + t ≤ 130) : ∃ t' : Nat, y * (x % y) < 2 ^ t' ∧ ((x % y ≤ y ∧ i + 1 + t' ≤ 131) ∨ i + 1 + t' ≤ 130) := by
  have hr : x % y < y := Nat.mod_lt _ hy
  rcases hor with ⟨h1, h2⟩ | h2
  · have hq : x = y * (x / y) + x % y := (Nat.div_add_mod x y).symm
    have hq1 : 1 ≤ x / y := (Nat.one_le_div_iff hy).mpr h1
    have hq2 : y * 1 ≤ y * (x / y) := Nat.mul_le_mul_left y hq1
    have h3 : 2 * (x % y) ≤ x := by omega
    have h4 : y * (2 * (x % y)) ≤ y * x := Nat.mul_le_mul_left y h3
    have h5 : y * (2 * (x % y)) = 2 * (y * (x % y)) := Nat.mul_left_comm y 2 (x % y)
    rw [h5, Nat.mul_comm y x] at h4
    cases t with
    | zero =>
      have h6 : 1 * 1 ≤ x * y := Nat.mul_le_mul (by omega) hy
      rw [Nat.pow_zero] at h
      omega
    | succ t =>
      refine ⟨t, ?_, Or.inl ⟨by omega, by omega⟩⟩
      rw [Nat.pow_succ] at h
      omega
  · refine ⟨t, ?_, Or.inl ⟨by omega, by omega⟩⟩
    have h4 : y * (x % y) ≤ y * x := Nat.mul_le_mul_left y (Nat.mod_le x y)
    rw [Nat.mul_comm y x] at h4
    omega
theorem x_b126 {a b : Nat} (ha : a < 4611686018427387904) (hb : b < 4611686018427387904) : a * b < 2 ^ 124 := by
  have h1 : a * b ≤ 4611686018427387904 * 4611686018427387904 - 1 := by
    have h2 : a * b ≤ 4611686018427387903 * 4611686018427387903 := Nat.mul_le_mul (by omega) (by omega)
    omega
  have h3 : (2 : Nat) ^ 124 = 4611686018427387904 * 4611686018427387904 := by decide +kernel
  rw [h3]
  omega
theorem x_lcm {a b : Nat} (ha : 0 < a) : a / Nat.gcd a b * b = Nat.lcm a b := by
  unfold Nat.lcm
  obtain ⟨k, hk⟩ := Nat.gcd_dvd_left a b
  have hg : 0 < Nat.gcd a b := Nat.gcd_pos_of_pos_left b ha
  have h1 : a / Nat.gcd a b = k := Nat.div_eq_of_eq_mul_right hg hk
  rw [h1]
  refine (Nat.div_eq_of_eq_mul_right hg ?_).symm
  rw [← Nat.mul_assoc, ← hk]
