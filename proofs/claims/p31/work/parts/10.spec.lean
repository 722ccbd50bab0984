/-! ===== the state, in whole numbers: a track is a row f: 0 its steps, 1 their ticks, 2 swing, 3 ring, 4 group, 5 muted, 6 solo, 7 accent, then four numbers a step ===== -/
def xC (f : Nat → Int) (s w : Int) : Int := f (8 + 4 * s + w).toNat
def xDelay (f : Nat → Int) (s : Int) : Int := if s % 2 = 1 then f 2 else 0
def TOK (f : Nat → Int) : Prop := 1 ≤ f 0 ∧ f 0 ≤ 32 ∧ 1 ≤ f 1 ∧ f 1 ≤ 48 ∧ 0 ≤ f 2 ∧ f 2 < f 1 ∧ 1 ≤ f 3 ∧ f 3 ≤ 200 ∧ 0 ≤ f 4 ∧ f 4 ≤ 3 ∧ (f 5 = 0 ∨ f 5 = 1) ∧ (f 6 = 0 ∨ f 6 = 1) ∧ (f 7 = 0 ∨ f 7 = 1) ∧
  ∀ s : Int, 0 ≤ s → s < f 0 → 0 ≤ xC f s 0 ∧ xC f s 0 ≤ 127 ∧ 1 ≤ xC f s 1 ∧ xC f s 1 ≤ 4 ∧ 0 ≤ xC f s 2 ∧ xC f s 2 < xC f s 3 ∧ xC f s 3 ≤ 8
/-- a row of cells holds a track's steps -/
def TR (f : Nat → Int) (c : Nat → Int32) : Prop := ∀ s w : Int, 0 ≤ s → s < f 0 → 0 ≤ w → w < 4 → c (4 * s + w).toNat = zI (xC f s w)
/-- a number's bit -/
def xBit (z k : Int) : Prop := z.toNat.testBit k.toNat = true
theorem x_sl : ∀ n, n < 32 → ((nI n &&& 31).toBitVec.smod 32).toNat = n := by decide
theorem xBit_shr {z k : Int} (hz : 0 ≤ z ∧ z ≤ 2147483647) (hk : 0 ≤ k ∧ k ≤ 31) : (zI z >>> (zI k &&& 31)) &&& zI 1 = zB (xBit z k) := by
  obtain ⟨n, rfl⟩ := Int.eq_ofNat_of_zero_le hz.1
  obtain ⟨j, rfl⟩ := Int.eq_ofNat_of_zero_le hk.1
  rw [← zI_nI, ← zI_nI]
  rw [pk_shrN (n := n) (by omega) (nI j &&& 31) j (x_sl j (by omega))]
  have h1 : n / 2 ^ j ≤ n := Nat.div_le_self _ _
  have h2 : nI (n / 2 ^ j) &&& zI 1 = nI (n / 2 ^ j % 2 ^ 1) := pk_andN (by omega) 1 (by decide)
  rw [h2]
  have h3 : xBit (n : Int) (j : Int) ↔ n / 2 ^ j % 2 = 1 := by
    unfold xBit
    rw [Int.toNat_natCast, Int.toNat_natCast, Nat.testBit_eq_decide_div_mod_eq]
    simp
  by_cases h : xBit (n : Int) (j : Int)
  · rw [zB_t h, Nat.pow_one, h3.mp h]; rfl
  · rw [zB_f h, Nat.pow_one]
    have h4 : n / 2 ^ j % 2 = 0 := by
      have : ¬ n / 2 ^ j % 2 = 1 := fun q => h (h3.mpr q)
      omega
    rw [h4]; rfl
/-- a stroke begins at this tick of the span -/
def xStroke (t span r : Int) : Prop := ∃ i : Int, 0 ≤ i ∧ i < r ∧ t = i * span / r
section ZB2
variable {p : Program} {l : Launch} {e : Env} {R : Room} {s : State} {m : MethodId} {args : Array Value} {below : List Frame} {meth : Method} {c : Code} {H : Heap} {locs : List Loc} {cells slots : Nat} {Q : State → Prop}
variable {cc : ByteArray} {pc : Nat} {ls : Array Slot} {rest : List Value}
theorem z_ne1B (hexec : p.tables.exec = Jvm.exec) (hb : c.code = cc) {P : Prop} {off : Int} {tgt : Nat} (hdg : decode cc pc = .ok (.if_icmp .ne off, 3)) (ht : (pc : Int) + off = (tgt : Int))
    (kt : ¬ P → W p l e R s m args below meth c H locs cells slots Q (F0 m tgt ls rest)) (kf : P → W p l e R s m args below meth c H locs cells slots Q (F0 m (pc + 3) ls rest)) : W p l e R s m args below meth c H locs cells slots Q (F0 m pc ls (.int (zI 1) :: .int (zB P) :: rest)) :=
  lv_icmp_ne hexec hb hdg ht (fun q => kt (fun h => q (by rw [zB_t h]; rfl))) (fun q => kf (Classical.byContradiction fun h => by rw [zB_f h] at q; exact absurd q (by decide)))
end ZB2
/-! ===== the greatest common divisor, by divisions ===== -/
theorem x_gcd_step (x y : Nat) : Nat.gcd y (x % y) = Nat.gcd x y := by
  rw [Nat.gcd_comm y, ← Nat.gcd_rec, Nat.gcd_comm]
theorem x_gcd_t {x y t : Nat} {i : Int} (hy : 0 < y) (h : x * y < 2 ^ t) (hor : (y ≤ x ∧ i + t ≤ 131) ∨ i + t ≤ 130) : ∃ t' : Nat, y * (x % y) < 2 ^ t' ∧ ((x % y ≤ y ∧ i + 1 + t' ≤ 131) ∨ i + 1 + t' ≤ 130) := by
  have hr : x % y < y := Nat.mod_lt _ hy
  rcases hor with ⟨h1, h2⟩ | h2
  · have hq : x = y * (x / y) + x % y := (Nat.div_add_mod x y).symm
    have hq1 : 1 ≤ x / y := (Nat.one_le_div_iff hy).mpr h1
    have hq2 : y * 1 ≤ y * (x / y) := Nat.mul_le_mul_left y hq1
    have h3 : 2 * (x % y) ≤ x := by omega
    have h4 : y * (2 * (x % y)) ≤ y * x := Nat.mul_le_mul_left y h3
    have h5 : y * (2 * (x % y)) = 2 * (y * (x % y)) := Nat.mul_left_comm y 2 (x % y)
    rw [h5, Nat.mul_comm y x] at h4
    cases t with
    | zero =>
      have h6 : 1 * 1 ≤ x * y := Nat.mul_le_mul (by omega) hy
      rw [Nat.pow_zero] at h
      omega
    | succ t =>
      refine ⟨t, ?_, Or.inl ⟨by omega, by omega⟩⟩
      rw [Nat.pow_succ] at h
      omega
  · refine ⟨t, ?_, Or.inl ⟨by omega, by omega⟩⟩
    have h4 : y * (x % y) ≤ y * x := Nat.mul_le_mul_left y (Nat.mod_le x y)
    rw [Nat.mul_comm y x] at h4
    omega
theorem x_b126 {a b : Nat} (ha : a < 4611686018427387904) (hb : b < 4611686018427387904) : a * b < 2 ^ 124 := by
  have h1 : a * b ≤ 4611686018427387904 * 4611686018427387904 - 1 := by
    have h2 : a * b ≤ 4611686018427387903 * 4611686018427387903 := Nat.mul_le_mul (by omega) (by omega)
    omega
  have h3 : (2 : Nat) ^ 124 = 4611686018427387904 * 4611686018427387904 := by decide +kernel
  rw [h3]
  omega
theorem x_lcm {a b : Nat} (ha : 0 < a) : a / Nat.gcd a b * b = Nat.lcm a b := by
  unfold Nat.lcm
  obtain ⟨k, hk⟩ := Nat.gcd_dvd_left a b
  have hg : 0 < Nat.gcd a b := Nat.gcd_pos_of_pos_left b ha
  have h1 : a / Nat.gcd a b = k := Nat.div_eq_of_eq_mul_right hg hk
  rw [h1]
  refine (Nat.div_eq_of_eq_mul_right hg ?_).symm
  rw [← Nat.mul_assoc, ← hk]
theorem x_mulb {a b : Int} (A B : Int) (h1 : 0 ≤ a) (h2 : a ≤ A) (h3 : 0 ≤ b) (h4 : b ≤ B) : 0 ≤ a * b ∧ a * b ≤ A * B :=
  ⟨Int.mul_nonneg h1 h3, Int.mul_le_mul h2 h4 h3 (by omega)⟩
theorem x_divb {a r : Int} (h1 : 0 ≤ a) (h2 : 0 < r) : 0 ≤ a / r ∧ a / r ≤ a := ⟨Int.ediv_nonneg h1 (by omega), Int.ediv_le_self r h1⟩
theorem x_modb {a r : Int} (h2 : 0 < r) : 0 ≤ a % r ∧ a % r < r := ⟨Int.emod_nonneg a (by omega), Int.emod_lt_of_pos a h2⟩
theorem x_lts {p : Int → Prop} {i : Int} (h : ∀ j : Int, 0 ≤ j → j < i → p j) (hi : p i) : ∀ j : Int, 0 ≤ j → j < i + 1 → p j := fun j h1 h2 => by
  rcases Int.lt_or_eq_of_le (show j ≤ i by omega) with q | q
  · exact h j h1 q
  · rw [q]; exact hi
def xP (f : Nat → Int) (u : Int) : Int := u % (f 0 * f 1)
def xS (f : Nat → Int) (u : Int) : Int := xP f u / f 1
def xStrikes (f : Nat → Int) (u : Int) : Prop := u / (f 0 * f 1) % xC f (xS f u) 3 = xC f (xS f u) 2 ∧ xStroke (xP f u - xS f u * f 1 - xDelay f (xS f u)) (f 1 - xDelay f (xS f u)) (xC f (xS f u) 1)
/-- the force with which the steps strike at a local time -/
noncomputable def xForce (f : Nat → Int) (u : Int) : Int := @ite Int (xStrikes f u) (Classical.propDecidable _) (xC f (xS f u) 0) 0
theorem xForce_t {f : Nat → Int} {u : Int} (h : xStrikes f u) : xForce f u = xC f (xS f u) 0 := if_pos h
theorem xForce_f {f : Nat → Int} {u : Int} (h : ¬ xStrikes f u) : xForce f u = 0 := if_neg h
theorem xDelay_b {f : Nat → Int} (hf : TOK f) (s : Int) : 0 ≤ xDelay f s ∧ xDelay f s < f 1 := by
  unfold xDelay
  unfold TOK at hf
  by_cases h : s % 2 = 1
  · rw [if_pos h]; omega
  · rw [if_neg h]; omega
theorem x_round {f : Nat → Int} (hf : TOK f) : 1 ≤ f 0 * f 1 ∧ f 0 * f 1 ≤ 1536 := by
  unfold TOK at hf
  obtain ⟨h1, h2, h3, h4, -⟩ := hf
  have h5 := Int.mul_le_mul h2 h4 (by omega) (by omega : (0 : Int) ≤ 32)
  have h6 : 1 * 1 ≤ f 0 * f 1 := Int.mul_le_mul h1 h3 (by omega) (by omega)
  omega
theorem x_place {f : Nat → Int} (hf : TOK f) (u : Int) : 0 ≤ xP f u ∧ xP f u < f 0 * f 1 ∧ 0 ≤ xS f u ∧ xS f u < f 0 ∧ 0 ≤ xS f u * f 1 ∧ xS f u * f 1 ≤ xP f u ∧ xP f u - xS f u * f 1 < f 1 := by
  have hr := x_round hf
  unfold TOK at hf
  obtain ⟨h1, h2, h3, h4, -⟩ := hf
  have h5 : 0 ≤ xP f u ∧ xP f u < f 0 * f 1 := x_modb (by omega)
  have h6 : 0 ≤ xS f u := Int.ediv_nonneg h5.1 (by omega)
  have h7 : xS f u < f 0 := Int.ediv_lt_of_lt_mul (by omega) h5.2
  have h8 : xS f u * f 1 + xP f u % f 1 = xP f u := by
    have := Int.mul_ediv_add_emod (xP f u) (f 1)
    rw [Int.mul_comm] at this
    exact this
  have h9 : 0 ≤ xP f u % f 1 ∧ xP f u % f 1 < f 1 := x_modb (by omega)
  have h10 : 0 ≤ xS f u * f 1 := Int.mul_nonneg h6 (by omega)
  omega
/-! ===== rows of cells that change ===== -/
/-- four cells of step a of a row go to step b of another, the first j of them -/
def xCpy (src dst : Nat → Int32) (a b j : Int) : Nat → Int32 := fun i => if b * 4 ≤ (i : Int) ∧ (i : Int) < b * 4 + j then src (a * 4 + ((i : Int) - b * 4)).toNat else dst i
theorem xCpy_0 (src dst : Nat → Int32) (a b : Int) : xCpy src dst a b 0 = dst := by
  funext i
  unfold xCpy
  rw [if_neg (by omega)]
theorem xCpy_s (src dst : Nat → Int32) (a b j : Int) (hb : 0 ≤ b) (hj : 0 ≤ j) (x : Int32) (hx : src (a * 4 + j).toNat = x) : upd (xCpy src dst a b j) (b * 4 + j).toNat x = xCpy src dst a b (j + 1) := by
  funext i
  unfold upd xCpy
  by_cases h : i = (b * 4 + j).toNat
  · rw [if_pos h, if_pos (by omega), ← hx]
    congr 2
    omega
  · rw [if_neg h]
    by_cases h2 : b * 4 ≤ (i : Int) ∧ (i : Int) < b * 4 + j
    · rw [if_pos h2, if_pos (by omega)]
    · rw [if_neg h2, if_neg (by omega)]
theorem xCpy_out {src dst : Nat → Int32} {a b j : Int} {i : Nat} (h : ¬ (b * 4 ≤ (i : Int) ∧ (i : Int) < b * 4 + j)) : xCpy src dst a b j i = dst i := by
  unfold xCpy
  exact if_neg h
theorem xCpy_in {src dst : Nat → Int32} {a b j w : Int} (hb : 0 ≤ b) (hw : 0 ≤ w ∧ w < j) : xCpy src dst a b j (4 * b + w).toNat = src (4 * a + w).toNat := by
  unfold xCpy
  rw [if_pos (by omega)]
  congr 1
  omega
/-- a step as at first, with a force -/
def xClr (cn : Nat → Int32) (k v : Int) : Nat → Int32 := upd (upd (upd (upd cn (k * 4 + 0).toNat (zI v)) (k * 4 + 1).toNat (zI 1)) (k * 4 + 2).toNat (zI 0)) (k * 4 + 3).toNat (zI 1)
theorem xClr_at {cn : Nat → Int32} {k v : Int} (hk : 0 ≤ k) : xClr cn k v (4 * k + 0).toNat = zI v ∧ xClr cn k v (4 * k + 1).toNat = zI 1 ∧ xClr cn k v (4 * k + 2).toNat = zI 0 ∧ xClr cn k v (4 * k + 3).toNat = zI 1 := by
  unfold xClr upd
  refine ⟨?_, ?_, ?_, ?_⟩
  · rw [if_neg (by omega), if_neg (by omega), if_neg (by omega), if_pos (by omega)]
  · rw [if_neg (by omega), if_neg (by omega), if_pos (by omega)]
  · rw [if_neg (by omega), if_pos (by omega)]
  · rw [if_pos (by omega)]
theorem xClr_out {cn : Nat → Int32} {k v : Int} {i : Nat} (h : ¬ (k * 4 ≤ (i : Int) ∧ (i : Int) < k * 4 + 4)) (hk : 0 ≤ k) : xClr cn k v i = cn i := by
  unfold xClr upd
  rw [if_neg (by omega), if_neg (by omega), if_neg (by omega), if_neg (by omega)]
/-- the last hit of a spread among the first k steps -/
def xLast (n h : Int) : Nat → Int
  | 0 => -1
  | k + 1 => if (k : Int) * h % n < h then (k : Int) else xLast n h k
theorem xLast_s {n h k : Int} (hk : 0 ≤ k) : xLast n h (k + 1).toNat = if k * h % n < h then k else xLast n h k.toNat := by
  rw [show (k + 1).toNat = k.toNat + 1 by omega]
  show (if ((k.toNat : Nat) : Int) * h % n < h then ((k.toNat : Nat) : Int) else xLast n h k.toNat) = _
  rw [Int.toNat_of_nonneg hk]
theorem xLast_b (n h : Int) : ∀ k : Nat, -1 ≤ xLast n h k ∧ xLast n h k < k
  | 0 => by unfold xLast; omega
  | k + 1 => by
    have := xLast_b n h k
    unfold xLast
    split <;> omega
/-- how many of the first k steps have a force -/
def xLoud (f : Nat → Int) : Nat → Int
  | 0 => 0
  | k + 1 => if 0 < xC f (k : Int) 0 then xLoud f k + 1 else xLoud f k
theorem xLoud_s {f : Nat → Int} {k : Int} (hk : 0 ≤ k) : xLoud f (k + 1).toNat = if 0 < xC f k 0 then xLoud f k.toNat + 1 else xLoud f k.toNat := by
  rw [show (k + 1).toNat = k.toNat + 1 by omega]
  show (if 0 < xC f ((k.toNat : Nat) : Int) 0 then xLoud f k.toNat + 1 else xLoud f k.toNat) = _
  rw [Int.toNat_of_nonneg hk]
theorem xLoud_b (f : Nat → Int) : ∀ k : Nat, 0 ≤ xLoud f k ∧ xLoud f k ≤ k
  | 0 => by unfold xLoud; omega
  | k + 1 => by
    have := xLoud_b f k
    unfold xLoud
    split <;> omega
/-- how far a place is from a step's begin -/
def xOff (f : Nat → Int) (q s : Int) : Int := if 0 ≤ q - (s * f 1 + xDelay f s) then q - (s * f 1 + xDelay f s) else 0 - (q - (s * f 1 + xDelay f s))
/-- the nearest of the steps 0 to k, and how far it is -/
def xNear (f : Nat → Int) (q : Int) : Nat → Int × Int
  | 0 => (0, if f 0 * f 1 - q < q then f 0 * f 1 - q else q)
  | k + 1 => if xOff f q ((k : Int) + 1) < (xNear f q k).2 then ((k : Int) + 1, xOff f q ((k : Int) + 1)) else xNear f q k
theorem xNear_s {f : Nat → Int} {q k : Int} (hk : 1 ≤ k) : xNear f q k.toNat = if xOff f q k < (xNear f q (k - 1).toNat).2 then (k, xOff f q k) else xNear f q (k - 1).toNat := by
  have h1 : k.toNat = (k - 1).toNat + 1 := by omega
  rw [h1]
  show (if xOff f q ((((k - 1).toNat : Nat) : Int) + 1) < (xNear f q (k - 1).toNat).2 then ((((k - 1).toNat : Nat) : Int) + 1, xOff f q ((((k - 1).toNat : Nat) : Int) + 1)) else xNear f q (k - 1).toNat) = _
  rw [Int.toNat_of_nonneg (show 0 ≤ k - 1 by omega), show k - 1 + 1 = k by omega]
theorem xNear_b {f : Nat → Int} {q : Int} (hq : 0 ≤ q) (hr : q < f 0 * f 1) (hd : ∀ k : Int, 0 ≤ k → 0 ≤ xDelay f k) : ∀ k : Nat, 0 ≤ (xNear f q k).1 ∧ (xNear f q k).1 ≤ k ∧ 0 ≤ (xNear f q k).2 ∧ (xNear f q k).2 ≤ q
  | 0 => by
    unfold xNear
    refine ⟨by omega, by omega, ?_, ?_⟩ <;> dsimp only <;> split <;> omega
  | k + 1 => by
    have := xNear_b hq hr hd k
    have h1 : 0 ≤ xOff f q ((k : Int) + 1) := by unfold xOff; split <;> omega
    unfold xNear
    split
    · dsimp only; omega
    · omega
/-- after how many rounds the first k steps come round again -/
def xRnd (f : Nat → Int) : Nat → Nat
  | 0 => 1
  | k + 1 => if 0 < xC f (k : Int) 0 then Nat.lcm (xRnd f k) (xC f (k : Int) 3).toNat else xRnd f k
theorem xRnd_s {f : Nat → Int} {k : Int} (hk : 0 ≤ k) : xRnd f (k + 1).toNat = if 0 < xC f k 0 then Nat.lcm (xRnd f k.toNat) (xC f k 3).toNat else xRnd f k.toNat := by
  rw [show (k + 1).toNat = k.toNat + 1 by omega]
  show (if 0 < xC f ((k.toNat : Nat) : Int) 0 then Nat.lcm (xRnd f k.toNat) (xC f ((k.toNat : Nat) : Int) 3).toNat else xRnd f k.toNat) = _
  rw [Int.toNat_of_nonneg hk]
theorem x_dvd840 : ∀ b, b < 9 → 1 ≤ b → b ∣ 840 := by decide
theorem xRnd_d {f : Nat → Int} (hf : TOK f) : ∀ k : Nat, (k : Int) ≤ f 0 → xRnd f k ∣ 840
  | 0, _ => by unfold xRnd; exact Nat.one_dvd _
  | k + 1, h => by
    have h1 := xRnd_d hf k (by omega)
    unfold xRnd
    split
    · have h2 := hf.2.2.2.2.2.2.2.2.2.2.2.2.2 (k : Int) (by omega) (by omega)
      exact Nat.lcm_dvd h1 (x_dvd840 _ (by omega) (by omega))
    · exact h1
theorem xRnd_b {f : Nat → Int} (hf : TOK f) {k : Nat} (h : (k : Int) ≤ f 0) : 1 ≤ xRnd f k ∧ xRnd f k ≤ 840 := by
  have h1 := xRnd_d hf k h
  have h2 := Nat.le_of_dvd (by omega) h1
  have h3 : xRnd f k ≠ 0 := fun q => by rw [q] at h1; exact absurd (Nat.eq_zero_of_zero_dvd h1) (by decide)
  omega
theorem x_resz {n : Int} {cn dn : Nat → Int32} {k : Int} (hd : ∀ t w : Int, 0 ≤ t → t < k → 0 ≤ w → w < 4 → dn (4 * t + w).toNat = cn (4 * (t % n) + w).toNat) (hk : n ≤ k) (hn : 1 ≤ n) :
    ∀ t w : Int, 0 ≤ t → t < k + 1 → 0 ≤ w → w < 4 → xCpy dn dn (k - n) k 4 (4 * t + w).toNat = cn (4 * (t % n) + w).toNat := by
  intro t w h1 h2 h3 h4
  by_cases h : t = k
  · subst h
    rw [xCpy_in (by omega) ⟨h3, h4⟩, hd (t - n) w (by omega) (by omega) h3 h4]
    rw [Int.sub_emod_right]
  · rw [xCpy_out (by omega)]
    exact hd t w h1 (by omega) h3 h4
theorem x_modi {n q a b : Int} (h1 : 0 ≤ a) (h2 : a < n) (h3 : 0 ≤ b) (h4 : b < n) (hq : 0 ≤ q) (h : (a + q) % n = (b + q) % n) : a = b := by
  have h5 := Int.emod_add_mul_ediv (a + q) n
  have h6 := Int.emod_add_mul_ediv (b + q) n
  rw [h] at h5
  have h7 : a - b = n * ((a + q) / n - (b + q) / n) := by rw [Int.mul_sub]; omega
  rcases Int.lt_trichotomy ((a + q) / n - (b + q) / n) 0 with h8 | h8 | h8
  · have h9 : n * ((a + q) / n - (b + q) / n) ≤ n * (-1) := Int.mul_le_mul_of_nonneg_left (by omega) (by omega)
    omega
  · rw [h8] at h7; omega
  · have h9 : n * 1 ≤ n * ((a + q) / n - (b + q) / n) := Int.mul_le_mul_of_nonneg_left (by omega) (by omega)
    omega
theorem x_move {n q : Int} {cn dn sn : Nat → Int32} {k : Int} (hd : ∀ t w : Int, 0 ≤ t → t < k → 0 ≤ w → w < 4 → dn (4 * ((t + q) % n) + w).toNat = cn (4 * t + w).toNat) (hk : 0 ≤ k) (hk2 : k < n) (hn : 1 ≤ n) (hn2 : n ≤ 32) (hq : 0 ≤ q) :
    ∀ t w : Int, 0 ≤ t → t < k + 1 → 0 ≤ w → w < 4 → xCpy (va_cpy cn sn 0 0 128) dn k ((k + q) % n) 4 (4 * ((t + q) % n) + w).toNat = cn (4 * t + w).toNat := by
  intro t w h1 h2 h3 h4
  have hb := x_modb (a := k + q) (r := n) (by omega)
  have hb2 := x_modb (a := t + q) (r := n) (by omega)
  by_cases h : t = k
  · subst h
    rw [xCpy_in hb.1 ⟨h3, h4⟩]
    unfold va_cpy
    rw [if_pos (by omega)]
    congr 1
    omega
  · have hne : (t + q) % n ≠ (k + q) % n := fun e => h (x_modi h1 (by omega) hk hk2 hq e)
    rw [xCpy_out (by omega)]
    exact hd t w h1 (by omega) h3 h4
theorem x_sprd {n h v x : Int} {dn : Nat → Int32} {k : Int} (hd : ∀ t : Int, 0 ≤ t → t < k → dn (4 * t + 0).toNat = zI (if t * h % n < h then v else 0) ∧ dn (4 * t + 1).toNat = zI 1 ∧ dn (4 * t + 2).toNat = zI 0 ∧ dn (4 * t + 3).toNat = zI 1) (hk : 0 ≤ k)
    (hx : (if k * h % n < h then v else 0) = x) : ∀ t : Int, 0 ≤ t → t < k + 1 → xClr dn k x (4 * t + 0).toNat = zI (if t * h % n < h then v else 0) ∧ xClr dn k x (4 * t + 1).toNat = zI 1 ∧ xClr dn k x (4 * t + 2).toNat = zI 0 ∧ xClr dn k x (4 * t + 3).toNat = zI 1 := by
  intro t h1 h2
  by_cases e : t = k
  · subst e
    rw [hx]
    exact xClr_at hk
  · have h3 := hd t h1 (by omega)
    rw [xClr_out (by omega) hk, xClr_out (by omega) hk, xClr_out (by omega) hk, xClr_out (by omega) hk]
    exact h3
/-! ===== checksums ===== -/
def xMix (d : Int64) (x : Int) : Int64 := d * 31 + (zI x).toInt64
def xMs (f : Nat → Int) (d : Int64) : Nat → Int64
  | 0 => d
  | k + 1 => xMix (xMs f d k) (f k)
def xMc (f : Nat → Int) (d : Int64) : Nat → Int64
  | 0 => d
  | k + 1 => xMix (xMc f d k) (f (8 + k))
theorem xMs_s {f : Nat → Int} {d : Int64} {k : Int} (hk : 0 ≤ k) : xMs f d (k + 1).toNat = xMs f d k.toNat * 31 + (zI (f k.toNat)).toInt64 := by
  rw [show (k + 1).toNat = k.toNat + 1 by omega]; rfl
theorem xMc_s {f : Nat → Int} {d : Int64} {k w : Int} (hk : 0 ≤ k) (hw : 0 ≤ w) : xMc f d (4 * k + (w + 1)).toNat = xMc f d (4 * k + w).toNat * 31 + (zI (xC f k w)).toInt64 := by
  rw [show (4 * k + (w + 1)).toNat = (4 * k + w).toNat + 1 by omega]
  unfold xC
  rw [show (8 + 4 * k + w).toNat = 8 + (4 * k + w).toNat by omega]; rfl
def xMt (f : Nat → Int) (d : Int64) : Int64 := xMc f (xMs f d 8) (4 * f 0).toNat
/-- a new track -/
def xF0 (n d : Int) : Nat → Int := fun i => if i = 0 then n else if i = 1 then d else if i = 3 then 10 else if i < 8 then 0 else if i % 4 = 1 ∨ i % 4 = 3 then 1 else 0
theorem xF0_c {n d k : Int} (hk : 0 ≤ k) : xC (xF0 n d) k 0 = 0 ∧ xC (xF0 n d) k 1 = 1 ∧ xC (xF0 n d) k 2 = 0 ∧ xC (xF0 n d) k 3 = 1 := by
  unfold xC xF0
  refine ⟨?_, ?_, ?_, ?_⟩
  · rw [if_neg (by omega), if_neg (by omega), if_neg (by omega), if_neg (by omega), if_neg (by omega)]
  · rw [if_neg (by omega), if_neg (by omega), if_neg (by omega), if_neg (by omega), if_pos (by omega)]
  · rw [if_neg (by omega), if_neg (by omega), if_neg (by omega), if_neg (by omega), if_neg (by omega)]
  · rw [if_neg (by omega), if_neg (by omega), if_neg (by omega), if_neg (by omega), if_pos (by omega)]
theorem xF0_ok {n d : Int} (hn : 1 ≤ n ∧ n ≤ 32) (hd : 1 ≤ d ∧ d ≤ 48) : TOK (xF0 n d) := by
  have e0 : xF0 n d 0 = n := rfl
  have e1 : xF0 n d 1 = d := rfl
  have e2 : xF0 n d 2 = 0 := rfl
  have e3 : xF0 n d 3 = 10 := rfl
  have e4 : xF0 n d 4 = 0 := rfl
  have e5 : xF0 n d 5 = 0 := rfl
  have e6 : xF0 n d 6 = 0 := rfl
  have e7 : xF0 n d 7 = 0 := rfl
  unfold TOK
  rw [e0, e1, e2, e3, e4, e5, e6, e7]
  refine ⟨by omega, by omega, by omega, by omega, by omega, by omega, by omega, by omega, by omega, by omega, Or.inl rfl, Or.inl rfl, Or.inl rfl, fun s h1 h2 => ?_⟩
  obtain ⟨h3, h4, h5, h6⟩ := xF0_c (n := n) (d := d) h1
  omega
theorem xF0_tr {n d : Int} {cn : Nat → Int32} (h : ∀ t : Int, 0 ≤ t → t < n → cn (4 * t + 0).toNat = zI 0 ∧ cn (4 * t + 1).toNat = zI 1 ∧ cn (4 * t + 2).toNat = zI 0 ∧ cn (4 * t + 3).toNat = zI 1) : TR (xF0 n d) cn := by
  intro s w h1 h2 h3 h4
  have h5 := h s h1 h2
  obtain ⟨g0, g1, g2, g3⟩ := xF0_c (n := n) (d := d) h1
  rcases (show w = 0 ∨ w = 1 ∨ w = 2 ∨ w = 3 by omega) with rfl | rfl | rfl | rfl
  · rw [g0]; exact h5.1
  · rw [g1]; exact h5.2.1
  · rw [g2]; exact h5.2.2.1
  · rw [g3]; exact h5.2.2.2
/-- the strokes of a round, as doubles, over the first k steps -/
def xDen (f : Nat → Int) : Nat → UInt64
  | 0 => FP.dconst0
  | k + 1 => if 0 < xC f (k : Int) 0 then FP.dadd (xDen f k) (FP.ddiv (FP.i2d (zI (xC f (k : Int) 1))) (FP.i2d (zI (xC f (k : Int) 3)))) else xDen f k
theorem xDen_s {f : Nat → Int} {k : Int} (hk : 0 ≤ k) : xDen f (k + 1).toNat = if 0 < xC f k 0 then FP.dadd (xDen f k.toNat) (FP.ddiv (FP.i2d (zI (xC f k 1))) (FP.i2d (zI (xC f k 3)))) else xDen f k.toNat := by
  rw [show (k + 1).toNat = k.toNat + 1 by omega]
  show (if 0 < xC f ((k.toNat : Nat) : Int) 0 then FP.dadd (xDen f k.toNat) (FP.ddiv (FP.i2d (zI (xC f ((k.toNat : Nat) : Int) 1))) (FP.i2d (zI (xC f ((k.toNat : Nat) : Int) 3)))) else xDen f k.toNat) = _
  rw [Int.toNat_of_nonneg hk]
theorem zi_nar {x : Int} (h : x = 0 ∨ x = 1) : narrow .boolean (.int (zI x)) = .int (zI x) := by rw [zI_b h]; exact zB_nar
theorem zi_fit {x : Int} (h : x = 0 ∨ x = 1) : fits .boolean (.int (zI x)) = true := by rw [zI_b h]; exact zB_fit
theorem x_clrs {dn : Nat → Int32} {k : Int} (hd : ∀ t : Int, 0 ≤ t → t < k → dn (4 * t + 0).toNat = zI 0 ∧ dn (4 * t + 1).toNat = zI 1 ∧ dn (4 * t + 2).toNat = zI 0 ∧ dn (4 * t + 3).toNat = zI 1) (hk : 0 ≤ k) :
    ∀ t : Int, 0 ≤ t → t < k + 1 → xClr dn k 0 (4 * t + 0).toNat = zI 0 ∧ xClr dn k 0 (4 * t + 1).toNat = zI 1 ∧ xClr dn k 0 (4 * t + 2).toNat = zI 0 ∧ xClr dn k 0 (4 * t + 3).toNat = zI 1 := by
  intro t h1 h2
  by_cases e : t = k
  · subst e
    exact xClr_at hk
  · have h3 := hd t h1 (by omega)
    rw [xClr_out (by omega) hk, xClr_out (by omega) hk, xClr_out (by omega) hk, xClr_out (by omega) hk]
    exact h3
