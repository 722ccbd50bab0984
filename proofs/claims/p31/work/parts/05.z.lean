/-! ===== whole numbers for the machine's ints ===== -/
def zI (z : Int) : Int32 := Int32.ofInt z
theorem zI_toInt {z : Int} (h : -2147483648 ≤ z ∧ z ≤ 2147483647) : (zI z).toInt = z := Int32.toInt_ofInt_of_le (by omega) (by omega)
theorem zI_of (x : Int32) : x = zI x.toInt := (Int32.ofInt_toInt x).symm
theorem zI_rng (x : Int32) : -2147483648 ≤ x.toInt ∧ x.toInt ≤ 2147483647 := ⟨by have := Int32.le_toInt x; omega, by have := Int32.toInt_lt x; omega⟩
theorem zI_add (a b : Int) : zI a + zI b = zI (a + b) := (Int32.ofInt_add a b).symm
theorem zI_sub (a b : Int) : zI a - zI b = zI (a - b) := (Int32.ofInt_sub a b).symm
theorem zI_mul (a b : Int) : zI a * zI b = zI (a * b) := (Int32.ofInt_mul a b).symm
theorem zI_lt {a b : Int} (h : -2147483648 ≤ a ∧ a ≤ 2147483647 ∧ -2147483648 ≤ b ∧ b ≤ 2147483647) : zI a < zI b ↔ a < b := by
  rw [Int32.lt_iff_toInt_lt, zI_toInt ⟨h.1, h.2.1⟩, zI_toInt h.2.2]
theorem zI_le {a b : Int} (h : -2147483648 ≤ a ∧ a ≤ 2147483647 ∧ -2147483648 ≤ b ∧ b ≤ 2147483647) : zI a ≤ zI b ↔ a ≤ b := by
  rw [Int32.le_iff_toInt_le, zI_toInt ⟨h.1, h.2.1⟩, zI_toInt h.2.2]
theorem zI_eq {a b : Int} (h : -2147483648 ≤ a ∧ a ≤ 2147483647 ∧ -2147483648 ≤ b ∧ b ≤ 2147483647) : zI a = zI b ↔ a = b := by
  rw [← Int32.toInt_inj, zI_toInt ⟨h.1, h.2.1⟩, zI_toInt h.2.2]
theorem zI_div {a b : Int} (h : 0 ≤ a ∧ a ≤ 2147483647 ∧ 0 < b ∧ b ≤ 2147483647) : zI a / zI b = zI (a / b) := by
  apply Int32.toInt_inj.mp
  have hb : zI b ≠ -1 := by
    intro e
    have e2 := congrArg Int32.toInt e
    rw [zI_toInt (by omega)] at e2
    have : (-1 : Int32).toInt = -1 := by decide
    omega
  rw [Int32.toInt_div_of_ne_right _ _ hb, zI_toInt (by omega), zI_toInt (by omega), Int.tdiv_eq_ediv_of_nonneg h.1]
  have h1 : 0 ≤ a / b := Int.ediv_nonneg h.1 (by omega)
  have h2 : a / b ≤ a := Int.ediv_le_self b h.1
  rw [zI_toInt (by omega)]
theorem zI_rem {a b : Int} (h : 0 ≤ a ∧ a ≤ 2147483647 ∧ 0 < b ∧ b ≤ 2147483647) : zI a - zI a / zI b * zI b = zI (a % b) := by
  rw [zI_div h, zI_mul, zI_sub, Int.emod_def, Int.mul_comm b]
theorem zI_clamp {a : Int} (h : 0 ≤ a ∧ a ≤ 2147483647) : (zI a).toNatClampNeg = a.toNat := by
  exact Int32.toNatClampNeg_ofInt_of_le (by omega) (by omega)
theorem zI_in {a : Int} {n : Nat} (h : 0 ≤ a ∧ a < n) (hn : n < 2147483648) : vp_in (zI a) n := by
  rw [vp_in_iff, zI_toInt (by omega)]
  exact h
theorem zI_ne {b : Int} (h : 0 < b ∧ b ≤ 2147483647) : ¬ zI b = 0 := by
  rw [show (0 : Int32) = zI 0 from rfl, zI_eq (by omega)]
  omega
theorem zI_nI (n : Nat) : nI n = zI (n : Int) := rfl
/-- a truth, as the machine's int -/
noncomputable def zB (P : Prop) : Int32 := @ite Int32 P (Classical.propDecidable P) 1 0
theorem zB_t {P : Prop} (h : P) : zB P = 1 := by unfold zB; exact if_pos h
theorem zB_f {P : Prop} (h : ¬ P) : zB P = 0 := by unfold zB; exact if_neg h
theorem zB_iff {P Q : Prop} (h : P ↔ Q) : zB P = zB Q := by rw [propext h]
section ZR
variable {p : Program} {l : Launch} {e : Env} {R : Room} {s : State} {m : MethodId} {args : Array Value} {below : List Frame} {meth : Method} {c : Code} {H : Heap} {locs : List Loc} {cells slots : Nat} {Q : State → Prop}
variable {cc : ByteArray} {pc : Nat} {ls : Array Slot} {rest : List Value}
theorem z_iadd (hexec : p.tables.exec = Jvm.exec) (hb : c.code = cc) {x y : Int} (hdg : decode cc pc = .ok (.iadd, 1)) (k : W p l e R s m args below meth c H locs cells slots Q (F0 m (pc + 1) ls (.int (zI (x + y)) :: rest))) : W p l e R s m args below meth c H locs cells slots Q (F0 m pc ls (.int (zI y) :: .int (zI x) :: rest)) := lv_iadd hexec hb hdg (by rw [zI_add]; exact k)
theorem z_isub (hexec : p.tables.exec = Jvm.exec) (hb : c.code = cc) {x y : Int} (hdg : decode cc pc = .ok (.isub, 1)) (k : W p l e R s m args below meth c H locs cells slots Q (F0 m (pc + 1) ls (.int (zI (x - y)) :: rest))) : W p l e R s m args below meth c H locs cells slots Q (F0 m pc ls (.int (zI y) :: .int (zI x) :: rest)) := lv_isub hexec hb hdg (by rw [zI_sub]; exact k)
theorem z_imul (hexec : p.tables.exec = Jvm.exec) (hb : c.code = cc) {x y : Int} (hdg : decode cc pc = .ok (.imul, 1)) (k : W p l e R s m args below meth c H locs cells slots Q (F0 m (pc + 1) ls (.int (zI (x * y)) :: rest))) : W p l e R s m args below meth c H locs cells slots Q (F0 m pc ls (.int (zI y) :: .int (zI x) :: rest)) := lv_imul hexec hb hdg (by rw [zI_mul]; exact k)
theorem z_idiv (hexec : p.tables.exec = Jvm.exec) (hb : c.code = cc) {x y : Int} (h : 0 ≤ x ∧ x ≤ 2147483647 ∧ 0 < y ∧ y ≤ 2147483647) (hdg : decode cc pc = .ok (.idiv, 1)) (k : W p l e R s m args below meth c H locs cells slots Q (F0 m (pc + 1) ls (.int (zI (x / y)) :: rest))) : W p l e R s m args below meth c H locs cells slots Q (F0 m pc ls (.int (zI y) :: .int (zI x) :: rest)) := lv_idiv hexec hb hdg (zI_ne h.2.2) (by rw [zI_div h]; exact k)
theorem z_irem (hexec : p.tables.exec = Jvm.exec) (hb : c.code = cc) {x y : Int} (h : 0 ≤ x ∧ x ≤ 2147483647 ∧ 0 < y ∧ y ≤ 2147483647) (hdg : decode cc pc = .ok (.irem, 1)) (k : W p l e R s m args below meth c H locs cells slots Q (F0 m (pc + 1) ls (.int (zI (x % y)) :: rest))) : W p l e R s m args below meth c H locs cells slots Q (F0 m pc ls (.int (zI y) :: .int (zI x) :: rest)) := lv_irem hexec hb hdg (zI_ne h.2.2) (by rw [zI_rem h]; exact k)
theorem z_val {x y : Int} (h : x = y) (k : W p l e R s m args below meth c H locs cells slots Q (F0 m pc ls (.int (zI y) :: rest))) : W p l e R s m args below meth c H locs cells slots Q (F0 m pc ls (.int (zI x) :: rest)) := by rw [h]; exact k
theorem z_raw {x y : Int32} (h : x = y) (k : W p l e R s m args below meth c H locs cells slots Q (F0 m pc ls (.int y :: rest))) : W p l e R s m args below meth c H locs cells slots Q (F0 m pc ls (.int x :: rest)) := by rw [h]; exact k
theorem z_top {v w : Value} (h : v = w) (k : W p l e R s m args below meth c H locs cells slots Q (F0 m pc ls (w :: rest))) : W p l e R s m args below meth c H locs cells slots Q (F0 m pc ls (v :: rest)) := by rw [h]; exact k
theorem z_icmp_eq (hexec : p.tables.exec = Jvm.exec) (hb : c.code = cc) {x y : Int} {off : Int} {tgt : Nat} (h : -2147483648 ≤ x ∧ x ≤ 2147483647 ∧ -2147483648 ≤ y ∧ y ≤ 2147483647) (hdg : decode cc pc = .ok (.if_icmp .eq off, 3)) (ht : (pc : Int) + off = (tgt : Int))
    (kt : x = y → W p l e R s m args below meth c H locs cells slots Q (F0 m tgt ls rest)) (kf : ¬ x = y → W p l e R s m args below meth c H locs cells slots Q (F0 m (pc + 3) ls rest)) : W p l e R s m args below meth c H locs cells slots Q (F0 m pc ls (.int (zI y) :: .int (zI x) :: rest)) := lv_icmp_eq hexec hb hdg ht (fun q => kt ((zI_eq h).mp q)) (fun q => kf (fun r => q ((zI_eq h).mpr r)))
theorem z_if_eq (hexec : p.tables.exec = Jvm.exec) (hb : c.code = cc) {x : Int} {off : Int} {tgt : Nat} (h : -2147483648 ≤ x ∧ x ≤ 2147483647) (hdg : decode cc pc = .ok (.ifCond .eq off, 3)) (ht : (pc : Int) + off = (tgt : Int))
    (kt : x = 0 → W p l e R s m args below meth c H locs cells slots Q (F0 m tgt ls rest)) (kf : ¬ x = 0 → W p l e R s m args below meth c H locs cells slots Q (F0 m (pc + 3) ls rest)) : W p l e R s m args below meth c H locs cells slots Q (F0 m pc ls (.int (zI x) :: rest)) := lv_if_eq hexec hb hdg ht (fun q => kt ((zI_eq (a := x) (b := 0) ⟨h.1, h.2, by omega, by omega⟩).mp q)) (fun q => kf (fun r => q ((zI_eq (a := x) (b := 0) ⟨h.1, h.2, by omega, by omega⟩).mpr r)))
theorem z_icmp_ne (hexec : p.tables.exec = Jvm.exec) (hb : c.code = cc) {x y : Int} {off : Int} {tgt : Nat} (h : -2147483648 ≤ x ∧ x ≤ 2147483647 ∧ -2147483648 ≤ y ∧ y ≤ 2147483647) (hdg : decode cc pc = .ok (.if_icmp .ne off, 3)) (ht : (pc : Int) + off = (tgt : Int))
    (kt : ¬ x = y → W p l e R s m args below meth c H locs cells slots Q (F0 m tgt ls rest)) (kf : x = y → W p l e R s m args below meth c H locs cells slots Q (F0 m (pc + 3) ls rest)) : W p l e R s m args below meth c H locs cells slots Q (F0 m pc ls (.int (zI y) :: .int (zI x) :: rest)) := lv_icmp_ne hexec hb hdg ht (fun q => kt (fun r => q ((zI_eq h).mpr r))) (fun q => kf ((zI_eq h).mp q))
theorem z_if_ne (hexec : p.tables.exec = Jvm.exec) (hb : c.code = cc) {x : Int} {off : Int} {tgt : Nat} (h : -2147483648 ≤ x ∧ x ≤ 2147483647) (hdg : decode cc pc = .ok (.ifCond .ne off, 3)) (ht : (pc : Int) + off = (tgt : Int))
    (kt : ¬ x = 0 → W p l e R s m args below meth c H locs cells slots Q (F0 m tgt ls rest)) (kf : x = 0 → W p l e R s m args below meth c H locs cells slots Q (F0 m (pc + 3) ls rest)) : W p l e R s m args below meth c H locs cells slots Q (F0 m pc ls (.int (zI x) :: rest)) := lv_if_ne hexec hb hdg ht (fun q => kt (fun r => q ((zI_eq (a := x) (b := 0) ⟨h.1, h.2, by omega, by omega⟩).mpr r))) (fun q => kf ((zI_eq (a := x) (b := 0) ⟨h.1, h.2, by omega, by omega⟩).mp q))
theorem z_icmp_lt (hexec : p.tables.exec = Jvm.exec) (hb : c.code = cc) {x y : Int} {off : Int} {tgt : Nat} (h : -2147483648 ≤ x ∧ x ≤ 2147483647 ∧ -2147483648 ≤ y ∧ y ≤ 2147483647) (hdg : decode cc pc = .ok (.if_icmp .lt off, 3)) (ht : (pc : Int) + off = (tgt : Int))
    (kt : x < y → W p l e R s m args below meth c H locs cells slots Q (F0 m tgt ls rest)) (kf : ¬ x < y → W p l e R s m args below meth c H locs cells slots Q (F0 m (pc + 3) ls rest)) : W p l e R s m args below meth c H locs cells slots Q (F0 m pc ls (.int (zI y) :: .int (zI x) :: rest)) := lv_icmp_lt hexec hb hdg ht (fun q => kt ((zI_lt h).mp q)) (fun q => kf (fun r => q ((zI_lt h).mpr r)))
theorem z_if_lt (hexec : p.tables.exec = Jvm.exec) (hb : c.code = cc) {x : Int} {off : Int} {tgt : Nat} (h : -2147483648 ≤ x ∧ x ≤ 2147483647) (hdg : decode cc pc = .ok (.ifCond .lt off, 3)) (ht : (pc : Int) + off = (tgt : Int))
    (kt : x < 0 → W p l e R s m args below meth c H locs cells slots Q (F0 m tgt ls rest)) (kf : ¬ x < 0 → W p l e R s m args below meth c H locs cells slots Q (F0 m (pc + 3) ls rest)) : W p l e R s m args below meth c H locs cells slots Q (F0 m pc ls (.int (zI x) :: rest)) := lv_if_lt hexec hb hdg ht (fun q => kt ((zI_lt (a := x) (b := 0) ⟨h.1, h.2, by omega, by omega⟩).mp q)) (fun q => kf (fun r => q ((zI_lt (a := x) (b := 0) ⟨h.1, h.2, by omega, by omega⟩).mpr r)))
theorem z_icmp_ge (hexec : p.tables.exec = Jvm.exec) (hb : c.code = cc) {x y : Int} {off : Int} {tgt : Nat} (h : -2147483648 ≤ x ∧ x ≤ 2147483647 ∧ -2147483648 ≤ y ∧ y ≤ 2147483647) (hdg : decode cc pc = .ok (.if_icmp .ge off, 3)) (ht : (pc : Int) + off = (tgt : Int))
    (kt : y ≤ x → W p l e R s m args below meth c H locs cells slots Q (F0 m tgt ls rest)) (kf : ¬ y ≤ x → W p l e R s m args below meth c H locs cells slots Q (F0 m (pc + 3) ls rest)) : W p l e R s m args below meth c H locs cells slots Q (F0 m pc ls (.int (zI y) :: .int (zI x) :: rest)) := lv_icmp_ge hexec hb hdg ht (fun q => kt ((zI_le ⟨h.2.2.1, h.2.2.2, h.1, h.2.1⟩).mp q)) (fun q => kf (fun r => q ((zI_le ⟨h.2.2.1, h.2.2.2, h.1, h.2.1⟩).mpr r)))
theorem z_if_ge (hexec : p.tables.exec = Jvm.exec) (hb : c.code = cc) {x : Int} {off : Int} {tgt : Nat} (h : -2147483648 ≤ x ∧ x ≤ 2147483647) (hdg : decode cc pc = .ok (.ifCond .ge off, 3)) (ht : (pc : Int) + off = (tgt : Int))
    (kt : 0 ≤ x → W p l e R s m args below meth c H locs cells slots Q (F0 m tgt ls rest)) (kf : ¬ 0 ≤ x → W p l e R s m args below meth c H locs cells slots Q (F0 m (pc + 3) ls rest)) : W p l e R s m args below meth c H locs cells slots Q (F0 m pc ls (.int (zI x) :: rest)) := lv_if_ge hexec hb hdg ht (fun q => kt ((zI_le (a := 0) (b := x) ⟨by omega, by omega, h.1, h.2⟩).mp q)) (fun q => kf (fun r => q ((zI_le (a := 0) (b := x) ⟨by omega, by omega, h.1, h.2⟩).mpr r)))
theorem z_icmp_gt (hexec : p.tables.exec = Jvm.exec) (hb : c.code = cc) {x y : Int} {off : Int} {tgt : Nat} (h : -2147483648 ≤ x ∧ x ≤ 2147483647 ∧ -2147483648 ≤ y ∧ y ≤ 2147483647) (hdg : decode cc pc = .ok (.if_icmp .gt off, 3)) (ht : (pc : Int) + off = (tgt : Int))
    (kt : y < x → W p l e R s m args below meth c H locs cells slots Q (F0 m tgt ls rest)) (kf : ¬ y < x → W p l e R s m args below meth c H locs cells slots Q (F0 m (pc + 3) ls rest)) : W p l e R s m args below meth c H locs cells slots Q (F0 m pc ls (.int (zI y) :: .int (zI x) :: rest)) := lv_icmp_gt hexec hb hdg ht (fun q => kt ((zI_lt ⟨h.2.2.1, h.2.2.2, h.1, h.2.1⟩).mp q)) (fun q => kf (fun r => q ((zI_lt ⟨h.2.2.1, h.2.2.2, h.1, h.2.1⟩).mpr r)))
theorem z_if_gt (hexec : p.tables.exec = Jvm.exec) (hb : c.code = cc) {x : Int} {off : Int} {tgt : Nat} (h : -2147483648 ≤ x ∧ x ≤ 2147483647) (hdg : decode cc pc = .ok (.ifCond .gt off, 3)) (ht : (pc : Int) + off = (tgt : Int))
    (kt : 0 < x → W p l e R s m args below meth c H locs cells slots Q (F0 m tgt ls rest)) (kf : ¬ 0 < x → W p l e R s m args below meth c H locs cells slots Q (F0 m (pc + 3) ls rest)) : W p l e R s m args below meth c H locs cells slots Q (F0 m pc ls (.int (zI x) :: rest)) := lv_if_gt hexec hb hdg ht (fun q => kt ((zI_lt (a := 0) (b := x) ⟨by omega, by omega, h.1, h.2⟩).mp q)) (fun q => kf (fun r => q ((zI_lt (a := 0) (b := x) ⟨by omega, by omega, h.1, h.2⟩).mpr r)))
theorem z_icmp_le (hexec : p.tables.exec = Jvm.exec) (hb : c.code = cc) {x y : Int} {off : Int} {tgt : Nat} (h : -2147483648 ≤ x ∧ x ≤ 2147483647 ∧ -2147483648 ≤ y ∧ y ≤ 2147483647) (hdg : decode cc pc = .ok (.if_icmp .le off, 3)) (ht : (pc : Int) + off = (tgt : Int))
    (kt : x ≤ y → W p l e R s m args below meth c H locs cells slots Q (F0 m tgt ls rest)) (kf : ¬ x ≤ y → W p l e R s m args below meth c H locs cells slots Q (F0 m (pc + 3) ls rest)) : W p l e R s m args below meth c H locs cells slots Q (F0 m pc ls (.int (zI y) :: .int (zI x) :: rest)) := lv_icmp_le hexec hb hdg ht (fun q => kt ((zI_le h).mp q)) (fun q => kf (fun r => q ((zI_le h).mpr r)))
theorem z_if_le (hexec : p.tables.exec = Jvm.exec) (hb : c.code = cc) {x : Int} {off : Int} {tgt : Nat} (h : -2147483648 ≤ x ∧ x ≤ 2147483647) (hdg : decode cc pc = .ok (.ifCond .le off, 3)) (ht : (pc : Int) + off = (tgt : Int))
    (kt : x ≤ 0 → W p l e R s m args below meth c H locs cells slots Q (F0 m tgt ls rest)) (kf : ¬ x ≤ 0 → W p l e R s m args below meth c H locs cells slots Q (F0 m (pc + 3) ls rest)) : W p l e R s m args below meth c H locs cells slots Q (F0 m pc ls (.int (zI x) :: rest)) := lv_if_le hexec hb hdg ht (fun q => kt ((zI_le (a := x) (b := 0) ⟨h.1, h.2, by omega, by omega⟩).mp q)) (fun q => kf (fun r => q ((zI_le (a := x) (b := 0) ⟨h.1, h.2, by omega, by omega⟩).mpr r)))
theorem z_eqB (hexec : p.tables.exec = Jvm.exec) (hb : c.code = cc) {P : Prop} {off : Int} {tgt : Nat} (hdg : decode cc pc = .ok (.ifCond .eq off, 3)) (ht : (pc : Int) + off = (tgt : Int))
    (kt : ¬ P → W p l e R s m args below meth c H locs cells slots Q (F0 m tgt ls rest)) (kf : P → W p l e R s m args below meth c H locs cells slots Q (F0 m (pc + 3) ls rest)) : W p l e R s m args below meth c H locs cells slots Q (F0 m pc ls (.int (zB P) :: rest)) := lv_if_eq hexec hb hdg ht (fun q => kt (fun h => by rw [zB_t h] at q; exact absurd q (by decide))) (fun q => kf (Classical.byContradiction fun h => q (zB_f h)))
theorem z_neB (hexec : p.tables.exec = Jvm.exec) (hb : c.code = cc) {P : Prop} {off : Int} {tgt : Nat} (hdg : decode cc pc = .ok (.ifCond .ne off, 3)) (ht : (pc : Int) + off = (tgt : Int))
    (kt : P → W p l e R s m args below meth c H locs cells slots Q (F0 m tgt ls rest)) (kf : ¬ P → W p l e R s m args below meth c H locs cells slots Q (F0 m (pc + 3) ls rest)) : W p l e R s m args below meth c H locs cells slots Q (F0 m pc ls (.int (zB P) :: rest)) := lv_if_ne hexec hb hdg ht (fun q => kt (Classical.byContradiction fun h => q (zB_f h))) (fun q => kf (fun h => by rw [zB_t h] at q; exact absurd q (by decide)))
end ZR
/-! ===== what a method is called with and what it leaves ===== -/
/-- the arrays' classes -/
abbrev zTy (G : Nat → ClassId) : List (ClassId × FieldType) := [(G 0, .int), (G 1, .int), (G 2, .int), (G 3, .int), (G 4, .object "PolyDrums$Track"), (G 5, .object "PolyDrums$Section")]
/-- links to members of nest mates: methods, fields -/
def zNM : List (String × Nat × MethodName) := [(RX1, 48, yX2_read), (RX1, 52, yX2_write), (RX1, 60, yX2_rest), (RX1, 92, yX2_quotient), (RX1, 106, yX2_mix), (RX2, 190, yX1_mixInto), (RX2, 46, yX1_init), (RX2, 53, yX1_cell), (RX2, 57, yX1_putCell), (RX2, 72, yX1_setting), (RX2, 87, yX1_switchTo), (RX2, 97, yX1_moveSteps), (RX2, 101, yX1_stepsWithForce), (RX2, 120, yX0_init), (RX2, 240, yX1_forceAt)]
def zNF : List (Nat × String × String × String) := [(75, RX1, "stepTicks", "I"), (91, RX1, "steps", "I"), (78, RX1, "swing", "I"), (81, RX1, "ring", "I"), (84, RX1, "group", "I"), (226, RX1, "isMuted", "Z"), (223, RX1, "isSolo", "Z"), (243, RX1, "isAccent", "Z"), (220, RX0, "begin", "I"), (198, RX0, "length", "I"), (201, RX0, "set", "I"), (204, RX0, "isNew", "Z")]
def zIA : String := "java/lang/IllegalArgumentException"
def zIS : String := "java/lang/IllegalStateException"
def zIO : String := "java/lang/IndexOutOfBoundsException"
def zSt : List (Nat × String) := [(210, "an argument is beyond its limits"), (41, "there are 8 tracks"), (218, "there is no such track"), (215, "there is no such thing"), (115, "there are 12 sections")]
/-- what the tables say beyond a method's own words -/
def zN (U : State) : Prop := (∀ q ∈ zNM, va_Nw (.methodLinkNest q.1 q.2.1 q.2.2 RX2) U) ∧ (∀ q ∈ zNF, va_Nw (.fieldLinkNest RX2 q.1 q.2.1 q.2.2.1 q.2.2.2 RX2) U) ∧ (∀ E ∈ [zIA, zIS, zIO], va_Nw (.castable E E) U) ∧ (∀ q ∈ ([] : List (String × String)), va_Nc q.1 q.2 U) ∧ (∀ C ∈ ["java/lang/RuntimeException", "java/lang/Exception", "java/lang/Throwable"], va_Nw (.declares (Bundle.initS C)) U) ∧ ((∀ C ∈ ["PolyDrums$Track", "PolyDrums$Section"], va_AO C U) ∧ True) ∧ ∃ sa : Nat → Nat, ∀ q ∈ zSt, vk_R RX2 q.1 q.2 (sa q.1) U
theorem zN.warm {s U : State} (hW : s.WarmedH U.vm) (h : zN s) : zN U := by
  obtain ⟨h1, h2, h3, h4, h6, ⟨h7, h8⟩, sa, h5⟩ := h
  exact ⟨fun q hq => va_Nw.warmM hW (h1 q hq), fun q hq => va_Nw.warmF hW (h2 q hq), fun E hE => va_Nw.warmC hW (h3 E hE), fun q hq => va_Nc.moved hW.alike (h4 q hq), fun C hC => va_Nw.warmD hW (h6 C hC), ⟨fun C hC => va_AO.moved hW.alike (h7 C hC), h8⟩, sa, fun q hq => vk_R.warm hW (h5 q hq)⟩
theorem zN.same {u U : State} (hv : u.vm = U.vm) (h : zN u) : zN U := by
  obtain ⟨h1, h2, h3, h4, h6, ⟨h7, h8⟩, sa, h5⟩ := h
  refine ⟨fun q hq => va_Nw.same rfl hv (h1 q hq), fun q hq => va_Nw.same rfl hv (h2 q hq), fun E hE => va_Nw.same rfl hv (h3 E hE), fun q hq => va_Nc.moved ?_ (h4 q hq), fun C hC => va_Nw.same rfl hv (h6 C hC), ⟨fun C hC => va_AO.moved ?_ (h7 C hC), h8⟩, sa, fun q hq => vk_R.same hv.symm (h5 q hq)⟩
  · rw [hv]; exact Vm.Alike.refl U.vm
  · rw [hv]; exact Vm.Alike.refl U.vm
/-- the two static fields that a throw reads -/
def zT (U : State) (H : Heap) : Prop := vx_Zq Bundle.tN "UNASSIGNED_STACK" Bundle.steD (fun _ => False) U H ∧ vx_Zq Bundle.tN "SUPPRESSED_SENTINEL" Bundle.listD (fun _ => False) U H
theorem zT.moved {u U : State} {H : Heap} (hvm : u.vm.Alike U.vm) (h : zT u H) : zT U H := ⟨vx_Zq.moved hvm h.1, vx_Zq.moved hvm h.2⟩
/-- a start: these arguments, this of the heap, the tables -/
def zP (av : List Value) (D : va_G) (G : Nat → ClassId) (P : Heap → Prop) : Array Value → State → Prop := fun v U => v = av.toArray ∧ P U.heap ∧ va_K D vwCl (zTy G) U ∧ zN U
theorem zP_blind {av : List Value} {D : va_G} {G : Nat → ClassId} {P : Heap → Prop} : FrameBlind (zP av D G P) := fun a U g mk q => ⟨q.1, q.2.1, va_K.moved (u := U) (U := U.calling g mk a) (Vm.Alike.refl U.vm) q.2.2.1, zN.same (u := U) (U := U.calling g mk a) rfl q.2.2.2⟩
theorem zPreS {s : State} {H : Heap} {As : List Value} {D : va_G} {G : Nat → ClassId} {P : Heap → Prop} (hK : va_K D vwCl (zTy G) s) (hN : zN s) (h : P H) : PreS s H (zP As D G P) As :=
  ⟨zP_blind, fun U hU hW => ⟨rfl, by rw [hU]; exact h, va_K.moved hW.alike hK, zN.warm hW hN⟩⟩
theorem zPreV {s : State} {H : Heap} {As : List Value} {D : va_G} {G : Nat → ClassId} {P : Heap → Prop} {C : String} {b : Addr} (hr : ∃ cell : Cell, H[b]? = some cell ∧ cell.vm.isStatics = false ∧ s.vm.findClass C = some cell.cls) (hK : va_K D vwCl (zTy G) s) (hN : zN s) (h : P H) : PreV s H C b (zP (.ref b :: As) D G P) As :=
  ⟨zP_blind, hr, fun U hU hW => ⟨rfl, by rw [hU]; exact h, va_K.moved hW.alike hK, zN.warm hW hN⟩⟩
/-- a start of what may throw -/
def zPT (av : List Value) (D : va_G) (G : Nat → ClassId) (P : Heap → Prop) : Array Value → State → Prop := fun v U => v = av.toArray ∧ P U.heap ∧ va_K D vwCl (zTy G) U ∧ zN U ∧ zT U U.heap
theorem zPT_blind {av : List Value} {D : va_G} {G : Nat → ClassId} {P : Heap → Prop} : FrameBlind (zPT av D G P) := fun a U g mk q => ⟨q.1, q.2.1, va_K.moved (u := U) (U := U.calling g mk a) (Vm.Alike.refl U.vm) q.2.2.1, zN.same (u := U) (U := U.calling g mk a) rfl q.2.2.2.1, zT.moved (u := U) (U := U.calling g mk a) (Vm.Alike.refl U.vm) q.2.2.2.2⟩
theorem zPTreS {s : State} {H : Heap} {As : List Value} {D : va_G} {G : Nat → ClassId} {P : Heap → Prop} (hK : va_K D vwCl (zTy G) s) (hN : zN s) (hT : zT s H) (h : P H) : PreS s H (zPT As D G P) As :=
  ⟨zPT_blind, fun U hU hW => ⟨rfl, by rw [hU]; exact h, va_K.moved hW.alike hK, zN.warm hW hN, by rw [hU]; exact zT.moved hW.alike hT⟩⟩
theorem zPTreV {s : State} {H : Heap} {As : List Value} {D : va_G} {G : Nat → ClassId} {P : Heap → Prop} {C : String} {b : Addr} (hr : ∃ cell : Cell, H[b]? = some cell ∧ cell.vm.isStatics = false ∧ s.vm.findClass C = some cell.cls) (hK : va_K D vwCl (zTy G) s) (hN : zN s) (hT : zT s H) (h : P H) : PreV s H C b (zPT (.ref b :: As) D G P) As :=
  ⟨zPT_blind, hr, fun U hU hW => ⟨rfl, by rw [hU]; exact h, va_K.moved hW.alike hK, zN.warm hW hN, by rw [hU]; exact zT.moved hW.alike hT⟩⟩
/-- an answer, the heap as it was -/
def zQ (v : Option Value) : Array Value → State → Outcome → State → Prop := fun _ st o t => o = .returned v ∧ t.heap = st.heap
/-- an answer under a condition, the heap as it was -/
def zQc (v : Option Value) (P0 : Prop) : Array Value → State → Outcome → State → Prop := fun _ st o t => o = .returned v ∧ P0 ∧ t.heap = st.heap
/-- an answer, and what is then in the heap; only what A names has changed -/
def zM (v : Option Value) (P : Heap → Prop) (A : Nat → Prop) : Array Value → State → Outcome → State → Prop := fun _ st o t => (o = .returned v ∧ P t.heap) ∧ va_F A st t
def zMc (v : Option Value) (P0 : Prop) (P : Heap → Prop) (A : Nat → Prop) : Array Value → State → Outcome → State → Prop := fun _ st o t => (o = .returned v ∧ P0 ∧ P t.heap) ∧ va_F A st t
/-- a throw: the class, the heap as it was but for what is new -/
def zX (co : String → Prop) : String → State → State → Prop := fun E st t => co E ∧ va_F (fun _ => False) st t
section ZC
variable {p : Program} {l : Launch} {e : Env} {R : Room} {s : State} {m : MethodId} {args : Array Value} {below : List Frame} {meth : Method} {c : Code} {H : Heap} {locs : List Loc} {cells slots : Nat} {Q : State → Prop}
variable {mc ms : Nat} {free : Addr → Prop} {A0 A1 : Nat → Prop} {H0 : Heap} {a : Array Value} {pc : Nat} {ls : Array Slot} {st0 rest : List Value}
theorem z_call {v : Option Value} (hr : va_Run p l e R s m args below meth c H locs cells slots 0 0 (F0 m pc ls st0) rest (zQ v a) (fun _ => False))
    (k : W p l e R s m args below meth c H locs cells slots Q (F0 m (pc + 3) ls (v.toList ++ rest))) : W p l e R s m args below meth c H locs cells slots Q (F0 m pc ls st0) := by
  intro T hT X
  obtain ⟨v', st₀, t, T', L, h0, X', hL, e1, e2, ⟨ho, hh⟩, st⟩ := hr T hT X
  cases ho
  have hL0 : L = [] := List.eq_nil_iff_forall_not_mem.mpr hL
  subst hL0
  rw [List.append_nil] at X'
  obtain ⟨t2, a1, b1⟩ := k T' (by rw [e1, hh, h0]) X'
  exact ⟨t2, st t2 a1, b1⟩
theorem z_callM {v : Option Value} {P : Heap → Prop} (hr : va_Run p l e R s m args below meth c H locs cells slots mc ms (F0 m pc ls st0) rest (zM v P A1 a) free) (hS : va_S A0 H0 H locs) (hA : ∀ q, q < H.size → A1 q → A0 q) (hf : ∀ q, free q → A0 q)
    (k : ∀ (H1 : Heap) (locs1 : List Loc), P H1 → H.size ≤ H1.size → (∀ q : Nat, q < H.size → ¬ A1 q → H1[q]? = H[q]?) → va_S A0 H0 H1 locs1 → W p l e R s m args below meth c H1 locs1 (cells + mc) (slots + ms) Q (F0 m (pc + 3) ls (v.toList ++ rest))) : W p l e R s m args below meth c H locs cells slots Q (F0 m pc ls st0) := by
  intro T hT X
  obtain ⟨v', st₀, t, T', L, h0, X', hL, e1, e2, ⟨⟨ho, hp⟩, hF⟩, st⟩ := hr T hT X
  cases ho
  obtain ⟨k1, k2, k3⟩ := vx_keep h0 e1 hS hA hf hL hF
  obtain ⟨t2, a1, b1⟩ := k T'.heap (locs ++ L) (by rw [e1]; exact hp) k1 k2 k3 T' rfl X'
  exact ⟨t2, st t2 a1, b1⟩
theorem z_callX {v : Option Value} {P0 : Prop} {co : String → Prop} (hr : vx_Run p l e R s m args below meth c H locs cells slots mc ms (F0 m pc ls st0) rest (zQc v P0 a) (zX co) (fun _ => False))
    (kx : ∀ (E : String) (ce : Cell) (q9 : Addr) (H1 : Heap), co E → H.size ≤ H1.size → (∀ q : Nat, q < H.size → H1[q]? = H[q]?) → H1[q9]? = some ce → ce.vm = .none → s.vm.findClass E = some ce.cls → vx_W p l e R s m args below meth c H1 locs (cells + mc) (slots + ms) Q (F0 m pc ls rest) q9)
    (k : P0 → W p l e R s m args below meth c H locs (cells + mc) (slots + ms) Q (F0 m (pc + 3) ls (v.toList ++ rest))) : W p l e R s m args below meth c H locs cells slots Q (F0 m pc ls st0) := by
  intro T hT X
  rcases hr T hT X with ⟨v', st₀, t, T', L, h0, X', hL, e1, e2, ⟨ho, hp, hh⟩, st⟩ | ⟨q, st₀, t, T', L, E, ce, h0, X', hL, e1, e2, ⟨hc, hF⟩, hce, hcv, hcl, st⟩
  · cases ho
    have hL0 : L = [] := List.eq_nil_iff_forall_not_mem.mpr hL
    subst hL0
    rw [List.append_nil] at X'
    obtain ⟨t2, a1, b1⟩ := k hp T' (by rw [e1, hh, h0]) X'
    exact ⟨t2, st t2 a1, b1⟩
  · have hL0 : L = [] := List.eq_nil_iff_forall_not_mem.mpr hL
    subst hL0
    rw [List.append_nil] at X'
    obtain ⟨hF1, hF2⟩ := hF
    rw [h0, ← e1] at hF1
    obtain ⟨t2, a1, b1⟩ := kx E ce q T'.heap hc hF1 (fun q hq => by rw [e1, ← h0]; exact hF2 q (by rw [h0]; exact hq) (fun h => h)) (by rw [e1]; exact hce) hcv hcl T' rfl X'
    exact ⟨t2, st.trans a1, b1⟩
theorem z_callXM {v : Option Value} {P0 : Prop} {P : Heap → Prop} {co : String → Prop} (hr : vx_Run p l e R s m args below meth c H locs cells slots mc ms (F0 m pc ls st0) rest (zMc v P0 P A1 a) (zX co) free) (hS : va_S A0 H0 H locs) (hA : ∀ q, q < H.size → A1 q → A0 q) (hf : ∀ q, free q → A0 q)
    (kx : ∀ (E : String) (ce : Cell) (q9 : Addr) (H1 : Heap) (locs1 : List Loc), co E → H.size ≤ H1.size → (∀ q : Nat, q < H.size → H1[q]? = H[q]?) → va_S A0 H0 H1 locs1 → H1[q9]? = some ce → ce.vm = .none → s.vm.findClass E = some ce.cls → vx_W p l e R s m args below meth c H1 locs1 (cells + mc) (slots + ms) Q (F0 m pc ls rest) q9)
    (k : ∀ (H1 : Heap) (locs1 : List Loc), P0 → P H1 → H.size ≤ H1.size → (∀ q : Nat, q < H.size → ¬ A1 q → H1[q]? = H[q]?) → va_S A0 H0 H1 locs1 → W p l e R s m args below meth c H1 locs1 (cells + mc) (slots + ms) Q (F0 m (pc + 3) ls (v.toList ++ rest))) : W p l e R s m args below meth c H locs cells slots Q (F0 m pc ls st0) := by
  intro T hT X
  rcases hr T hT X with ⟨v', st₀, t, T', L, h0, X', hL, e1, e2, ⟨⟨ho, hp0, hp⟩, hF⟩, st⟩ | ⟨q, st₀, t, T', L, E, ce, h0, X', hL, e1, e2, ⟨hc, hF⟩, hce, hcv, hcl, st⟩
  · cases ho
    obtain ⟨k1, k2, k3⟩ := vx_keep h0 e1 hS hA hf hL hF
    obtain ⟨t2, a1, b1⟩ := k T'.heap (locs ++ L) hp0 (by rw [e1]; exact hp) k1 k2 k3 T' rfl X'
    exact ⟨t2, st t2 a1, b1⟩
  · obtain ⟨k1, k2, k3⟩ := vx_keep h0 e1 hS (fun _ _ h => False.elim h) hf hL hF
    obtain ⟨t2, a1, b1⟩ := kx E ce q T'.heap (locs ++ L) hc k1 (fun q hq => k2 q hq (fun h => h)) k3 (by rw [e1]; exact hce) hcv hcl T' rfl X'
    exact ⟨t2, st.trans a1, b1⟩
/-- the ends, nothing written -/
theorem z_iret {cc : ByteArray} {x y : Int} (hexec : p.tables.exec = Jvm.exec) (hb : c.code = cc) (hr : meth.sig.returnType = some .int) (hlocks : meth.locks = false) (h : x = y) (hdg : decode cc pc = .ok (.ireturn, 1)) : W p l e R s m args below meth c s.heap [] cells slots (MQ below (zQ (some (.int (zI y)))) args s cells slots (fun _ => False)) (F0 m pc ls [.int (zI x)]) := by
  subst h
  exact W.iret hexec hb hr (fun t ht _ => ⟨rfl, ht⟩) (fun _ h => nomatch h) hdg hlocks
theorem z_vret {cc : ByteArray} (hexec : p.tables.exec = Jvm.exec) (hb : c.code = cc) (hr : meth.sig.returnType = none) (hlocks : meth.locks = false) (hdg : decode cc pc = .ok (.return_, 1)) : W p l e R s m args below meth c s.heap [] cells slots (MQ below (zQ none) args s cells slots (fun _ => False)) (F0 m pc ls []) := 
  W.vret hexec hb hr (fun t ht _ => ⟨rfl, ht⟩) (fun _ h => nomatch h) hdg hlocks
theorem z_lret {cc : ByteArray} {x y : Int64} (hexec : p.tables.exec = Jvm.exec) (hb : c.code = cc) (hr : meth.sig.returnType = some .long) (hlocks : meth.locks = false) (h : x = y) (hdg : decode cc pc = .ok (.lreturn, 1)) : W p l e R s m args below meth c s.heap [] cells slots (MQ below (zQ (some (.long y))) args s cells slots (fun _ => False)) (F0 m pc ls [.long x]) := by
  subst h
  exact W.lret hexec hb hr (fun t ht _ => ⟨rfl, ht⟩) (fun _ h => nomatch h) hdg hlocks
theorem z_aret {cc : ByteArray} {x y : Option Nat} {C : String} (hexec : p.tables.exec = Jvm.exec) (hb : c.code = cc) (hr : meth.sig.returnType = some (.object C)) (hlocks : meth.locks = false) (h : x = y) (hdg : decode cc pc = .ok (.areturn, 1)) : W p l e R s m args below meth c s.heap [] cells slots (MQ below (zQ (some (va_rf y))) args s cells slots (fun _ => False)) (F0 m pc ls [va_rf x]) := by
  subst h
  exact W.aret hexec hb hr (Or.inl ⟨_, rfl⟩) (by cases x <;> simp [va_rf]) (fun t ht _ => ⟨rfl, ht⟩) (fun _ h => nomatch h) hdg hlocks
theorem z_zret {cc : ByteArray} {P P' : Prop} (hexec : p.tables.exec = Jvm.exec) (hb : c.code = cc) (hr : meth.sig.returnType = some .boolean) (hlocks : meth.locks = false) (h : P' ↔ P) (hdg : decode cc pc = .ok (.ireturn, 1)) : W p l e R s m args below meth c s.heap [] cells slots (MQ below (zQ (some (.int (zB P)))) args s cells slots (fun _ => False)) (F0 m pc ls [.int (zB P')]) := by
  rw [zB_iff h]
  refine W.zret hexec hb hr ?_ (fun t ht _ => ⟨rfl, ht⟩) (fun _ h => nomatch h) hdg hlocks
  by_cases q : P
  · rw [zB_t q]; rfl
  · rw [zB_f q]; rfl
theorem z_zretT {cc : ByteArray} {P : Prop} (hexec : p.tables.exec = Jvm.exec) (hb : c.code = cc) (hr : meth.sig.returnType = some .boolean) (hlocks : meth.locks = false) (h : P) (hdg : decode cc pc = .ok (.ireturn, 1)) : W p l e R s m args below meth c s.heap [] cells slots (MQ below (zQ (some (.int (zB P)))) args s cells slots (fun _ => False)) (F0 m pc ls [.int (zI 1)]) := by
  have e1 : zI 1 = zB P := by rw [zB_t h]; rfl
  rw [e1]
  exact z_zret hexec hb hr hlocks Iff.rfl hdg
theorem z_zretF {cc : ByteArray} {P : Prop} (hexec : p.tables.exec = Jvm.exec) (hb : c.code = cc) (hr : meth.sig.returnType = some .boolean) (hlocks : meth.locks = false) (h : ¬ P) (hdg : decode cc pc = .ok (.ireturn, 1)) : W p l e R s m args below meth c s.heap [] cells slots (MQ below (zQ (some (.int (zB P)))) args s cells slots (fun _ => False)) (F0 m pc ls [.int (zI 0)]) := by
  have e1 : zI 0 = zB P := by rw [zB_f h]; rfl
  rw [e1]
  exact z_zret hexec hb hr hlocks Iff.rfl hdg
end ZC
