/-! ===== p31: the law's world: the class by labels, one int array beside it ===== -/
abbrev oI (G : Nat → ClassId) (o N : Nat) (f : Nat → Int32) : va_W := [(o, .inl (G 0, N, .inl f))]
theorem o_kp {D : va_G} {o : Nat} {e : va_E} {H H1 : Heap} (h : va_P D vwCl [(o, e)] H) (hq : o < H.size → H1[o]? = H[o]?) : va_P D vwCl [(o, e)] H1 := by
  refine h.kept (fun i q hq' => ?_)
  match i, hq' with
  | 0, hq' => cases hq'; exact hq (h 0 _ rfl).lt
  | i + 1, hq' => simp at hq'
theorem o_lt {D : va_G} {o : Nat} {e : va_E} {H : Heap} (h : va_P D vwCl [(o, e)] H) : o < H.size := (h 0 _ rfl).lt
theorem va_P.keptLt {D : va_G} {cl : List vw_C} {ws : va_W} {H H1 : Heap} (hP : va_P D cl ws H) (h : ∀ q : Nat, q < H.size → H1[q]? = H[q]?) : va_P D cl ws H1 := hP.kept (fun i q hq => h _ (hP i q hq).lt)
theorem va_S.old {H0 H : Heap} {locs : List Loc} (hS : va_S (fun q => H0.size ≤ q) H0 H locs) : ∀ q : Nat, q < H0.size → H[q]? = H0[q]? := fun q hq => hS.2.1 q hq (Nat.not_le.mpr hq)
theorem va_S.tr {n : Nat} {H0 H1 H2 : Heap} {locs l2 : List Loc} (h1 : va_S (fun q => n ≤ q) H0 H1 locs) (h2 : va_S (fun q => H1.size ≤ q) H1 H2 l2) : va_S (fun q => n ≤ q) H0 H2 [] :=
  ⟨Nat.le_trans h1.1 h2.1, fun q hq hn => (h2.old q (Nat.lt_of_lt_of_le hq h1.1)).trans (h1.2.1 q hq hn), fun _ h => nomatch h⟩
theorem va_S.nil {A : Nat → Prop} {H0 H : Heap} {locs : List Loc} (h : va_S A H0 H locs) : va_S A H0 H [] := ⟨h.1, h.2.1, fun _ h => nomatch h⟩
theorem xRef_0 (f : Nat → Nat) : xRef 0 f = fun _ => none := by
  funext k
  exact if_neg (by omega)
theorem XOK_0 : XOK 0 0 120 (fun _ _ => 0) (fun _ _ => 0) := ⟨by omega, by omega, by omega, by omega, by omega, by omega, fun k hk => absurd hk (by omega), fun k hk => absurd hk (by omega), fun h => absurd h (by omega), fun k hk => absurd hk (by omega)⟩
/-- the class (speed 120) and an int array o of N numbers, all from z0 on -/
def PI (D : va_G) (G : Nat → ClassId) (ax z0 o N : Nat) (n m : Int) (τ ζ : Nat → Nat → Int) (f : Nat → Int32) (H : Heap) : Prop :=
  ∃ (g : Nat → Nat → Nat) (lab : Nat → Nat) (cs ss : Nat → Nat → Int32), XOK n m 120 τ ζ ∧ XL lab ax n m g ∧ lab o = 200 ∧ (∀ q : Nat, q < z0 → lab q = 300) ∧ XW D G ax n m 120 τ ζ g cs ss H ∧ va_P D vwCl (oI G o N f) H
/-- steps and rings of the tracks are small -/
def PB (n : Int) (τ : Nat → Nat → Int) : Prop := ∀ k : Int, 0 ≤ k → k < n → τ k.toNat 0 ≤ 9 ∧ τ k.toNat 3 ≤ 20
theorem PB.up {n k : Int} {τ : Nat → Nat → Int} {f : Nat → Int} (h : PB n τ) (hf : f 0 ≤ 9 ∧ f 3 ≤ 20) : PB n (va_up τ k.toNat f) := by
  intro j h1 h2
  by_cases e : j.toNat = k.toNat
  · rw [show va_up τ k.toNat f j.toNat = f from if_pos e]; exact hf
  · rw [show va_up τ k.toNat f j.toNat = τ j.toNat from if_neg e]; exact h j h1 h2
theorem PB.add {n : Int} {τ : Nat → Nat → Int} {f : Nat → Int} (h : PB n τ) (hf : f 0 ≤ 9 ∧ f 3 ≤ 20) : PB (n + 1) (va_up τ n.toNat f) := by
  intro j h1 h2
  by_cases e : j.toNat = n.toNat
  · rw [show va_up τ n.toNat f j.toNat = f from if_pos e]; exact hf
  · rw [show va_up τ n.toNat f j.toNat = τ j.toNat from if_neg e]; exact h j h1 (by omega)
section PKP
variable {D : va_G} {G : Nat → ClassId} {lab : Nat → Nat} {ax : Nat} {n m sp : Int} {τ ζ : Nat → Nat → Int} {g : Nat → Nat → Nat} {cs ss : Nat → Nat → Int32} {H H1 : Heap}
theorem XW.kp (h : XW D G ax n m sp τ ζ g cs ss H) (hL : XL lab ax n m g) (hn : n ≤ 8) (hm : m ≤ 12) (hfr : ∀ q : Nat, q < H.size → lab q < 100 → H1[q]? = H[q]?) : XW D G ax n m sp τ ζ g cs ss H1 := by
  obtain ⟨hO, hT, hZ⟩ := h
  obtain ⟨l1, l2, l3, l4, l5⟩ := hL
  refine ⟨hO.kept (fun i q hq => hfr _ (hO i q hq).lt ?_), fun j hj => ⟨(hT j hj).1.kept (fun i q hq => hfr _ ((hT j hj).1 i q hq).lt ?_), (hT j hj).2⟩, fun j hj => (hZ j hj).kept (fun i q hq => hfr _ (hZ j hj i q hq).lt ?_)⟩
  · match i, hq with
    | 0, hq => cases hq; show lab ax < 100; omega
    | 1, hq => cases hq; show lab (g 0 0) < 100; omega
    | 2, hq => cases hq; show lab (g 0 1) < 100; omega
    | i + 3, hq => simp [xOb] at hq
  · have hlj := l4 j hj
    match i, hq with
    | 0, hq => cases hq; show lab (g 1 j) < 100; omega
    | 1, hq => cases hq; show lab (g 2 j) < 100; omega
    | 2, hq => cases hq; show lab (g 3 j) < 100; omega
    | i + 3, hq => simp [xTw] at hq
  · match i, hq with
    | 0, hq => cases hq; show lab (g 4 j) < 100; have := l5 j hj; omega
    | i + 1, hq => simp [xZw] at hq
end PKP
section PIS
variable {D : va_G} {G : Nat → ClassId} {lab : Nat → Nat} {ax z0 o N : Nat} {n m : Int} {τ ζ : Nat → Nat → Int} {g : Nat → Nat → Nat} {cs ss : Nat → Nat → Int32} {H H1 : Heap} {fO : Nat → Int32}
/-- a writer of one track: what it may change lies from z0 on -/
theorem PI.hA (hn8 : n ≤ 8) (hXL : XL lab ax n m g) (hz : ∀ q : Nat, q < z0 → lab q = 300) {k : Int} (hk : 0 ≤ k ∧ k < n) : ∀ q : Nat, zA [g 1 k.toNat, g 2 k.toNat, g 3 k.toNat] q → z0 ≤ q := by
  intro q h9
  have h1 := hXL.2.2.2.1 k.toNat (by omega)
  refine Nat.not_lt.mp (fun h8 => ?_)
  have h2 := hz q h8
  simp only [zA, List.mem_cons, List.not_mem_nil, or_false] at h9
  rcases h9 with e | e | e <;> rw [e] at h2 <;> omega
theorem PI.mut (hXL : XL lab ax n m g) (ho : lab o = 200) (hz : ∀ q : Nat, q < z0 → lab q = 300) (hP : va_P D vwCl (oI G o N fO) H) {k : Int} (hk : 0 ≤ k ∧ k < n) {f' : Nat → Int} (hOK : XOK n m 120 (va_up τ k.toNat f') ζ)
    (hp : ∃ cs' ss' : Nat → Nat → Int32, XW D G ax n m 120 (va_up τ k.toNat f') ζ g cs' ss' H1) (hk1 : ∀ q : Nat, q < H.size → ¬ zA [g 1 k.toNat, g 2 k.toNat, g 3 k.toNat] q → H1[q]? = H[q]?) : PI D G ax z0 o N n m (va_up τ k.toNat f') ζ fO H1 := by
  obtain ⟨cs', ss', hW⟩ := hp
  have hn8 := hOK.2.1
  refine ⟨g, lab, cs', ss', hOK, hXL, ho, hz, hW, o_kp hP (fun h => hk1 o h (fun h9 => ?_))⟩
  have h1 := hXL.2.2.2.1 k.toNat (by omega)
  simp only [zA, List.mem_cons, List.not_mem_nil, or_false] at h9
  rcases h9 with e | e | e <;> rw [e] at ho <;> omega
theorem PI.hA0 (hXL : XL lab ax n m g) (hz : ∀ q : Nat, q < z0 → lab q = 300) (hz0 : z0 ≤ H.size) : ∀ q : Nat, zAn [ax, g 0 0] H.size q → z0 ≤ q := by
  intro q h9
  obtain ⟨l1, l2, l3, -, -⟩ := hXL
  refine Nat.not_lt.mp (fun h8 => ?_)
  have h2 := hz q h8
  simp only [zAn, List.mem_cons, List.not_mem_nil, or_false] at h9
  rcases h9 with (e | e) | e
  · rw [e] at h2; omega
  · rw [e] at h2; omega
  · omega
theorem PI.hA1 (hXL : XL lab ax n m g) (hz : ∀ q : Nat, q < z0 → lab q = 300) (hz0 : z0 ≤ H.size) : ∀ q : Nat, zAn [ax, g 0 1] H.size q → z0 ≤ q := by
  intro q h9
  obtain ⟨l1, l2, l3, -, -⟩ := hXL
  refine Nat.not_lt.mp (fun h8 => ?_)
  have h2 := hz q h8
  simp only [zAn, List.mem_cons, List.not_mem_nil, or_false] at h9
  rcases h9 with (e | e) | e
  · rw [e] at h2; omega
  · rw [e] at h2; omega
  · omega
theorem PI.add (hXL : XL lab ax n m g) (ho : lab o = 200) (hz : ∀ q : Nat, q < z0 → lab q = 300) (hz0 : z0 ≤ H.size) (hP : va_P D vwCl (oI G o N fO) H) {f' : Nat → Int} (hOK : XOK (n + 1) m 120 (va_up τ n.toNat f') ζ)
    (hp : ∃ (g' : Nat → Nat → Nat) (lab' : Nat → Nat) (cs' ss' : Nat → Nat → Int32), XW D G ax (n + 1) m 120 (va_up τ n.toNat f') ζ g' cs' ss' H1 ∧ XL lab' ax (n + 1) m g' ∧ ∀ q : Nat, q < H.size → lab' q = lab q)
    (hk1 : ∀ q : Nat, q < H.size → ¬ zAn [ax, g 0 0] H.size q → H1[q]? = H[q]?) : PI D G ax z0 o N (n + 1) m (va_up τ n.toNat f') ζ fO H1 := by
  obtain ⟨g', lab', cs', ss', hW, hL', hlb⟩ := hp
  have hos := o_lt hP
  refine ⟨g', lab', cs', ss', hOK, hL', (hlb o hos).trans ho, fun q hq => (hlb q (Nat.lt_of_lt_of_le hq hz0)).trans (hz q hq), hW, o_kp hP (fun h => hk1 o h (fun h9 => ?_))⟩
  obtain ⟨l1, l2, l3, -, -⟩ := hXL
  simp only [zAn, List.mem_cons, List.not_mem_nil, or_false] at h9
  rcases h9 with (e | e) | e
  · rw [e] at ho; omega
  · rw [e] at ho; omega
  · omega
theorem PI.sec (hXL : XL lab ax n m g) (ho : lab o = 200) (hz : ∀ q : Nat, q < z0 → lab q = 300) (hz0 : z0 ≤ H.size) (hP : va_P D vwCl (oI G o N fO) H) {ζ' : Nat → Nat → Int} (hOK : XOK n (m + 1) 120 τ ζ')
    (hp : ∃ (g' : Nat → Nat → Nat) (lab' : Nat → Nat), XW D G ax n (m + 1) 120 τ ζ' g' cs ss H1 ∧ XL lab' ax n (m + 1) g' ∧ ∀ q : Nat, q < H.size → lab' q = lab q)
    (hk1 : ∀ q : Nat, q < H.size → ¬ zAn [ax, g 0 1] H.size q → H1[q]? = H[q]?) : PI D G ax z0 o N n (m + 1) τ ζ' fO H1 := by
  obtain ⟨g', lab', hW, hL', hlb⟩ := hp
  have hos := o_lt hP
  refine ⟨g', lab', cs, ss, hOK, hL', (hlb o hos).trans ho, fun q hq => (hlb q (Nat.lt_of_lt_of_le hq hz0)).trans (hz q hq), hW, o_kp hP (fun h => hk1 o h (fun h9 => ?_))⟩
  obtain ⟨l1, l2, l3, -, -⟩ := hXL
  simp only [zAn, List.mem_cons, List.not_mem_nil, or_false] at h9
  rcases h9 with (e | e) | e
  · rw [e] at ho; omega
  · rw [e] at ho; omega
  · omega
/-- a store into the array -/
theorem PI.put (hI : PI D G ax z0 o N n m τ ζ fO H) {f1 : Nat → Int32} (hP1 : va_P D vwCl (oI G o N f1) H1) (hk1 : ∀ q : Nat, q ≠ o → H1[q]? = H[q]?) : PI D G ax z0 o N n m τ ζ f1 H1 := by
  obtain ⟨g, lab, cs, ss, hOK, hXL, ho, hz, hW, hP⟩ := hI
  exact ⟨g, lab, cs, ss, hOK, hXL, ho, hz, hW.kp hXL hOK.2.1 hOK.2.2.2.1 (fun q _ hl => hk1 q (fun e => by rw [e] at hl; omega)), hP1⟩
/-- a new array in its place -/
theorem PI.new (hI : PI D G ax z0 o N n m τ ζ fO H) {o1 N1 : Nat} {f1 : Nat → Int32} (hP1 : va_P D vwCl (oI G o1 N1 f1) H1) (ho1 : H.size ≤ o1) (hz0 : z0 ≤ H.size) (hk1 : ∀ q : Nat, q < H.size → H1[q]? = H[q]?) : PI D G ax z0 o1 N1 n m τ ζ f1 H1 := by
  obtain ⟨g, lab, cs, ss, hOK, hXL, ho, hz, hW, hP⟩ := hI
  have hlt := XW.lt hW
  have e : ∀ q : Nat, q < H.size → (fun q => if q = o1 then 200 else lab q) q = lab q := fun q hq => if_neg (by omega)
  refine ⟨g, fun q => if q = o1 then 200 else lab q, cs, ss, hOK, ⟨(e _ hlt.1).trans hXL.1, (e _ hlt.2.1).trans hXL.2.1, (e _ hlt.2.2.1).trans hXL.2.2.1, fun k hk => ?_, fun k hk => (e _ (hlt.2.2.2.2 k hk)).trans (hXL.2.2.2.2 k hk)⟩, if_pos rfl, fun q hq => (e q (Nat.lt_of_lt_of_le hq hz0)).trans (hz q hq), hW.kp hXL hOK.2.1 hOK.2.2.2.1 (fun q hq _ => hk1 q hq), hP1⟩
  have h1 := hlt.2.2.2.1 k hk
  have h2 := hXL.2.2.2.1 k hk
  exact ⟨(e _ h1.1).trans h2.1, (e _ h1.2.1).trans h2.2.1, (e _ h1.2.2).trans h2.2.2⟩
end PIS
section PZ
variable {p : Program} {l : Launch} {e : Env} {R : Room} {s : State} {m : MethodId} {args : Array Value} {below : List Frame} {meth : Method} {c : Code} {H : Heap} {locs : List Loc} {cells slots : Nat} {Q : State → Prop}
variable {cc : ByteArray} {pc : Nat} {ls : Array Slot} {rest : List Value} {D : va_G} {cl : List vw_C} {A : Nat → Prop} {a : Nat} {tys : List (ClassId × FieldType)} {ws : va_W} {H0 : Heap}
/-- a store into the int array: nothing else changes -/
theorem z_iast2 (hexec : p.tables.exec = Jvm.exec) (hb : c.code = cc) (hK : va_K D cl tys s) {f : Nat → Int32} {n : Nat} {cA : ClassId} (hP : va_P D cl [(a, .inl (cA, n, .inl f))] H) (hS : va_S A H0 H locs) (hA : A a) (t0 : Nat) (ht : tys[t0]? = some (cA, .int)) {i : Int} {x : Int32} (hi : 0 ≤ i ∧ i < (n : Int)) (hn : n < 2147483648) (hdg : decode cc pc = .ok (.iastore, 1))
    (kk : ∀ (H1 : Heap) (locs1 : List Loc), va_P D cl [(a, .inl (cA, n, .inl (upd f i.toNat x)))] H1 → H1.size = H.size → (∀ q : Nat, q ≠ a → H1[q]? = H[q]?) → va_S A H0 H1 locs1 → W p l e R s m args below meth c H1 locs1 cells slots Q (F0 m (pc + 1) ls rest)) : W p l e R s m args below meth c H locs cells slots Q (F0 m pc ls (.int x :: .int (zI i) :: .ref a :: rest)) := by
  have e0 : (zI i).toNatClampNeg = i.toNat := zI_clamp (by omega)
  refine W.iast hexec hb (hP 0 _ rfl) ((hK.2 t0 _ ht).1 n (fun j => .int (f j))) (fun q => by cases q) (by show ¬ (zI i < 0 ∨ (arrV _ _ _).slots.size ≤ _); rw [arrV_size]; exact zI_in hi hn) rfl rfl hdg fun H1 e z oq => ?_
  refine kk H1 _ ?_ z oq (hS.put z oq hA)
  refine va_P.one ?_
  show H1[a]? = some (vp_cell _ _)
  rw [e]
  rw [vp_cell_i, vp_cell_i, arrV_store, e0]
  congr 2
  funext q
  by_cases hq : q = i.toNat
  · subst hq
    simp [updV, upd]
  · simp [updV, upd, hq]
/-- a truth on the stack: branch, 1, goto, 0 -/
theorem z_pick (hexec : p.tables.exec = Jvm.exec) (hb : c.code = cc) {P : Prop} {st0 : List Value} (d1 : decode cc (pc + 3) = .ok (.iconst 1, 1)) (d2 : decode cc (pc + 4) = .ok (.goto 4, 3)) (d3 : decode cc (pc + 7) = .ok (.iconst 0, 1))
    (br : (P → W p l e R s m args below meth c H locs cells slots Q (F0 m (pc + 3) ls rest)) → (¬ P → W p l e R s m args below meth c H locs cells slots Q (F0 m (pc + 7) ls rest)) → W p l e R s m args below meth c H locs cells slots Q (F0 m pc ls st0))
    (k : W p l e R s m args below meth c H locs cells slots Q (F0 m (pc + 8) ls (.int (zB P) :: rest))) : W p l e R s m args below meth c H locs cells slots Q (F0 m pc ls st0) := by
  refine br (fun h => ?_) (fun h => ?_)
  · rw [zB_t h] at k
    exact lv_iconst (v := 1) hexec hb d1 rfl (lv_goto (tgt := pc + 8) hexec hb d2 (by omega) k)
  · rw [zB_f h] at k
    exact lv_iconst (v := 0) hexec hb d3 rfl k
end PZ
theorem zT.kp {s : State} {H : Heap} {locs : List Loc} (h : zT s s.heap) (hS : va_S (fun q => s.heap.size ≤ q) s.heap H locs) : zT s H :=
  ⟨vx_Zq.kept h.1 (fun a ha _ => hS.2.1 a ha (Nat.not_le.mpr ha)), vx_Zq.kept h.2 (fun a ha _ => hS.2.1 a ha (Nat.not_le.mpr ha))⟩
/-- the two static fields that a throw reads lie below z0 -/
def zTz (z0 : Nat) (U : State) (H : Heap) : Prop := vx_Zq Bundle.tN "UNASSIGNED_STACK" Bundle.steD (fun q => z0 ≤ q) U H ∧ vx_Zq Bundle.tN "SUPPRESSED_SENTINEL" Bundle.listD (fun q => z0 ≤ q) U H
theorem zTz.moved {z0 : Nat} {u U : State} {H : Heap} (hvm : u.vm.Alike U.vm) (h : zTz z0 u H) : zTz z0 U H := ⟨vx_Zq.moved hvm h.1, vx_Zq.moved hvm h.2⟩
theorem zTz.t {z0 : Nat} {s : State} {H : Heap} (h : zTz z0 s H) : zT s H := ⟨h.1.narrow (fun _ h => h.elim), h.2.narrow (fun _ h => h.elim)⟩
theorem zTz.kp {z0 : Nat} {s : State} {H H0 : Heap} {locs : List Loc} (h : zTz z0 s H0) (hS : va_S (fun q => z0 ≤ q) H0 H locs) : zTz z0 s H := ⟨h.1.kept (fun a ha hn => hS.2.1 a ha hn), h.2.kept (fun a ha hn => hS.2.1 a ha hn)⟩
/-- a start with the script -/
def zPX (av : List Value) (D : va_G) (G : Nat → ClassId) (z0 b L : Nat) (xs : Nat → Int32) (P : Heap → Prop) : Array Value → State → Prop := fun v U => v = av.toArray ∧ P U.heap ∧ va_K D vwCl (zTy G) U ∧ zN U ∧ zTz z0 U U.heap ∧ va_X b L xs U U.heap
theorem zPX_blind {av : List Value} {D : va_G} {G : Nat → ClassId} {z0 b L : Nat} {xs : Nat → Int32} {P : Heap → Prop} : FrameBlind (zPX av D G z0 b L xs P) := fun a U g mk q => ⟨q.1, q.2.1, va_K.moved (u := U) (U := U.calling g mk a) (Vm.Alike.refl U.vm) q.2.2.1, zN.same (u := U) (U := U.calling g mk a) rfl q.2.2.2.1, zTz.moved (u := U) (U := U.calling g mk a) (Vm.Alike.refl U.vm) q.2.2.2.2.1, va_X.moved (u := U) (U := U.calling g mk a) (Vm.Alike.refl U.vm) q.2.2.2.2.2⟩
theorem zPXreS {s : State} {H : Heap} {As : List Value} {D : va_G} {G : Nat → ClassId} {z0 b L : Nat} {xs : Nat → Int32} {P : Heap → Prop} (hK : va_K D vwCl (zTy G) s) (hN : zN s) (hT : zTz z0 s H) (hX : va_X b L xs s H) (h : P H) : PreS s H (zPX As D G z0 b L xs P) As :=
  ⟨zPX_blind, fun U hU hW => ⟨rfl, by rw [hU]; exact h, va_K.moved hW.alike hK, zN.warm hW hN, by rw [hU]; exact zTz.moved hW.alike hT, by rw [hU]; exact va_X.moved hW.alike hX⟩⟩
/-- a start with the script alone -/
def zPs (av : List Value) (b L : Nat) (xs : Nat → Int32) : Array Value → State → Prop := fun v U => v = av.toArray ∧ va_X b L xs U U.heap
theorem zPs_blind {av : List Value} {b L : Nat} {xs : Nat → Int32} : FrameBlind (zPs av b L xs) := fun a U g mk q => ⟨q.1, va_X.moved (u := U) (U := U.calling g mk a) (Vm.Alike.refl U.vm) q.2⟩
theorem zPsreS {s : State} {H : Heap} {As : List Value} {b L : Nat} {xs : Nat → Int32} (hX : va_X b L xs s H) : PreS s H (zPs As b L xs) As :=
  ⟨zPs_blind, fun U hU hW => ⟨rfl, by rw [hU]; exact va_X.moved hW.alike hX⟩⟩
/-! what the law reckons -/
/-- a number without its sign bit -/
def pA (v : Int32) : Int := (v &&& 2147483647).toInt
theorem pA_b (v : Int32) : 0 ≤ pA v ∧ pA v ≤ 2147483647 := by
  have h : (v &&& (2147483647 : Int32)).toBitVec.toNat < 2147483648 := by
    rw [Int32.toBitVec_and, BitVec.toNat_and]
    exact Nat.lt_of_le_of_lt Nat.and_le_right (by decide)
  have h2 : pA v = ((v &&& (2147483647 : Int32)).toBitVec.toNat : Int) := by
    show (v &&& (2147483647 : Int32)).toBitVec.toInt = _
    rw [BitVec.toInt_eq_toNat_cond, if_pos (by omega)]
  omega
theorem pA_z (v : Int32) : v &&& zI 2147483647 = zI (pA v) := zI_of _
/-- below -/
def pBl (v : Int32) (n : Int) : Int := pA v % n
theorem pBl_b {v : Int32} {n : Int} (h : 0 < n) : 0 ≤ pBl v n ∧ pBl v n < n := ⟨Int.emod_nonneg _ (by omega), Int.emod_lt_of_pos _ h⟩
/-- cell -/
def pCl (L : Nat) (xs : Nat → Int32) (k : Int) : Int32 := if k < L then xs k.toNat else zI 790386105 * zI (k + 3)
theorem XOK.add9 {n m sp : Int} {τ ζ : Nat → Nat → Int} (h : XOK n m sp τ ζ) (hn : n < 8) {f : Nat → Int} (hf : TOK f) : XOK (n + 1) m sp (va_up τ n.toNat f) ζ := by
  obtain ⟨h1, h2, h3, h4, h5, h6, h7, h8⟩ := h
  refine ⟨by omega, by omega, h3, h4, h5, h6, fun k hk => ?_, h8⟩
  by_cases e : k = n.toNat
  · rw [e, va_up_self]; exact hf
  · rw [va_up_ne _ _ e]; exact h7 k (by omega)
theorem XOK.sec9 {n m sp : Int} {τ ζ : Nat → Nat → Int} (h : XOK n m sp τ ζ) (hm : m < 12) {a b v : Int} (ha : 1 ≤ a ∧ a ≤ 5000) (hb : 0 ≤ b ∧ b ≤ 255) (hv : v = 0 ∨ v = 1) : XOK n (m + 1) sp τ (va_up ζ m.toNat (xZn (if m = 0 then 0 else ζ (m - 1).toNat 0 + ζ (m - 1).toNat 1) a b v)) := by
  have hzb := h.zb
  obtain ⟨h1, h2, h3, h4, h5, h6, h7, h8, h9, h10⟩ := h
  refine ⟨h1, h2, by omega, by omega, h5, h6, h7, fun k hk => ?_, fun _ => ?_, fun k hk => ?_⟩
  · by_cases e : k = m.toNat
    · rw [e, va_up_self]
      refine ⟨?_, ha.1, ha.2, hb.1, hb.2, hv⟩
      show 0 ≤ (if m = 0 then 0 else ζ (m - 1).toNat 0 + ζ (m - 1).toNat 1)
      by_cases q : m = 0
      · rw [if_pos q]; omega
      · rw [if_neg q]
        have := hzb (m - 1).toNat (by omega)
        omega
    · rw [va_up_ne _ _ e]; exact h8 k (by omega)
  · by_cases e : m = 0
    · subst e
      rw [show (0 : Int).toNat = 0 from rfl, va_up_self]
      exact if_pos rfl
    · rw [va_up_ne _ _ (show 0 ≠ m.toNat by omega)]; exact h9 (by omega)
  · have e1 : k ≠ m.toNat := by omega
    rw [va_up_ne _ _ e1]
    by_cases e : k + 1 = m.toNat
    · rw [e, va_up_self]
      show (if m = 0 then 0 else ζ (m - 1).toNat 0 + ζ (m - 1).toNat 1) = ζ k 0 + ζ k 1
      rw [if_neg (by omega), show (m - 1).toNat = k by omega]
    · rw [va_up_ne _ _ e]; exact h10 k (by omega)
