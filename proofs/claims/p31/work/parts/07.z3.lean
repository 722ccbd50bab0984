/-! ===== cells that a method may change, by a list of their addresses ===== -/
def zA (L : List Nat) : Nat → Prop := fun q => q ∈ L
theorem z_Dof {L : List Nat} {ws : va_W} (h : L.Nodup) (hw : ws.map Prod.fst = L) : va_D (zA L) ws := by
  subst hw
  refine ⟨fun i j p q hi hj e => ?_, fun k q hk => List.mem_map.mpr ⟨q, List.mem_of_getElem? hk, rfl⟩⟩
  have h1 : (ws.map Prod.fst)[i]? = some p.1 := by rw [List.getElem?_map, hi]; rfl
  have h2 : (ws.map Prod.fst)[j]? = some p.1 := by rw [List.getElem?_map, hj, e]; rfl
  obtain ⟨hi', -⟩ := List.getElem?_eq_some_iff.mp h1
  exact (List.getElem?_inj hi' h).mp (h1.trans h2.symm)
theorem z_merge {D : va_G} {cl : List vw_C} {ws w1 wr wn : va_W} {H H1 : Heap} {L : List Nat} (hP : va_P D cl ws H) (hk : ∀ q : Nat, q < H.size → ¬ zA L q → H1[q]? = H[q]?) (hP1 : va_P D cl w1 H1)
    (isR : List Nat) (hR : isR.filterMap (fun i => ws[i]?) = wr) (hdis : ∀ q ∈ wr.map Prod.fst, q ∉ L) (pm : List Nat) (hn : pm.filterMap (fun i => (w1 ++ wr)[i]?) = wn) : va_P D cl wn H1 := by
  have hr : va_P D cl wr H := hP.sub isR hR
  have hr1 : va_P D cl wr H1 := hr.kept (fun k q hq => hk _ (hr k q hq).lt (hdis _ (List.mem_map.mpr ⟨q, List.mem_of_getElem? hq, rfl⟩)))
  exact (hP1.app hr1).sub pm hn
section ZM
variable {p : Program} {l : Launch} {e : Env} {R : Room} {s : State} {m : MethodId} {args : Array Value} {below : List Frame} {meth : Method} {c : Code} {H : Heap} {locs : List Loc} {cells slots : Nat} {Q : State → Prop}
variable {pc : Nat} {ls : Array Slot} {cc : ByteArray} {P : Heap → Prop} {A : Nat → Prop}
theorem z_rret {x y : Int32} (hexec : p.tables.exec = Jvm.exec) (hb : c.code = cc) (hr : meth.sig.returnType = some .int) (hlocks : meth.locks = false) (h : x = y) (hdg : decode cc pc = .ok (.ireturn, 1)) : W p l e R s m args below meth c s.heap [] cells slots (MQ below (zQ (some (.int y))) args s cells slots (fun _ => False)) (F0 m pc ls [.int x]) := by
  subst h
  exact W.iret hexec hb hr (fun t ht _ => ⟨rfl, ht⟩) (fun _ h => nomatch h) hdg hlocks
theorem z_dret {x y : UInt64} (hexec : p.tables.exec = Jvm.exec) (hb : c.code = cc) (hr : meth.sig.returnType = some .double) (hlocks : meth.locks = false) (h : x = y) (hdg : decode cc pc = .ok (.dreturn, 1)) : W p l e R s m args below meth c s.heap [] cells slots (MQ below (zQ (some (.double y))) args s cells slots (fun _ => False)) (F0 m pc ls [.double x]) := by
  subst h
  exact W.dret hexec hb hr (fun t ht _ => ⟨rfl, ht⟩) (fun _ h => nomatch h) hdg hlocks
/-- the ends of what writes -/
theorem zm_vret (hexec : p.tables.exec = Jvm.exec) (hb : c.code = cc) (hr : meth.sig.returnType = none) (hlocks : meth.locks = false) (hS : va_S A s.heap H locs) (h : P H) (hdg : decode cc pc = .ok (.return_, 1)) : W p l e R s m args below meth c H locs cells slots (MQ below (zM none P A) args s cells slots A) (F0 m pc ls []) :=
  W.vret hexec hb hr (fun t ht _ => ⟨⟨rfl, by rw [ht]; exact h⟩, hS.F ht⟩) hS.2.2 hdg hlocks
theorem zm_iret {x y : Int} (hexec : p.tables.exec = Jvm.exec) (hb : c.code = cc) (hr : meth.sig.returnType = some .int) (hlocks : meth.locks = false) (hS : va_S A s.heap H locs) (h : P H) (hv : x = y) (hdg : decode cc pc = .ok (.ireturn, 1)) : W p l e R s m args below meth c H locs cells slots (MQ below (zM (some (.int (zI y))) P A) args s cells slots A) (F0 m pc ls [.int (zI x)]) := by
  subst hv
  exact W.iret hexec hb hr (fun t ht _ => ⟨⟨rfl, by rw [ht]; exact h⟩, hS.F ht⟩) hS.2.2 hdg hlocks
theorem zm_zret {P1 P2 : Prop} (hexec : p.tables.exec = Jvm.exec) (hb : c.code = cc) (hr : meth.sig.returnType = some .boolean) (hlocks : meth.locks = false) (hS : va_S A s.heap H locs) (h : P H) (hv : P1 ↔ P2) (hdg : decode cc pc = .ok (.ireturn, 1)) : W p l e R s m args below meth c H locs cells slots (MQ below (zM (some (.int (zB P2))) P A) args s cells slots A) (F0 m pc ls [.int (zB P1)]) := by
  rw [zB_iff hv]
  exact W.zret hexec hb hr zB_nar (fun t ht _ => ⟨⟨rfl, by rw [ht]; exact h⟩, hS.F ht⟩) hS.2.2 hdg hlocks
theorem zm_lret {x y : Int64} (hexec : p.tables.exec = Jvm.exec) (hb : c.code = cc) (hr : meth.sig.returnType = some .long) (hlocks : meth.locks = false) (hS : va_S A s.heap H locs) (h : P H) (hv : x = y) (hdg : decode cc pc = .ok (.lreturn, 1)) : W p l e R s m args below meth c H locs cells slots (MQ below (zM (some (.long y)) P A) args s cells slots A) (F0 m pc ls [.long x]) := by
  subst hv
  exact W.lret hexec hb hr (fun t ht _ => ⟨⟨rfl, by rw [ht]; exact h⟩, hS.F ht⟩) hS.2.2 hdg hlocks
theorem z_min (hexec : p.tables.exec = Jvm.exec) (hb : c.code = cc) (hml : c.maxLocals = ls.size) {own : String} {index : Nat} {rest : List Value} {Q : State → Prop} (hown : s.vm.findClass own = some m.cls) (hlink : (Cond.methodLink own index Lib.Math.min.name).before args s = true) (hstat : (Cond.static Lib.Math.min.name).before args s = true) (hini : (Cond.initialized "java/lang/Math").before args s = true) (hcode : (Cond.code Lib.Math.min.name Lib.Math.min.code 2 (some .int)).before args s = true)
    (hframes : 1 ≤ R.frames) (hlocals : (rest.map fun v => v.category).sum + 13 ≤ R.locals) (hc : cells ≤ R.cells) (hs : slots ≤ R.slots) {x y : Int} (h : -2147483648 ≤ y ∧ y ≤ 2147483647 ∧ -2147483648 ≤ x ∧ x ≤ 2147483647) (hdg : decode cc pc = .ok (.invokestatic index, 3))
    (kk : W p l e R s m args below meth c H locs cells slots Q (F0 m (pc + 3) ls (.int (zI (if y < x then y else x)) :: rest))) : W p l e R s m args below meth c H locs cells slots Q (F0 m pc ls (.int (zI y) :: .int (zI x) :: rest)) := by
  refine va_mmin hexec hb hml hown hlink hstat hini hcode hframes hlocals hc hs hdg ?_
  have e1 : (if zI y < zI x then zI y else zI x) = zI (if y < x then y else x) := by
    by_cases q : y < x
    · rw [if_pos q, if_pos ((zI_lt h).mpr q)]
    · rw [if_neg q, if_neg (fun r => q ((zI_lt h).mp r))]
  rw [e1]
  exact kk
theorem z_abs (hexec : p.tables.exec = Jvm.exec) (hb : c.code = cc) (hml : c.maxLocals = ls.size) {own : String} {index : Nat} {rest : List Value} {Q : State → Prop} (hown : s.vm.findClass own = some m.cls) (hlink : (Cond.methodLink own index Lib.Math.abs.name).before args s = true) (hstat : (Cond.static Lib.Math.abs.name).before args s = true) (hini : (Cond.initialized "java/lang/Math").before args s = true) (hcode : (Cond.code Lib.Math.abs.name Lib.Math.abs.code 1 (some .int)).before args s = true)
    (hframes : 1 ≤ R.frames) (hlocals : (rest.map fun v => v.category).sum + 13 ≤ R.locals) (hc : cells ≤ R.cells) (hs : slots ≤ R.slots) {x : Int} (h : -2147483648 ≤ x ∧ x ≤ 2147483647) (hdg : decode cc pc = .ok (.invokestatic index, 3))
    (kk : W p l e R s m args below meth c H locs cells slots Q (F0 m (pc + 3) ls (.int (zI (if 0 ≤ x then x else 0 - x)) :: rest))) : W p l e R s m args below meth c H locs cells slots Q (F0 m pc ls (.int (zI x) :: rest)) := by
  refine va_mabs hexec hb hml hown hlink hstat hini hcode hframes hlocals hc hs hdg ?_
  have e1 : (if (0 : Int32) ≤ zI x then zI x else 0 - zI x) = zI (if 0 ≤ x then x else 0 - x) := by
    have e0 : (0 : Int32) = zI 0 := rfl
    have e2 := zI_le (a := 0) (b := x) ⟨by omega, by omega, h.1, h.2⟩
    by_cases q : 0 ≤ x
    · rw [if_pos q, if_pos (by rw [e0]; exact e2.mpr q)]
    · rw [if_neg q, if_neg (by rw [e0]; exact fun r => q (e2.mp r)), e0, zI_sub]
  rw [e1]
  exact kk
end ZM
/-! ===== methods that make cells ===== -/
def zAn (L : List Nat) (sz : Nat) : Nat → Prop := fun q => q ∈ L ∨ sz ≤ q
theorem z_Dofn {L : List Nat} {sz : Nat} {ws : va_W} (h : L.Nodup) (hw : ws.map Prod.fst = L) : va_D (zAn L sz) ws := (z_Dof h hw).weaken (fun _ _ _ q => Or.inl q)
theorem zTy_uniq {D : va_G} {cl : List vw_C} {tys : List (ClassId × FieldType)} {s : State} {cA cB : ClassId} {ty : FieldType} {t0 : Nat} (h : va_K D cl (tys ++ [(cA, ty)]) s) (h0 : tys[t0]? = some (cB, ty)) : cA = cB := by
  have h1 := (h.2 tys.length (cA, ty) (by simp)).2
  have hl : t0 < tys.length := (List.getElem?_eq_some_iff.mp h0).1
  have h2 := (h.2 t0 (cB, ty) (by rw [List.getElem?_append_left hl]; exact h0)).2
  cases ty with
  | object C =>
    obtain ⟨_, _, _, _, _, a1⟩ := h1
    obtain ⟨_, _, _, _, _, a2⟩ := h2
    exact Option.some.inj (a1.symm.trans a2)
  | _ => exact Option.some.inj (Eq.trans (Eq.symm h1) h2)
section ZW
variable {p : Program} {l : Launch} {e : Env} {R : Room} {s : State} {m : MethodId} {args : Array Value} {below : List Frame} {meth : Method} {c : Code} {H : Heap} {locs : List Loc} {cells slots : Nat} {Q : State → Prop}
variable {cc : ByteArray} {pc : Nat} {ls : Array Slot} {rest : List Value} {D : va_G} {cl : List vw_C} {A : Nat → Prop} {a : Nat} {tys : List (ClassId × FieldType)} {ws : va_W} {H0 : Heap}
theorem z_newa (hexec : p.tables.exec = Jvm.exec) (hb : c.code = cc) {atype : ArrayType} (harr : (Cond.arrayClass (newarray.typeOf atype)).before args s = true) {ty : FieldType} (hty : newarray.typeOf atype = ty) (hK : va_K D cl tys s) (hP : va_P D cl ws H) (hD : va_D A ws) (hS : va_S A H0 H locs) (hA : ∀ q, H0.size ≤ q → A q) (t0 : Nat) {cB : ClassId} (ht : tys[t0]? = some (cB, ty))
    {n : Int} {N' : Nat} {a0 : vp_A} (ha : ∀ cA : ClassId, vp_cell cA a0 = arrV cA N' (fun _ => defaultValue ty)) (hn : n = (N' : Int)) (hbytes : N' ≤ 50000 ∧ N' * componentBytes ty ≤ 536870912) (hcells : cells + 1 ≤ R.cells) (hslots : slots + N' ≤ R.slots) (hdg : decode cc pc = .ok (.newarray atype, 2))
    (kk : ∀ (q : Nat) (H1 : Heap), va_P D cl (ws ++ [(q, .inl (cB, a0))]) H1 → va_D A (ws ++ [(q, .inl (cB, a0))]) → va_S A H0 H1 locs → H.size ≤ q →
      W p l e R s m args below meth c H1 locs (cells + 1) (slots + N') Q (F0 m (pc + 2) ls (.ref q :: rest))) : W p l e R s m args below meth c H locs cells slots Q (F0 m pc ls (.int (zI n) :: rest)) := by
  subst hn
  refine va_newaK hexec hb harr (g := F0 m pc ls (.int (zI (N' : Int)) :: rest)) rfl hdg (rest := rest) rfl (N := N') ?_ ?_ (by rw [hty]; exact hbytes.2) hcells hslots rfl ?_
  · show ¬ zI (N' : Int) < 0
    rw [show (0 : Int32) = zI 0 from rfl, zI_lt (by omega)]
    omega
  · rw [zI_clamp (by omega)]; rfl
  · intro H' cA h1 h2 h3 h4 h5
    have hK2 : cA = cB := by
      have hl2 := (hK.2 t0 (cB, ty) ht).2
      rw [hty] at h5
      cases ty with
      | object C =>
        obtain ⟨_, _, _, _, _, a2⟩ := hl2
        exact Option.some.inj (h5.symm.trans a2)
      | _ => exact Option.some.inj (Eq.trans (Eq.symm h5) hl2)
    subst hK2
    have hPa : va_at D cl (H.size, .inl (cA, a0)) H' := by
      show H'[H.size]? = some (vp_cell cA a0)
      rw [ha cA, ← hty]
      exact h1
    have hP1 : va_P D cl ws H' := hP.kept (fun k q hq => h3 _ (hP k q hq).lt)
    refine kk H.size H' ?_ (hD.push hP rfl (hA _ hS.1)) ⟨by have := hS.1; omega, fun q hq hn => ?_, hS.2.2⟩ (Nat.le_refl _)
    · intro k q hk
      rcases Nat.lt_or_ge k ws.length with hlt | hge
      · rw [List.getElem?_append_left hlt] at hk
        exact hP1 k q hk
      · rw [List.getElem?_append_right hge] at hk
        have hk0 : k - ws.length = 0 := by
          have := (List.getElem?_eq_some_iff.mp hk).1
          simp at this
          omega
        rw [hk0] at hk
        cases hk
        exact hPa
    · rw [h3 q (Nat.lt_of_lt_of_le hq hS.1)]
      exact hS.2.1 q hq hn
end ZW
theorem z_nd {A : Nat → Prop} {ws : va_W} {L : List Nat} (h : va_D A ws) (hw : ws.map Prod.fst = L) : L.Nodup := by
  subst hw
  rw [List.nodup_iff_pairwise_ne, List.pairwise_iff_getElem]
  intro i j hi hj hij e
  rw [List.length_map] at hi hj
  have h1 : ws[i]? = some ws[i] := List.getElem?_eq_getElem hi
  have h2 : ws[j]? = some ws[j] := List.getElem?_eq_getElem hj
  rw [List.getElem_map, List.getElem_map] at e
  have := h.1 i j _ _ h1 h2 e
  omega
