/-! ===== cells that a method may change, by a list of their addresses ===== -/
def zA (L : List Nat) : Nat → Prop := fun q => q ∈ L
theorem z_Dof {L : List Nat} {ws : va_W} (h : L.Nodup) (hw : ws.map Prod.fst = L) : va_D (zA L) ws := by
  subst hw
  refine ⟨fun i j p q hi hj e => ?_, fun k q hk => List.mem_map.mpr ⟨q, List.mem_of_getElem? hk, rfl⟩⟩
  have h1 : (ws.map Prod.fst)[i]? = some p.1 := by rw [List.getElem?_map, hi]; rfl
  have h2 : (ws.map Prod.fst)[j]? = some p.1 := by rw [List.getElem?_map, hj, e]; rfl
  obtain ⟨hi', -⟩ := List.getElem?_eq_some_iff.mp h1
  exact (List.getElem?_inj hi' h).mp (h1.trans h2.symm)
theorem z_merge {D : va_G} {cl : List vw_C} {ws w1 wr wn : va_W} {H H1 : Heap} {L : List Nat} (hP : va_P D cl ws H) (hk : ∀ q : Nat, q < H.size → ¬ zA L q → H1[q]? = H[q]?) (hP1 : va_P D cl w1 H1)
    (isR : List Nat) (hR : isR.filterMap (fun i => ws[i]?) = wr) (hdis : ∀ q ∈ wr.map Prod.fst, q ∉ L) (pm : List Nat) (hn : pm.filterMap (fun i => (w1 ++ wr)[i]?) = wn) : va_P D cl wn H1 := by
  have hr : va_P D cl wr H := hP.sub isR hR
  have hr1 : va_P D cl wr H1 := hr.kept (fun k q hq => hk _ (hr k q hq).lt (hdis _ (List.mem_map.mpr ⟨q, List.mem_of_getElem? hq, rfl⟩)))
  exact (hP1.app hr1).sub pm hn
section ZM
variable {p : Program} {l : Launch} {e : Env} {R : Room} {s : State} {m : MethodId} {args : Array Value} {below : List Frame} {meth : Method} {c : Code} {H : Heap} {locs : List Loc} {cells slots : Nat} {Q : State → Prop}
variable {pc : Nat} {ls : Array Slot} {cc : ByteArray} {P : Heap → Prop} {A : Nat → Prop}
theorem z_rret {x y : Int32} (hexec : p.tables.exec = Jvm.exec) (hb : c.code = cc) (hr : meth.sig.returnType = some .int) (hlocks : meth.locks = false) (h : x = y) (hdg : decode cc pc = .ok (.ireturn, 1)) : W p l e R s m args below meth c s.heap [] cells slots (MQ below (zQ (some (.int y))) args s cells slots (fun _ => False)) (F0 m pc ls [.int x]) := by
  subst h
  exact W.iret hexec hb hr (fun t ht _ => ⟨rfl, ht⟩) (fun _ h => nomatch h) hdg hlocks
/-- the ends of what writes -/
theorem zm_vret (hexec : p.tables.exec = Jvm.exec) (hb : c.code = cc) (hr : meth.sig.returnType = none) (hlocks : meth.locks = false) (hS : va_S A s.heap H locs) (h : P H) (hdg : decode cc pc = .ok (.return_, 1)) : W p l e R s m args below meth c H locs cells slots (MQ below (zM none P A) args s cells slots A) (F0 m pc ls []) :=
  W.vret hexec hb hr (fun t ht _ => ⟨⟨rfl, by rw [ht]; exact h⟩, hS.F ht⟩) hS.2.2 hdg hlocks
theorem zm_iret {x y : Int} (hexec : p.tables.exec = Jvm.exec) (hb : c.code = cc) (hr : meth.sig.returnType = some .int) (hlocks : meth.locks = false) (hS : va_S A s.heap H locs) (h : P H) (hv : x = y) (hdg : decode cc pc = .ok (.ireturn, 1)) : W p l e R s m args below meth c H locs cells slots (MQ below (zM (some (.int (zI y))) P A) args s cells slots A) (F0 m pc ls [.int (zI x)]) := by
  subst hv
  exact W.iret hexec hb hr (fun t ht _ => ⟨⟨rfl, by rw [ht]; exact h⟩, hS.F ht⟩) hS.2.2 hdg hlocks
theorem zm_zret {P1 P2 : Prop} (hexec : p.tables.exec = Jvm.exec) (hb : c.code = cc) (hr : meth.sig.returnType = some .boolean) (hlocks : meth.locks = false) (hS : va_S A s.heap H locs) (h : P H) (hv : P1 ↔ P2) (hdg : decode cc pc = .ok (.ireturn, 1)) : W p l e R s m args below meth c H locs cells slots (MQ below (zM (some (.int (zB P2))) P A) args s cells slots A) (F0 m pc ls [.int (zB P1)]) := by
  rw [zB_iff hv]
  exact W.zret hexec hb hr zB_nar (fun t ht _ => ⟨⟨rfl, by rw [ht]; exact h⟩, hS.F ht⟩) hS.2.2 hdg hlocks
theorem zm_lret {x y : Int64} (hexec : p.tables.exec = Jvm.exec) (hb : c.code = cc) (hr : meth.sig.returnType = some .long) (hlocks : meth.locks = false) (hS : va_S A s.heap H locs) (h : P H) (hv : x = y) (hdg : decode cc pc = .ok (.lreturn, 1)) : W p l e R s m args below meth c H locs cells slots (MQ below (zM (some (.long y)) P A) args s cells slots A) (F0 m pc ls [.long x]) := by
  subst hv
  exact W.lret hexec hb hr (fun t ht _ => ⟨⟨rfl, by rw [ht]; exact h⟩, hS.F ht⟩) hS.2.2 hdg hlocks
end ZM
