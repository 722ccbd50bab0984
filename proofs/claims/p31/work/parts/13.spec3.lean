/-! ===== ends of what may throw ===== -/
section ZX
variable {p : Program} {l : Launch} {e : Env} {R : Room} {s : State} {m : MethodId} {args : Array Value} {below : List Frame} {meth : Method} {c : Code} {H : Heap} {locs : List Loc} {cells slots : Nat} {Q : State → Prop}
variable {pc : Nat} {ls : Array Slot} {cc : ByteArray} {P : Heap → Prop} {P0 : Prop} {A : Nat → Prop} {co : String → Prop} {rest : List Value} {mc ms : Nat}
theorem zx_out {E : String} {ce : Cell} {q : Addr} {Qc : Array Value → State → Outcome → State → Prop} {free : Addr → Prop} (hout : ∀ x ∈ c.exceptionTable.toList, False) (hlocks : meth.locks = false) (hz : s.heap.size ≤ H.size) (hk : ∀ q : Nat, q < s.heap.size → H[q]? = s.heap[q]?) (hcell : H[q]? = some ce) (hv : ce.vm = .none) (hcl : s.vm.findClass E = some ce.cls)
    (hco : co E) (hc : cells ≤ mc) (hs : slots ≤ ms) : vx_W p l e R s m args below meth c H [] cells slots (vx_MQ below Qc (zX co) args s mc ms free) (F0 m pc ls rest) q :=
  vx_out (fun x hx => (hout x hx).elim) hlocks hcell hv hcl (fun t ht _ => ⟨hco, by rw [ht]; exact hz, fun q hq _ => by rw [ht]; exact hk q hq⟩) (fun _ h => nomatch h) hc hs
theorem zc_iret {x y : Int} (hexec : p.tables.exec = Jvm.exec) (hb : c.code = cc) (hr : meth.sig.returnType = some .int) (hlocks : meth.locks = false) (h : x = y) (h0 : P0) (hdg : decode cc pc = .ok (.ireturn, 1)) (hc : cells ≤ mc) (hs : slots ≤ ms) : W p l e R s m args below meth c s.heap [] cells slots (vx_MQ below (zQc (some (.int (zI y))) P0) (zX co) args s mc ms (fun _ => False)) (F0 m pc ls [.int (zI x)]) := by
  subst h
  refine W.widen (k := mc) (n := ms) hc hs (vx_ret ?_)
  exact W.iret hexec hb hr (fun t ht _ => ⟨rfl, h0, ht⟩) (fun _ h => nomatch h) hdg hlocks
theorem zc_vret (hexec : p.tables.exec = Jvm.exec) (hb : c.code = cc) (hr : meth.sig.returnType = none) (hlocks : meth.locks = false) (h0 : P0) (hdg : decode cc pc = .ok (.return_, 1)) (hc : cells ≤ mc) (hs : slots ≤ ms) : W p l e R s m args below meth c s.heap [] cells slots (vx_MQ below (zQc none P0) (zX co) args s mc ms (fun _ => False)) (F0 m pc ls []) := by
  refine W.widen (k := mc) (n := ms) hc hs (vx_ret ?_)
  exact W.vret hexec hb hr (fun t ht _ => ⟨rfl, h0, ht⟩) (fun _ h => nomatch h) hdg hlocks
theorem zc_dret {x y : UInt64} (hexec : p.tables.exec = Jvm.exec) (hb : c.code = cc) (hr : meth.sig.returnType = some .double) (hlocks : meth.locks = false) (h : x = y) (h0 : P0) (hdg : decode cc pc = .ok (.dreturn, 1)) (hc : cells ≤ mc) (hs : slots ≤ ms) : W p l e R s m args below meth c s.heap [] cells slots (vx_MQ below (zQc (some (.double y)) P0) (zX co) args s mc ms (fun _ => False)) (F0 m pc ls [.double x]) := by
  subst h
  refine W.widen (k := mc) (n := ms) hc hs (vx_ret ?_)
  exact W.dret hexec hb hr (fun t ht _ => ⟨rfl, h0, ht⟩) (fun _ h => nomatch h) hdg hlocks
theorem zc_aret {x : Nat} {C : String} (hexec : p.tables.exec = Jvm.exec) (hb : c.code = cc) (hr : meth.sig.returnType = some (.object C)) (hlocks : meth.locks = false) (h0 : P0) (hdg : decode cc pc = .ok (.areturn, 1)) (hc : cells ≤ mc) (hs : slots ≤ ms) : W p l e R s m args below meth c s.heap [] cells slots (vx_MQ below (zQc (some (.ref x)) P0) (zX co) args s mc ms (fun _ => False)) (F0 m pc ls [.ref x]) := by
  refine W.widen (k := mc) (n := ms) hc hs (vx_ret ?_)
  exact W.aret hexec hb hr (Or.inl ⟨_, rfl⟩) (Or.inr ⟨_, rfl⟩) (fun t ht _ => ⟨rfl, h0, ht⟩) (fun _ h => nomatch h) hdg hlocks
theorem zmc_iret {x y : Int} (hexec : p.tables.exec = Jvm.exec) (hb : c.code = cc) (hr : meth.sig.returnType = some .int) (hlocks : meth.locks = false) (hS : va_S A s.heap H locs) (h : P H) (hv : x = y) (h0 : P0) (hdg : decode cc pc = .ok (.ireturn, 1)) (hc : cells ≤ mc) (hs : slots ≤ ms) : W p l e R s m args below meth c H locs cells slots (vx_MQ below (zMc (some (.int (zI y))) P0 P A) (zX co) args s mc ms A) (F0 m pc ls [.int (zI x)]) := by
  subst hv
  refine W.widen (k := mc) (n := ms) hc hs (vx_ret ?_)
  exact W.iret hexec hb hr (fun t ht _ => ⟨⟨rfl, h0, by rw [ht]; exact h⟩, hS.F ht⟩) hS.2.2 hdg hlocks
theorem zmc_zret {x : Int} {P2 : Prop} (hexec : p.tables.exec = Jvm.exec) (hb : c.code = cc) (hr : meth.sig.returnType = some .boolean) (hlocks : meth.locks = false) (hS : va_S A s.heap H locs) (h : P H) (hv : (x = 0 ∧ ¬ P2) ∨ (x = 1 ∧ P2)) (h0 : P0) (hdg : decode cc pc = .ok (.ireturn, 1)) (hc : cells ≤ mc) (hs : slots ≤ ms) : W p l e R s m args below meth c H locs cells slots (vx_MQ below (zMc (some (.int (zB P2))) P0 P A) (zX co) args s mc ms A) (F0 m pc ls [.int (zI x)]) := by
  have e1 : zI x = zB P2 := by
    rcases hv with ⟨h1, h2⟩ | ⟨h1, h2⟩
    · rw [zB_f h2, h1]; rfl
    · rw [zB_t h2, h1]; rfl
  rw [e1]
  refine W.widen (k := mc) (n := ms) hc hs (vx_ret ?_)
  exact W.zret hexec hb hr zB_nar (fun t ht _ => ⟨⟨rfl, h0, by rw [ht]; exact h⟩, hS.F ht⟩) hS.2.2 hdg hlocks
end ZX
/-! ===== which cells are whose: every cell of a machine has a number ===== -/
def XL (lab : Nat → Nat) (ax : Nat) (n m : Int) (g : Nat → Nat → Nat) : Prop := lab ax = 1 ∧ lab (g 0 0) = 2 ∧ lab (g 0 1) = 3 ∧ (∀ k : Nat, (k : Int) < n → lab (g 1 k) = 10 + 3 * k ∧ lab (g 2 k) = 11 + 3 * k ∧ lab (g 3 k) = 12 + 3 * k) ∧ ∀ k : Nat, (k : Int) < m → lab (g 4 k) = 50 + k
theorem XL.nd {lab : Nat → Nat} {ax : Nat} {n m : Int} {g : Nat → Nat → Nat} (h : XL lab ax n m g) {k : Nat} (hk : (k : Int) < n) : [g 1 k, g 2 k, g 3 k].Nodup := by
  have h1 := h.2.2.2.1 k hk
  simp only [List.nodup_cons, List.mem_cons, List.not_mem_nil, or_false, List.nodup_nil, and_true, not_or, not_false_eq_true]
  refine ⟨⟨fun q => ?_, fun q => ?_⟩, fun q => ?_⟩ <;> rw [q] at h1 <;> omega
theorem XW_upd {D : va_G} {G : Nat → ClassId} {lab : Nat → Nat} {ax : Nat} {n m sp : Int} {τ ζ : Nat → Nat → Int} {g : Nat → Nat → Nat} {cs ss : Nat → Nat → Int32} {H H1 : Heap} (hW : XW D G ax n m sp τ ζ g cs ss H) (hL : XL lab ax n m g) (hn : n ≤ 8) {k : Nat} (hk : (k : Int) < n)
    {f' : Nat → Int} {cn' sn' : Nat → Int32} (hT' : va_P D vwCl (xTw G f' (g 1 k) (g 2 k) (g 3 k) cn' sn') H1) (hR' : TR f' cn') (hfr : ∀ q : Nat, q < H.size → ¬ zA [g 1 k, g 2 k, g 3 k] q → H1[q]? = H[q]?) : XW D G ax n m sp (va_up τ k f') ζ g (va_up cs k cn') (va_up ss k sn') H1 := by
  obtain ⟨hO, hT, hZ⟩ := hW
  obtain ⟨l1, l2, l3, l4, l5⟩ := hL
  have hlk := l4 k hk
  have hne : ∀ q : Nat, (lab q < 10 + 3 * k ∨ 12 + 3 * k < lab q) → ¬ zA [g 1 k, g 2 k, g 3 k] q := by
    intro q hq hz
    simp only [zA, List.mem_cons, List.not_mem_nil, or_false] at hz
    rcases hz with e | e | e <;> rw [e] at hq <;> omega
  refine ⟨hO.kept (fun i q hq => hfr _ (hO i q hq).lt ?_), fun j hj => ?_, fun j hj => (hZ j hj).kept (fun i q hq => hfr _ (hZ j hj i q hq).lt ?_)⟩
  · match i, hq with
    | 0, hq => cases hq; exact hne _ (Or.inl (by rw [l1]; omega))
    | 1, hq => cases hq; exact hne _ (Or.inl (by rw [l2]; omega))
    | 2, hq => cases hq; exact hne _ (Or.inl (by rw [l3]; omega))
    | i + 3, hq => simp [xOb] at hq
  · by_cases e : j = k
    · subst e
      rw [va_up_self, va_up_self, va_up_self]
      exact ⟨hT', hR'⟩
    · rw [va_up_ne _ _ e, va_up_ne _ _ e, va_up_ne _ _ e]
      refine ⟨(hT j hj).1.kept (fun i q hq => hfr _ ((hT j hj).1 i q hq).lt ?_), (hT j hj).2⟩
      have hlj := l4 j hj
      match i, hq with
      | 0, hq => cases hq; exact hne _ (by rw [hlj.1]; omega)
      | 1, hq => cases hq; exact hne _ (by rw [hlj.2.1]; omega)
      | 2, hq => cases hq; exact hne _ (by rw [hlj.2.2]; omega)
      | i + 3, hq => simp [xTw] at hq
  · match i, hq with
    | 0, hq => cases hq; exact hne _ (by rw [l5 j hj]; omega)
    | i + 1, hq => simp [xZw] at hq
theorem va_upk {α : Type} {f : Nat → α} {k : Nat} : va_up f k (f k) = f := by
  funext j
  unfold va_up
  by_cases h : j = k
  · rw [if_pos h, h]
  · rw [if_neg h]
