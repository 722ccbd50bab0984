/-! ===== new cells ===== -/
theorem z_dfl0 : ∀ j : Nat, j < 4 → defaultValue (tyX0 j) = vp_V [.int (0), .int (0), .int (0), .int (0)] j := by
  intro j hj
  match j, hj with
  | 0, _ => rfl
  | 1, _ => rfl
  | 2, _ => rfl
  | 3, _ => rfl
theorem z_dfl1 : ∀ j : Nat, j < 10 → defaultValue (tyX1 j) = vp_V [.int (0), .int (0), .int (0), .int (0), .int (0), .int (0), .int (0), .int (0), .null, .null] j := by
  intro j hj
  match j, hj with
  | 0, _ => rfl
  | 1, _ => rfl
  | 2, _ => rfl
  | 3, _ => rfl
  | 4, _ => rfl
  | 5, _ => rfl
  | 6, _ => rfl
  | 7, _ => rfl
  | 8, _ => rfl
  | 9, _ => rfl
section ZQ
variable {p : Program} {l : Launch} {e : Env} {R : Room} {s : State} {m : MethodId} {args : Array Value} {below : List Frame} {meth : Method} {c : Code} {H : Heap} {locs : List Loc} {cells slots : Nat} {Q : State → Prop}
variable {cc : ByteArray} {pc : Nat} {ls : Array Slot} {rest : List Value} {D : va_G} {cl : List vw_C} {A : Nat → Prop} {tys : List (ClassId × FieldType)} {ws : va_W} {H0 : Heap}
theorem z_newq (hexec : p.tables.exec = Jvm.exec) (hb : c.code = cc) {own C : String} {index : Nat} (hown : s.vm.findClass own = some m.cls) (hclink : (Cond.classLink own index C).before args s = true) (hover : va_AO C s) (hK : va_K D cl tys s) (hP : va_P D cl ws H) (hD : va_D A ws) (hS : va_S A H0 H locs) (hA : ∀ q, H0.size ≤ q → A q) (t0 : Nat) {cB : ClassId} (ht : tys[t0]? = some (cB, .object C))
    {n : Int} {N' : Nat} (hn : n = (N' : Int)) (hbytes : N' ≤ 5000) (hcells : cells + 1 ≤ R.cells) (hslots : slots + N' ≤ R.slots) (hdg : decode cc pc = .ok (.anewarray index, 3))
    (kk : ∀ (q : Nat) (H1 : Heap), va_P D cl (ws ++ [(q, .inl (cB, N', .inr (.inr (.inr (.inr (fun _ => none))))))]) H1 → va_D A (ws ++ [(q, .inl (cB, N', .inr (.inr (.inr (.inr (fun _ => none))))))]) → va_S A H0 H1 locs →
      W p l e R s m args below meth c H1 locs (cells + 1) (slots + N') Q (F0 m (pc + 3) ls (.ref q :: rest))) : W p l e R s m args below meth c H locs cells slots Q (F0 m pc ls (.int (zI n) :: rest)) := by
  subst hn
  refine va_newq hexec hb hown hclink hover hK hP hD hS hA (N' := N') ?_ ?_ (by omega) hcells hslots hdg (fun q cA H1 h1 h2 h3 h4 => ?_)
  · show ¬ zI (N' : Int) < 0
    rw [show (0 : Int32) = zI 0 from rfl, zI_lt (by omega)]
    omega
  · rw [zI_clamp (by omega)]; rfl
  · have e := zTy_uniq h1 ht
    subst e
    exact kk q H1 h2 h3 h4
end ZQ
