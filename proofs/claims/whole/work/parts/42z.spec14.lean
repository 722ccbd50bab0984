theorem m_take {src S : Nat → Int32} {K b a sp dp : Int} {X : Int → Int} (hK : 0 ≤ K) (hb : 0 ≤ b) (ha : 0 ≤ a) (hX : X b = a) (hsp : sp = 4 * (32 * K + a)) (hdp : dp = 4 * (32 * K + b))
    (hd : ∀ t w : Int, 0 ≤ t → t < b → 0 ≤ w → w < 4 → mSh S K.toNat (4 * t + w).toNat = mSh src K.toNat (4 * X t + w).toNat) :
    ∀ t w : Int, 0 ≤ t → t < b + 1 → 0 ≤ w → w < 4 → mSh (va_cpy src S sp.toNat dp.toNat 4) K.toNat (4 * t + w).toNat = mSh src K.toNat (4 * X t + w).toNat := by
  intro t w h1 h2 h3 h4
  by_cases e : t = b
  · subst e
    rw [hX]
    unfold mSh va_cpy
    rw [if_pos (by omega)]
    congr 1
    omega
  · rw [← hd t w h1 (by omega) h3 h4]
    unfold mSh va_cpy
    rw [if_neg (by omega)]
theorem m_takeO {src S : Nat → Int32} {K b sp dp : Int} (hK : 0 ≤ K) (hb : 0 ≤ b ∧ b < 32) (hdp : dp = 4 * (32 * K + b)) {i : Nat} (hi : ¬ (128 * K.toNat ≤ i ∧ i < 128 * K.toNat + 128)) : va_cpy src S sp.toNat dp.toNat 4 i = S i := by
  unfold va_cpy
  rw [if_neg (by omega)]
section ZCP
variable {p : Program} {l : Launch} {e : Env} {R : Room} {s : State} {m : MethodId} {args : Array Value} {below : List Frame} {meth : Method} {c : Code} {H : Heap} {locs : List Loc} {cells slots : Nat} {Q : State → Prop}
variable {cc : ByteArray} {pc : Nat} {ls : Array Slot} {rest : List Value} {D : va_G} {cl : List vw_C} {A : Nat → Prop} {a : Nat} {tys : List (ClassId × FieldType)} {ws : va_W} {H0 : Heap}
theorem z_copy4 (hexec : p.tables.exec = Jvm.exec) (hb : c.code = cc) (hml : c.maxLocals = ls.size) {own : String} {index : Nat} (hown : s.vm.findClass own = some m.cls) (hlink : (Cond.methodLink own index arraycopyName).before args s = true) (hnat : (Cond.native arraycopyName).before args s = true) (hstat : (Cond.static arraycopyName).before args s = true) (hini : (Cond.initialized "java/lang/System").before args s = true)
    (hK : va_K D cl tys s) (hP : va_P D cl ws H) (hD : va_D A ws) (hS : va_S A H0 H locs) (q0 q1 t0 t1 : Nat) {a0 : Nat} {c0 c1 : ClassId} {n0 n1 : Nat} {f g : Nat → Int32} (ha0 : ws[q0]? = some (a0, .inl (c0, n0, .inl f))) (ha1 : ws[q1]? = some (a, .inl (c1, n1, .inl g))) (ht0 : tys[t0]? = some (c0, .int)) (ht1 : tys[t1]? = some (c1, .int))
    {sp dp : Int} (h1 : 0 ≤ sp ∧ sp + 4 ≤ (n0 : Int)) (h2 : 0 ≤ dp ∧ dp + 4 ≤ (n1 : Int)) (hn0 : n0 ≤ 5000) (hn1 : n1 ≤ 5000)
    (hframes : 1 ≤ R.frames) (hlocals : (rest.map fun v => v.category).sum + (nativeFrameWords "java/lang/System" "arraycopy" 5 + 11) ≤ R.locals) (hdg : decode cc pc = .ok (.invokestatic index, 3))
    (kk : ∀ (H1 : Heap) (locs1 : List Loc), va_P D cl (ws.set q1 (a, .inl (c1, n1, .inl (va_cpy f g sp.toNat dp.toNat 4)))) H1 → va_D A (ws.set q1 (a, .inl (c1, n1, .inl (va_cpy f g sp.toNat dp.toNat 4)))) → va_S A H0 H1 locs1 → W p l e R s m args below meth c H1 locs1 cells slots Q (F0 m (pc + 3) ls rest)) : W p l e R s m args below meth c H locs cells slots Q (F0 m pc ls (.int (zI 4) :: .int (zI dp) :: .ref a :: .int (zI sp) :: .ref a0 :: rest)) := by
  have e4 : (zI 4).toNatClampNeg = 4 := by rw [zI_clamp (by omega)]; rfl
  have es : (zI sp).toNatClampNeg = sp.toNat := zI_clamp (by omega)
  have ed : (zI dp).toNatClampNeg = dp.toNat := zI_clamp (by omega)
  have z0 : ∀ x : Int, 0 ≤ x → x ≤ 10000 → ¬ zI x < 0 := fun x q1 q2 => by rw [show (0 : Int32) = zI 0 from rfl, zI_lt (by omega)]; omega
  refine va_copyi hexec hb hml hown hlink hnat hstat hini hK hP hD hS q0 q1 t0 t1 ha0 ha1 ht0 ht1 rfl (z0 _ h1.1 (by omega)) (z0 _ h2.1 (by omega)) (z0 _ (by omega) (by omega)) (by rw [es, e4]; omega) (by rw [ed, e4]; omega) (fun _ _ => rfl) hframes hlocals hdg ?_
  rw [e4, es, ed]
  exact kk
end ZCP
