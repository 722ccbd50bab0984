theorem m_len {n m : Int} {τ ζ : Nat → Nat → Int} {M : Nat → Nat → Int32} (h : MR n m τ ζ M) (hm : 0 ≤ m) : M 7 m.toNat = zI (if m = 0 then 0 else ζ (m - 1).toNat 0 + ζ (m - 1).toNat 1) := by
  by_cases e : m = 0
  · subst e
    exact h.2.2.2.2.1
  · rw [if_neg e]
    exact h.e (k := m - 1) (by omega) (by omega)
theorem m_l2 {a b : Int} (ha : 0 ≤ a ∧ a ≤ 2147483647) (hb : 0 ≤ b ∧ b ≤ 2147483647) : (zI a).toInt64 * (zI b).toInt64 = lN (a * b).toNat := by
  rw [zI_l (by omega), zI_l (by omega), lN_mul]
  congr 1
  have h := Int.mul_nonneg ha.1 hb.1
  have e1 : ((a.toNat * b.toNat : Nat) : Int) = a * b := by rw [Int.natCast_mul, Int.toNat_of_nonneg ha.1, Int.toNat_of_nonneg hb.1]
  omega
theorem m_dz {d : Int64} {b l : Int} (hb : 0 ≤ b ∧ b ≤ 1000000) (hl : 0 ≤ l ∧ l ≤ 1000000) : d * 31 + (zI (b + l)).toInt64 - (zI b).toInt64 = xMix d l := by
  unfold xMix
  have e : (zI (b + l)).toInt64 = (zI l).toInt64 + (zI b).toInt64 := by
    rw [zI_l (by omega), zI_l (by omega), zI_l (by omega), lN_add]
    congr 1
    omega
  rw [e, ← Int64.add_assoc, Int64.add_sub_cancel]
section ZMD
variable {p : Program} {l : Launch} {e : Env} {R : Room} {s : State} {m : MethodId} {args : Array Value} {below : List Frame} {meth : Method} {c : Code} {H : Heap} {locs : List Loc} {cells slots : Nat}
variable {pc : Nat} {ls : Array Slot} {cc : ByteArray} {P : Heap → Prop} {A : Nat → Prop}
theorem zm_dret {x y : UInt64} (hexec : p.tables.exec = Jvm.exec) (hb : c.code = cc) (hr : meth.sig.returnType = some .double) (hlocks : meth.locks = false) (hS : va_S A s.heap H locs) (h : P H) (hv : x = y) (hdg : decode cc pc = .ok (.dreturn, 1)) : W p l e R s m args below meth c H locs cells slots (MQ below (zM (some (.double y)) P A) args s cells slots A) (F0 m pc ls [.double x]) := by
  subst hv
  exact W.dret hexec hb hr (fun t ht _ => ⟨⟨rfl, by rw [ht]; exact h⟩, hS.F ht⟩) hS.2.2 hdg hlocks
end ZMD
