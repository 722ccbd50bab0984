theorem z_fr {a sz q : Nat} (h : zAn [a] sz q) (hne : q ≠ a) : sz ≤ q := by
  rcases h with h | h
  · exact absurd (List.mem_singleton.mp h) hne
  · exact h
theorem z_nd0 {a : Nat} {L : List Nat} (h : (a :: L).Nodup) (i : Nat) {q : Nat} (hq : L[i]? = some q) : a ≠ q := fun e => (List.nodup_cons.mp h).1 (e ▸ List.mem_of_getElem? hq)
