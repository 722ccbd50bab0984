theorem z_dfl2 : ∀ j : Nat, j < 5 → defaultValue (tyX2 j) = vp_V [.null, .int (0), .null, .int (0), .int (0)] j := by
  intro j hj
  match j, hj with
  | 0, _ => rfl
  | 1, _ => rfl
  | 2, _ => rfl
  | 3, _ => rfl
  | 4, _ => rfl
set_option maxHeartbeats 4000000 in
set_option maxRecDepth 100000 in
theorem whole_start {p : Program} {e : Env} {s : State} {m : MethodId} {below : List Frame} {meth : Method} {c : Code} (l : Launch) (hflags : l.flags = flags0) {b L : Nat} {xs : Nat → Int32} (hL : L ≤ 260) (C0 : lw_At p s m meth c b L xs) : W p l e room_1 s m #[Value.ref b] below meth c s.heap [] 0 0 (lw_Z below #[Value.ref b] s) (entryFrame m ([Value.ref b] : List Value).toArray 20) := by
  obtain ⟨hx, hb, hr, hml, hown, hts, hX, hbl, hlocks, hgv⟩ := id C0
  have hl9 : l.stackTraces = false := by unfold Launch.stackTraces; rw [hflags]; decide
  have hown : s.vm.findClass RL = some m.cls := hown
  have hb : c.code = cL_law := hb
  obtain ⟨D, G, hK⟩ := K_start hts
  have hN := zN_start hts hgv
  have hT0 := zTz_start hts hgv
  have htl : ∀ w ∈ wsL_law, w.before #[Value.ref b] s = true := fun w hw => hts w (wsL_law_in w hw)
  have hP0 : ∀ H : Heap, va_P D vwCl [] H := fun H k q h => by simp at h
  have hD0 : ∀ A : Nat → Prop, va_D A [] := fun A => ⟨fun i j p q h => by simp at h, fun k q h => by simp at h⟩
  refine z_entry rfl (Nat.le_of_ble_eq_true rfl) rfl (fun ls hl => ?_)
  have hl : lv_has ls 20 [(0, .ref b)] := hl
  refine va_new (D := D) (ws := []) (A := fun q => s.heap.size ≤ q) (H0 := s.heap) (ci := 2) (C := RX2) (T := TX2) (N := 5) (fs := [.null, .int (0), .null, .int (0), .int (0)]) hx hb hts inX2 tyX2 tyX2_ok hown (htl (.classLink RL 20 RX2) (by decide +kernel)) (htl (.instantiable RX2 5) (by decide +kernel)) (htl (.initialized RX2) (by decide +kernel)) hK (hP0 _) (hD0 _) va_S.rf (fun _ h => h) rfl z_dfl2 (Nat.le_of_ble_eq_true rfl) (Nat.le_of_ble_eq_true rfl) dL_law_0 (fun ax H1 hP1 hD1 hS1 => ?_)
  have hP1 : va_P D vwCl [(ax, .inr (2, [.null, .int (0), .null, .int (0), .int (0)]))] H1 := hP1
  have hax : s.heap.size ≤ ax := hD1.2 0 _ rfl
  refine lv_dup hx hb dL_law_3 rfl ?_
  refine z_callM (va_runI (As := []) (rest := [.ref ax]) ⟨hx, hb, hml, hown, htl⟩ (kX2_init l D G ax H1.size) (cwI 0 htl gL_law_X2_init rfl rfl rfl (htl (.initialized RX2) (by decide +kernel)) (htl (.methodLink RL 34 yX2_init) (by decide +kernel)) (htl (.instanceMethod yX2_init) (by decide +kernel)) rfl (by decide +kernel) ⟨Nat.le_of_ble_eq_true rfl, Nat.le_of_ble_eq_true rfl⟩) (zPreS hK hN ⟨rfl, hP1⟩) rfl rfl hl.1 rfl (lv_room (Nat.le_of_ble_eq_true rfl)) dL_law_4 ⟨Nat.le_of_ble_eq_true rfl, Nat.le_of_ble_eq_true rfl⟩) hS1 (fun q _ h9 => h9.elim (fun h9 => by rw [List.mem_singleton.mp h9]; exact hax) (fun h9 => Nat.le_trans hS1.1 h9)) (fun q h9 => h9.elim (fun h9 => by rw [List.mem_singleton.mp h9]; exact hax) (fun h9 => Nat.le_trans hS1.1 h9)) (fun H2 locs2 hp2 hz2 hk2 hS2 => ?_)
  obtain ⟨ta, sa, hP2, hnd2, hta, hsa⟩ := hp2
  refine lv_astore_n (lv' := [(1, .ref ax), (0, .ref b)]) hx hb dL_law_7 rfl hl (by decide) rfl (fun ls hl => ?_)
  refine W.widen (k := 100) (n := 1000) (Nat.le_of_ble_eq_true rfl) (Nat.le_of_ble_eq_true rfl) ?_
  exact pw_begin l hl9 hx hb hml hown htl hK hN hT0 hX hbl hL hS2 hP2 hnd2 ⟨hax, Nat.le_trans hS1.1 hta, Nat.le_trans hS1.1 hsa⟩ (Nat.le_refl _) (Nat.le_refl _) hl (fun H9 locs9 c9 s9 ls9 hS9 hc9 hs9 => by
    refine va_forget hS9.2.2 ?_
    refine W.widen (k := 600104) (n := 7301314) hc9 hs9 ?_
    exact lw_ret (d0 := s.drawn) (Drawn.sameBut.refl s.drawn lw_cs) hx hb hr hlocks dL_law_718)
