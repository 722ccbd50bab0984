set_option maxHeartbeats 4000000 in
set_option maxRecDepth 100000 in
theorem pw_ring (l : Launch) (hl9 : l.stackTraces = false) {p : Program} {e : Env} {s : State} {m : MethodId} {below : List Frame} {meth : Method} {c : Code} {Q : State → Prop} {D : va_G} {G : Nat → ClassId} {b L : Nat} {xs : Nat → Int32} {ax : Nat} {n m9 : Int} {τ ζ : Nat → Nat → Int} {f : Nat → Int32} {o : Nat} {H : Heap} {locs : List Loc} {cells slots : Nat} {ls : Array Slot} {tm : Int} {x5 : Int32} {tr : Int} {a9 : Int} {u : Int} {S : Int} {S2 : Int} {t : Int} (hx : p.tables.exec = Jvm.exec) (hb : c.code = cL_law) (hml : c.maxLocals = 20) (hown : s.vm.findClass RL = some m.cls) (hts : ∀ w ∈ wsL_law, w.before #[Value.ref b] s = true) (hK : va_K D vwCl (zTy G) s) (hN : zN s) (hT0 : zTz s.heap.size s s.heap) (hX : va_X b L xs s s.heap) (hbl : b < s.heap.size) (hL9 : L ≤ 260) (hn : 2 ≤ n ∧ n ≤ 7) (hS : va_S (fun q => s.heap.size ≤ q) s.heap H locs) (hI : PI D G ax s.heap.size o 8 n m9 τ ζ f H) (hPB : PB n τ) (hcB : cells ≤ 599000) (hsB : slots ≤ 7290000) (ht : 0 ≤ t ∧ t < n) (hu : 0 ≤ u ∧ u ≤ 99999) (hsn : ∃ b9 : Int, 0 ≤ b9 ∧ b9 ≤ u ∧ b9 < τ t.toNat 3 ∧ xHit n m9 τ ζ t (u - b9)) (hl : lv_has ls 20 [(0, .ref b), (1, .ref ax), (2, .int (zI (n))), (4, .int (zI (tm))), (5, .int (x5)), (6, .int (zI (tr))), (10, .int (zI (a9))), (11, .int (zI ((a9) + (30)))), (12, .ref o), (13, .int (zI (u))), (14, .int (zI (S))), (15, .int (zI (S2))), (16, .int (zI (t))), (18, .int (zB (False))), (19, .int (zI (0)))]) (kend : ∀ (c1 s1 : Nat) (ls1 : Array Slot), c1 ≤ cells + 62 → s1 ≤ slots + 372 → lv_has ls1 20 [(0, .ref b), (1, .ref ax), (2, .int (zI (n))), (4, .int (zI (tm))), (5, .int (x5)), (6, .int (zI (tr))), (10, .int (zI (a9))), (11, .int (zI ((a9) + (30)))), (12, .ref o), (13, .int (zI (u))), (14, .int (zI (S))), (15, .int (zI (S2))), (16, .int (zI (t)))] → W p l e room_1 s m #[Value.ref b] below meth c H locs c1 s1 Q (F0 m 481 ls1 [])) : W p l e room_1 s m #[Value.ref b] below meth c H locs cells slots Q (F0 m 421 ls []) := by
  have hbz : ¬ s.heap.size ≤ b := Nat.not_le.mpr hbl
  have hzz : s.heap.size ≤ s.heap.size := Nat.le_refl _
  have hrc : ∀ k : Nat, k ≤ 600104 → k ≤ room_1.cells := fun _ h => h
  have hrs : ∀ k : Nat, k ≤ 7301314 → k ≤ room_1.slots := fun _ h => h
  obtain ⟨g, lab, cs, ss, hOK, hXL, ho, hzl, hW, hP⟩ := id hI
  have htb := hOK.tb (k := t) (by omega)
  have hr3 := (hPB t ht.1 ht.2).2
  have loop_421 : ∀ (fu : Nat) (a : Int) (B9 : Prop), (0 ≤ a ∧ a ≤ 20 ∧ a ≤ u + 1 ∧ a ≤ τ t.toNat 3) → (∀ j : Int, 0 ≤ j → j < a → xHit n m9 τ ζ t (u - j) → B9) → 20 - a < (fu : Int) → ∀ (c1 s1 : Nat), ((c1 : Int) ≤ cells + 3 * a) → ((s1 : Int) ≤ slots + 18 * a) → ∀ ls : Array Slot, lv_has ls 20 [(0, .ref b), (1, .ref ax), (2, .int (zI (n))), (4, .int (zI (tm))), (5, .int (x5)), (6, .int (zI (tr))), (10, .int (zI (a9))), (11, .int (zI ((a9) + (30)))), (12, .ref o), (13, .int (zI (u))), (14, .int (zI (S))), (15, .int (zI (S2))), (16, .int (zI (t))), (18, .int (zB (B9))), (19, .int (zI (a)))] → W p l e room_1 s m #[Value.ref b] below meth c H locs (c1) (s1) Q (F0 m 421 ls []) := by
    intro fu
    induction fu with
    | zero =>
      intro a B9 ha hBa hm
      exfalso; omega
    | succ fu ih =>
      intro a B9 ha hBa hm c1 s1 hc2 hs2 ls hl
      have ih_421 := ih
      clear ih
      refine lv_iload hx hb dL_law_421 (lv_at hl 14 rfl) ?_
      refine lv_aload_n hx hb dL_law_423 rfl (lv_at hl 1 rfl) ?_
      refine lv_iload hx hb dL_law_424 (lv_at hl 12 rfl) ?_
      refine lv_iconst (v := zI (3)) hx hb dL_law_426 rfl ?_
      refine z_callX (vx_runV (As := [.int (zI (t)), .int (zI (3))]) (rest := [.int (zI (a))]) ⟨hx, hb, hml, hown, hts⟩ (kX2_track l D G hl9 ax (n) (m9) 120 τ ζ g cs ss hOK (t) (3) (by omega) (by omega)) (cwV 2 hts gL_law_X2_track rfl rfl rfl (by decide +kernel) ⟨Nat.le_of_ble_eq_true rfl, Nat.le_of_ble_eq_true rfl⟩) (zPTreV (va_recv hK hW.1 (ci := 2) (q0 := 0) rfl rfl) hK hN (hT0.kp hS).t hW) rfl rfl hl.1 rfl (lv_room (Nat.le_of_ble_eq_true rfl)) dL_law_427 ⟨hrc _ (by omega), hrs _ (by omega)⟩) (fun E ce qx9 H1 hco hz1 hk1 hce hcv hcl => False.elim (hco.2 (by omega))) (fun hC => ?_)
      refine z_val (y := τ (t).toNat 3) rfl ?_
      refine z_icmp_ge (tgt := 474) hx hb (by omega) dL_law_430 (by decide) (fun c_1 => ?_) (fun c_1 => ?_)
      · refine lv_iload hx hb dL_law_474 (lv_at hl 13 rfl) ?_
        refine z_neB (tgt := 481) hx hb dL_law_476 (by decide) (fun c_2 => ?_) (fun c_2 => ?_)
        · exact kend _ _ _ (by omega) (by omega) (lv_sub hl [0, 1, 2, 3, 4, 5, 6, 7, 8, 9, 10, 11, 12] rfl)
        · obtain ⟨b9, hb1, hb2, hb3, hb4⟩ := hsn; exact absurd (hBa b9 hb1 (by omega) hb4) c_2
      · refine lv_iload hx hb dL_law_433 (lv_at hl 14 rfl) ?_
        refine lv_iload hx hb dL_law_435 (lv_at hl 9 rfl) ?_
        refine z_icmp_gt (tgt := 474) hx hb (by omega) dL_law_437 (by decide) (fun c_3 => ?_) (fun c_3 => ?_)
        · refine lv_iload hx hb dL_law_474 (lv_at hl 13 rfl) ?_
          refine z_neB (tgt := 481) hx hb dL_law_476 (by decide) (fun c_4 => ?_) (fun c_4 => ?_)
          · exact kend _ _ _ (by omega) (by omega) (lv_sub hl [0, 1, 2, 3, 4, 5, 6, 7, 8, 9, 10, 11, 12] rfl)
          · obtain ⟨b9, hb1, hb2, hb3, hb4⟩ := hsn; exact absurd (hBa b9 hb1 (by omega) hb4) c_4
        · refine lv_iload hx hb dL_law_440 (lv_at hl 13 rfl) ?_
          refine lv_aload_n hx hb dL_law_442 rfl (lv_at hl 1 rfl) ?_
          refine lv_iload hx hb dL_law_443 (lv_at hl 9 rfl) ?_
          refine lv_iload hx hb dL_law_445 (lv_at hl 14 rfl) ?_
          refine z_isub hx hb dL_law_447 ?_
          refine z_callX (vx_runV (As := [.int (zI ((u) - (a)))]) (rest := [.int (zB (B9))]) ⟨hx, hb, hml, hown, hts⟩ (kX2_hits l D G hl9 ax (n) (m9) 120 τ ζ g cs ss hOK ((u) - (a)) (by omega)) (cwV 1 hts gL_law_X2_hits rfl rfl rfl (by decide +kernel) ⟨Nat.le_of_ble_eq_true rfl, Nat.le_of_ble_eq_true rfl⟩) (zPTreV (va_recv hK hW.1 (ci := 2) (q0 := 0) rfl rfl) hK hN (hT0.kp hS).t hW) rfl rfl hl.1 rfl (lv_room (Nat.le_of_ble_eq_true rfl)) dL_law_448 ⟨hrc _ (by omega), hrs _ (by omega)⟩) (fun E ce qx9 H1 hco hz1 hk1 hce hcv hcl => False.elim (hco.2 (by omega))) (fun hC => ?_)
          obtain ⟨S9, he_S9, hr_S9, hz_S9, hb_S9⟩ := pSet (fun j => xHit n m9 τ ζ j ((u) - (a))) n (by omega)
          refine z_val he_S9 ?_
          refine lv_iload hx hb dL_law_451 (lv_at hl 12 rfl) ?_
          refine lv_ishr hx hb dL_law_453 ?_
          refine lv_iconst (v := zI (1)) hx hb dL_law_454 rfl ?_
          refine lv_iand hx hb dL_law_455 ?_
          refine z_raw ((xBit_shr (z := S9) (k := t) (by omega) (by omega)).trans (zB_iff (hb_S9 t ht.1 ht.2))) ?_
          refine lv_iconst (v := zI (1)) hx hb dL_law_456 rfl ?_
          refine z_pick hx hb (P := xHit n m9 τ ζ t ((u) - (a))) dL_law_460 dL_law_461 dL_law_464 (fun kt kf => z_ne1B (tgt := 464) hx hb dL_law_457 (by decide) (fun c9 => kf c9) (fun c9 => kt c9)) ?_
          refine lv_ior hx hb dL_law_465 ?_
          refine z_raw (zB_or _ _) ?_
          refine lv_istore (lv' := [(18, .int (zB ((B9) ∨ (xHit n m9 τ ζ t ((u) - (a)))))), (0, .ref b), (1, .ref ax), (2, .int (zI (n))), (4, .int (zI (tm))), (5, .int (x5)), (6, .int (zI (tr))), (10, .int (zI (a9))), (11, .int (zI ((a9) + (30)))), (12, .ref o), (13, .int (zI (u))), (14, .int (zI (S))), (15, .int (zI (S2))), (16, .int (zI (t))), (19, .int (zI (a)))]) hx hb dL_law_466 hl (by decide) rfl (fun ls hl => ?_)
          refine lv_iinc (v := zI (a + 1)) (lv' := [(19, .int (zI (a + 1))), (18, .int (zB ((B9) ∨ (xHit n m9 τ ζ t ((u) - (a)))))), (0, .ref b), (1, .ref ax), (2, .int (zI (n))), (4, .int (zI (tm))), (5, .int (x5)), (6, .int (zI (tr))), (10, .int (zI (a9))), (11, .int (zI ((a9) + (30)))), (12, .ref o), (13, .int (zI (u))), (14, .int (zI (S))), (15, .int (zI (S2))), (16, .int (zI (t)))]) hx hb dL_law_468 hl (k := 14) rfl (zI_add (a) (1)) (by decide) rfl (fun ls hl => ?_)
          refine lv_goto (tgt := 421) hx hb dL_law_471 (by decide) ?_
          exact ih_421 (a + 1) ((B9) ∨ (xHit n m9 τ ζ t ((u) - (a)))) (by omega) (fun j h1 h2 h3 => (show j < a ∨ j = a by omega).elim (fun h => Or.inl (hBa j h1 h h3)) (fun h => Or.inr (by rw [← h]; exact h3))) (by omega) _ _ (by omega) (by omega) _ (lv_sub hl [2, 3, 4, 5, 6, 7, 8, 9, 10, 11, 12, 13, 14, 1, 0] rfl)
  exact loop_421 (22) (0) (False) (by omega) (fun j h1 h2 _ => by omega) (by omega) _ _ (by omega) (by omega) _ (lv_sub hl [0, 1, 2, 3, 4, 5, 6, 7, 8, 9, 10, 11, 12, 13, 14] rfl)

set_option maxHeartbeats 4000000 in
set_option maxRecDepth 100000 in
theorem pw_t (l : Launch) (hl9 : l.stackTraces = false) {p : Program} {e : Env} {s : State} {m : MethodId} {below : List Frame} {meth : Method} {c : Code} {Q : State → Prop} {D : va_G} {G : Nat → ClassId} {b L : Nat} {xs : Nat → Int32} {ax : Nat} {n m9 : Int} {τ ζ : Nat → Nat → Int} {f : Nat → Int32} {o : Nat} {H : Heap} {locs : List Loc} {cells slots : Nat} {ls : Array Slot} {tm : Int} {x5 : Int32} {tr : Int} {a9 : Int} {u : Int} {S : Int} {S2 : Int} (hx : p.tables.exec = Jvm.exec) (hb : c.code = cL_law) (hml : c.maxLocals = 20) (hown : s.vm.findClass RL = some m.cls) (hts : ∀ w ∈ wsL_law, w.before #[Value.ref b] s = true) (hK : va_K D vwCl (zTy G) s) (hN : zN s) (hT0 : zTz s.heap.size s s.heap) (hX : va_X b L xs s s.heap) (hbl : b < s.heap.size) (hL9 : L ≤ 260) (hn : 2 ≤ n ∧ n ≤ 7) (hS : va_S (fun q => s.heap.size ≤ q) s.heap H locs) (hI : PI D G ax s.heap.size o 8 n m9 τ ζ f H) (hPB : PB n τ) (hcB : cells ≤ 590000) (hsB : slots ≤ 7000000) (hu : a9 ≤ u ∧ u ≤ a9 + 30) (ha9 : 0 ≤ a9 ∧ a9 < 200) (hr_S : 0 ≤ S ∧ S ≤ 255) (hr_S2 : 0 ≤ S2 ∧ S2 ≤ 255) (hb_S : ∀ t : Int, 0 ≤ t → t < n → (xBit S t ↔ xHit n m9 τ ζ t u)) (hb_S2 : ∀ t : Int, 0 ≤ t → t < n → (xBit S2 t ↔ xSnd n m9 τ ζ u t)) (hCI : CI (fun j v : Int => xHit n m9 τ ζ j v ∧ xHit n m9 τ ζ j v) n a9 u 0 f) (hl : lv_has ls 20 [(0, .ref b), (1, .ref ax), (2, .int (zI (n))), (4, .int (zI (tm))), (5, .int (x5)), (6, .int (zI (tr))), (10, .int (zI (a9))), (11, .int (zI ((a9) + (30)))), (12, .ref o), (13, .int (zI (u))), (14, .int (zI (S))), (15, .int (zI (S2))), (16, .int (zI (0)))]) (kend : ∀ (f1 : Nat → Int32) (H1 : Heap) (locs1 : List Loc) (c1 s1 : Nat) (ls1 : Array Slot), va_S (fun q => s.heap.size ≤ q) s.heap H1 locs1 → PI D G ax s.heap.size o 8 n m9 τ ζ f1 H1 → CI (fun j v : Int => xHit n m9 τ ζ j v ∧ xHit n m9 τ ζ j v) n a9 u n f1 → c1 ≤ cells + 490 → s1 ≤ slots + 2940 → lv_has ls1 20 [(0, .ref b), (1, .ref ax), (2, .int (zI (n))), (4, .int (zI (tm))), (5, .int (x5)), (6, .int (zI (tr))), (10, .int (zI (a9))), (11, .int (zI ((a9) + (30)))), (12, .ref o), (13, .int (zI (u)))] → W p l e room_1 s m #[Value.ref b] below meth c H1 locs1 c1 s1 Q (F0 m 487 ls1 [])) : W p l e room_1 s m #[Value.ref b] below meth c H locs cells slots Q (F0 m 294 ls []) := by
  have hbz : ¬ s.heap.size ≤ b := Nat.not_le.mpr hbl
  have hzz : s.heap.size ≤ s.heap.size := Nat.le_refl _
  have hrc : ∀ k : Nat, k ≤ 600104 → k ≤ room_1.cells := fun _ h => h
  have hrs : ∀ k : Nat, k ≤ 7301314 → k ≤ room_1.slots := fun _ h => h
  have loop_294 : ∀ (fu : Nat) (t : Int) (f : Nat → Int32), (0 ≤ t ∧ t ≤ n) → n - t < (fu : Int) → ∀ (H : Heap) (locs : List Loc) (c1 s1 : Nat), ((c1 : Int) ≤ cells + 70 * t) → ((s1 : Int) ≤ slots + 420 * t) → (va_S (fun q => s.heap.size ≤ q) s.heap H locs) → (PI D G ax s.heap.size o 8 n m9 τ ζ f H) → (CI (fun j v : Int => xHit n m9 τ ζ j v ∧ xHit n m9 τ ζ j v) n a9 u t f) → ∀ ls : Array Slot, lv_has ls 20 [(0, .ref b), (1, .ref ax), (2, .int (zI (n))), (4, .int (zI (tm))), (5, .int (x5)), (6, .int (zI (tr))), (10, .int (zI (a9))), (11, .int (zI ((a9) + (30)))), (12, .ref o), (13, .int (zI (u))), (14, .int (zI (S))), (15, .int (zI (S2))), (16, .int (zI (t)))] → W p l e room_1 s m #[Value.ref b] below meth c H locs (c1) (s1) Q (F0 m 294 ls []) := by
    intro fu
    induction fu with
    | zero =>
      intro t f ht hm
      exfalso; omega
    | succ fu ih =>
      intro t f ht hm H locs c1 s1 hc2 hs2 hS hI hCI ls hl
      have ih_294 := ih
      clear ih
      obtain ⟨g, lab, cs, ss, hOK, hXL, ho, hzl, hW, hP⟩ := id hI
      refine lv_iload hx hb dL_law_294 (lv_at hl 12 rfl) ?_
      refine lv_iload_n hx hb dL_law_296 rfl (lv_at hl 2 rfl) ?_
      refine z_icmp_ge (tgt := 487) hx hb (by omega) dL_law_297 (by decide) (fun c_1 => ?_) (fun c_1 => ?_)
      · have h9 : t = n := by omega
        rw [h9] at hCI
        exact kend _ _ _ _ _ _ hS hI hCI (by omega) (by omega) (lv_sub hl [0, 1, 2, 3, 4, 5, 6, 7, 8, 9] rfl)
      · have htb := hOK.tb (k := t) (by omega)
        refine lv_iload hx hb dL_law_300 (lv_at hl 10 rfl) ?_
        refine lv_iload hx hb dL_law_302 (lv_at hl 12 rfl) ?_
        refine lv_ishr hx hb dL_law_304 ?_
        refine lv_iconst (v := zI (1)) hx hb dL_law_305 rfl ?_
        refine lv_iand hx hb dL_law_306 ?_
        refine z_raw ((xBit_shr (z := S) (k := t) (by omega) (by omega)).trans (zB_iff (hb_S t (by omega) (by omega)))) ?_
        refine lv_iconst (v := zI (1)) hx hb dL_law_307 rfl ?_
        refine z_pick hx hb (P := xHit n m9 τ ζ t u) dL_law_311 dL_law_312 dL_law_315 (fun kt kf => z_ne1B (tgt := 315) hx hb dL_law_308 (by decide) (fun c9 => kf c9) (fun c9 => kt c9)) ?_
        refine lv_istore (lv' := [(17, .int (zB (xHit n m9 τ ζ t u))), (0, .ref b), (1, .ref ax), (2, .int (zI (n))), (4, .int (zI (tm))), (5, .int (x5)), (6, .int (zI (tr))), (10, .int (zI (a9))), (11, .int (zI ((a9) + (30)))), (12, .ref o), (13, .int (zI (u))), (14, .int (zI (S))), (15, .int (zI (S2))), (16, .int (zI (t)))]) hx hb dL_law_316 hl (by decide) rfl (fun ls hl => ?_)
        refine lv_aload_n hx hb dL_law_318 rfl (lv_at hl 2 rfl) ?_
        refine lv_iload hx hb dL_law_319 (lv_at hl 13 rfl) ?_
        refine lv_iload hx hb dL_law_321 (lv_at hl 10 rfl) ?_
        refine z_callX (vx_runV (As := [.int (zI (t)), .int (zI (u))]) (rest := []) ⟨hx, hb, hml, hown, hts⟩ (kX2_loudness l D G hl9 ax (n) (m9) 120 τ ζ g cs ss hOK (t) (u) (by omega) (by omega)) (cwV 2 hts gL_law_X2_loudness rfl rfl rfl (by decide +kernel) ⟨Nat.le_of_ble_eq_true rfl, Nat.le_of_ble_eq_true rfl⟩) (zPTreV (va_recv hK hW.1 (ci := 2) (q0 := 0) rfl rfl) hK hN (hT0.kp hS).t hW) rfl rfl hl.1 rfl (lv_room (Nat.le_of_ble_eq_true rfl)) dL_law_323 ⟨hrc _ (by omega), hrs _ (by omega)⟩) (fun E ce qx9 H1 hco hz1 hk1 hce hcv hcl => False.elim (hco.elim (fun h9 => h9.2 (by omega)) (fun h9 => h9.2.2 (by omega)))) (fun hC => ?_)
        obtain ⟨v9, he_v9, hr_v9, hh_v9⟩ := pLn (ζ := ζ) hOK (k := t) (by omega) (u)
        refine z_val he_v9 ?_
        refine z_pick hx hb (P := 0 < v9) dL_law_329 dL_law_330 dL_law_333 (fun kt kf => z_if_le (tgt := 333) hx hb (by omega) dL_law_326 (by decide) (fun c9 => kf (by omega)) (fun c9 => kt (by omega))) ?_
        refine z_raw (zB_iff hh_v9) ?_
        refine lv_iload hx hb dL_law_334 (lv_at hl 0 rfl) ?_
        refine lv_icmp_ne (tgt := 352) hx hb dL_law_336 (by decide) (fun c9 => absurd rfl c9) (fun _ => ?_)
        refine lv_aload_n hx hb dL_law_339 rfl (lv_at hl 2 rfl) ?_
        refine lv_iload hx hb dL_law_340 (lv_at hl 13 rfl) ?_
        refine lv_iload hx hb dL_law_342 (lv_at hl 10 rfl) ?_
        refine z_callX (vx_runV (As := [.int (zI (t)), .int (zI (u))]) (rest := []) ⟨hx, hb, hml, hown, hts⟩ (kX2_loudness l D G hl9 ax (n) (m9) 120 τ ζ g cs ss hOK (t) (u) (by omega) (by omega)) (cwV 2 hts gL_law_X2_loudness rfl rfl rfl (by decide +kernel) ⟨Nat.le_of_ble_eq_true rfl, Nat.le_of_ble_eq_true rfl⟩) (zPTreV (va_recv hK hW.1 (ci := 2) (q0 := 0) rfl rfl) hK hN (hT0.kp hS).t hW) rfl rfl hl.1 rfl (lv_room (Nat.le_of_ble_eq_true rfl)) dL_law_344 ⟨hrc _ (by omega), hrs _ (by omega)⟩) (fun E ce qx9 H1 hco hz1 hk1 hce hcv hcl => False.elim (hco.elim (fun h9 => h9.2 (by omega)) (fun h9 => h9.2.2 (by omega)))) (fun hC => ?_)
        obtain ⟨w9, he_w9, hr_w9, hh_w9⟩ := pLn (ζ := ζ) hOK (k := t) (by omega) (u)
        refine z_val he_w9 ?_
        refine lv_bipush (v := zI (127)) hx hb dL_law_347 (by decide) ?_
        refine z_icmp_le (tgt := 354) hx hb (by omega) dL_law_349 (by decide) (fun c_2 => ?_) (fun c_2 => ?_)
        · refine lv_aload hx hb dL_law_354 (lv_at hl 9 rfl) ?_
          refine lv_iload hx hb dL_law_356 (lv_at hl 13 rfl) ?_
          refine lv_dup2_11 hx hb dL_law_358 rfl rfl ?_
          refine z_iald (x := zI (xCnt ((fun j v : Int => xHit n m9 τ ζ j v ∧ xHit n m9 τ ζ j v) t) a9 ((u) - (a9)).toNat)) (D := D) hx hb hK hP 0 0 rfl rfl (by omega) (by omega) (hCI.get (by omega)) dL_law_359 ?_
          refine lv_iload hx hb dL_law_360 (lv_at hl 0 rfl) ?_
          refine z_pick hx hb (P := xHit n m9 τ ζ t u) dL_law_365 dL_law_366 dL_law_369 (fun kt kf => z_eqB (tgt := 369) hx hb dL_law_362 (by decide) (fun c9 => kf c9) (fun c9 => kt c9)) ?_
          refine z_raw (pO_z (xHit n m9 τ ζ t u)) ?_
          refine z_iadd hx hb dL_law_370 ?_
          refine z_iast2 hx hb hK hP hS (show s.heap.size ≤ o from Nat.not_lt.mp (fun h8 => by have h7 := hzl _ h8; omega)) 0 rfl (by omega) (by omega) dL_law_371 (fun H40 locs41 hP1 hz1 hk1 hS1 => ?_)
          have hI := PI.put hI hP1 hk1
          have hCI : CI (fun j v : Int => xHit n m9 τ ζ j v ∧ xHit n m9 τ ζ j v) n a9 u (t + 1) (upd f t.toNat (zI ((xCnt ((fun j v : Int => xHit n m9 τ ζ j v ∧ xHit n m9 τ ζ j v) t) a9 ((u) - (a9)).toNat) + (pO (xHit n m9 τ ζ t u))))) := CI.put hCI (by omega) (by omega) (R := xHit n m9 τ ζ t u) ⟨fun h => h.1, fun h => ⟨h, h⟩⟩
          obtain ⟨f42, he_f42⟩ : ∃ q : Nat → Int32, upd f t.toNat (zI ((xCnt ((fun j v : Int => xHit n m9 τ ζ j v ∧ xHit n m9 τ ζ j v) t) a9 ((u) - (a9)).toNat) + (pO (xHit n m9 τ ζ t u)))) = q := ⟨_, rfl⟩
          rw [he_f42] at hI hCI
          have hS := hS1
          clear hP1 hS1 hk1 hz1
          obtain ⟨g, lab, cs, ss, hOK, hXL, ho, hzl, hW, hP⟩ := id hI
          have j_402 : ∀ (c402 s402 : Nat), c402 ≤ c1 + 2 + 2 + 4 → s402 ≤ s1 + 12 + 12 + 24 → W p l e room_1 s m #[Value.ref b] below meth c H40 locs41 (c402) (s402) Q (F0 m 402 ls []) := by
            intro c402 s402 hc402 hs402
            have j_481 : ∀ (c481 s481 : Nat) (ls : Array Slot), c481 ≤ c402 + 62 → s481 ≤ s402 + 372 → lv_has ls 20 [(0, .ref b), (1, .ref ax), (2, .int (zI (n))), (4, .int (zI (tm))), (5, .int (x5)), (6, .int (zI (tr))), (10, .int (zI (a9))), (11, .int (zI ((a9) + (30)))), (12, .ref o), (13, .int (zI (u))), (14, .int (zI (S))), (15, .int (zI (S2))), (16, .int (zI (t)))] → W p l e room_1 s m #[Value.ref b] below meth c H40 locs41 (c481) (s481) Q (F0 m 481 ls []) := by
              intro c481 s481 ls hc481 hs481 hl
              refine lv_iinc (v := zI (t + 1)) (lv' := [(16, .int (zI (t + 1))), (0, .ref b), (1, .ref ax), (2, .int (zI (n))), (4, .int (zI (tm))), (5, .int (x5)), (6, .int (zI (tr))), (10, .int (zI (a9))), (11, .int (zI ((a9) + (30)))), (12, .ref o), (13, .int (zI (u))), (14, .int (zI (S))), (15, .int (zI (S2)))]) hx hb dL_law_481 hl (k := 12) rfl (zI_add (t) (1)) (by decide) rfl (fun ls hl => ?_)
              refine lv_goto (tgt := 294) hx hb dL_law_484 (by decide) ?_
              exact ih_294 (t + 1) (f42) (by omega) (by omega) _ _ _ _ (by omega) (by omega) (hS) (hI) (hCI) _ (lv_sub hl [1, 2, 3, 4, 5, 6, 7, 8, 9, 10, 11, 12, 0] rfl)
            refine lv_iload hx hb dL_law_402 (lv_at hl 12 rfl) ?_
            refine lv_iload hx hb dL_law_404 (lv_at hl 13 rfl) ?_
            refine lv_ishr hx hb dL_law_406 ?_
            refine lv_iconst (v := zI (1)) hx hb dL_law_407 rfl ?_
            refine lv_iand hx hb dL_law_408 ?_
            refine z_raw ((xBit_shr (z := S2) (k := t) (by omega) (by omega)).trans (zB_iff (hb_S2 t (by omega) (by omega)))) ?_
            refine z_neB (tgt := 415) hx hb dL_law_409 (by decide) (fun c_3 => ?_) (fun c_3 => ?_)
            · have hXs := c_3
              refine lv_iconst (v := zI (0)) hx hb dL_law_415 rfl ?_
              refine z_raw (y := zB False) (by rw [zB_f (fun h => h)]; rfl) ?_
              refine lv_istore (lv' := [(18, .int (zB (False))), (17, .int (zB (xHit n m9 τ ζ t u))), (0, .ref b), (1, .ref ax), (2, .int (zI (n))), (4, .int (zI (tm))), (5, .int (x5)), (6, .int (zI (tr))), (10, .int (zI (a9))), (11, .int (zI ((a9) + (30)))), (12, .ref o), (13, .int (zI (u))), (14, .int (zI (S))), (15, .int (zI (S2))), (16, .int (zI (t)))]) hx hb dL_law_416 hl (by decide) rfl (fun ls hl => ?_)
              refine lv_iconst (v := zI (0)) hx hb dL_law_418 rfl ?_
              refine lv_istore (lv' := [(19, .int (zI (0))), (18, .int (zB (False))), (17, .int (zB (xHit n m9 τ ζ t u))), (0, .ref b), (1, .ref ax), (2, .int (zI (n))), (4, .int (zI (tm))), (5, .int (x5)), (6, .int (zI (tr))), (10, .int (zI (a9))), (11, .int (zI ((a9) + (30)))), (12, .ref o), (13, .int (zI (u))), (14, .int (zI (S))), (15, .int (zI (S2))), (16, .int (zI (t)))]) hx hb dL_law_419 hl (by decide) rfl (fun ls hl => ?_)
              exact pw_ring l hl9 hx hb hml hown hts hK hN hT0 hX hbl hL9 hn hS hI hPB (by omega) (by omega) (by omega) (by omega) (pSnd hXs) (lv_sub hl [3, 4, 5, 6, 7, 8, 9, 10, 11, 12, 13, 14, 15, 1, 0] rfl) (fun c2 s2 ls2 h1 h2 h3 => j_481 _ _ _ (by omega) (by omega) h3)
            · refine lv_goto (tgt := 481) hx hb dL_law_412 (by decide) ?_
              exact j_481 _ _ _ (by omega) (by omega) (lv_sub hl [1, 2, 3, 4, 5, 6, 7, 8, 9, 10, 11, 12, 13] rfl)
          refine lv_iload hx hb dL_law_372 (lv_at hl 0 rfl) ?_
          refine z_eqB (tgt := 402) hx hb dL_law_374 (by decide) (fun c_4 => ?_) (fun c_4 => ?_)
          · exact j_402 _ _ (by omega) (by omega)
          · have hXX := c_4
            refine lv_aload_n hx hb dL_law_377 rfl (lv_at hl 2 rfl) ?_
            refine lv_iload hx hb dL_law_378 (lv_at hl 13 rfl) ?_
            refine lv_bipush (v := zI (7)) hx hb dL_law_380 (by decide) ?_
            refine z_callX (vx_runV (As := [.int (zI (t)), .int (zI (7))]) (rest := []) ⟨hx, hb, hml, hown, hts⟩ (kX2_track l D G hl9 ax (n) (m9) 120 τ ζ g cs ss hOK (t) (7) (by omega) (by omega)) (cwV 2 hts gL_law_X2_track rfl rfl rfl (by decide +kernel) ⟨Nat.le_of_ble_eq_true rfl, Nat.le_of_ble_eq_true rfl⟩) (zPTreV (va_recv hK hW.1 (ci := 2) (q0 := 0) rfl rfl) hK hN (hT0.kp hS).t hW) rfl rfl hl.1 rfl (lv_room (Nat.le_of_ble_eq_true rfl)) dL_law_382 ⟨hrc _ (by omega), hrs _ (by omega)⟩) (fun E ce qx9 H1 hco hz1 hk1 hce hcv hcl => False.elim (hco.2 (by omega))) (fun hC => ?_)
            refine z_val (y := τ (t).toNat 7) rfl ?_
            refine lv_iconst (v := zI (1)) hx hb dL_law_385 rfl ?_
            refine z_icmp_eq (tgt := 400) hx hb (by omega) dL_law_386 (by decide) (fun c_5 => ?_) (fun c_5 => ?_)
            · exfalso; have h9 : τ t.toNat 7 = 0 := hXX.1; omega
            · refine lv_aload_n hx hb dL_law_389 rfl (lv_at hl 2 rfl) ?_
              refine lv_iload hx hb dL_law_390 (lv_at hl 13 rfl) ?_
              refine lv_iconst (v := zI (5)) hx hb dL_law_392 rfl ?_
              refine z_callX (vx_runV (As := [.int (zI (t)), .int (zI (5))]) (rest := []) ⟨hx, hb, hml, hown, hts⟩ (kX2_track l D G hl9 ax (n) (m9) 120 τ ζ g cs ss hOK (t) (5) (by omega) (by omega)) (cwV 2 hts gL_law_X2_track rfl rfl rfl (by decide +kernel) ⟨Nat.le_of_ble_eq_true rfl, Nat.le_of_ble_eq_true rfl⟩) (zPTreV (va_recv hK hW.1 (ci := 2) (q0 := 0) rfl rfl) hK hN (hT0.kp hS).t hW) rfl rfl hl.1 rfl (lv_room (Nat.le_of_ble_eq_true rfl)) dL_law_393 ⟨hrc _ (by omega), hrs _ (by omega)⟩) (fun E ce qx9 H1 hco hz1 hk1 hce hcv hcl => False.elim (hco.2 (by omega))) (fun hC => ?_)
              refine z_val (y := τ (t).toNat 5) rfl ?_
              refine lv_iconst (v := zI (1)) hx hb dL_law_396 rfl ?_
              refine z_icmp_ne (tgt := 402) hx hb (by omega) dL_law_397 (by decide) (fun c_6 => ?_) (fun c_6 => ?_)
              · exact j_402 _ _ (by omega) (by omega)
              · exact (pHit_sil hXX (Or.inl c_6)).elim
        · exfalso; omega
  exact loop_294 (9) (0) (f) (by omega) (by omega) _ _ _ _ (by omega) (by omega) (hS) (hI) (hCI) _ (lv_sub hl [0, 1, 2, 3, 4, 5, 6, 7, 8, 9, 10, 11, 12] rfl)
