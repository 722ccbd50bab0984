set_option maxHeartbeats 4000000 in
set_option maxRecDepth 100000 in
theorem pw_u (l : Launch) (hl9 : l.stackTraces = false) {p : Program} {e : Env} {s : State} {m : MethodId} {below : List Frame} {meth : Method} {c : Code} {Q : State → Prop} {D : va_G} {G : Nat → ClassId} {b L : Nat} {xs : Nat → Int32} {ax : Nat} {n m9 : Int} {τ ζ : Nat → Nat → Int} {f : Nat → Int32} {o : Nat} {H : Heap} {locs : List Loc} {cells slots : Nat} {ls : Array Slot} {tm : Int} {x5 : Int32} {tr : Int} {a9 : Int} (hx : p.tables.exec = Jvm.exec) (hb : c.code = cL_law) (hml : c.maxLocals = 20) (hown : s.vm.findClass RL = some m.cls) (hts : ∀ w ∈ wsL_law, w.before #[Value.ref b] s = true) (hK : va_K D vwCl (zTy G) s) (hN : zN s) (hT0 : zTz s.heap.size s s.heap) (hX : va_X b L xs s s.heap) (hbl : b < s.heap.size) (hL9 : L ≤ 260) (hn : 2 ≤ n ∧ n ≤ 7) (hS : va_S (fun q => s.heap.size ≤ q) s.heap H locs) (hI : PI D G ax s.heap.size o 8 n m9 τ ζ f H) (hPB : PB n τ) (hcB : cells ≤ 500000) (hsB : slots ≤ 6000000) (ha9 : 0 ≤ a9 ∧ a9 < 200) (hCI0 : CI (fun j v : Int => xHit n m9 τ ζ j v ∧ xHit n m9 τ ζ j v) n a9 a9 0 f) (hl : lv_has ls 20 [(0, .ref b), (1, .ref ax), (2, .int (zI (n))), (4, .int (zI (tm))), (5, .int (x5)), (6, .int (zI (tr))), (10, .int (zI (a9))), (11, .int (zI ((a9) + (30)))), (12, .ref o), (13, .int (zI (a9)))]) (kend : ∀ (f1 : Nat → Int32) (H1 : Heap) (locs1 : List Loc) (c1 s1 : Nat) (ls1 : Array Slot), va_S (fun q => s.heap.size ≤ q) s.heap H1 locs1 → PI D G ax s.heap.size o 8 n m9 τ ζ f1 H1 → CI (fun j v : Int => xHit n m9 τ ζ j v ∧ xHit n m9 τ ζ j v) n a9 (a9 + 30) 0 f1 → c1 ≤ cells + 14760 → s1 ≤ slots + 88560 → lv_has ls1 20 [(0, .ref b), (1, .ref ax), (2, .int (zI (n))), (4, .int (zI (tm))), (5, .int (x5)), (6, .int (zI (tr))), (10, .int (zI (a9))), (11, .int (zI ((a9) + (30)))), (12, .ref o)] → W p l e room_1 s m #[Value.ref b] below meth c H1 locs1 c1 s1 Q (F0 m 493 ls1 [])) : W p l e room_1 s m #[Value.ref b] below meth c H locs cells slots Q (F0 m 252 ls []) := by
  have hbz : ¬ s.heap.size ≤ b := Nat.not_le.mpr hbl
  have hzz : s.heap.size ≤ s.heap.size := Nat.le_refl _
  have hrc : ∀ k : Nat, k ≤ 600104 → k ≤ room_1.cells := fun _ h => h
  have hrs : ∀ k : Nat, k ≤ 7301314 → k ≤ room_1.slots := fun _ h => h
  have loop_252 : ∀ (fu : Nat) (u : Int) (f : Nat → Int32), (a9 ≤ u ∧ u ≤ a9 + 30) → a9 + 30 - u < (fu : Int) → ∀ (H : Heap) (locs : List Loc) (c1 s1 : Nat), ((c1 : Int) ≤ cells + 492 * (u - a9)) → ((s1 : Int) ≤ slots + 2952 * (u - a9)) → (va_S (fun q => s.heap.size ≤ q) s.heap H locs) → (PI D G ax s.heap.size o 8 n m9 τ ζ f H) → (CI (fun j v : Int => xHit n m9 τ ζ j v ∧ xHit n m9 τ ζ j v) n a9 u 0 f) → ∀ ls : Array Slot, lv_has ls 20 [(0, .ref b), (1, .ref ax), (2, .int (zI (n))), (4, .int (zI (tm))), (5, .int (x5)), (6, .int (zI (tr))), (10, .int (zI (a9))), (11, .int (zI ((a9) + (30)))), (12, .ref o), (13, .int (zI (u)))] → W p l e room_1 s m #[Value.ref b] below meth c H locs (c1) (s1) Q (F0 m 252 ls []) := by
    intro fu
    induction fu with
    | zero =>
      intro u f hu hm
      exfalso; omega
    | succ fu ih =>
      intro u f hu hm H locs c1 s1 hc2 hs2 hS hI hCI ls hl
      have ih_252 := ih
      clear ih
      obtain ⟨g, lab, cs, ss, hOK, hXL, ho, hzl, hW, hP⟩ := id hI
      refine lv_iload hx hb dL_law_252 (lv_at hl 9 rfl) ?_
      refine lv_iload hx hb dL_law_254 (lv_at hl 7 rfl) ?_
      refine z_icmp_ge (tgt := 493) hx hb (by omega) dL_law_256 (by decide) (fun c_1 => ?_) (fun c_1 => ?_)
      · have h9 : u = a9 + 30 := by omega
        rw [h9] at hCI
        exact kend _ _ _ _ _ _ hS hI hCI (by omega) (by omega) (lv_sub hl [0, 1, 2, 3, 4, 5, 6, 7, 8] rfl)
      · refine lv_aload_n hx hb dL_law_259 rfl (lv_at hl 1 rfl) ?_
        refine lv_iload hx hb dL_law_260 (lv_at hl 9 rfl) ?_
        refine z_callX (vx_runV (As := [.int (zI (u))]) (rest := []) ⟨hx, hb, hml, hown, hts⟩ (kX2_hits l D G hl9 ax (n) (m9) 120 τ ζ g cs ss hOK (u) (by omega)) (cwV 1 hts gL_law_X2_hits rfl rfl rfl (by decide +kernel) ⟨Nat.le_of_ble_eq_true rfl, Nat.le_of_ble_eq_true rfl⟩) (zPTreV (va_recv hK hW.1 (ci := 2) (q0 := 0) rfl rfl) hK hN (hT0.kp hS).t hW) rfl rfl hl.1 rfl (lv_room (Nat.le_of_ble_eq_true rfl)) dL_law_262 ⟨hrc _ (by omega), hrs _ (by omega)⟩) (fun E ce qx9 H1 hco hz1 hk1 hce hcv hcl => False.elim (hco.2 (by omega))) (fun hC => ?_)
        obtain ⟨S, he_S, hr_S, hz_S, hb_S⟩ := pSet (fun j => xHit n m9 τ ζ j (u)) n (by omega)
        refine z_val he_S ?_
        refine lv_istore (lv' := [(14, .int (zI (S))), (0, .ref b), (1, .ref ax), (2, .int (zI (n))), (4, .int (zI (tm))), (5, .int (x5)), (6, .int (zI (tr))), (10, .int (zI (a9))), (11, .int (zI ((a9) + (30)))), (12, .ref o), (13, .int (zI (u)))]) hx hb dL_law_265 hl (by decide) rfl (fun ls hl => ?_)
        refine lv_aload_n hx hb dL_law_267 rfl (lv_at hl 2 rfl) ?_
        refine lv_iload hx hb dL_law_268 (lv_at hl 10 rfl) ?_
        refine z_callX (vx_runV (As := [.int (zI (u))]) (rest := []) ⟨hx, hb, hml, hown, hts⟩ (kX2_sounding l D G hl9 ax (n) (m9) 120 τ ζ g cs ss hOK (u) (by omega)) (cwV 1 hts gL_law_X2_sounding rfl rfl rfl (by decide +kernel) ⟨Nat.le_of_ble_eq_true rfl, Nat.le_of_ble_eq_true rfl⟩) (zPTreV (va_recv hK hW.1 (ci := 2) (q0 := 0) rfl rfl) hK hN (hT0.kp hS).t hW) rfl rfl hl.1 rfl (lv_room (Nat.le_of_ble_eq_true rfl)) dL_law_270 ⟨hrc _ (by omega), hrs _ (by omega)⟩) (fun E ce qx9 H1 hco hz1 hk1 hce hcv hcl => False.elim (hco.2 (by omega))) (fun hC => ?_)
        obtain ⟨S2, he_S2, hr_S2, hz_S2, hb_S2⟩ := pSet (fun j => xSnd n m9 τ ζ (u) j) n (by omega)
        refine z_val he_S2 ?_
        refine lv_istore (lv' := [(15, .int (zI (S2))), (14, .int (zI (S))), (0, .ref b), (1, .ref ax), (2, .int (zI (n))), (4, .int (zI (tm))), (5, .int (x5)), (6, .int (zI (tr))), (10, .int (zI (a9))), (11, .int (zI ((a9) + (30)))), (12, .ref o), (13, .int (zI (u)))]) hx hb dL_law_273 hl (by decide) rfl (fun ls hl => ?_)
        refine lv_iload hx hb dL_law_275 (lv_at hl 1 rfl) ?_
        refine lv_iload_n hx hb dL_law_277 rfl (lv_at hl 4 rfl) ?_
        refine lv_ishr hx hb dL_law_278 ?_
        refine z_raw hz_S ?_
        refine z_if_ne (tgt := 289) hx hb (by omega) dL_law_279 (by decide) (fun c_2 => ?_) (fun c_2 => ?_)
        · exfalso; omega
        · refine lv_iload hx hb dL_law_282 (lv_at hl 0 rfl) ?_
          refine lv_iload_n hx hb dL_law_284 rfl (lv_at hl 4 rfl) ?_
          refine lv_ishr hx hb dL_law_285 ?_
          refine z_raw hz_S2 ?_
          refine z_if_eq (tgt := 291) hx hb (by omega) dL_law_286 (by decide) (fun c_3 => ?_) (fun c_3 => ?_)
          · have j_487 : ∀ (f2 : Nat → Int32) (H2 : Heap) (locs2 : List Loc) (c2 s2 : Nat) (ls : Array Slot), va_S (fun q => s.heap.size ≤ q) s.heap H2 locs2 → PI D G ax s.heap.size o 8 n m9 τ ζ f2 H2 → CI (fun j v : Int => xHit n m9 τ ζ j v ∧ xHit n m9 τ ζ j v) n a9 u n f2 → c2 ≤ c1 + 1 + 1 + 490 → s2 ≤ s1 + 6 + 6 + 2940 → lv_has ls 20 [(0, .ref b), (1, .ref ax), (2, .int (zI (n))), (4, .int (zI (tm))), (5, .int (x5)), (6, .int (zI (tr))), (10, .int (zI (a9))), (11, .int (zI ((a9) + (30)))), (12, .ref o), (13, .int (zI (u)))] → W p l e room_1 s m #[Value.ref b] below meth c H2 locs2 (c2) (s2) Q (F0 m 487 ls []) := by
              intro f2 H2 locs2 c2 s2 ls hS2 hI2 hC2 hc3 hs3 hl
              refine lv_iinc (v := zI (u + 1)) (lv' := [(13, .int (zI (u + 1))), (0, .ref b), (1, .ref ax), (2, .int (zI (n))), (4, .int (zI (tm))), (5, .int (x5)), (6, .int (zI (tr))), (10, .int (zI (a9))), (11, .int (zI ((a9) + (30)))), (12, .ref o)]) hx hb dL_law_487 hl (k := 9) rfl (zI_add (u) (1)) (by decide) rfl (fun ls hl => ?_)
              refine lv_goto (tgt := 252) hx hb dL_law_490 (by decide) ?_
              exact ih_252 (u + 1) (f2) (by omega) (by omega) _ _ _ _ (by omega) (by omega) (hS2) (hI2) (CI.next hC2 (Int.le_refl _)) _ (lv_sub hl [1, 2, 3, 4, 5, 6, 7, 8, 9, 0] rfl)
            refine lv_iconst (v := zI (0)) hx hb dL_law_291 rfl ?_
            refine lv_istore (lv' := [(16, .int (zI (0))), (15, .int (zI (S2))), (14, .int (zI (S))), (0, .ref b), (1, .ref ax), (2, .int (zI (n))), (4, .int (zI (tm))), (5, .int (x5)), (6, .int (zI (tr))), (10, .int (zI (a9))), (11, .int (zI ((a9) + (30)))), (12, .ref o), (13, .int (zI (u)))]) hx hb dL_law_292 hl (by decide) rfl (fun ls hl => ?_)
            exact pw_t l hl9 hx hb hml hown hts hK hN hT0 hX hbl hL9 hn hS hI hPB (by omega) (by omega) (by omega) ha9 hr_S hr_S2 hb_S hb_S2 hCI (lv_sub hl [3, 4, 5, 6, 7, 8, 9, 10, 11, 12, 2, 1, 0] rfl) (fun f2 H2 locs2 c2 s2 ls2 h1 h2 h3 h4 h5 h6 => j_487 f2 H2 locs2 c2 s2 ls2 h1 h2 h3 (by omega) (by omega) h6)
          · exfalso; omega
  exact loop_252 (32) (a9) (f) (by omega) (by omega) _ _ _ _ (by omega) (by omega) (hS) (hI) (hCI0) _ (lv_sub hl [0, 1, 2, 3, 4, 5, 6, 7, 8, 9] rfl)

set_option maxHeartbeats 4000000 in
set_option maxRecDepth 100000 in
theorem pw_solo (l : Launch) (hl9 : l.stackTraces = false) {p : Program} {e : Env} {s : State} {m : MethodId} {below : List Frame} {meth : Method} {c : Code} {Q : State → Prop} {D : va_G} {G : Nat → ClassId} {b L : Nat} {xs : Nat → Int32} {ax : Nat} {n m9 : Int} {τ ζ : Nat → Nat → Int} {f : Nat → Int32} {o : Nat} {H : Heap} {locs : List Loc} {cells slots : Nat} {ls : Array Slot} {tm : Int} {x5 : Int32} {tr : Int} {a9 : Int} (hx : p.tables.exec = Jvm.exec) (hb : c.code = cL_law) (hml : c.maxLocals = 20) (hown : s.vm.findClass RL = some m.cls) (hts : ∀ w ∈ wsL_law, w.before #[Value.ref b] s = true) (hK : va_K D vwCl (zTy G) s) (hN : zN s) (hT0 : zTz s.heap.size s s.heap) (hX : va_X b L xs s s.heap) (hbl : b < s.heap.size) (hL9 : L ≤ 260) (hn : 2 ≤ n ∧ n ≤ 7) (hS : va_S (fun q => s.heap.size ≤ q) s.heap H locs) (hI : PI D G ax s.heap.size o 8 n m9 τ ζ f H) (hPB : PB n τ) (hcB : cells ≤ 590000) (hsB : slots ≤ 7000000) (hl : lv_has ls 20 [(0, .ref b), (1, .ref ax), (2, .int (zI (n))), (4, .int (zI (tm))), (5, .int (x5)), (6, .int (zI (tr))), (10, .int (zI (a9))), (11, .int (zI ((a9) + (30)))), (12, .ref o), (13, .int (zB (False))), (14, .int (zI (0)))]) (kend : ∀ (B9 : Prop) (c1 s1 : Nat) (ls1 : Array Slot), (B9 → xSolo n τ) → c1 ≤ cells + 14 → s1 ≤ slots + 84 → lv_has ls1 20 [(0, .ref b), (1, .ref ax), (2, .int (zI (n))), (4, .int (zI (tm))), (5, .int (x5)), (6, .int (zI (tr))), (10, .int (zI (a9))), (11, .int (zI ((a9) + (30)))), (12, .ref o), (13, .int (zB (B9)))] → W p l e room_1 s m #[Value.ref b] below meth c H locs c1 s1 Q (F0 m 533 ls1 [])) : W p l e room_1 s m #[Value.ref b] below meth c H locs cells slots Q (F0 m 499 ls []) := by
  have hbz : ¬ s.heap.size ≤ b := Nat.not_le.mpr hbl
  have hzz : s.heap.size ≤ s.heap.size := Nat.le_refl _
  have hrc : ∀ k : Nat, k ≤ 600104 → k ≤ room_1.cells := fun _ h => h
  have hrs : ∀ k : Nat, k ≤ 7301314 → k ≤ room_1.slots := fun _ h => h
  obtain ⟨g, lab, cs, ss, hOK, hXL, ho, hzl, hW, hP⟩ := id hI
  have loop_499 : ∀ (fu : Nat) (a : Int) (B9 : Prop), (0 ≤ a ∧ a ≤ n) → (B9 → xSolo n τ) → n - a < (fu : Int) → ∀ (c1 s1 : Nat), ((c1 : Int) ≤ cells + 2 * a) → ((s1 : Int) ≤ slots + 12 * a) → ∀ ls : Array Slot, lv_has ls 20 [(0, .ref b), (1, .ref ax), (2, .int (zI (n))), (4, .int (zI (tm))), (5, .int (x5)), (6, .int (zI (tr))), (10, .int (zI (a9))), (11, .int (zI ((a9) + (30)))), (12, .ref o), (13, .int (zB (B9))), (14, .int (zI (a)))] → W p l e room_1 s m #[Value.ref b] below meth c H locs (c1) (s1) Q (F0 m 499 ls []) := by
    intro fu
    induction fu with
    | zero =>
      intro a B9 ha hBs hm
      exfalso; omega
    | succ fu ih =>
      intro a B9 ha hBs hm c1 s1 hc2 hs2 ls hl
      have ih_499 := ih
      clear ih
      refine lv_iload hx hb dL_law_499 (lv_at hl 10 rfl) ?_
      refine lv_iload_n hx hb dL_law_501 rfl (lv_at hl 2 rfl) ?_
      refine z_icmp_ge (tgt := 533) hx hb (by omega) dL_law_502 (by decide) (fun c_1 => ?_) (fun c_1 => ?_)
      · exact kend _ _ _ _ hBs (by omega) (by omega) (lv_sub hl [0, 1, 2, 3, 4, 5, 6, 7, 8, 9] rfl)
      · have htb := hOK.tb (k := a) (by omega)
        refine lv_iload hx hb dL_law_505 (lv_at hl 9 rfl) ?_
        refine lv_aload_n hx hb dL_law_507 rfl (lv_at hl 1 rfl) ?_
        refine lv_iload hx hb dL_law_508 (lv_at hl 10 rfl) ?_
        refine lv_bipush (v := zI (6)) hx hb dL_law_510 (by decide) ?_
        refine z_callX (vx_runV (As := [.int (zI (a)), .int (zI (6))]) (rest := [.int (zB (B9))]) ⟨hx, hb, hml, hown, hts⟩ (kX2_track l D G hl9 ax (n) (m9) 120 τ ζ g cs ss hOK (a) (6) (by omega) (by omega)) (cwV 2 hts gL_law_X2_track rfl rfl rfl (by decide +kernel) ⟨Nat.le_of_ble_eq_true rfl, Nat.le_of_ble_eq_true rfl⟩) (zPTreV (va_recv hK hW.1 (ci := 2) (q0 := 0) rfl rfl) hK hN (hT0.kp hS).t hW) rfl rfl hl.1 rfl (lv_room (Nat.le_of_ble_eq_true rfl)) dL_law_512 ⟨hrc _ (by omega), hrs _ (by omega)⟩) (fun E ce qx9 H1 hco hz1 hk1 hce hcv hcl => False.elim (hco.2 (by omega))) (fun hC => ?_)
        refine z_val (y := τ (a).toNat 6) rfl ?_
        refine lv_iconst (v := zI (1)) hx hb dL_law_515 rfl ?_
        refine z_pick hx hb (P := τ a.toNat 6 = 1) dL_law_519 dL_law_520 dL_law_523 (fun kt kf => z_icmp_ne (tgt := 523) hx hb (by omega) dL_law_516 (by decide) (fun c9 => kf c9) (fun c9 => kt c9)) ?_
        refine lv_ior hx hb dL_law_524 ?_
        refine z_raw (zB_or _ _) ?_
        refine lv_istore (lv' := [(13, .int (zB ((B9) ∨ (τ a.toNat 6 = 1)))), (0, .ref b), (1, .ref ax), (2, .int (zI (n))), (4, .int (zI (tm))), (5, .int (x5)), (6, .int (zI (tr))), (10, .int (zI (a9))), (11, .int (zI ((a9) + (30)))), (12, .ref o), (14, .int (zI (a)))]) hx hb dL_law_525 hl (by decide) rfl (fun ls hl => ?_)
        refine lv_iinc (v := zI (a + 1)) (lv' := [(14, .int (zI (a + 1))), (13, .int (zB ((B9) ∨ (τ a.toNat 6 = 1)))), (0, .ref b), (1, .ref ax), (2, .int (zI (n))), (4, .int (zI (tm))), (5, .int (x5)), (6, .int (zI (tr))), (10, .int (zI (a9))), (11, .int (zI ((a9) + (30)))), (12, .ref o)]) hx hb dL_law_527 hl (k := 10) rfl (zI_add (a) (1)) (by decide) rfl (fun ls hl => ?_)
        refine lv_goto (tgt := 499) hx hb dL_law_530 (by decide) ?_
        exact ih_499 (a + 1) ((B9) ∨ (τ a.toNat 6 = 1)) (by omega) (fun h => h.elim hBs (fun h => ⟨a, by omega, by omega, h⟩)) (by omega) _ _ (by omega) (by omega) _ (lv_sub hl [2, 3, 4, 5, 6, 7, 8, 9, 10, 1, 0] rfl)
  exact loop_499 (9) (0) (False) (by omega) (fun h => h.elim) (by omega) _ _ (by omega) (by omega) _ (lv_sub hl [0, 1, 2, 3, 4, 5, 6, 7, 8, 9, 10] rfl)

set_option maxHeartbeats 4000000 in
set_option maxRecDepth 100000 in
theorem pw_cnt (l : Launch) (hl9 : l.stackTraces = false) {p : Program} {e : Env} {s : State} {m : MethodId} {below : List Frame} {meth : Method} {c : Code} {Q : State → Prop} {D : va_G} {G : Nat → ClassId} {b L : Nat} {xs : Nat → Int32} {ax : Nat} {n m9 : Int} {τ ζ : Nat → Nat → Int} {f : Nat → Int32} {o : Nat} {H : Heap} {locs : List Loc} {cells slots : Nat} {ls : Array Slot} {tm : Int} {x5 : Int32} {tr : Int} {a9 : Int} {B9 : Prop} (hx : p.tables.exec = Jvm.exec) (hb : c.code = cL_law) (hml : c.maxLocals = 20) (hown : s.vm.findClass RL = some m.cls) (hts : ∀ w ∈ wsL_law, w.before #[Value.ref b] s = true) (hK : va_K D vwCl (zTy G) s) (hN : zN s) (hT0 : zTz s.heap.size s s.heap) (hX : va_X b L xs s s.heap) (hbl : b < s.heap.size) (hL9 : L ≤ 260) (hn : 2 ≤ n ∧ n ≤ 7) (hS : va_S (fun q => s.heap.size ≤ q) s.heap H locs) (hI : PI D G ax s.heap.size o 8 n m9 τ ζ f H) (hPB : PB n τ) (hcB : cells ≤ 590000) (hsB : slots ≤ 7000000) (ha9 : 0 ≤ a9 ∧ a9 < 200) (hBs : B9 → xSolo n τ) (hCI : CI (fun j v : Int => xHit n m9 τ ζ j v ∧ xHit n m9 τ ζ j v) n a9 (a9 + 30) 0 f) (hl : lv_has ls 20 [(0, .ref b), (1, .ref ax), (2, .int (zI (n))), (4, .int (zI (tm))), (5, .int (x5)), (6, .int (zI (tr))), (10, .int (zI (a9))), (11, .int (zI ((a9) + (30)))), (12, .ref o), (13, .int (zB (B9))), (14, .int (zI (0)))]) (kend : ∀ (c1 s1 : Nat) (ls1 : Array Slot), c1 ≤ cells + 42 → s1 ≤ slots + 252 → lv_has ls1 20 [(0, .ref b), (1, .ref ax), (2, .int (zI (n))), (4, .int (zI (tm))), (5, .int (x5)), (6, .int (zI (tr))), (10, .int (zI (a9))), (11, .int (zI ((a9) + (30)))), (12, .ref o)] → W p l e room_1 s m #[Value.ref b] below meth c H locs c1 s1 Q (F0 m 637 ls1 [])) : W p l e room_1 s m #[Value.ref b] below meth c H locs cells slots Q (F0 m 536 ls []) := by
  have hbz : ¬ s.heap.size ≤ b := Nat.not_le.mpr hbl
  have hzz : s.heap.size ≤ s.heap.size := Nat.le_refl _
  have hrc : ∀ k : Nat, k ≤ 600104 → k ≤ room_1.cells := fun _ h => h
  have hrs : ∀ k : Nat, k ≤ 7301314 → k ≤ room_1.slots := fun _ h => h
  obtain ⟨g, lab, cs, ss, hOK, hXL, ho, hzl, hW, hP⟩ := id hI
  have loop_536 : ∀ (fu : Nat) (t : Int), (0 ≤ t ∧ t ≤ n) → n - t < (fu : Int) → ∀ (c1 s1 : Nat), ((c1 : Int) ≤ cells + 6 * t) → ((s1 : Int) ≤ slots + 36 * t) → ∀ ls : Array Slot, lv_has ls 20 [(0, .ref b), (1, .ref ax), (2, .int (zI (n))), (4, .int (zI (tm))), (5, .int (x5)), (6, .int (zI (tr))), (10, .int (zI (a9))), (11, .int (zI ((a9) + (30)))), (12, .ref o), (13, .int (zB (B9))), (14, .int (zI (t)))] → W p l e room_1 s m #[Value.ref b] below meth c H locs (c1) (s1) Q (F0 m 536 ls []) := by
    intro fu
    induction fu with
    | zero =>
      intro t ht hm
      exfalso; omega
    | succ fu ih =>
      intro t ht hm c1 s1 hc2 hs2 ls hl
      have ih_536 := ih
      clear ih
      refine lv_iload hx hb dL_law_536 (lv_at hl 10 rfl) ?_
      refine lv_iload_n hx hb dL_law_538 rfl (lv_at hl 2 rfl) ?_
      refine z_icmp_ge (tgt := 637) hx hb (by omega) dL_law_539 (by decide) (fun c_1 => ?_) (fun c_1 => ?_)
      · exact kend _ _ _ (by omega) (by omega) (lv_sub hl [0, 1, 2, 3, 4, 5, 6, 7, 8] rfl)
      · have htb := hOK.tb (k := t) (by omega)
        refine lv_aload_n hx hb dL_law_542 rfl (lv_at hl 1 rfl) ?_
        refine lv_iload hx hb dL_law_543 (lv_at hl 10 rfl) ?_
        refine lv_iload hx hb dL_law_545 (lv_at hl 6 rfl) ?_
        refine lv_iload hx hb dL_law_547 (lv_at hl 7 rfl) ?_
        refine z_callX (vx_runV (As := [.int (zI (t)), .int (zI (a9)), .int (zI ((a9) + (30)))]) (rest := []) ⟨hx, hb, hml, hown, hts⟩ (kX2_count l D G hl9 ax (n) (m9) 120 τ ζ g cs ss hOK (t) (a9) ((a9) + (30)) (by omega) (by omega) (by omega)) (cwV 3 hts gL_law_X2_count rfl rfl rfl (by decide +kernel) ⟨Nat.le_of_ble_eq_true rfl, Nat.le_of_ble_eq_true rfl⟩) (zPTreV (va_recv hK hW.1 (ci := 2) (q0 := 0) rfl rfl) hK hN (hT0.kp hS).t hW) rfl rfl hl.1 rfl (lv_room (Nat.le_of_ble_eq_true rfl)) dL_law_549 ⟨hrc _ (by omega), hrs _ (by omega)⟩) (fun E ce qx9 H1 hco hz1 hk1 hce hcv hcl => False.elim (hco.elim (fun h9 => h9.2 (by omega)) (fun h9 => h9.2.2 (by omega)))) (fun hC => ?_)
        obtain ⟨k9, hk9⟩ : ∃ q : Int, xCnt ((fun j v : Int => xHit n m9 τ ζ j v ∧ xHit n m9 τ ζ j v) t) a9 (((a9) + (30)) - (a9)).toNat = q := ⟨_, rfl⟩
        have hk8 := xCnt_b ((fun j v : Int => xHit n m9 τ ζ j v ∧ xHit n m9 τ ζ j v) t) a9 (((a9) + (30)) - (a9)).toNat
        rw [hk9] at hk8
        have hk7 : f t.toNat = zI k9 := by rw [hCI.at0 (j := t) (by omega), ← hk9]
        have hk6 : 0 < k9 → ∃ v : Int, xHit n m9 τ ζ t v := fun h => by rw [← hk9, pCnt_pos] at h; obtain ⟨i, -, h9⟩ := h; exact ⟨_, h9.1⟩
        refine z_val hk9 ?_
        refine lv_aload hx hb dL_law_552 (lv_at hl 8 rfl) ?_
        refine lv_iload hx hb dL_law_554 (lv_at hl 10 rfl) ?_
        refine z_iald (x := zI k9) (D := D) hx hb hK hP 0 0 rfl rfl (by omega) (by omega) hk7 dL_law_556 ?_
        refine z_icmp_ne (tgt := 584) hx hb (by omega) dL_law_557 (by decide) (fun c_2 => ?_) (fun c_2 => ?_)
        · exfalso; omega
        · have j_586 : ∀ (c586 s586 : Nat), c586 ≤ c1 + 2 + 2 → s586 ≤ s1 + 12 + 12 → W p l e room_1 s m #[Value.ref b] below meth c H locs (c586) (s586) Q (F0 m 586 ls []) := by
            intro c586 s586 hc586 hs586
            refine lv_aload_n hx hb dL_law_586 rfl (lv_at hl 1 rfl) ?_
            refine lv_iload hx hb dL_law_587 (lv_at hl 10 rfl) ?_
            refine lv_iload hx hb dL_law_589 (lv_at hl 6 rfl) ?_
            refine z_callX (vx_runV (As := [.int (zI (t)), .int (zI (a9))]) (rest := []) ⟨hx, hb, hml, hown, hts⟩ (kX2_next l D G hl9 ax (n) (m9) 120 τ ζ g cs ss hOK (t) (a9) (by omega) (by omega)) (cwV 2 hts gL_law_X2_next rfl rfl rfl (by decide +kernel) ⟨Nat.le_of_ble_eq_true rfl, Nat.le_of_ble_eq_true rfl⟩) (zPTreV (va_recv hK hW.1 (ci := 2) (q0 := 0) rfl rfl) hK hN (hT0.kp hS).t hW) rfl rfl hl.1 rfl (lv_room (Nat.le_of_ble_eq_true rfl)) dL_law_591 ⟨hrc _ (by omega), hrs _ (by omega)⟩) (fun E ce qx9 H1 hco hz1 hk1 hce hcv hcl => False.elim (hco.elim (fun h9 => h9.2 (by omega)) (fun h9 => h9.2.2 (by omega)))) (fun hC => ?_)
            obtain ⟨v9, hv9⟩ : ∃ q : Int, xNx (fun v => xHit n m9 τ ζ t v) a9 ((if 99999 < a9 + 3000 then 99999 else a9 + 3000) + 1 - a9).toNat = q := ⟨_, rfl⟩
            have hv8 := pNx_cnt (P := fun v => xHit n m9 τ ζ t v) (R := (fun j v : Int => xHit n m9 τ ζ j v ∧ xHit n m9 τ ζ j v) t) (fun _ => ⟨fun h => h.1, fun h => ⟨h, h⟩⟩) (a := a9) (w := 30) (N := ((if 99999 < a9 + 3000 then 99999 else a9 + 3000) + 1 - a9).toNat) (by omega) (by omega) (by rw [if_neg (by omega)]; omega)
            rw [hv9, show a9 + 30 - a9 = ((a9) + (30)) - (a9) from rfl, hk9] at hv8
            have hv7 : -1 ≤ v9 ∧ v9 ≤ 99999 := by rcases pNx_spec (fun v => xHit n m9 τ ζ t v) a9 (by omega) (((if 99999 < a9 + 3000 then 99999 else a9 + 3000) + 1 - a9).toNat) with ⟨h1, -⟩ | ⟨i, h1, h2, -, -⟩ <;> rw [if_neg (by omega)] at * <;> omega
            refine z_val hv9 ?_
            refine lv_istore (lv' := [(15, .int (zI (v9))), (0, .ref b), (1, .ref ax), (2, .int (zI (n))), (4, .int (zI (tm))), (5, .int (x5)), (6, .int (zI (tr))), (10, .int (zI (a9))), (11, .int (zI ((a9) + (30)))), (12, .ref o), (13, .int (zB (B9))), (14, .int (zI (t)))]) hx hb dL_law_594 hl (by decide) rfl (fun ls hl => ?_)
            refine lv_aload hx hb dL_law_596 (lv_at hl 9 rfl) ?_
            refine lv_iload hx hb dL_law_598 (lv_at hl 11 rfl) ?_
            refine z_iald (x := zI k9) (D := D) hx hb hK hP 0 0 rfl rfl (by omega) (by omega) hk7 dL_law_600 ?_
            refine z_pick hx hb (P := 0 < k9) dL_law_604 dL_law_605 dL_law_608 (fun kt kf => z_if_le (tgt := 608) hx hb (by omega) dL_law_601 (by decide) (fun c9 => kf (by omega)) (fun c9 => kt (by omega))) ?_
            have j_626 : W p l e room_1 s m #[Value.ref b] below meth c H locs (c586 + 2) (s586 + 12) Q (F0 m 626 ls [.int (zB (0 ≤ v9 ∧ v9 < a9 + 30)), .int (zB (0 < k9))]) := by
              refine z_raw (zB_iff hv8) ?_
              refine lv_icmp_eq (tgt := 631) hx hb dL_law_626 (by decide) (fun _ => ?_) (fun c9 => absurd rfl c9)
              refine lv_iinc (v := zI (t + 1)) (lv' := [(14, .int (zI (t + 1))), (15, .int (zI (v9))), (0, .ref b), (1, .ref ax), (2, .int (zI (n))), (4, .int (zI (tm))), (5, .int (x5)), (6, .int (zI (tr))), (10, .int (zI (a9))), (11, .int (zI ((a9) + (30)))), (12, .ref o), (13, .int (zB (B9)))]) hx hb dL_law_631 hl (k := 11) rfl (zI_add (t) (1)) (by decide) rfl (fun ls hl => ?_)
              refine lv_goto (tgt := 536) hx hb dL_law_634 (by decide) ?_
              exact ih_536 (t + 1) (by omega) (by omega) _ _ (by omega) (by omega) _ (lv_sub hl [2, 3, 4, 5, 6, 7, 8, 9, 10, 11, 0] rfl)
            refine lv_iload hx hb dL_law_609 (lv_at hl 0 rfl) ?_
            refine z_if_lt (tgt := 625) hx hb (by omega) dL_law_611 (by decide) (fun c_3 => ?_) (fun c_3 => ?_)
            · refine lv_iconst (v := zI (0)) hx hb dL_law_625 rfl ?_
              rw [zB_f (by omega)] at j_626
              exact j_626
            · refine lv_iload hx hb dL_law_614 (lv_at hl 0 rfl) ?_
              refine lv_iload hx hb dL_law_616 (lv_at hl 8 rfl) ?_
              refine z_icmp_ge (tgt := 625) hx hb (by omega) dL_law_618 (by decide) (fun c_4 => ?_) (fun c_4 => ?_)
              · refine lv_iconst (v := zI (0)) hx hb dL_law_625 rfl ?_
                rw [zB_f (by omega)] at j_626
                exact j_626
              · refine lv_iconst (v := zI (1)) hx hb dL_law_621 rfl ?_
                refine lv_goto (tgt := 626) hx hb dL_law_622 (by decide) ?_
                rw [zB_t (by omega)] at j_626
                exact j_626
          refine lv_iload hx hb dL_law_560 (lv_at hl 9 rfl) ?_
          refine z_eqB (tgt := 586) hx hb dL_law_562 (by decide) (fun c_5 => ?_) (fun c_5 => ?_)
          · exact j_586 _ _ (by omega) (by omega)
          · have hBB := c_5
            refine lv_aload_n hx hb dL_law_565 rfl (lv_at hl 1 rfl) ?_
            refine lv_iload hx hb dL_law_566 (lv_at hl 10 rfl) ?_
            refine lv_bipush (v := zI (6)) hx hb dL_law_568 (by decide) ?_
            refine z_callX (vx_runV (As := [.int (zI (t)), .int (zI (6))]) (rest := []) ⟨hx, hb, hml, hown, hts⟩ (kX2_track l D G hl9 ax (n) (m9) 120 τ ζ g cs ss hOK (t) (6) (by omega) (by omega)) (cwV 2 hts gL_law_X2_track rfl rfl rfl (by decide +kernel) ⟨Nat.le_of_ble_eq_true rfl, Nat.le_of_ble_eq_true rfl⟩) (zPTreV (va_recv hK hW.1 (ci := 2) (q0 := 0) rfl rfl) hK hN (hT0.kp hS).t hW) rfl rfl hl.1 rfl (lv_room (Nat.le_of_ble_eq_true rfl)) dL_law_570 ⟨hrc _ (by omega), hrs _ (by omega)⟩) (fun E ce qx9 H1 hco hz1 hk1 hce hcv hcl => False.elim (hco.2 (by omega))) (fun hC => ?_)
            refine z_val (y := τ (t).toNat 6) rfl ?_
            refine z_if_ne (tgt := 586) hx hb (by omega) dL_law_573 (by decide) (fun c_6 => ?_) (fun c_6 => ?_)
            · exact j_586 _ _ (by omega) (by omega)
            · have h60 : τ t.toNat 6 = 0 := c_6
              refine lv_aload hx hb dL_law_576 (lv_at hl 8 rfl) ?_
              refine lv_iload hx hb dL_law_578 (lv_at hl 10 rfl) ?_
              refine z_iald (x := zI k9) (D := D) hx hb hK hP 0 0 rfl rfl (by omega) (by omega) hk7 dL_law_580 ?_
              refine z_if_le (tgt := 586) hx hb (by omega) dL_law_581 (by decide) (fun c_7 => ?_) (fun c_7 => ?_)
              · exact j_586 _ _ (by omega) (by omega)
              · exfalso; obtain ⟨v8, h8⟩ := hk6 (by omega); exact pHit_sil h8 (Or.inr ⟨h60, hBs hBB⟩)
  exact loop_536 (9) (0) (by omega) (by omega) _ _ (by omega) (by omega) _ (lv_sub hl [0, 1, 2, 3, 4, 5, 6, 7, 8, 9, 10] rfl)
