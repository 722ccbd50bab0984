set_option maxHeartbeats 4000000 in
set_option maxRecDepth 100000 in
theorem pw_dig (l : Launch) (hl9 : l.stackTraces = false) {p : Program} {e : Env} {s : State} {m : MethodId} {below : List Frame} {meth : Method} {c : Code} {Q : State → Prop} {D : va_G} {G : Nat → ClassId} {b L : Nat} {xs : Nat → Int32} {ax : Nat} {n m9 : Int} {τ ζ : Nat → Nat → Int} {f : Nat → Int32} {o : Nat} {H : Heap} {locs : List Loc} {cells slots : Nat} {ls : Array Slot} {tm : Int} {x5 : Int32} {tr : Int} (hx : p.tables.exec = Jvm.exec) (hb : c.code = cL_law) (hml : c.maxLocals = 20) (hown : s.vm.findClass RL = some m.cls) (hts : ∀ w ∈ wsL_law, w.before #[Value.ref b] s = true) (hK : va_K D vwCl (zTy G) s) (hN : zN s) (hT0 : zTz s.heap.size s s.heap) (hX : va_X b L xs s s.heap) (hbl : b < s.heap.size) (hL9 : L ≤ 260) (hn : 2 ≤ n ∧ n ≤ 7) (hS : va_S (fun q => s.heap.size ≤ q) s.heap H locs) (hI : PI D G ax s.heap.size o 8 n m9 τ ζ f H) (hPB : PB n τ) (hcB : cells ≤ 590000) (hsB : slots ≤ 7000000) (htr : 0 ≤ tr ∧ tr < n) (hl : lv_has ls 20 [(0, .ref b), (1, .ref ax), (2, .int (zI (n))), (4, .int (zI (tm))), (5, .int (x5)), (6, .int (zI (tr)))]) (kend : ∀ (τ1 : Nat → Nat → Int) (H1 : Heap) (locs1 : List Loc) (c1 s1 : Nat) (ls1 : Array Slot), va_S (fun q => s.heap.size ≤ q) s.heap H1 locs1 → PI D G ax s.heap.size o 8 n m9 τ1 ζ f H1 → PB n τ1 → c1 ≤ cells + 6 → s1 ≤ slots + 36 → lv_has ls1 20 [(0, .ref b), (1, .ref ax), (2, .int (zI (n))), (4, .int (zI (tm)))] → W p l e room_1 s m #[Value.ref b] below meth c H1 locs1 c1 s1 Q (F0 m 696 ls1 [])) : W p l e room_1 s m #[Value.ref b] below meth c H locs cells slots Q (F0 m 637 ls []) := by
  have hbz : ¬ s.heap.size ≤ b := Nat.not_le.mpr hbl
  have hzz : s.heap.size ≤ s.heap.size := Nat.le_refl _
  have hrc : ∀ k : Nat, k ≤ 600104 → k ≤ room_1.cells := fun _ h => h
  have hrs : ∀ k : Nat, k ≤ 7301314 → k ≤ room_1.slots := fun _ h => h
  obtain ⟨g, lab, cs, ss, hOK, hXL, ho, hzl, hW, hP⟩ := id hI
  refine lv_aload_n hx hb dL_law_637 rfl (lv_at hl 1 rfl) ?_
  refine z_call (va_runV (As := []) (rest := []) ⟨hx, hb, hml, hown, hts⟩ (kX2_digest l D G ax (n) (m9) 120 τ ζ g cs ss hOK) (cwV 0 hts gL_law_X2_digest rfl rfl rfl (by decide +kernel) ⟨Nat.le_of_ble_eq_true rfl, Nat.le_of_ble_eq_true rfl⟩) (zPreV (va_recv hK hW.1 (ci := 2) (q0 := 0) rfl rfl) hK hN hW) rfl rfl hl.1 rfl (lv_room (Nat.le_of_ble_eq_true rfl)) dL_law_638 ⟨hrc _ (by omega), hrs _ (by omega)⟩) ?_
  refine lv_lstore (lv' := [(14, .long (xDig (n) (m9) 120 τ ζ)), (0, .ref b), (1, .ref ax), (2, .int (zI (n))), (4, .int (zI (tm))), (5, .int (x5)), (6, .int (zI (tr)))]) hx hb dL_law_641 hl (by decide) rfl (fun ls hl => ?_)
  refine lv_aload_n hx hb dL_law_643 rfl (lv_at hl 2 rfl) ?_
  refine lv_iload hx hb dL_law_644 (lv_at hl 6 rfl) ?_
  refine lv_iconst (v := zI (0)) hx hb dL_law_646 rfl ?_
  refine z_callX (vx_runV (As := [.int (zI (tr)), .int (zI (0))]) (rest := []) ⟨hx, hb, hml, hown, hts⟩ (kX2_track l D G hl9 ax (n) (m9) 120 τ ζ g cs ss hOK (tr) (0) (by omega) (by omega)) (cwV 2 hts gL_law_X2_track rfl rfl rfl (by decide +kernel) ⟨Nat.le_of_ble_eq_true rfl, Nat.le_of_ble_eq_true rfl⟩) (zPTreV (va_recv hK hW.1 (ci := 2) (q0 := 0) rfl rfl) hK hN (hT0.kp hS).t hW) rfl rfl hl.1 rfl (lv_room (Nat.le_of_ble_eq_true rfl)) dL_law_647 ⟨hrc _ (by omega), hrs _ (by omega)⟩) (fun E ce qx9 H1 hco hz1 hk1 hce hcv hcl => False.elim (hco.2 (by omega))) (fun hC => ?_)
  refine z_val (y := τ (tr).toNat 0) rfl ?_
  obtain ⟨n9, hn9⟩ : ∃ q : Int, τ (tr).toNat 0 = q := ⟨_, rfl⟩
  have htb := hOK.tb (k := tr) (by omega)
  have hr9 := (hPB tr (by omega) (by omega)).1
  rw [hn9] at hr9
  have hr8 : 1 ≤ n9 := by omega
  refine z_val hn9 ?_
  refine lv_istore (lv' := [(16, .int (zI (n9))), (14, .long (xDig (n) (m9) 120 τ ζ)), (0, .ref b), (1, .ref ax), (2, .int (zI (n))), (4, .int (zI (tm))), (5, .int (x5)), (6, .int (zI (tr)))]) hx hb dL_law_650 hl (by decide) rfl (fun ls hl => ?_)
  refine lv_iload hx hb dL_law_652 (lv_at hl 6 rfl) ?_
  refine lv_iconst (v := zI (3)) hx hb dL_law_654 rfl ?_
  refine lv_ishr hx hb dL_law_655 ?_
  refine lv_iload hx hb dL_law_656 (lv_at hl 0 rfl) ?_
  refine z_call (va_runS (As := [.int ((x5) >>> (zI (3) &&& 31)), .int (zI (n9))]) (rest := []) ⟨hx, hb, hml, hown, hts⟩ (kL_below l D G (((x5) >>> (zI (3) &&& 31))) (n9) (by omega)) (va_cwS 2 hts gL_law_L_below rfl rfl rfl (by decide +kernel) ⟨Nat.le_of_ble_eq_true rfl, Nat.le_of_ble_eq_true rfl⟩) (zPreS hK hN trivial) rfl rfl hl.1 rfl (lv_room (Nat.le_of_ble_eq_true rfl)) dL_law_658 ⟨hrc _ (by omega), hrs _ (by omega)⟩) ?_
  obtain ⟨b658, he_b658, hb_b658⟩ : ∃ q : Int, pBl (((x5) >>> (zI (3) &&& 31))) (n9) = q ∧ 0 ≤ q ∧ q < n9 := ⟨_, rfl, pBl_b (by omega)⟩
  refine z_val he_b658 ?_
  refine lv_istore (lv' := [(17, .int (zI (b658))), (16, .int (zI (n9))), (14, .long (xDig (n) (m9) 120 τ ζ)), (0, .ref b), (1, .ref ax), (2, .int (zI (n))), (4, .int (zI (tm))), (5, .int (x5)), (6, .int (zI (tr)))]) hx hb dL_law_661 hl (by decide) rfl (fun ls hl => ?_)
  refine lv_aload_n hx hb dL_law_663 rfl (lv_at hl 4 rfl) ?_
  refine lv_iload hx hb dL_law_664 (lv_at hl 8 rfl) ?_
  refine lv_iload hx hb dL_law_666 (lv_at hl 0 rfl) ?_
  have hA9 := PI.hA hOK.2.1 hXL hzl (k := tr) (by omega)
  refine z_callXM (vx_runV (As := [.int (zI (tr)), .int (zI (b658))]) (rest := []) ⟨hx, hb, hml, hown, hts⟩ (kX2_rotate l D G hl9 ax (n) (m9) 120 τ ζ g cs ss hOK lab hXL (tr) (b658) (by omega) (by omega)) (cwV 2 hts gL_law_X2_rotate rfl rfl rfl (by decide +kernel) ⟨Nat.le_of_ble_eq_true rfl, Nat.le_of_ble_eq_true rfl⟩) (zPTreV (va_recv hK hW.1 (ci := 2) (q0 := 0) rfl rfl) hK hN (hT0.kp hS).t (hW)) rfl rfl hl.1 rfl (lv_room (Nat.le_of_ble_eq_true rfl)) dL_law_668 ⟨hrc _ (by omega), hrs _ (by omega)⟩) hS (fun q _ h9 => hA9 q h9) hA9 (fun E ce qx9 H1 locs1 hco hz1 hk1 hS1 hce hcv hcl => False.elim (hco.elim (fun h9 => h9.2 (by omega)) (fun h9 => h9.2.2 (by omega)))) (fun H43 locs44 hC hp1 hz1 hk1 hS1 => ?_)
  clear hA9
  have hOK9 := hOK.up (k := (tr).toNat) (xRot_ok (hOK.t (k := tr) hC.1) (b658))
  obtain ⟨τ45, he_τ45⟩ : ∃ q : Nat → Nat → Int, q = va_up τ (tr).toNat (xRot (τ (tr).toNat) (b658)) := ⟨_, rfl⟩
  have hI9 := PI.mut hXL ho hzl hP (k := tr) (by omega) hOK9 hp1 hk1
  rw [← he_τ45] at hI9
  have hI : PI D G ax s.heap.size o 8 (n) (m9) τ45 ζ f H43 := hI9
  clear hI9 hOK9
  have hPB : PB (n) τ45 := by rw [he_τ45]; exact PB.up hPB ⟨by rw [xRot_lo 0 (by omega)]; exact (hPB (tr) (by omega) (by omega)).1, by rw [xRot_lo 3 (by omega)]; exact (hPB (tr) (by omega) (by omega)).2⟩
  have hro1 : τ45 = va_up τ (tr).toNat (xRot (τ (tr).toNat) (b658)) := by exact he_τ45
  have hS := hS1
  obtain ⟨g, lab, cs, ss, hOK, hXL, ho, hzl, hW, hP⟩ := id hI
  refine lv_pop hx hb dL_law_671 rfl ?_
  refine lv_aload_n hx hb dL_law_672 rfl (lv_at hl 4 rfl) ?_
  refine lv_iload hx hb dL_law_673 (lv_at hl 8 rfl) ?_
  refine lv_iload hx hb dL_law_675 (lv_at hl 1 rfl) ?_
  refine lv_iload hx hb dL_law_677 (lv_at hl 0 rfl) ?_
  refine z_isub hx hb dL_law_679 ?_
  have hA9 := PI.hA hOK.2.1 hXL hzl (k := tr) (by omega)
  refine z_callXM (vx_runV (As := [.int (zI (tr)), .int (zI ((n9) - (b658)))]) (rest := []) ⟨hx, hb, hml, hown, hts⟩ (kX2_rotate l D G hl9 ax (n) (m9) 120 τ45 ζ g cs ss hOK lab hXL (tr) ((n9) - (b658)) (by omega) (by omega)) (cwV 2 hts gL_law_X2_rotate rfl rfl rfl (by decide +kernel) ⟨Nat.le_of_ble_eq_true rfl, Nat.le_of_ble_eq_true rfl⟩) (zPTreV (va_recv hK hW.1 (ci := 2) (q0 := 0) rfl rfl) hK hN (hT0.kp hS).t (hW)) rfl rfl hl.1 rfl (lv_room (Nat.le_of_ble_eq_true rfl)) dL_law_680 ⟨hrc _ (by omega), hrs _ (by omega)⟩) hS (fun q _ h9 => hA9 q h9) hA9 (fun E ce qx9 H1 locs1 hco hz1 hk1 hS1 hce hcv hcl => False.elim (hco.elim (fun h9 => h9.2 (by omega)) (fun h9 => h9.2.2 (by omega)))) (fun H46 locs47 hC hp1 hz1 hk1 hS1 => ?_)
  clear hA9
  have hOK9 := hOK.up (k := (tr).toNat) (xRot_ok (hOK.t (k := tr) hC.1) ((n9) - (b658)))
  obtain ⟨τ48, he_τ48⟩ : ∃ q : Nat → Nat → Int, q = va_up τ45 (tr).toNat (xRot (τ45 (tr).toNat) ((n9) - (b658))) := ⟨_, rfl⟩
  have hI9 := PI.mut hXL ho hzl hP (k := tr) (by omega) hOK9 hp1 hk1
  rw [← he_τ48] at hI9
  have hI : PI D G ax s.heap.size o 8 (n) (m9) τ48 ζ f H46 := hI9
  clear hI9 hOK9
  have hPB : PB (n) τ48 := by rw [he_τ48]; exact PB.up hPB ⟨by rw [xRot_lo 0 (by omega)]; exact (hPB (tr) (by omega) (by omega)).1, by rw [xRot_lo 3 (by omega)]; exact (hPB (tr) (by omega) (by omega)).2⟩
  have hro2 : τ48 = va_up τ45 (tr).toNat (xRot (τ45 (tr).toNat) ((n9) - (b658))) := by exact he_τ48
  have hS := hS1
  obtain ⟨g, lab, cs, ss, hOK, hXL, ho, hzl, hW, hP⟩ := id hI
  refine lv_pop hx hb dL_law_683 rfl ?_
  refine lv_aload_n hx hb dL_law_684 rfl (lv_at hl 4 rfl) ?_
  refine z_call (va_runV (As := []) (rest := []) ⟨hx, hb, hml, hown, hts⟩ (kX2_digest l D G ax (n) (m9) 120 τ48 ζ g cs ss hOK) (cwV 0 hts gL_law_X2_digest rfl rfl rfl (by decide +kernel) ⟨Nat.le_of_ble_eq_true rfl, Nat.le_of_ble_eq_true rfl⟩) (zPreV (va_recv hK hW.1 (ci := 2) (q0 := 0) rfl rfl) hK hN hW) rfl rfl hl.1 rfl (lv_room (Nat.le_of_ble_eq_true rfl)) dL_law_685 ⟨hrc _ (by omega), hrs _ (by omega)⟩) ?_
  have hdg : xDig n m9 120 τ48 ζ = xDig n m9 120 τ ζ := pDig (q := b658) (k := tr) (by omega) hro1 (by rw [hn9]; exact hro2)
  refine z_top (w := .long (xDig n m9 120 τ ζ)) (by rw [hdg]) ?_
  refine lv_lload hx hb dL_law_688 (lv_at hl 2 rfl) ?_
  refine W.lcmp hx hb dL_law_690 ?_
  refine lv_if_eq (tgt := 696) hx hb dL_law_691 (by decide) (fun _ => ?_) (fun c8 => absurd (show lg_cmp _ _ = 0 by simp [lg_cmp]) c8)
  exact kend _ _ _ _ _ _ hS hI hPB (by omega) (by omega) (lv_sub hl [3, 4, 5, 6] rfl)

set_option maxHeartbeats 4000000 in
set_option maxRecDepth 100000 in
theorem pw_time (l : Launch) (hl9 : l.stackTraces = false) {p : Program} {e : Env} {s : State} {m : MethodId} {below : List Frame} {meth : Method} {c : Code} {Q : State → Prop} {D : va_G} {G : Nat → ClassId} {b L : Nat} {xs : Nat → Int32} {ax : Nat} {n m9 : Int} {τ ζ : Nat → Nat → Int} {f : Nat → Int32} {o N : Nat} {H : Heap} {locs : List Loc} {cells slots : Nat} {ls : Array Slot} {tm : Int} (hx : p.tables.exec = Jvm.exec) (hb : c.code = cL_law) (hml : c.maxLocals = 20) (hown : s.vm.findClass RL = some m.cls) (hts : ∀ w ∈ wsL_law, w.before #[Value.ref b] s = true) (hK : va_K D vwCl (zTy G) s) (hN : zN s) (hT0 : zTz s.heap.size s s.heap) (hX : va_X b L xs s s.heap) (hbl : b < s.heap.size) (hL9 : L ≤ 260) (hn : 2 ≤ n ∧ n ≤ 7) (hS : va_S (fun q => s.heap.size ≤ q) s.heap H locs) (hI : PI D G ax s.heap.size o N n m9 τ ζ f H) (hPB : PB n τ) (hcB : cells ≤ 400000) (hsB : slots ≤ 5000000) (htm : 0 ≤ tm ∧ tm < 10) (hl : lv_has ls 20 [(0, .ref b), (1, .ref ax), (2, .int (zI (n))), (4, .int (zI (tm)))]) (kend : ∀ (o1 : Nat) (τ1 : Nat → Nat → Int) (f1 : Nat → Int32) (H1 : Heap) (locs1 : List Loc) (c1 s1 : Nat) (ls1 : Array Slot), va_S (fun q => s.heap.size ≤ q) s.heap H1 locs1 → PI D G ax s.heap.size o1 8 n m9 τ1 ζ f1 H1 → PB n τ1 → c1 ≤ cells + 15000 → s1 ≤ slots + 90000 → lv_has ls1 20 [(0, .ref b), (1, .ref ax), (2, .int (zI (n))), (4, .int (zI (tm)))] → W p l e room_1 s m #[Value.ref b] below meth c H1 locs1 c1 s1 Q (F0 m 696 ls1 [])) : W p l e room_1 s m #[Value.ref b] below meth c H locs cells slots Q (F0 m 127 ls []) := by
  have hbz : ¬ s.heap.size ≤ b := Nat.not_le.mpr hbl
  have hzz : s.heap.size ≤ s.heap.size := Nat.le_refl _
  have hrc : ∀ k : Nat, k ≤ 600104 → k ≤ room_1.cells := fun _ h => h
  have hrs : ∀ k : Nat, k ≤ 7301314 → k ≤ room_1.slots := fun _ h => h
  obtain ⟨g, lab, cs, ss, hOK, hXL, ho, hzl, hW, hP⟩ := id hI
  refine lv_aload_n hx hb dL_law_127 rfl (lv_at hl 0 rfl) ?_
  refine lv_bipush (v := zI (10)) hx hb dL_law_128 (by decide) ?_
  refine lv_iload hx hb dL_law_130 (lv_at hl 3 rfl) ?_
  refine lv_iconst (v := zI (3)) hx hb dL_law_132 rfl ?_
  refine z_irem hx hb (by omega) dL_law_133 ?_
  refine z_iadd hx hb dL_law_134 ?_
  refine z_call (va_runS (As := [.ref b, .int (zI ((10) + ((tm) % (3))))]) (rest := []) ⟨hx, hb, hml, hown, hts⟩ (kL_cell l b L xs hL9 ((10) + ((tm) % (3))) (by omega)) (va_cwS 2 hts gL_law_L_cell rfl rfl rfl (by decide +kernel) ⟨Nat.le_of_ble_eq_true rfl, Nat.le_of_ble_eq_true rfl⟩) (zPsreS (hX.kept (hS.2.1 b hbl hbz))) rfl rfl hl.1 rfl (lv_room (Nat.le_of_ble_eq_true rfl)) dL_law_135 ⟨hrc _ (by omega), hrs _ (by omega)⟩) ?_
  obtain ⟨x135, he_x135⟩ : ∃ q : Int32, pCl L xs ((10) + ((tm) % (3))) = q := ⟨_, rfl⟩
  refine z_raw he_x135 ?_
  refine lv_iload hx hb dL_law_138 (lv_at hl 3 rfl) ?_
  refine lv_sipush (v := zI (2741)) hx hb dL_law_140 (by decide) ?_
  refine z_imul hx hb dL_law_143 ?_
  refine lv_ixor hx hb dL_law_144 ?_
  obtain ⟨x5, he_x5⟩ : ∃ q : Int32, (x135) ^^^ zI ((tm) * (2741)) = q := ⟨_, rfl⟩
  refine z_raw he_x5 ?_
  refine lv_istore (lv' := [(5, .int (x5)), (0, .ref b), (1, .ref ax), (2, .int (zI (n))), (4, .int (zI (tm)))]) hx hb dL_law_145 hl (by decide) rfl (fun ls hl => ?_)
  refine lv_iload hx hb dL_law_147 (lv_at hl 0 rfl) ?_
  refine lv_iload_n hx hb dL_law_149 rfl (lv_at hl 3 rfl) ?_
  refine z_call (va_runS (As := [.int (x5), .int (zI (n))]) (rest := []) ⟨hx, hb, hml, hown, hts⟩ (kL_below l D G ((x5)) (n) (by omega)) (va_cwS 2 hts gL_law_L_below rfl rfl rfl (by decide +kernel) ⟨Nat.le_of_ble_eq_true rfl, Nat.le_of_ble_eq_true rfl⟩) (zPreS hK hN trivial) rfl rfl hl.1 rfl (lv_room (Nat.le_of_ble_eq_true rfl)) dL_law_150 ⟨hrc _ (by omega), hrs _ (by omega)⟩) ?_
  obtain ⟨b150, he_b150, hb_b150⟩ : ∃ q : Int, pBl ((x5)) (n) = q ∧ 0 ≤ q ∧ q < n := ⟨_, rfl, pBl_b (by omega)⟩
  refine z_val he_b150 ?_
  refine lv_istore (lv' := [(6, .int (zI (b150))), (5, .int (x5)), (0, .ref b), (1, .ref ax), (2, .int (zI (n))), (4, .int (zI (tm)))]) hx hb dL_law_153 hl (by decide) rfl (fun ls hl => ?_)
  refine lv_iload hx hb dL_law_155 (lv_at hl 1 rfl) ?_
  refine lv_iconst (v := zI (4)) hx hb dL_law_157 rfl ?_
  refine lv_ishr hx hb dL_law_158 ?_
  refine lv_iconst (v := zI (3)) hx hb dL_law_159 rfl ?_
  refine z_call (va_runS (As := [.int ((x5) >>> (zI (4) &&& 31)), .int (zI (3))]) (rest := []) ⟨hx, hb, hml, hown, hts⟩ (kL_below l D G (((x5) >>> (zI (4) &&& 31))) (3) (by omega)) (va_cwS 2 hts gL_law_L_below rfl rfl rfl (by decide +kernel) ⟨Nat.le_of_ble_eq_true rfl, Nat.le_of_ble_eq_true rfl⟩) (zPreS hK hN trivial) rfl rfl hl.1 rfl (lv_room (Nat.le_of_ble_eq_true rfl)) dL_law_160 ⟨hrc _ (by omega), hrs _ (by omega)⟩) ?_
  obtain ⟨b160, he_b160, hb_b160⟩ : ∃ q : Int, pBl (((x5) >>> (zI (4) &&& 31))) (3) = q ∧ 0 ≤ q ∧ q < 3 := ⟨_, rfl, pBl_b (by omega)⟩
  refine z_val he_b160 ?_
  refine lv_istore (lv' := [(7, .int (zI (b160))), (6, .int (zI (b150))), (5, .int (x5)), (0, .ref b), (1, .ref ax), (2, .int (zI (n))), (4, .int (zI (tm)))]) hx hb dL_law_163 hl (by decide) rfl (fun ls hl => ?_)
  refine lv_iload hx hb dL_law_165 (lv_at hl 2 rfl) ?_
  refine lv_bipush (v := zI (7)) hx hb dL_law_167 (by decide) ?_
  refine lv_ishr hx hb dL_law_169 ?_
  refine lv_iconst (v := zI (3)) hx hb dL_law_170 rfl ?_
  refine z_call (va_runS (As := [.int ((x5) >>> (zI (7) &&& 31)), .int (zI (3))]) (rest := []) ⟨hx, hb, hml, hown, hts⟩ (kL_below l D G (((x5) >>> (zI (7) &&& 31))) (3) (by omega)) (va_cwS 2 hts gL_law_L_below rfl rfl rfl (by decide +kernel) ⟨Nat.le_of_ble_eq_true rfl, Nat.le_of_ble_eq_true rfl⟩) (zPreS hK hN trivial) rfl rfl hl.1 rfl (lv_room (Nat.le_of_ble_eq_true rfl)) dL_law_171 ⟨hrc _ (by omega), hrs _ (by omega)⟩) ?_
  obtain ⟨b171, he_b171, hb_b171⟩ : ∃ q : Int, pBl (((x5) >>> (zI (7) &&& 31))) (3) = q ∧ 0 ≤ q ∧ q < 3 := ⟨_, rfl, pBl_b (by omega)⟩
  refine z_val he_b171 ?_
  refine z_pick hx hb (P := b171 = 0) dL_law_177 dL_law_178 dL_law_181 (fun kt kf => z_if_ne (tgt := 181) hx hb (by omega) dL_law_174 (by decide) (fun c9 => kf c9) (fun c9 => kt c9)) ?_
  refine z_raw (pO_z (b171 = 0)) ?_
  obtain ⟨v8, he_v8, hv8⟩ : ∃ q : Int, pO (b171 = 0) = q ∧ (q = 0 ∨ q = 1) := ⟨_, rfl, pO_b _⟩
  refine z_val he_v8 ?_
  refine lv_istore (lv' := [(8, .int (zI (v8))), (7, .int (zI (b160))), (6, .int (zI (b150))), (5, .int (x5)), (0, .ref b), (1, .ref ax), (2, .int (zI (n))), (4, .int (zI (tm)))]) hx hb dL_law_182 hl (by decide) rfl (fun ls hl => ?_)
  refine lv_aload_n hx hb dL_law_184 rfl (lv_at hl 5 rfl) ?_
  refine lv_iload hx hb dL_law_185 (lv_at hl 2 rfl) ?_
  refine lv_iconst (v := zI (5)) hx hb dL_law_187 rfl ?_
  refine lv_iload hx hb dL_law_188 (lv_at hl 1 rfl) ?_
  refine z_iadd hx hb dL_law_190 ?_
  refine z_callX (vx_runV (As := [.int (zI (b150)), .int (zI ((5) + (b160)))]) (rest := []) ⟨hx, hb, hml, hown, hts⟩ (kX2_track l D G hl9 ax (n) (m9) 120 τ ζ g cs ss hOK (b150) ((5) + (b160)) (by omega) (by omega)) (cwV 2 hts gL_law_X2_track rfl rfl rfl (by decide +kernel) ⟨Nat.le_of_ble_eq_true rfl, Nat.le_of_ble_eq_true rfl⟩) (zPTreV (va_recv hK hW.1 (ci := 2) (q0 := 0) rfl rfl) hK hN (hT0.kp hS).t hW) rfl rfl hl.1 rfl (lv_room (Nat.le_of_ble_eq_true rfl)) dL_law_191 ⟨hrc _ (by omega), hrs _ (by omega)⟩) (fun E ce qx9 H1 hco hz1 hk1 hce hcv hcl => False.elim (hco.2 (by omega))) (fun hC => ?_)
  have hb5 := hOK.tb (k := b150) (by omega)
  have h57 : τ b150.toNat (5 + b160).toNat = 0 ∨ τ b150.toNat (5 + b160).toNat = 1 := by rcases (show b160 = 0 ∨ b160 = 1 ∨ b160 = 2 by omega) with h | h | h <;> rw [h] <;> first | exact hb5.2.2.2.2.2.2.2.2.2.2.1 | exact hb5.2.2.2.2.2.2.2.2.2.2.2.1 | exact hb5.2.2.2.2.2.2.2.2.2.2.2.2
  refine z_val (y := τ (b150).toNat (5 + b160).toNat) rfl ?_
  refine lv_iconst (v := zI (1)) hx hb dL_law_194 rfl ?_
  refine z_pick hx hb (P := τ (b150).toNat (5 + b160).toNat = 1) dL_law_198 dL_law_199 dL_law_202 (fun kt kf => z_icmp_ne (tgt := 202) hx hb (by omega) dL_law_195 (by decide) (fun c9 => kf c9) (fun c9 => kt c9)) ?_
  refine lv_istore (lv' := [(9, .int (zB (τ (b150).toNat (5 + b160).toNat = 1))), (8, .int (zI (v8))), (7, .int (zI (b160))), (6, .int (zI (b150))), (5, .int (x5)), (0, .ref b), (1, .ref ax), (2, .int (zI (n))), (4, .int (zI (tm)))]) hx hb dL_law_203 hl (by decide) rfl (fun ls hl => ?_)
  refine lv_aload_n hx hb dL_law_205 rfl (lv_at hl 6 rfl) ?_
  refine lv_iload hx hb dL_law_206 (lv_at hl 3 rfl) ?_
  refine lv_iload hx hb dL_law_208 (lv_at hl 2 rfl) ?_
  refine lv_iload hx hb dL_law_210 (lv_at hl 1 rfl) ?_
  have hA9 := PI.hA hOK.2.1 hXL hzl (k := b150) (by omega)
  refine z_callXM (vx_runV (As := [.int (zI (b150)), .int (zI (b160)), .int (zI (v8))]) (rest := []) ⟨hx, hb, hml, hown, hts⟩ (kX2_turn l D G hl9 ax (n) (m9) 120 τ ζ g cs ss hOK lab hXL (b150) (b160) (v8) (by omega) (by omega) (by omega)) (cwV 3 hts gL_law_X2_turn rfl rfl rfl (by decide +kernel) ⟨Nat.le_of_ble_eq_true rfl, Nat.le_of_ble_eq_true rfl⟩) (zPTreV (va_recv hK hW.1 (ci := 2) (q0 := 0) rfl rfl) hK hN (hT0.kp hS).t (hW)) rfl rfl hl.1 rfl (lv_room (Nat.le_of_ble_eq_true rfl)) dL_law_212 ⟨hrc _ (by omega), hrs _ (by omega)⟩) hS (fun q _ h9 => hA9 q h9) hA9 (fun E ce qx9 H1 locs1 hco hz1 hk1 hS1 hce hcv hcl => False.elim (hco.2 (by omega))) (fun H49 locs50 hC hp1 hz1 hk1 hS1 => ?_)
  clear hA9
  have hOK9 := hOK.up (k := (b150).toNat) (xFw_ok (i := (5 + b160).toNat) (v := v8) (hOK.t (k := b150) (by omega)) (by omega) (by omega))
  obtain ⟨τ51, he_τ51⟩ : ∃ q : Nat → Nat → Int, q = va_up τ (b150).toNat (va_up (τ (b150).toNat) (5 + b160).toNat (v8)) := ⟨_, rfl⟩
  have hI9 := PI.mut hXL ho hzl hP (k := b150) (by omega) hOK9 hp1 hk1
  rw [← he_τ51] at hI9
  have hI : PI D G ax s.heap.size o N (n) (m9) τ51 ζ f H49 := hI9
  clear hI9 hOK9
  have hPB : PB (n) τ51 := by rw [he_τ51]; exact PB.up hPB ⟨by rw [va_up_ne _ _ (by omega)]; exact (hPB (b150) (by omega) (by omega)).1, by rw [va_up_ne _ _ (by omega)]; exact (hPB (b150) (by omega) (by omega)).2⟩
  have hS := hS1
  obtain ⟨g, lab, cs, ss, hOK, hXL, ho, hzl, hW, hP⟩ := id hI
  refine lv_iload hx hb dL_law_215 (lv_at hl 0 rfl) ?_
  refine lv_icmp_eq (tgt := 222) hx hb dL_law_217 (by decide) (fun _ => ?_) (fun c9 => absurd rfl c9)
  refine lv_iload hx hb dL_law_222 (lv_at hl 4 rfl) ?_
  refine lv_bipush (v := zI (9)) hx hb dL_law_224 (by decide) ?_
  refine lv_ishr hx hb dL_law_226 ?_
  refine lv_sipush (v := zI (200)) hx hb dL_law_227 (by decide) ?_
  refine z_call (va_runS (As := [.int ((x5) >>> (zI (9) &&& 31)), .int (zI (200))]) (rest := []) ⟨hx, hb, hml, hown, hts⟩ (kL_below l D G (((x5) >>> (zI (9) &&& 31))) (200) (by omega)) (va_cwS 2 hts gL_law_L_below rfl rfl rfl (by decide +kernel) ⟨Nat.le_of_ble_eq_true rfl, Nat.le_of_ble_eq_true rfl⟩) (zPreS hK hN trivial) rfl rfl hl.1 rfl (lv_room (Nat.le_of_ble_eq_true rfl)) dL_law_230 ⟨hrc _ (by omega), hrs _ (by omega)⟩) ?_
  obtain ⟨b230, he_b230, hb_b230⟩ : ∃ q : Int, pBl (((x5) >>> (zI (9) &&& 31))) (200) = q ∧ 0 ≤ q ∧ q < 200 := ⟨_, rfl, pBl_b (by omega)⟩
  refine z_val he_b230 ?_
  refine lv_istore (lv' := [(10, .int (zI (b230))), (9, .int (zB (τ (b150).toNat (5 + b160).toNat = 1))), (8, .int (zI (v8))), (7, .int (zI (b160))), (6, .int (zI (b150))), (5, .int (x5)), (0, .ref b), (1, .ref ax), (2, .int (zI (n))), (4, .int (zI (tm)))]) hx hb dL_law_233 hl (by decide) rfl (fun ls hl => ?_)
  refine lv_iload hx hb dL_law_235 (lv_at hl 0 rfl) ?_
  refine lv_bipush (v := zI (30)) hx hb dL_law_237 (by decide) ?_
  refine z_iadd hx hb dL_law_239 ?_
  refine lv_istore (lv' := [(11, .int (zI ((b230) + (30)))), (10, .int (zI (b230))), (9, .int (zB (τ (b150).toNat (5 + b160).toNat = 1))), (8, .int (zI (v8))), (7, .int (zI (b160))), (6, .int (zI (b150))), (5, .int (x5)), (0, .ref b), (1, .ref ax), (2, .int (zI (n))), (4, .int (zI (tm)))]) hx hb dL_law_240 hl (by decide) rfl (fun ls hl => ?_)
  refine lv_bipush (v := zI (8)) hx hb dL_law_242 (by decide) ?_
  refine va_forget hS.2.2 ?_
  refine z_newa (D := D) (ws := []) (A := fun q => H49.size ≤ q) (H0 := H49) (atype := .int) (ty := .int) hx hb (hts (.arrayClass .int) (by decide +kernel)) rfl hK (fun k q h => by simp at h) ⟨fun i j p q h => by simp at h, fun k q h => by simp at h⟩ va_S.rf (fun _ h => h) 0 rfl (N' := 8) (a0 := (8, .inl (fun _ => 0))) (fun _ => rfl) rfl ⟨Nat.le_of_ble_eq_true rfl, Nat.le_of_ble_eq_true rfl⟩ (hrc _ (by omega)) (hrs _ (by omega)) dL_law_244 (fun o2 H8 hPn _ hSn hon => ?_)
  have hI : PI D G ax s.heap.size o2 8 n m9 τ51 ζ (fun _ => 0) H8 := PI.new hI hPn hon hS.1 hSn.old
  have hS := hS.tr hSn
  clear hPn hSn hon
  obtain ⟨g, lab, cs, ss, hOK, hXL, ho, hzl, hW, hP⟩ := id hI
  refine lv_astore (lv' := [(12, .ref o2), (11, .int (zI ((b230) + (30)))), (10, .int (zI (b230))), (9, .int (zB (τ (b150).toNat (5 + b160).toNat = 1))), (8, .int (zI (v8))), (7, .int (zI (b160))), (6, .int (zI (b150))), (5, .int (x5)), (0, .ref b), (1, .ref ax), (2, .int (zI (n))), (4, .int (zI (tm)))]) hx hb dL_law_246 hl (by decide) rfl (fun ls hl => ?_)
  refine lv_iload hx hb dL_law_248 (lv_at hl 2 rfl) ?_
  refine lv_istore (lv' := [(13, .int (zI (b230))), (12, .ref o2), (11, .int (zI ((b230) + (30)))), (10, .int (zI (b230))), (9, .int (zB (τ (b150).toNat (5 + b160).toNat = 1))), (8, .int (zI (v8))), (7, .int (zI (b160))), (6, .int (zI (b150))), (5, .int (x5)), (0, .ref b), (1, .ref ax), (2, .int (zI (n))), (4, .int (zI (tm)))]) hx hb dL_law_250 hl (by decide) rfl (fun ls hl => ?_)
  refine pw_u l hl9 hx hb hml hown hts hK hN hT0 hX hbl hL9 (a9 := b230) hn hS hI hPB (by omega) (by omega) (by omega) (CI.zero _ _ _) (lv_sub hl [9, 10, 11, 12, 8, 7, 3, 2, 1, 0] rfl) (fun f2 H2 locs2 c2 s2 ls hS hI hCI hc9 hs9 hl => ?_)
  refine lv_iconst (v := zI (0)) hx hb dL_law_493 rfl ?_
  refine z_raw (y := zB False) (by rw [zB_f (fun h => h)]; rfl) ?_
  refine lv_istore (lv' := [(13, .int (zB (False))), (0, .ref b), (1, .ref ax), (2, .int (zI (n))), (4, .int (zI (tm))), (5, .int (x5)), (6, .int (zI (b150))), (10, .int (zI (b230))), (11, .int (zI ((b230) + (30)))), (12, .ref o2)]) hx hb dL_law_494 hl (by decide) rfl (fun ls hl => ?_)
  refine lv_iconst (v := zI (0)) hx hb dL_law_496 rfl ?_
  refine lv_istore (lv' := [(14, .int (zI (0))), (13, .int (zB (False))), (0, .ref b), (1, .ref ax), (2, .int (zI (n))), (4, .int (zI (tm))), (5, .int (x5)), (6, .int (zI (b150))), (10, .int (zI (b230))), (11, .int (zI ((b230) + (30)))), (12, .ref o2)]) hx hb dL_law_497 hl (by decide) rfl (fun ls hl => ?_)
  refine pw_solo l hl9 hx hb hml hown hts hK hN hT0 hX hbl hL9 hn hS hI hPB (by omega) (by omega) (lv_sub hl [2, 3, 4, 5, 6, 7, 8, 9, 10, 1, 0] rfl) (fun B9 c3 s3 ls hBs hc8 hs8 hl => ?_)
  refine lv_iconst (v := zI (0)) hx hb dL_law_533 rfl ?_
  refine lv_istore (lv' := [(14, .int (zI (0))), (0, .ref b), (1, .ref ax), (2, .int (zI (n))), (4, .int (zI (tm))), (5, .int (x5)), (6, .int (zI (b150))), (10, .int (zI (b230))), (11, .int (zI ((b230) + (30)))), (12, .ref o2), (13, .int (zB (B9)))]) hx hb dL_law_534 hl (by decide) rfl (fun ls hl => ?_)
  refine pw_cnt l hl9 hx hb hml hown hts hK hN hT0 hX hbl hL9 (a9 := b230) hn hS hI hPB (by omega) (by omega) (by omega) hBs hCI (lv_sub hl [1, 2, 3, 4, 5, 6, 7, 8, 9, 10, 0] rfl) (fun c4 s4 ls hc7 hs7 hl => ?_)
  exact pw_dig l hl9 hx hb hml hown hts hK hN hT0 hX hbl hL9 hn hS hI hPB (by omega) (by omega) (by omega) (lv_sub hl [0, 1, 2, 3, 4, 5] rfl) (fun τ3 H3 locs3 c5 s5 ls5 hS5 hI5 hPB5 hc6 hs6 hl5 => kend _ _ _ _ _ _ _ _ hS5 hI5 hPB5 (by omega) (by omega) hl5)

set_option maxHeartbeats 4000000 in
set_option maxRecDepth 100000 in
theorem pw_times (l : Launch) (hl9 : l.stackTraces = false) {p : Program} {e : Env} {s : State} {m : MethodId} {below : List Frame} {meth : Method} {c : Code} {Q : State → Prop} {D : va_G} {G : Nat → ClassId} {b L : Nat} {xs : Nat → Int32} {ax : Nat} {n m9 : Int} {τ ζ : Nat → Nat → Int} {f : Nat → Int32} {o N : Nat} {H : Heap} {locs : List Loc} {cells slots : Nat} {ls : Array Slot}  (hx : p.tables.exec = Jvm.exec) (hb : c.code = cL_law) (hml : c.maxLocals = 20) (hown : s.vm.findClass RL = some m.cls) (hts : ∀ w ∈ wsL_law, w.before #[Value.ref b] s = true) (hK : va_K D vwCl (zTy G) s) (hN : zN s) (hT0 : zTz s.heap.size s s.heap) (hX : va_X b L xs s s.heap) (hbl : b < s.heap.size) (hL9 : L ≤ 260) (hn : 2 ≤ n ∧ n ≤ 7) (hS : va_S (fun q => s.heap.size ≤ q) s.heap H locs) (hI : PI D G ax s.heap.size o N n m9 τ ζ f H) (hPB : PB n τ) (hcB : cells ≤ 100000) (hsB : slots ≤ 1000000) (hl : lv_has ls 20 [(0, .ref b), (1, .ref ax), (2, .int (zI (n))), (4, .int (zI (0)))]) (kend : ∀ (tm : Int) (o1 N1 : Nat) (τ1 : Nat → Nat → Int) (f1 : Nat → Int32) (H1 : Heap) (locs1 : List Loc) (c1 s1 : Nat) (ls1 : Array Slot), va_S (fun q => s.heap.size ≤ q) s.heap H1 locs1 → PI D G ax s.heap.size o1 N1 n m9 τ1 ζ f1 H1 → c1 ≤ cells + 150000 → s1 ≤ slots + 900000 → lv_has ls1 20 [(0, .ref b), (1, .ref ax), (2, .int (zI (n))), (4, .int (zI (tm)))] → W p l e room_1 s m #[Value.ref b] below meth c H1 locs1 c1 s1 Q (F0 m 702 ls1 [])) : W p l e room_1 s m #[Value.ref b] below meth c H locs cells slots Q (F0 m 120 ls []) := by
  have hbz : ¬ s.heap.size ≤ b := Nat.not_le.mpr hbl
  have hzz : s.heap.size ≤ s.heap.size := Nat.le_refl _
  have hrc : ∀ k : Nat, k ≤ 600104 → k ≤ room_1.cells := fun _ h => h
  have hrs : ∀ k : Nat, k ≤ 7301314 → k ≤ room_1.slots := fun _ h => h
  have loop_120 : ∀ (fu : Nat) (tm : Int) (o N : Nat) (τ : Nat → Nat → Int) (f : Nat → Int32), (0 ≤ tm ∧ tm ≤ 10) → 10 - tm < (fu : Int) → ∀ (H : Heap) (locs : List Loc) (c1 s1 : Nat), ((c1 : Int) ≤ cells + 15000 * tm) → ((s1 : Int) ≤ slots + 90000 * tm) → (va_S (fun q => s.heap.size ≤ q) s.heap H locs) → (PI D G ax s.heap.size o N n m9 τ ζ f H) → (PB n τ) → ∀ ls : Array Slot, lv_has ls 20 [(0, .ref b), (1, .ref ax), (2, .int (zI (n))), (4, .int (zI (tm)))] → W p l e room_1 s m #[Value.ref b] below meth c H locs (c1) (s1) Q (F0 m 120 ls []) := by
    intro fu
    induction fu with
    | zero =>
      intro tm o N τ f htm hm
      exfalso; omega
    | succ fu ih =>
      intro tm o N τ f htm hm H locs c1 s1 hc2 hs2 hS hI hPB ls hl
      have ih_120 := ih
      clear ih
      refine lv_iload hx hb dL_law_120 (lv_at hl 3 rfl) ?_
      refine lv_bipush (v := zI (10)) hx hb dL_law_122 (by decide) ?_
      refine z_icmp_ge (tgt := 702) hx hb (by omega) dL_law_124 (by decide) (fun c_1 => ?_) (fun c_1 => ?_)
      · exact kend _ _ _ _ _ _ _ _ _ _ hS hI (by omega) (by omega) (lv_sub hl [0, 1, 2, 3] rfl)
      · refine pw_time l hl9 hx hb hml hown hts hK hN hT0 hX hbl hL9 (tm := tm) hn hS hI hPB (by omega) (by omega) (by omega) (lv_sub hl [0, 1, 2, 3] rfl) (fun o2 τ2 f2 H2 locs2 c2 s2 ls hS hI hPB hc9 hs9 hl => ?_)
        refine lv_iinc (v := zI (tm + 1)) (lv' := [(4, .int (zI (tm + 1))), (0, .ref b), (1, .ref ax), (2, .int (zI (n)))]) hx hb dL_law_696 hl (k := 3) rfl (zI_add (tm) (1)) (by decide) rfl (fun ls hl => ?_)
        refine lv_goto (tgt := 120) hx hb dL_law_699 (by decide) ?_
        exact ih_120 (tm + 1) (o2) (8) (τ2) (f2) (by omega) (by omega) _ _ _ _ (by omega) (by omega) (hS) (hI) (hPB) _ (lv_sub hl [1, 2, 3, 0] rfl)
  exact loop_120 (12) (0) (o) (N) (τ) (f) (by omega) (by omega) _ _ _ _ (by omega) (by omega) (hS) (hI) (hPB) _ (lv_sub hl [0, 1, 2, 3] rfl)
