set_option maxHeartbeats 4000000 in
set_option maxRecDepth 100000 in
theorem kL_below (l : Launch) (D : va_G) (G : Nat → ClassId) (v : Int32) (n : Int) (hn : 0 < n ∧ n ≤ 2147483647) : Met l yL_below wsL_below ({ frames := 0, cells := 0, slots := 0, locals := 0 }) (zP [.int (v), .int (zI (n))] D G (fun H => True)) (zQ (some (.int (zI (pBl v n))))) 0 0 (fun _ => False) := by
  refine Met.ofW (cc := cL_below) (maxL := 2) (ret := (some .int)) (by decide) rfl ?_
  intro p e s m args below meth c s₁ B hml hv
  obtain ⟨hav, hP, hK, hN⟩ := hv
  have hx := B.exec
  have hb := B.bytes
  have hr := B.returns
  have hts := atoms_spec (ws := wsL_below) B.pre
  have hown : s.vm.findClass RL = some m.cls := findClass_of_methodNamed B.named
  have hlocks : meth.locks = false := B.notSynchronized
  have hv := pA_b v
  refine z_entry hav (Nat.le_of_ble_eq_true rfl) rfl (fun ls hl => ?_)
  have hl : lv_has ls 2 [(0, .int (v)), (1, .int (zI (n)))] := hl
  refine lv_iload_n hx hb dL_below_0 rfl (lv_at hl 0 rfl) ?_
  refine lv_ldc (v := 2147483647) hx hb hown (hts (.constant RL 7 (2147483647)) (by decide +kernel)) dL_below_1 ?_
  refine z_raw (y := zI 2147483647) (by decide) ?_
  refine lv_iand hx hb dL_below_3 ?_
  refine z_raw (y := zI (pA v)) (pA_z v) ?_
  refine lv_iload_n hx hb dL_below_4 rfl (lv_at hl 1 rfl) ?_
  refine z_irem hx hb (by omega) dL_below_5 ?_
  exact z_iret hx hb hr hlocks (rfl) dL_below_6

set_option maxHeartbeats 4000000 in
set_option maxRecDepth 100000 in
theorem kL_cell (l : Launch) (b L : Nat) (xs : Nat → Int32) (hL : L ≤ 260) (k : Int) (hk : 0 ≤ k ∧ k ≤ 1000) : Met l yL_cell wsL_cell ({ frames := 0, cells := 0, slots := 0, locals := 0 }) (zPs [.ref b, .int (zI (k))] b L xs) (zQ (some (.int (pCl L xs k)))) 0 0 (fun _ => False) := by
  refine Met.ofW (cc := cL_cell) (maxL := 2) (ret := (some .int)) (by decide) rfl ?_
  intro p e s m args below meth c s₁ B hml hv
  obtain ⟨hav, hX⟩ := hv
  have hx := B.exec
  have hb := B.bytes
  have hr := B.returns
  have hts := atoms_spec (ws := wsL_cell) B.pre
  have hown : s.vm.findClass RL = some m.cls := findClass_of_methodNamed B.named
  have hlocks : meth.locks = false := B.notSynchronized
  have hbl : b < s.heap.size := by
    obtain ⟨scr, h1, -⟩ := hX
    exact (Array.getElem?_eq_some_iff.mp h1).1
  have hS : va_S (fun _ => False) s.heap s.heap [] := va_S.rf
  refine z_entry hav (Nat.le_of_ble_eq_true rfl) rfl (fun ls hl => ?_)
  have hl : lv_has ls 2 [(0, .ref b), (1, .int (zI (k)))] := hl
  refine lv_iload_n hx hb dL_cell_0 rfl (lv_at hl 1 rfl) ?_
  refine lv_aload_n hx hb dL_cell_1 rfl (lv_at hl 0 rfl) ?_
  refine va_slen hx hb hX hbl (fun h => h) hS dL_cell_2 ?_
  refine z_raw (y := zI (L : Int)) rfl ?_
  refine z_icmp_ge (tgt := 12) hx hb (by omega) dL_cell_3 (by decide) (fun c_1 => ?_) (fun c_1 => ?_)
  · refine lv_ldc (v := 790386105) hx hb hown (hts (.constant RL 8 (790386105)) (by decide +kernel)) dL_cell_12 ?_
    refine z_raw (y := zI 790386105) (by decide) ?_
    refine lv_iload_n hx hb dL_cell_14 rfl (lv_at hl 1 rfl) ?_
    refine lv_iconst (v := zI (3)) hx hb dL_cell_15 rfl ?_
    refine z_iadd hx hb dL_cell_16 ?_
    refine lv_imul hx hb dL_cell_17 ?_
    exact z_rret hx hb hr hlocks (by unfold pCl; rw [if_neg (by omega)]) dL_cell_18
  · refine lv_aload_n hx hb dL_cell_6 rfl (lv_at hl 0 rfl) ?_
    refine lv_iload_n hx hb dL_cell_7 rfl (lv_at hl 1 rfl) ?_
    refine va_sld hx hb hX hbl (fun h => h) hS (zI_in (by omega) (by omega)) dL_cell_8 ?_
    refine lv_goto (tgt := 18) hx hb dL_cell_9 (by decide) ?_
    exact z_rret hx hb hr hlocks (by unfold pCl; rw [if_pos (by omega), zI_clamp (by omega)]) dL_cell_18

set_option maxHeartbeats 4000000 in
set_option maxRecDepth 100000 in
theorem kL_tracks (l : Launch) (D : va_G) (G : Nat → ClassId) (hl9 : l.stackTraces = false) (ax z0 o b L : Nat) (xs : Nat → Int32) (hL9 : L ≤ 260) (hbz : ¬ z0 ≤ b) (mn : Int) (hmn : 0 ≤ mn ∧ mn ≤ 7) (τ0 ζ : Nat → Nat → Int) (f0 : Nat → Int32) : Met l yL_tracks wsL_tracks ({ frames := 9, cells := 500, slots := 5000, locals := 201 }) (zPX [.ref ax, .ref b, .int (zI (1)), .int (zI (mn)), .ref o] D G z0 b L xs (fun H => z0 ≤ H.size ∧ PI D G ax z0 o 1600 0 0 τ0 ζ f0 H)) (zM none (fun H => ∃ (τ : Nat → Nat → Int) (f : Nat → Int32), PI D G ax z0 o 1600 mn 0 τ ζ f H ∧ PB mn τ) (fun q => z0 ≤ q)) 500 5000 (fun q => z0 ≤ q) := by
  refine Met.ofW (cc := cL_tracks) (maxL := 12) (ret := none) (by decide) rfl ?_
  intro p e s m args below meth c s₁ B hml hv
  obtain ⟨hav, ⟨hzz, hI⟩, hK, hN, hT0, hX⟩ := hv
  have hx := B.exec
  have hb := B.bytes
  have hr := B.returns
  have hts := atoms_spec (ws := wsL_tracks) B.pre
  have hown : s.vm.findClass RL = some m.cls := findClass_of_methodNamed B.named
  have hlocks : meth.locks = false := B.notSynchronized
  have hbl : b < s.heap.size := by omega
  have hS : va_S (fun q => z0 ≤ q) s.heap s.heap [] := va_S.rf
  have hrc : ∀ k : Nat, k ≤ 500 → k ≤ (headSpec wsL_tracks ({ frames := 9, cells := 500, slots := 5000, locals := 201 })).room.cells := fun _ h => h
  have hrs : ∀ k : Nat, k ≤ 5000 → k ≤ (headSpec wsL_tracks ({ frames := 9, cells := 500, slots := 5000, locals := 201 })).room.slots := fun _ h => h
  have PB0 : PB 0 τ0 := fun k h1 h2 => by omega
  refine z_entry hav (Nat.le_of_ble_eq_true rfl) rfl (fun ls hl => ?_)
  have hl : lv_has ls 12 [(0, .ref ax), (1, .ref b), (2, .int (zI (1))), (3, .int (zI (mn))), (4, .ref o)] := hl
  refine lv_iconst (v := zI (0)) hx hb dL_tracks_0 rfl ?_
  refine lv_istore (lv' := [(5, .int (zI (0))), (0, .ref ax), (1, .ref b), (2, .int (zI (1))), (3, .int (zI (mn))), (4, .ref o)]) hx hb dL_tracks_1 hl (by decide) rfl (fun ls hl => ?_)
  have loop_3 : ∀ (fu : Nat) (t : Int) (τ : Nat → Nat → Int) (f : Nat → Int32), (0 ≤ t ∧ t ≤ mn) → mn - t < (fu : Int) → ∀ (H : Heap) (locs : List Loc) (cells slots : Nat), ((cells : Int) ≤ 66 * t) → ((slots : Int) ≤ 640 * t) → (va_S (fun q => z0 ≤ q) s.heap H locs) → (PI D G ax z0 o 1600 t 0 τ ζ f H) → (PB t τ) → ∀ ls : Array Slot, lv_has ls 12 [(0, .ref ax), (1, .ref b), (2, .int (zI (1))), (3, .int (zI (mn))), (4, .ref o), (5, .int (zI (t)))] → W p l e (headSpec wsL_tracks ({ frames := 9, cells := 500, slots := 5000, locals := 201 })).room s m args below meth c H locs (cells) (slots) (MQ below (zM none (fun H => ∃ (τ : Nat → Nat → Int) (f : Nat → Int32), PI D G ax z0 o 1600 mn 0 τ ζ f H ∧ PB mn τ) (fun q => z0 ≤ q)) args s 500 5000 (fun q => z0 ≤ q)) (F0 m 3 ls []) := by
    intro fu
    induction fu with
    | zero =>
      intro t τ f ht hm
      exfalso; omega
    | succ fu ih =>
      intro t τ f ht hm H locs cells slots hc1 hs1 hS hI hPB ls hl
      have ih_3 := ih
      clear ih
      obtain ⟨g, lab, cs, ss, hOK, hXL, ho, hzl, hW, hP⟩ := id hI
      refine lv_iload hx hb dL_tracks_3 (lv_at hl 5 rfl) ?_
      refine lv_iload_n hx hb dL_tracks_5 rfl (lv_at hl 3 rfl) ?_
      refine z_icmp_ge (tgt := 387) hx hb (by omega) dL_tracks_6 (by decide) (fun c_1 => ?_) (fun c_1 => ?_)
      · have h9 : t = mn := by omega
        subst h9
        exact W.widen (k := 500) (n := 5000) (by omega) (by omega) (zm_vret hx hb hr hlocks hS ⟨_, _, hI, hPB⟩ dL_tracks_387)
      · refine lv_aload_n hx hb dL_tracks_9 rfl (lv_at hl 1 rfl) ?_
        refine lv_iload_n hx hb dL_tracks_10 rfl (lv_at hl 2 rfl) ?_
        refine lv_iload hx hb dL_tracks_11 (lv_at hl 5 rfl) ?_
        refine lv_iconst (v := zI (4)) hx hb dL_tracks_13 rfl ?_
        refine z_irem hx hb (by omega) dL_tracks_14 ?_
        refine z_iadd hx hb dL_tracks_15 ?_
        refine z_call (va_runS (As := [.ref b, .int (zI ((1) + ((t) % (4))))]) (rest := []) ⟨hx, hb, hml, hown, hts⟩ (kL_cell l b L xs hL9 ((1) + ((t) % (4))) (by omega)) (va_cwS 2 hts gL_tracks_L_cell rfl rfl rfl (by decide +kernel) ⟨Nat.le_of_ble_eq_true rfl, Nat.le_of_ble_eq_true rfl⟩) (zPsreS (hX.kept (hS.2.1 b hbl hbz))) rfl rfl hl.1 rfl (lv_room (Nat.le_of_ble_eq_true rfl)) dL_tracks_16 ⟨hrc _ (by omega), hrs _ (by omega)⟩) ?_
        obtain ⟨x16, he_x16⟩ : ∃ q : Int32, pCl L xs ((1) + ((t) % (4))) = q := ⟨_, rfl⟩
        refine z_raw he_x16 ?_
        refine lv_iload hx hb dL_tracks_19 (lv_at hl 5 rfl) ?_
        refine lv_iconst (v := zI (4)) hx hb dL_tracks_21 rfl ?_
        refine z_idiv hx hb (by omega) dL_tracks_22 ?_
        refine lv_iconst (v := zI (3)) hx hb dL_tracks_23 rfl ?_
        refine z_imul hx hb dL_tracks_24 ?_
        refine lv_ishr hx hb dL_tracks_25 ?_
        refine lv_iload hx hb dL_tracks_26 (lv_at hl 5 rfl) ?_
        refine lv_sipush (v := zI (911)) hx hb dL_tracks_28 (by decide) ?_
        refine z_imul hx hb dL_tracks_31 ?_
        refine lv_ixor hx hb dL_tracks_32 ?_
        obtain ⟨x6, he_x6⟩ : ∃ q : Int32, ((x16) >>> (zI (((t) / (4)) * (3)) &&& 31)) ^^^ zI ((t) * (911)) = q := ⟨_, rfl⟩
        refine z_raw he_x6 ?_
        refine lv_istore (lv' := [(6, .int (x6)), (0, .ref ax), (1, .ref b), (2, .int (zI (1))), (3, .int (zI (mn))), (4, .ref o), (5, .int (zI (t)))]) hx hb dL_tracks_33 hl (by decide) rfl (fun ls hl => ?_)
        refine lv_iconst (v := zI (1)) hx hb dL_tracks_35 rfl ?_
        refine lv_iload hx hb dL_tracks_36 (lv_at hl 0 rfl) ?_
        refine lv_bipush (v := zI (9)) hx hb dL_tracks_38 (by decide) ?_
        refine z_call (va_runS (As := [.int (x6), .int (zI (9))]) (rest := [.int (zI (1))]) ⟨hx, hb, hml, hown, hts⟩ (kL_below l D G ((x6)) (9) (by omega)) (va_cwS 2 hts gL_tracks_L_below rfl rfl rfl (by decide +kernel) ⟨Nat.le_of_ble_eq_true rfl, Nat.le_of_ble_eq_true rfl⟩) (zPreS hK hN trivial) rfl rfl hl.1 rfl (lv_room (Nat.le_of_ble_eq_true rfl)) dL_tracks_40 ⟨hrc _ (by omega), hrs _ (by omega)⟩) ?_
        obtain ⟨b40, he_b40, hb_b40⟩ : ∃ q : Int, pBl ((x6)) (9) = q ∧ 0 ≤ q ∧ q < 9 := ⟨_, rfl, pBl_b (by omega)⟩
        refine z_val he_b40 ?_
        refine z_iadd hx hb dL_tracks_43 ?_
        refine lv_istore (lv' := [(7, .int (zI ((1) + (b40)))), (6, .int (x6)), (0, .ref ax), (1, .ref b), (2, .int (zI (1))), (3, .int (zI (mn))), (4, .ref o), (5, .int (zI (t)))]) hx hb dL_tracks_44 hl (by decide) rfl (fun ls hl => ?_)
        refine lv_iconst (v := zI (1)) hx hb dL_tracks_46 rfl ?_
        refine lv_iload hx hb dL_tracks_47 (lv_at hl 1 rfl) ?_
        refine lv_iconst (v := zI (4)) hx hb dL_tracks_49 rfl ?_
        refine lv_ishr hx hb dL_tracks_50 ?_
        refine lv_bipush (v := zI (12)) hx hb dL_tracks_51 (by decide) ?_
        refine z_call (va_runS (As := [.int ((x6) >>> (zI (4) &&& 31)), .int (zI (12))]) (rest := [.int (zI (1))]) ⟨hx, hb, hml, hown, hts⟩ (kL_below l D G (((x6) >>> (zI (4) &&& 31))) (12) (by omega)) (va_cwS 2 hts gL_tracks_L_below rfl rfl rfl (by decide +kernel) ⟨Nat.le_of_ble_eq_true rfl, Nat.le_of_ble_eq_true rfl⟩) (zPreS hK hN trivial) rfl rfl hl.1 rfl (lv_room (Nat.le_of_ble_eq_true rfl)) dL_tracks_53 ⟨hrc _ (by omega), hrs _ (by omega)⟩) ?_
        obtain ⟨b53, he_b53, hb_b53⟩ : ∃ q : Int, pBl (((x6) >>> (zI (4) &&& 31))) (12) = q ∧ 0 ≤ q ∧ q < 12 := ⟨_, rfl, pBl_b (by omega)⟩
        refine z_val he_b53 ?_
        refine z_iadd hx hb dL_tracks_56 ?_
        refine lv_istore (lv' := [(8, .int (zI ((1) + (b53)))), (7, .int (zI ((1) + (b40)))), (6, .int (x6)), (0, .ref ax), (1, .ref b), (2, .int (zI (1))), (3, .int (zI (mn))), (4, .ref o), (5, .int (zI (t)))]) hx hb dL_tracks_57 hl (by decide) rfl (fun ls hl => ?_)
        refine lv_aload_n hx hb dL_tracks_59 rfl (lv_at hl 3 rfl) ?_
        refine lv_iload hx hb dL_tracks_60 (lv_at hl 1 rfl) ?_
        refine lv_iload hx hb dL_tracks_62 (lv_at hl 0 rfl) ?_
        have hA9 := PI.hA0 hXL hzl (H := H) (Nat.le_trans hzz hS.1)
        refine z_callXM (vx_runV (As := [.int (zI ((1) + (b40))), .int (zI ((1) + (b53)))]) (rest := []) ⟨hx, hb, hml, hown, hts⟩ (kX2_addTrack l D G hl9 ax (t) (0) 120 τ ζ g cs ss hOK lab hXL H.size ((1) + (b40)) ((1) + (b53)) (by omega) (by omega)) (cwV 2 hts gL_tracks_X2_addTrack rfl rfl rfl (by decide +kernel) ⟨Nat.le_of_ble_eq_true rfl, Nat.le_of_ble_eq_true rfl⟩) (zPTreV (va_recv hK hW.1 (ci := 2) (q0 := 0) rfl rfl) hK hN (hT0.kp hS).t (⟨rfl, hW⟩)) rfl rfl hl.1 rfl (lv_room (Nat.le_of_ble_eq_true rfl)) dL_tracks_64 ⟨hrc _ (by omega), hrs _ (by omega)⟩) hS (fun q _ h9 => hA9 q h9) hA9 (fun E ce qx9 H1 locs1 hco hz1 hk1 hS1 hce hcv hcl => False.elim (hco.elim (fun h9 => h9.2 (by omega)) (fun h9 => h9.2.2 (by omega)))) (fun H1 locs2 hC hp1 hz1 hk1 hS1 => ?_)
        clear hA9
        have hOK9 := hOK.add9 hC.2 (xF0_ok hC.1.1 hC.1.2)
        obtain ⟨τ3, he_τ3⟩ : ∃ q : Nat → Nat → Int, q = va_up τ (t).toNat (xF0 ((1) + (b40)) ((1) + (b53))) := ⟨_, rfl⟩
        have hI9 := PI.add hXL ho hzl (Nat.le_trans hzz hS.1) hP hOK9 hp1 hk1
        rw [← he_τ3] at hI9
        have hI : PI D G ax z0 o 1600 (t + 1) (0) τ3 ζ f H1 := hI9
        clear hI9 hOK9
        have hPB : PB (t + 1) τ3 := by rw [he_τ3]; exact PB.add hPB ⟨by have h8 : xF0 ((1) + (b40)) ((1) + (b53)) 0 = (1) + (b40) := rfl; omega, by have h8 : xF0 ((1) + (b40)) ((1) + (b53)) 3 = 10 := rfl; omega⟩
        have hf9 : τ3 t.toNat = xF0 ((1) + (b40)) ((1) + (b53)) := by rw [he_τ3]; exact if_pos rfl
        have hn9 : τ3 t.toNat 0 = (1) + (b40) := by rw [hf9]; rfl
        have hd9 : τ3 t.toNat 1 = (1) + (b53) := by rw [hf9]; rfl
        have hS := hS1
        obtain ⟨g, lab, cs, ss, hOK, hXL, ho, hzl, hW, hP⟩ := id hI
        refine lv_pop hx hb dL_tracks_67 rfl ?_
        refine lv_aload hx hb dL_tracks_68 (lv_at hl 7 rfl) ?_
        refine lv_sipush (v := zI (200)) hx hb dL_tracks_70 (by decide) ?_
        refine lv_iload hx hb dL_tracks_73 (lv_at hl 8 rfl) ?_
        refine z_imul hx hb dL_tracks_75 ?_
        refine lv_iload hx hb dL_tracks_76 (lv_at hl 1 rfl) ?_
        refine z_iast2 hx hb hK hP hS (show z0 ≤ o from Nat.not_lt.mp (fun h8 => by have h7 := hzl _ h8; omega)) 0 rfl (by omega) (by omega) dL_tracks_78 (fun H4 locs5 hP1 hz1 hk1 hS1 => ?_)
        obtain ⟨f6, he_f6⟩ : ∃ q : Nat → Int32, q = upd f ((200) * (t)).toNat (zI ((1) + (b40))) := ⟨_, rfl⟩
        have hP2 : va_P D vwCl (oI G o 1600 f6) H4 := by rw [he_f6]; exact hP1
        have hI : PI D G ax z0 o 1600 (t + 1) (0) τ3 ζ f6 H4 := PI.put hI hP2 hk1
        have hS := hS1
        clear hP1 hP2 hS1 hk1 hz1
        obtain ⟨g, lab, cs, ss, hOK, hXL, ho, hzl, hW, hP⟩ := id hI
        refine lv_aload hx hb dL_tracks_79 (lv_at hl 7 rfl) ?_
        refine lv_sipush (v := zI (200)) hx hb dL_tracks_81 (by decide) ?_
        refine lv_iload hx hb dL_tracks_84 (lv_at hl 8 rfl) ?_
        refine z_imul hx hb dL_tracks_86 ?_
        refine lv_iconst (v := zI (1)) hx hb dL_tracks_87 rfl ?_
        refine z_iadd hx hb dL_tracks_88 ?_
        refine lv_iload hx hb dL_tracks_89 (lv_at hl 0 rfl) ?_
        refine z_iast2 hx hb hK hP hS (show z0 ≤ o from Nat.not_lt.mp (fun h8 => by have h7 := hzl _ h8; omega)) 0 rfl (by omega) (by omega) dL_tracks_91 (fun H7 locs8 hP1 hz1 hk1 hS1 => ?_)
        obtain ⟨f9, he_f9⟩ : ∃ q : Nat → Int32, q = upd f6 (((200) * (t)) + (1)).toNat (zI ((1) + (b53))) := ⟨_, rfl⟩
        have hP2 : va_P D vwCl (oI G o 1600 f9) H7 := by rw [he_f9]; exact hP1
        have hI : PI D G ax z0 o 1600 (t + 1) (0) τ3 ζ f9 H7 := PI.put hI hP2 hk1
        have hS := hS1
        clear hP1 hP2 hS1 hk1 hz1
        obtain ⟨g, lab, cs, ss, hOK, hXL, ho, hzl, hW, hP⟩ := id hI
        refine lv_aload hx hb dL_tracks_92 (lv_at hl 7 rfl) ?_
        refine lv_sipush (v := zI (200)) hx hb dL_tracks_94 (by decide) ?_
        refine lv_iload hx hb dL_tracks_97 (lv_at hl 8 rfl) ?_
        refine z_imul hx hb dL_tracks_99 ?_
        refine lv_iconst (v := zI (2)) hx hb dL_tracks_100 rfl ?_
        refine z_iadd hx hb dL_tracks_101 ?_
        refine lv_iload hx hb dL_tracks_102 (lv_at hl 2 rfl) ?_
        refine lv_bipush (v := zI (9)) hx hb dL_tracks_104 (by decide) ?_
        refine lv_ishr hx hb dL_tracks_106 ?_
        refine lv_iload hx hb dL_tracks_107 (lv_at hl 0 rfl) ?_
        refine z_call (va_runS (As := [.int ((x6) >>> (zI (9) &&& 31)), .int (zI ((1) + (b53)))]) (rest := [.int (zI (((200) * (t)) + (2))), .ref o]) ⟨hx, hb, hml, hown, hts⟩ (kL_below l D G (((x6) >>> (zI (9) &&& 31))) ((1) + (b53)) (by omega)) (va_cwS 2 hts gL_tracks_L_below rfl rfl rfl (by decide +kernel) ⟨Nat.le_of_ble_eq_true rfl, Nat.le_of_ble_eq_true rfl⟩) (zPreS hK hN trivial) rfl rfl hl.1 rfl (lv_room (Nat.le_of_ble_eq_true rfl)) dL_tracks_109 ⟨hrc _ (by omega), hrs _ (by omega)⟩) ?_
        obtain ⟨b109, he_b109, hb_b109⟩ : ∃ q : Int, pBl (((x6) >>> (zI (9) &&& 31))) ((1) + (b53)) = q ∧ 0 ≤ q ∧ q < (1) + (b53) := ⟨_, rfl, pBl_b (by omega)⟩
        refine z_val he_b109 ?_
        refine z_iast2 hx hb hK hP hS (show z0 ≤ o from Nat.not_lt.mp (fun h8 => by have h7 := hzl _ h8; omega)) 0 rfl (by omega) (by omega) dL_tracks_112 (fun H10 locs11 hP1 hz1 hk1 hS1 => ?_)
        obtain ⟨f12, he_f12⟩ : ∃ q : Nat → Int32, q = upd f9 (((200) * (t)) + (2)).toNat (zI (b109)) := ⟨_, rfl⟩
        have hP2 : va_P D vwCl (oI G o 1600 f12) H10 := by rw [he_f12]; exact hP1
        have hI : PI D G ax z0 o 1600 (t + 1) (0) τ3 ζ f12 H10 := PI.put hI hP2 hk1
        have hS := hS1
        clear hP1 hP2 hS1 hk1 hz1
        obtain ⟨g, lab, cs, ss, hOK, hXL, ho, hzl, hW, hP⟩ := id hI
        refine lv_aload hx hb dL_tracks_113 (lv_at hl 7 rfl) ?_
        refine lv_sipush (v := zI (200)) hx hb dL_tracks_115 (by decide) ?_
        refine lv_iload hx hb dL_tracks_118 (lv_at hl 8 rfl) ?_
        refine z_imul hx hb dL_tracks_120 ?_
        refine lv_iconst (v := zI (3)) hx hb dL_tracks_121 rfl ?_
        refine z_iadd hx hb dL_tracks_122 ?_
        refine lv_iconst (v := zI (1)) hx hb dL_tracks_123 rfl ?_
        refine lv_iload hx hb dL_tracks_124 (lv_at hl 2 rfl) ?_
        refine lv_bipush (v := zI (12)) hx hb dL_tracks_126 (by decide) ?_
        refine lv_ishr hx hb dL_tracks_128 ?_
        refine lv_bipush (v := zI (20)) hx hb dL_tracks_129 (by decide) ?_
        refine z_call (va_runS (As := [.int ((x6) >>> (zI (12) &&& 31)), .int (zI (20))]) (rest := [.int (zI (1)), .int (zI (((200) * (t)) + (3))), .ref o]) ⟨hx, hb, hml, hown, hts⟩ (kL_below l D G (((x6) >>> (zI (12) &&& 31))) (20) (by omega)) (va_cwS 2 hts gL_tracks_L_below rfl rfl rfl (by decide +kernel) ⟨Nat.le_of_ble_eq_true rfl, Nat.le_of_ble_eq_true rfl⟩) (zPreS hK hN trivial) rfl rfl hl.1 rfl (lv_room (Nat.le_of_ble_eq_true rfl)) dL_tracks_131 ⟨hrc _ (by omega), hrs _ (by omega)⟩) ?_
        obtain ⟨b131, he_b131, hb_b131⟩ : ∃ q : Int, pBl (((x6) >>> (zI (12) &&& 31))) (20) = q ∧ 0 ≤ q ∧ q < 20 := ⟨_, rfl, pBl_b (by omega)⟩
        refine z_val he_b131 ?_
        refine z_iadd hx hb dL_tracks_134 ?_
        refine z_iast2 hx hb hK hP hS (show z0 ≤ o from Nat.not_lt.mp (fun h8 => by have h7 := hzl _ h8; omega)) 0 rfl (by omega) (by omega) dL_tracks_135 (fun H13 locs14 hP1 hz1 hk1 hS1 => ?_)
        obtain ⟨f15, he_f15⟩ : ∃ q : Nat → Int32, q = upd f12 (((200) * (t)) + (3)).toNat (zI ((1) + (b131))) := ⟨_, rfl⟩
        have hP2 : va_P D vwCl (oI G o 1600 f15) H13 := by rw [he_f15]; exact hP1
        have hI : PI D G ax z0 o 1600 (t + 1) (0) τ3 ζ f15 H13 := PI.put hI hP2 hk1
        have hS := hS1
        clear hP1 hP2 hS1 hk1 hz1
        obtain ⟨g, lab, cs, ss, hOK, hXL, ho, hzl, hW, hP⟩ := id hI
        refine lv_aload hx hb dL_tracks_136 (lv_at hl 7 rfl) ?_
        refine lv_sipush (v := zI (200)) hx hb dL_tracks_138 (by decide) ?_
        refine lv_iload hx hb dL_tracks_141 (lv_at hl 8 rfl) ?_
        refine z_imul hx hb dL_tracks_143 ?_
        refine lv_iconst (v := zI (4)) hx hb dL_tracks_144 rfl ?_
        refine z_iadd hx hb dL_tracks_145 ?_
        refine lv_iload hx hb dL_tracks_146 (lv_at hl 2 rfl) ?_
        refine lv_bipush (v := zI (15)) hx hb dL_tracks_148 (by decide) ?_
        refine lv_ishr hx hb dL_tracks_150 ?_
        refine lv_iconst (v := zI (3)) hx hb dL_tracks_151 rfl ?_
        refine z_call (va_runS (As := [.int ((x6) >>> (zI (15) &&& 31)), .int (zI (3))]) (rest := [.int (zI (((200) * (t)) + (4))), .ref o]) ⟨hx, hb, hml, hown, hts⟩ (kL_below l D G (((x6) >>> (zI (15) &&& 31))) (3) (by omega)) (va_cwS 2 hts gL_tracks_L_below rfl rfl rfl (by decide +kernel) ⟨Nat.le_of_ble_eq_true rfl, Nat.le_of_ble_eq_true rfl⟩) (zPreS hK hN trivial) rfl rfl hl.1 rfl (lv_room (Nat.le_of_ble_eq_true rfl)) dL_tracks_152 ⟨hrc _ (by omega), hrs _ (by omega)⟩) ?_
        obtain ⟨b152, he_b152, hb_b152⟩ : ∃ q : Int, pBl (((x6) >>> (zI (15) &&& 31))) (3) = q ∧ 0 ≤ q ∧ q < 3 := ⟨_, rfl, pBl_b (by omega)⟩
        refine z_val he_b152 ?_
        refine z_iast2 hx hb hK hP hS (show z0 ≤ o from Nat.not_lt.mp (fun h8 => by have h7 := hzl _ h8; omega)) 0 rfl (by omega) (by omega) dL_tracks_155 (fun H16 locs17 hP1 hz1 hk1 hS1 => ?_)
        obtain ⟨f18, he_f18⟩ : ∃ q : Nat → Int32, q = upd f15 (((200) * (t)) + (4)).toNat (zI (b152)) := ⟨_, rfl⟩
        have hP2 : va_P D vwCl (oI G o 1600 f18) H16 := by rw [he_f18]; exact hP1
        have hI : PI D G ax z0 o 1600 (t + 1) (0) τ3 ζ f18 H16 := PI.put hI hP2 hk1
        have hS := hS1
        clear hP1 hP2 hS1 hk1 hz1
        obtain ⟨g, lab, cs, ss, hOK, hXL, ho, hzl, hW, hP⟩ := id hI
        refine lv_aload_n hx hb dL_tracks_156 rfl (lv_at hl 3 rfl) ?_
        refine lv_iload hx hb dL_tracks_157 (lv_at hl 8 rfl) ?_
        refine lv_aload hx hb dL_tracks_159 (lv_at hl 7 rfl) ?_
        refine lv_sipush (v := zI (200)) hx hb dL_tracks_161 (by decide) ?_
        refine lv_iload hx hb dL_tracks_164 (lv_at hl 8 rfl) ?_
        refine z_imul hx hb dL_tracks_166 ?_
        refine lv_iconst (v := zI (2)) hx hb dL_tracks_167 rfl ?_
        refine z_iadd hx hb dL_tracks_168 ?_
        refine z_iald (x := zI (b109)) (D := D) hx hb hK hP 0 0 rfl rfl (by omega) (by omega) (by rw [he_f18, pk_un (by omega), he_f15, pk_un (by omega), he_f12, pk_us]) dL_tracks_169 ?_
        refine lv_aload hx hb dL_tracks_170 (lv_at hl 7 rfl) ?_
        refine lv_sipush (v := zI (200)) hx hb dL_tracks_172 (by decide) ?_
        refine lv_iload hx hb dL_tracks_175 (lv_at hl 8 rfl) ?_
        refine z_imul hx hb dL_tracks_177 ?_
        refine lv_iconst (v := zI (3)) hx hb dL_tracks_178 rfl ?_
        refine z_iadd hx hb dL_tracks_179 ?_
        refine z_iald (x := zI ((1) + (b131))) (D := D) hx hb hK hP 0 0 rfl rfl (by omega) (by omega) (by rw [he_f18, pk_un (by omega), he_f15, pk_us]) dL_tracks_180 ?_
        refine lv_aload hx hb dL_tracks_181 (lv_at hl 7 rfl) ?_
        refine lv_sipush (v := zI (200)) hx hb dL_tracks_183 (by decide) ?_
        refine lv_iload hx hb dL_tracks_186 (lv_at hl 8 rfl) ?_
        refine z_imul hx hb dL_tracks_188 ?_
        refine lv_iconst (v := zI (4)) hx hb dL_tracks_189 rfl ?_
        refine z_iadd hx hb dL_tracks_190 ?_
        refine z_iald (x := zI (b152)) (D := D) hx hb hK hP 0 0 rfl rfl (by omega) (by omega) (by rw [he_f18, pk_us]) dL_tracks_191 ?_
        have hA9 := PI.hA hOK.2.1 hXL hzl (k := t) (by omega)
        refine z_callXM (vx_runV (As := [.int (zI (t)), .int (zI (b109)), .int (zI ((1) + (b131))), .int (zI (b152))]) (rest := []) ⟨hx, hb, hml, hown, hts⟩ (kX2_tune l D G hl9 ax (t + 1) (0) 120 τ3 ζ g cs ss hOK lab hXL (t) (b109) ((1) + (b131)) (b152) (by omega) (by omega) (by omega) (by omega)) (cwV 4 hts gL_tracks_X2_tune rfl rfl rfl (by decide +kernel) ⟨Nat.le_of_ble_eq_true rfl, Nat.le_of_ble_eq_true rfl⟩) (zPTreV (va_recv hK hW.1 (ci := 2) (q0 := 0) rfl rfl) hK hN (hT0.kp hS).t (hW)) rfl rfl hl.1 rfl (lv_room (Nat.le_of_ble_eq_true rfl)) dL_tracks_192 ⟨hrc _ (by omega), hrs _ (by omega)⟩) hS (fun q _ h9 => hA9 q h9) hA9 (fun E ce qx9 H1 locs1 hco hz1 hk1 hS1 hce hcv hcl => False.elim (hco.elim (fun h9 => h9.2 (by omega)) (fun h9 => h9.2.2 (by omega)))) (fun H19 locs20 hC hp1 hz1 hk1 hS1 => ?_)
        clear hA9
        have hOK9 := hOK.up (k := (t).toNat) (xFu_ok (hOK.t (k := t) hC.1) hC.2.1 hC.2.2.1 hC.2.2.2)
        obtain ⟨τ21, he_τ21⟩ : ∃ q : Nat → Nat → Int, q = va_up τ3 (t).toNat (xFu (τ3 (t).toNat) (b109) ((1) + (b131)) (b152)) := ⟨_, rfl⟩
        have hI9 := PI.mut hXL ho hzl hP (k := t) (by omega) hOK9 hp1 hk1
        rw [← he_τ21] at hI9
        have hI : PI D G ax z0 o 1600 (t + 1) (0) τ21 ζ f18 H19 := hI9
        clear hI9 hOK9
        have hPB : PB (t + 1) τ21 := by rw [he_τ21]; exact PB.up hPB ⟨by have h8 : xFu (τ3 (t).toNat) (b109) ((1) + (b131)) (b152) 0 = τ3 (t).toNat 0 := rfl; omega, by have h8 : xFu (τ3 (t).toNat) (b109) ((1) + (b131)) (b152) 3 = (1) + (b131) := rfl; omega⟩
        have hf9 : τ21 t.toNat = xFu (τ3 (t).toNat) (b109) ((1) + (b131)) (b152) := by rw [he_τ21]; exact if_pos rfl
        have hn9 : τ21 t.toNat 0 = 1 + b40 := by rw [hf9]; exact hn9
        have hS := hS1
        obtain ⟨g, lab, cs, ss, hOK, hXL, ho, hzl, hW, hP⟩ := id hI
        refine lv_pop hx hb dL_tracks_195 rfl ?_
        refine lv_iconst (v := zI (0)) hx hb dL_tracks_196 rfl ?_
        refine lv_istore (lv' := [(9, .int (zI (0))), (8, .int (zI ((1) + (b53)))), (7, .int (zI ((1) + (b40)))), (6, .int (x6)), (0, .ref ax), (1, .ref b), (2, .int (zI (1))), (3, .int (zI (mn))), (4, .ref o), (5, .int (zI (t)))]) hx hb dL_tracks_197 hl (by decide) rfl (fun ls hl => ?_)
        have loop_199 : ∀ (fu : Nat) (a : Int) (τ : Nat → Nat → Int) (f : Nat → Int32), (0 ≤ a ∧ a ≤ 1 + b40) → 1 + b40 - a < (fu : Int) → ∀ (H : Heap) (locs : List Loc) (cells slots : Nat), ((cells : Int) ≤ 66 * t + 6 + 6 * a) → ((slots : Int) ≤ 640 * t + 292 + 36 * a) → (va_S (fun q => z0 ≤ q) s.heap H locs) → (PI D G ax z0 o 1600 (t + 1) 0 τ ζ f H) → (PB (t + 1) τ) → (τ t.toNat 0 = 1 + b40) → ∀ ls : Array Slot, lv_has ls 12 [(0, .ref ax), (1, .ref b), (2, .int (zI (1))), (3, .int (zI (mn))), (4, .ref o), (5, .int (zI (t))), (6, .int (x6)), (7, .int (zI ((1) + (b40)))), (8, .int (zI ((1) + (b53)))), (9, .int (zI (a)))] → W p l e (headSpec wsL_tracks ({ frames := 9, cells := 500, slots := 5000, locals := 201 })).room s m args below meth c H locs (cells) (slots) (MQ below (zM none (fun H => ∃ (τ : Nat → Nat → Int) (f : Nat → Int32), PI D G ax z0 o 1600 mn 0 τ ζ f H ∧ PB mn τ) (fun q => z0 ≤ q)) args s 500 5000 (fun q => z0 ≤ q)) (F0 m 199 ls []) := by
          intro fu
          induction fu with
          | zero =>
            intro a τ f ha hm
            exfalso; omega
          | succ fu ih =>
            intro a τ f ha hm H locs cells slots hc2 hs2 hS hI hPB hn9 ls hl
            have ih_199 := ih
            clear ih
            obtain ⟨g, lab, cs, ss, hOK, hXL, ho, hzl, hW, hP⟩ := id hI
            refine lv_iload hx hb dL_tracks_199 (lv_at hl 9 rfl) ?_
            refine lv_iload hx hb dL_tracks_201 (lv_at hl 7 rfl) ?_
            refine z_icmp_ge (tgt := 381) hx hb (by omega) dL_tracks_203 (by decide) (fun c_2 => ?_) (fun c_2 => ?_)
            · refine lv_iinc (v := zI (t + 1)) (lv' := [(5, .int (zI (t + 1))), (0, .ref ax), (1, .ref b), (2, .int (zI (1))), (3, .int (zI (mn))), (4, .ref o), (6, .int (x6)), (7, .int (zI ((1) + (b40)))), (8, .int (zI ((1) + (b53)))), (9, .int (zI (a)))]) hx hb dL_tracks_381 hl (k := 5) rfl (zI_add (t) (1)) (by decide) rfl (fun ls hl => ?_)
              refine lv_goto (tgt := 3) hx hb dL_tracks_384 (by decide) ?_
              exact ih_3 (t + 1) (τ) (f) (by omega) (by omega) _ _ _ _ (by omega) (by omega) (hS) (hI) (hPB) _ (lv_sub hl [1, 2, 3, 4, 5, 0] rfl)
            · refine lv_iload hx hb dL_tracks_206 (lv_at hl 6 rfl) ?_
              refine lv_iload hx hb dL_tracks_208 (lv_at hl 9 rfl) ?_
              refine lv_sipush (v := zI (7919)) hx hb dL_tracks_210 (by decide) ?_
              refine z_imul hx hb dL_tracks_213 ?_
              refine lv_ixor hx hb dL_tracks_214 ?_
              refine lv_aload_n hx hb dL_tracks_215 rfl (lv_at hl 1 rfl) ?_
              refine lv_iload_n hx hb dL_tracks_216 rfl (lv_at hl 2 rfl) ?_
              refine lv_iconst (v := zI (4)) hx hb dL_tracks_217 rfl ?_
              refine z_iadd hx hb dL_tracks_218 ?_
              refine z_call (va_runS (As := [.ref b, .int (zI ((1) + (4)))]) (rest := [.int ((x6) ^^^ zI ((a) * (7919)))]) ⟨hx, hb, hml, hown, hts⟩ (kL_cell l b L xs hL9 ((1) + (4)) (by omega)) (va_cwS 2 hts gL_tracks_L_cell rfl rfl rfl (by decide +kernel) ⟨Nat.le_of_ble_eq_true rfl, Nat.le_of_ble_eq_true rfl⟩) (zPsreS (hX.kept (hS.2.1 b hbl hbz))) rfl rfl hl.1 rfl (lv_room (Nat.le_of_ble_eq_true rfl)) dL_tracks_219 ⟨hrc _ (by omega), hrs _ (by omega)⟩) ?_
              obtain ⟨x219, he_x219⟩ : ∃ q : Int32, pCl L xs ((1) + (4)) = q := ⟨_, rfl⟩
              refine z_raw he_x219 ?_
              refine lv_iload hx hb dL_tracks_222 (lv_at hl 9 rfl) ?_
              refine lv_ishr hx hb dL_tracks_224 ?_
              refine lv_ixor hx hb dL_tracks_225 ?_
              obtain ⟨x10, he_x10⟩ : ∃ q : Int32, ((x6) ^^^ zI ((a) * (7919))) ^^^ ((x219) >>> (zI (a) &&& 31)) = q := ⟨_, rfl⟩
              refine z_raw he_x10 ?_
              refine lv_istore (lv' := [(10, .int (x10)), (0, .ref ax), (1, .ref b), (2, .int (zI (1))), (3, .int (zI (mn))), (4, .ref o), (5, .int (zI (t))), (6, .int (x6)), (7, .int (zI ((1) + (b40)))), (8, .int (zI ((1) + (b53)))), (9, .int (zI (a)))]) hx hb dL_tracks_226 hl (by decide) rfl (fun ls hl => ?_)
              refine lv_sipush (v := zI (200)) hx hb dL_tracks_228 (by decide) ?_
              refine lv_iload hx hb dL_tracks_231 (lv_at hl 6 rfl) ?_
              refine z_imul hx hb dL_tracks_233 ?_
              refine lv_bipush (v := zI (10)) hx hb dL_tracks_234 (by decide) ?_
              refine z_iadd hx hb dL_tracks_236 ?_
              refine lv_iconst (v := zI (4)) hx hb dL_tracks_237 rfl ?_
              refine lv_iload hx hb dL_tracks_238 (lv_at hl 10 rfl) ?_
              refine z_imul hx hb dL_tracks_240 ?_
              refine z_iadd hx hb dL_tracks_241 ?_
              refine lv_istore (lv' := [(11, .int (zI ((((200) * (t)) + (10)) + ((4) * (a))))), (10, .int (x10)), (0, .ref ax), (1, .ref b), (2, .int (zI (1))), (3, .int (zI (mn))), (4, .ref o), (5, .int (zI (t))), (6, .int (x6)), (7, .int (zI ((1) + (b40)))), (8, .int (zI ((1) + (b53)))), (9, .int (zI (a)))]) hx hb dL_tracks_242 hl (by decide) rfl (fun ls hl => ?_)
              refine lv_aload hx hb dL_tracks_244 (lv_at hl 6 rfl) ?_
              refine lv_iload hx hb dL_tracks_246 (lv_at hl 0 rfl) ?_
              refine lv_iload hx hb dL_tracks_248 (lv_at hl 1 rfl) ?_
              refine lv_iconst (v := zI (3)) hx hb dL_tracks_250 rfl ?_
              refine z_call (va_runS (As := [.int (x10), .int (zI (3))]) (rest := [.int (zI ((((200) * (t)) + (10)) + ((4) * (a)))), .ref o]) ⟨hx, hb, hml, hown, hts⟩ (kL_below l D G ((x10)) (3) (by omega)) (va_cwS 2 hts gL_tracks_L_below rfl rfl rfl (by decide +kernel) ⟨Nat.le_of_ble_eq_true rfl, Nat.le_of_ble_eq_true rfl⟩) (zPreS hK hN trivial) rfl rfl hl.1 rfl (lv_room (Nat.le_of_ble_eq_true rfl)) dL_tracks_251 ⟨hrc _ (by omega), hrs _ (by omega)⟩) ?_
              obtain ⟨b251, he_b251, hb_b251⟩ : ∃ q : Int, pBl ((x10)) (3) = q ∧ 0 ≤ q ∧ q < 3 := ⟨_, rfl, pBl_b (by omega)⟩
              refine z_val he_b251 ?_
              have j272 : ∀ v9 : Int, (0 ≤ v9 ∧ v9 ≤ 127) → W p l e (headSpec wsL_tracks ({ frames := 9, cells := 500, slots := 5000, locals := 201 })).room s m args below meth c H locs (cells) (slots) (MQ below (zM none (fun H => ∃ (τ : Nat → Nat → Int) (f : Nat → Int32), PI D G ax z0 o 1600 mn 0 τ ζ f H ∧ PB mn τ) (fun q => z0 ≤ q)) args s 500 5000 (fun q => z0 ≤ q)) (F0 m 272 ls [.int (zI (v9)), .int (zI ((((200) * (t)) + (10)) + ((4) * (a)))), .ref o]) := by
                intro v9 hv9
                refine z_iast2 hx hb hK hP hS (show z0 ≤ o from Nat.not_lt.mp (fun h8 => by have h7 := hzl _ h8; omega)) 0 rfl (by omega) (by omega) dL_tracks_272 (fun H22 locs23 hP1 hz1 hk1 hS1 => ?_)
                obtain ⟨f24, he_f24⟩ : ∃ q : Nat → Int32, q = upd f ((((200) * (t)) + (10)) + ((4) * (a))).toNat (zI (v9)) := ⟨_, rfl⟩
                have hP2 : va_P D vwCl (oI G o 1600 f24) H22 := by rw [he_f24]; exact hP1
                have hI : PI D G ax z0 o 1600 (t + 1) (0) τ ζ f24 H22 := PI.put hI hP2 hk1
                have hS := hS1
                clear hP1 hP2 hS1 hk1 hz1
                obtain ⟨g, lab, cs, ss, hOK, hXL, ho, hzl, hW, hP⟩ := id hI
                refine lv_aload hx hb dL_tracks_273 (lv_at hl 6 rfl) ?_
                refine lv_iload hx hb dL_tracks_275 (lv_at hl 0 rfl) ?_
                refine lv_iconst (v := zI (1)) hx hb dL_tracks_277 rfl ?_
                refine z_iadd hx hb dL_tracks_278 ?_
                refine lv_iconst (v := zI (1)) hx hb dL_tracks_279 rfl ?_
                refine lv_iload hx hb dL_tracks_280 (lv_at hl 1 rfl) ?_
                refine lv_bipush (v := zI (9)) hx hb dL_tracks_282 (by decide) ?_
                refine lv_ishr hx hb dL_tracks_284 ?_
                refine lv_iconst (v := zI (4)) hx hb dL_tracks_285 rfl ?_
                refine z_call (va_runS (As := [.int ((x10) >>> (zI (9) &&& 31)), .int (zI (4))]) (rest := [.int (zI (1)), .int (zI (((((200) * (t)) + (10)) + ((4) * (a))) + (1))), .ref o]) ⟨hx, hb, hml, hown, hts⟩ (kL_below l D G (((x10) >>> (zI (9) &&& 31))) (4) (by omega)) (va_cwS 2 hts gL_tracks_L_below rfl rfl rfl (by decide +kernel) ⟨Nat.le_of_ble_eq_true rfl, Nat.le_of_ble_eq_true rfl⟩) (zPreS hK hN trivial) rfl rfl hl.1 rfl (lv_room (Nat.le_of_ble_eq_true rfl)) dL_tracks_286 ⟨hrc _ (by omega), hrs _ (by omega)⟩) ?_
                obtain ⟨b286, he_b286, hb_b286⟩ : ∃ q : Int, pBl (((x10) >>> (zI (9) &&& 31))) (4) = q ∧ 0 ≤ q ∧ q < 4 := ⟨_, rfl, pBl_b (by omega)⟩
                refine z_val he_b286 ?_
                refine z_iadd hx hb dL_tracks_289 ?_
                refine z_iast2 hx hb hK hP hS (show z0 ≤ o from Nat.not_lt.mp (fun h8 => by have h7 := hzl _ h8; omega)) 0 rfl (by omega) (by omega) dL_tracks_290 (fun H25 locs26 hP1 hz1 hk1 hS1 => ?_)
                obtain ⟨f27, he_f27⟩ : ∃ q : Nat → Int32, q = upd f24 (((((200) * (t)) + (10)) + ((4) * (a))) + (1)).toNat (zI ((1) + (b286))) := ⟨_, rfl⟩
                have hP2 : va_P D vwCl (oI G o 1600 f27) H25 := by rw [he_f27]; exact hP1
                have hI : PI D G ax z0 o 1600 (t + 1) (0) τ ζ f27 H25 := PI.put hI hP2 hk1
                have hS := hS1
                clear hP1 hP2 hS1 hk1 hz1
                obtain ⟨g, lab, cs, ss, hOK, hXL, ho, hzl, hW, hP⟩ := id hI
                refine lv_aload hx hb dL_tracks_291 (lv_at hl 6 rfl) ?_
                refine lv_iload hx hb dL_tracks_293 (lv_at hl 0 rfl) ?_
                refine lv_iconst (v := zI (3)) hx hb dL_tracks_295 rfl ?_
                refine z_iadd hx hb dL_tracks_296 ?_
                refine lv_iconst (v := zI (1)) hx hb dL_tracks_297 rfl ?_
                refine lv_iload hx hb dL_tracks_298 (lv_at hl 1 rfl) ?_
                refine lv_bipush (v := zI (11)) hx hb dL_tracks_300 (by decide) ?_
                refine lv_ishr hx hb dL_tracks_302 ?_
                refine lv_iconst (v := zI (3)) hx hb dL_tracks_303 rfl ?_
                refine z_call (va_runS (As := [.int ((x10) >>> (zI (11) &&& 31)), .int (zI (3))]) (rest := [.int (zI (1)), .int (zI (((((200) * (t)) + (10)) + ((4) * (a))) + (3))), .ref o]) ⟨hx, hb, hml, hown, hts⟩ (kL_below l D G (((x10) >>> (zI (11) &&& 31))) (3) (by omega)) (va_cwS 2 hts gL_tracks_L_below rfl rfl rfl (by decide +kernel) ⟨Nat.le_of_ble_eq_true rfl, Nat.le_of_ble_eq_true rfl⟩) (zPreS hK hN trivial) rfl rfl hl.1 rfl (lv_room (Nat.le_of_ble_eq_true rfl)) dL_tracks_304 ⟨hrc _ (by omega), hrs _ (by omega)⟩) ?_
                obtain ⟨b304, he_b304, hb_b304⟩ : ∃ q : Int, pBl (((x10) >>> (zI (11) &&& 31))) (3) = q ∧ 0 ≤ q ∧ q < 3 := ⟨_, rfl, pBl_b (by omega)⟩
                refine z_val he_b304 ?_
                refine z_iadd hx hb dL_tracks_307 ?_
                refine z_iast2 hx hb hK hP hS (show z0 ≤ o from Nat.not_lt.mp (fun h8 => by have h7 := hzl _ h8; omega)) 0 rfl (by omega) (by omega) dL_tracks_308 (fun H28 locs29 hP1 hz1 hk1 hS1 => ?_)
                obtain ⟨f30, he_f30⟩ : ∃ q : Nat → Int32, q = upd f27 (((((200) * (t)) + (10)) + ((4) * (a))) + (3)).toNat (zI ((1) + (b304))) := ⟨_, rfl⟩
                have hP2 : va_P D vwCl (oI G o 1600 f30) H28 := by rw [he_f30]; exact hP1
                have hI : PI D G ax z0 o 1600 (t + 1) (0) τ ζ f30 H28 := PI.put hI hP2 hk1
                have hS := hS1
                clear hP1 hP2 hS1 hk1 hz1
                obtain ⟨g, lab, cs, ss, hOK, hXL, ho, hzl, hW, hP⟩ := id hI
                refine lv_aload hx hb dL_tracks_309 (lv_at hl 6 rfl) ?_
                refine lv_iload hx hb dL_tracks_311 (lv_at hl 0 rfl) ?_
                refine lv_iconst (v := zI (2)) hx hb dL_tracks_313 rfl ?_
                refine z_iadd hx hb dL_tracks_314 ?_
                refine lv_iload hx hb dL_tracks_315 (lv_at hl 1 rfl) ?_
                refine lv_bipush (v := zI (13)) hx hb dL_tracks_317 (by decide) ?_
                refine lv_ishr hx hb dL_tracks_319 ?_
                refine lv_aload hx hb dL_tracks_320 (lv_at hl 6 rfl) ?_
                refine lv_iload hx hb dL_tracks_322 (lv_at hl 0 rfl) ?_
                refine lv_iconst (v := zI (3)) hx hb dL_tracks_324 rfl ?_
                refine z_iadd hx hb dL_tracks_325 ?_
                refine z_iald (x := zI ((1) + (b304))) (D := D) hx hb hK hP 0 0 rfl rfl (by omega) (by omega) (by rw [he_f30, pk_us]) dL_tracks_326 ?_
                refine z_call (va_runS (As := [.int ((x10) >>> (zI (13) &&& 31)), .int (zI ((1) + (b304)))]) (rest := [.int (zI (((((200) * (t)) + (10)) + ((4) * (a))) + (2))), .ref o]) ⟨hx, hb, hml, hown, hts⟩ (kL_below l D G (((x10) >>> (zI (13) &&& 31))) ((1) + (b304)) (by omega)) (va_cwS 2 hts gL_tracks_L_below rfl rfl rfl (by decide +kernel) ⟨Nat.le_of_ble_eq_true rfl, Nat.le_of_ble_eq_true rfl⟩) (zPreS hK hN trivial) rfl rfl hl.1 rfl (lv_room (Nat.le_of_ble_eq_true rfl)) dL_tracks_327 ⟨hrc _ (by omega), hrs _ (by omega)⟩) ?_
                obtain ⟨b327, he_b327, hb_b327⟩ : ∃ q : Int, pBl (((x10) >>> (zI (13) &&& 31))) ((1) + (b304)) = q ∧ 0 ≤ q ∧ q < (1) + (b304) := ⟨_, rfl, pBl_b (by omega)⟩
                refine z_val he_b327 ?_
                refine z_iast2 hx hb hK hP hS (show z0 ≤ o from Nat.not_lt.mp (fun h8 => by have h7 := hzl _ h8; omega)) 0 rfl (by omega) (by omega) dL_tracks_330 (fun H31 locs32 hP1 hz1 hk1 hS1 => ?_)
                obtain ⟨f33, he_f33⟩ : ∃ q : Nat → Int32, q = upd f30 (((((200) * (t)) + (10)) + ((4) * (a))) + (2)).toNat (zI (b327)) := ⟨_, rfl⟩
                have hP2 : va_P D vwCl (oI G o 1600 f33) H31 := by rw [he_f33]; exact hP1
                have hI : PI D G ax z0 o 1600 (t + 1) (0) τ ζ f33 H31 := PI.put hI hP2 hk1
                have hS := hS1
                clear hP1 hP2 hS1 hk1 hz1
                obtain ⟨g, lab, cs, ss, hOK, hXL, ho, hzl, hW, hP⟩ := id hI
                refine lv_aload_n hx hb dL_tracks_331 rfl (lv_at hl 2 rfl) ?_
                refine lv_iload hx hb dL_tracks_332 (lv_at hl 7 rfl) ?_
                refine lv_iload hx hb dL_tracks_334 (lv_at hl 11 rfl) ?_
                refine lv_aload hx hb dL_tracks_336 (lv_at hl 6 rfl) ?_
                refine lv_iload hx hb dL_tracks_338 (lv_at hl 0 rfl) ?_
                refine z_iald (x := zI (v9)) (D := D) hx hb hK hP 0 0 rfl rfl (by omega) (by omega) (by rw [he_f33, pk_un (by omega), he_f30, pk_un (by omega), he_f27, pk_un (by omega), he_f24, pk_us]) dL_tracks_340 ?_
                refine lv_aload hx hb dL_tracks_341 (lv_at hl 6 rfl) ?_
                refine lv_iload hx hb dL_tracks_343 (lv_at hl 0 rfl) ?_
                refine lv_iconst (v := zI (1)) hx hb dL_tracks_345 rfl ?_
                refine z_iadd hx hb dL_tracks_346 ?_
                refine z_iald (x := zI ((1) + (b286))) (D := D) hx hb hK hP 0 0 rfl rfl (by omega) (by omega) (by rw [he_f33, pk_un (by omega), he_f30, pk_un (by omega), he_f27, pk_us]) dL_tracks_347 ?_
                have hA9 := PI.hA hOK.2.1 hXL hzl (k := t) (by omega)
                refine z_callXM (vx_runV (As := [.int (zI (t)), .int (zI (a)), .int (zI (v9)), .int (zI ((1) + (b286)))]) (rest := []) ⟨hx, hb, hml, hown, hts⟩ (kX2_set l D G hl9 ax (t + 1) (0) 120 τ ζ g cs ss hOK lab hXL (t) (a) (v9) ((1) + (b286)) (by omega) (by omega) (by omega) (by omega)) (cwV 4 hts gL_tracks_X2_set rfl rfl rfl (by decide +kernel) ⟨Nat.le_of_ble_eq_true rfl, Nat.le_of_ble_eq_true rfl⟩) (zPTreV (va_recv hK hW.1 (ci := 2) (q0 := 0) rfl rfl) hK hN (hT0.kp hS).t (hW)) rfl rfl hl.1 rfl (lv_room (Nat.le_of_ble_eq_true rfl)) dL_tracks_348 ⟨hrc _ (by omega), hrs _ (by omega)⟩) hS (fun q _ h9 => hA9 q h9) hA9 (fun E ce qx9 H1 locs1 hco hz1 hk1 hS1 hce hcv hcl => False.elim (hco.elim (fun h9 => h9.2 (by omega)) (fun h9 => h9.2.2 (by omega)))) (fun H34 locs35 hC hp1 hz1 hk1 hS1 => ?_)
                clear hA9
                have hOK9 := hOK.up (k := (t).toNat) (xFs_ok (k := a) (hOK.t (k := t) (by omega)) (by omega) hC.2.1 hC.2.2)
                obtain ⟨τ36, he_τ36⟩ : ∃ q : Nat → Nat → Int, q = va_up τ (t).toNat (xFs (τ (t).toNat) (a) (v9) ((1) + (b286))) := ⟨_, rfl⟩
                have hI9 := PI.mut hXL ho hzl hP (k := t) (by omega) hOK9 hp1 hk1
                rw [← he_τ36] at hI9
                have hI : PI D G ax z0 o 1600 (t + 1) (0) τ36 ζ f33 H34 := hI9
                clear hI9 hOK9
                have hPB : PB (t + 1) τ36 := by rw [he_τ36]; exact PB.up hPB ⟨by rw [xFs_lo (by omega) 0 (by omega)]; exact (hPB (t) (by omega) (by omega)).1, by rw [xFs_lo (by omega) 3 (by omega)]; exact (hPB (t) (by omega) (by omega)).2⟩
                have hf9 : τ36 t.toNat = xFs (τ (t).toNat) (a) (v9) ((1) + (b286)) := by rw [he_τ36]; exact if_pos rfl
                have hn9 : τ36 t.toNat 0 = 1 + b40 := by rw [hf9, xFs_lo (by omega) 0 (by omega)]; exact hn9
                have hS := hS1
                obtain ⟨g, lab, cs, ss, hOK, hXL, ho, hzl, hW, hP⟩ := id hI
                refine lv_pop hx hb dL_tracks_351 rfl ?_
                refine lv_aload_n hx hb dL_tracks_352 rfl (lv_at hl 2 rfl) ?_
                refine lv_iload hx hb dL_tracks_353 (lv_at hl 7 rfl) ?_
                refine lv_iload hx hb dL_tracks_355 (lv_at hl 11 rfl) ?_
                refine lv_aload hx hb dL_tracks_357 (lv_at hl 6 rfl) ?_
                refine lv_iload hx hb dL_tracks_359 (lv_at hl 0 rfl) ?_
                refine lv_iconst (v := zI (2)) hx hb dL_tracks_361 rfl ?_
                refine z_iadd hx hb dL_tracks_362 ?_
                refine z_iald (x := zI (b327)) (D := D) hx hb hK hP 0 0 rfl rfl (by omega) (by omega) (by rw [he_f33, pk_us]) dL_tracks_363 ?_
                refine lv_aload hx hb dL_tracks_364 (lv_at hl 6 rfl) ?_
                refine lv_iload hx hb dL_tracks_366 (lv_at hl 0 rfl) ?_
                refine lv_iconst (v := zI (3)) hx hb dL_tracks_368 rfl ?_
                refine z_iadd hx hb dL_tracks_369 ?_
                refine z_iald (x := zI ((1) + (b304))) (D := D) hx hb hK hP 0 0 rfl rfl (by omega) (by omega) (by rw [he_f33, pk_un (by omega), he_f30, pk_us]) dL_tracks_370 ?_
                have hA9 := PI.hA hOK.2.1 hXL hzl (k := t) (by omega)
                refine z_callXM (vx_runV (As := [.int (zI (t)), .int (zI (a)), .int (zI (b327)), .int (zI ((1) + (b304)))]) (rest := []) ⟨hx, hb, hml, hown, hts⟩ (kX2_setTurn l D G hl9 ax (t + 1) (0) 120 τ36 ζ g cs ss hOK lab hXL (t) (a) (b327) ((1) + (b304)) (by omega) (by omega) (by omega) (by omega)) (cwV 4 hts gL_tracks_X2_setTurn rfl rfl rfl (by decide +kernel) ⟨Nat.le_of_ble_eq_true rfl, Nat.le_of_ble_eq_true rfl⟩) (zPTreV (va_recv hK hW.1 (ci := 2) (q0 := 0) rfl rfl) hK hN (hT0.kp hS).t (hW)) rfl rfl hl.1 rfl (lv_room (Nat.le_of_ble_eq_true rfl)) dL_tracks_371 ⟨hrc _ (by omega), hrs _ (by omega)⟩) hS (fun q _ h9 => hA9 q h9) hA9 (fun E ce qx9 H1 locs1 hco hz1 hk1 hS1 hce hcv hcl => False.elim (hco.elim (fun h9 => h9.2 (by omega)) (fun h9 => h9.2.2 (by omega)))) (fun H37 locs38 hC hp1 hz1 hk1 hS1 => ?_)
                clear hA9
                have hOK9 := hOK.up (k := (t).toNat) (xFt_ok (k := a) (hOK.t (k := t) (by omega)) (by omega) hC.2.1 hC.2.2)
                obtain ⟨τ39, he_τ39⟩ : ∃ q : Nat → Nat → Int, q = va_up τ36 (t).toNat (xFt (τ36 (t).toNat) (a) (b327) ((1) + (b304))) := ⟨_, rfl⟩
                have hI9 := PI.mut hXL ho hzl hP (k := t) (by omega) hOK9 hp1 hk1
                rw [← he_τ39] at hI9
                have hI : PI D G ax z0 o 1600 (t + 1) (0) τ39 ζ f33 H37 := hI9
                clear hI9 hOK9
                have hPB : PB (t + 1) τ39 := by rw [he_τ39]; exact PB.up hPB ⟨by rw [xFt_lo (by omega) 0 (by omega)]; exact (hPB (t) (by omega) (by omega)).1, by rw [xFt_lo (by omega) 3 (by omega)]; exact (hPB (t) (by omega) (by omega)).2⟩
                have hf9 : τ39 t.toNat = xFt (τ36 (t).toNat) (a) (b327) ((1) + (b304)) := by rw [he_τ39]; exact if_pos rfl
                have hn9 : τ39 t.toNat 0 = 1 + b40 := by rw [hf9, xFt_lo (by omega) 0 (by omega)]; exact hn9
                have hS := hS1
                obtain ⟨g, lab, cs, ss, hOK, hXL, ho, hzl, hW, hP⟩ := id hI
                refine lv_pop hx hb dL_tracks_374 rfl ?_
                refine lv_iinc (v := zI (a + 1)) (lv' := [(9, .int (zI (a + 1))), (11, .int (zI ((((200) * (t)) + (10)) + ((4) * (a))))), (10, .int (x10)), (0, .ref ax), (1, .ref b), (2, .int (zI (1))), (3, .int (zI (mn))), (4, .ref o), (5, .int (zI (t))), (6, .int (x6)), (7, .int (zI ((1) + (b40)))), (8, .int (zI ((1) + (b53))))]) hx hb dL_tracks_375 hl (k := 11) rfl (zI_add (a) (1)) (by decide) rfl (fun ls hl => ?_)
                refine lv_goto (tgt := 199) hx hb dL_tracks_378 (by decide) ?_
                exact ih_199 (a + 1) (τ39) (f33) (by omega) (by omega) _ _ _ _ (by omega) (by omega) (hS) (hI) (hPB) (hn9) _ (lv_sub hl [3, 4, 5, 6, 7, 8, 9, 10, 11, 0] rfl)
              refine z_if_ne (tgt := 261) hx hb (by omega) dL_tracks_254 (by decide) (fun c_3 => ?_) (fun c_3 => ?_)
              · refine lv_iconst (v := zI (1)) hx hb dL_tracks_261 rfl ?_
                refine lv_iload hx hb dL_tracks_262 (lv_at hl 1 rfl) ?_
                refine lv_iconst (v := zI (2)) hx hb dL_tracks_264 rfl ?_
                refine lv_ishr hx hb dL_tracks_265 ?_
                refine lv_bipush (v := zI (127)) hx hb dL_tracks_266 (by decide) ?_
                refine z_call (va_runS (As := [.int ((x10) >>> (zI (2) &&& 31)), .int (zI (127))]) (rest := [.int (zI (1)), .int (zI ((((200) * (t)) + (10)) + ((4) * (a)))), .ref o]) ⟨hx, hb, hml, hown, hts⟩ (kL_below l D G (((x10) >>> (zI (2) &&& 31))) (127) (by omega)) (va_cwS 2 hts gL_tracks_L_below rfl rfl rfl (by decide +kernel) ⟨Nat.le_of_ble_eq_true rfl, Nat.le_of_ble_eq_true rfl⟩) (zPreS hK hN trivial) rfl rfl hl.1 rfl (lv_room (Nat.le_of_ble_eq_true rfl)) dL_tracks_268 ⟨hrc _ (by omega), hrs _ (by omega)⟩) ?_
                obtain ⟨b268, he_b268, hb_b268⟩ : ∃ q : Int, pBl (((x10) >>> (zI (2) &&& 31))) (127) = q ∧ 0 ≤ q ∧ q < 127 := ⟨_, rfl, pBl_b (by omega)⟩
                refine z_val he_b268 ?_
                refine z_iadd hx hb dL_tracks_271 ?_
                exact j272 ((1) + (b268)) (by omega)
              · refine lv_iconst (v := zI (0)) hx hb dL_tracks_257 rfl ?_
                refine lv_goto (tgt := 272) hx hb dL_tracks_258 (by decide) ?_
                exact j272 (0) (by omega)
        exact loop_199 (11) (0) (τ21) (f18) (by omega) (by omega) _ _ _ _ (by omega) (by omega) (hS) (hI) (hPB) (hn9) _ (lv_sub hl [4, 5, 6, 7, 8, 9, 3, 2, 1, 0] rfl)
  exact loop_3 (9) (0) (τ0) (f0) (by omega) (by omega) _ _ _ _ (by omega) (by omega) (hS) (hI) (PB0) _ (lv_sub hl [1, 2, 3, 4, 5, 0] rfl)
