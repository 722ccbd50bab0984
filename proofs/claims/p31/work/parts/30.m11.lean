set_option maxHeartbeats 4000000 in
set_option maxRecDepth 100000 in
theorem kX2_addSection (l : Launch) (D : va_G) (G : Nat → ClassId) (hl9 : l.stackTraces = false) (ax : Nat) (n m9 sp : Int) (τ ζ : Nat → Nat → Int) (g : Nat → Nat → Nat) (cs ss : Nat → Nat → Int32) (hOK : XOK n m9 sp τ ζ) (lab : Nat → Nat) (hXL : XL lab ax n m9 g) (sz : Nat) (a b v9 : Int) (hr0 : -2147483648 ≤ a ∧ a ≤ 2147483647) (hr1 : -2147483648 ≤ b ∧ b ≤ 2147483647) (hv9 : v9 = 0 ∨ v9 = 1) : vx_Met l yX2_addSection wsX2_addSection ({ frames := 7, cells := 2, slots := 12, locals := 150 }) (zPT [.ref ax, .int (zI (a)), .int (zI (b)), .int (zI (v9))] D G (fun H => H.size = sz ∧ XW D G ax n m9 sp τ ζ g cs ss H)) (zMc (some (.int (zI (if m9 = 0 then 0 else ζ (m9 - 1).toNat 0 + ζ (m9 - 1).toNat 1)))) (((1 ≤ a ∧ a ≤ 5000) ∧ (0 ≤ b ∧ b ≤ 255)) ∧ m9 < 12) (fun H => ∃ (g' : Nat → Nat → Nat) (lab' : Nat → Nat), XW D G ax n (m9 + 1) sp τ (va_up ζ m9.toNat (xZn (if m9 = 0 then 0 else ζ (m9 - 1).toNat 0 + ζ (m9 - 1).toNat 1) a b v9)) g' cs ss H ∧ XL lab' ax n (m9 + 1) g' ∧ ∀ q : Nat, q < sz → lab' q = lab q) (zAn [ax, g 0 1] sz)) (zX (fun E => (E = zIA ∧ ¬ ((1 ≤ a ∧ a ≤ 5000) ∧ (0 ≤ b ∧ b ≤ 255))) ∨ (E = zIS ∧ ((1 ≤ a ∧ a ≤ 5000) ∧ (0 ≤ b ∧ b ≤ 255)) ∧ ¬ (m9 < 12)))) 2 12 (zAn [ax, g 0 1] sz) := by
  refine vx_ofW (cc := cX2_addSection) (maxL := 6) (ret := (some .int)) (by decide) rfl ?_
  intro p e s m args below meth c s₁ B hml htab hv
  obtain ⟨hav, ⟨hsz, hW⟩, hK, hN, hT0⟩ := hv
  have hx := B.exec
  have hb := B.bytes
  have hr := B.returns
  have hts := atoms_spec (ws := wsX2_addSection) B.pre
  have hown : s.vm.findClass RX2 = some m.cls := findClass_of_methodNamed B.named
  have hlocks : meth.locks = false := B.notSynchronized
  have hin0 : ∀ w ∈ u_ws RX0 TX0 4, w ∈ wsX2_addSection := by decide +kernel
  have hin2 : ∀ w ∈ u_ws RX2 TX2 5, w ∈ wsX2_addSection := by decide +kernel
  obtain ⟨sa, hsa⟩ := hN.2.2.2.2.2.2
  have hS : va_S (zAn [ax, g 0 1] sz) s.heap s.heap [] := va_S.rf
  obtain ⟨hP, hT, hZ⟩ := id hW
  have hB := id hOK
  obtain ⟨hn0, hn8, hm0, hm12, hsp0, hsp1, -⟩ := hB
  refine z_entry hav (Nat.le_of_ble_eq_true rfl) rfl (fun ls hl => ?_)
  have hl : lv_has ls 6 [(0, .ref ax), (1, .int (zI (a))), (2, .int (zI (b))), (3, .int (zI (v9)))] := hl
  refine lv_iload_n hx hb dX2_addSection_0 rfl (lv_at hl 1 rfl) ?_
  refine lv_iconst (v := zI (1)) hx hb dX2_addSection_1 rfl ?_
  refine lv_sipush (v := zI (5000)) hx hb dX2_addSection_2 (by decide) ?_
  refine z_call (va_runS (As := [.int (zI (a)), .int (zI (1)), .int (zI (5000))]) (rest := []) ⟨hx, hb, hml, hown, hts⟩ (kX2_isWithin l D G (a) (1) (5000) (by omega) (by omega) (by omega)) (va_cwS 3 hts gX2_addSection_X2_isWithin rfl rfl rfl (by decide +kernel) ⟨Nat.le_of_ble_eq_true rfl, Nat.le_of_ble_eq_true rfl⟩) (zPreS hK hN (trivial)) rfl rfl hl.1 rfl (lv_room (Nat.le_of_ble_eq_true rfl)) dX2_addSection_5 ⟨Nat.le_of_ble_eq_true rfl, Nat.le_of_ble_eq_true rfl⟩) ?_
  refine z_eqB (tgt := 26) hx hb dX2_addSection_8 (by decide) (fun c_1 => ?_) (fun c_1 => ?_)
  · refine lv_iconst (v := zI (0)) hx hb dX2_addSection_26 rfl ?_
    refine z_top (w := .int (zB False)) (by rw [zB_f (fun h => h)]; rfl) ?_
    refine z_callX (vx_runS (As := [.int (zB (False))]) (rest := []) ⟨hx, hb, hml, hown, hts⟩ (kX2_checkArgument l D G hl9 (False)) (va_cwS 1 hts gX2_addSection_X2_checkArgument rfl rfl rfl (by decide +kernel) ⟨Nat.le_of_ble_eq_true rfl, Nat.le_of_ble_eq_true rfl⟩) (zPTreS hK hN hT0 (trivial)) rfl rfl hl.1 rfl (lv_room (Nat.le_of_ble_eq_true rfl)) dX2_addSection_27 ⟨Nat.le_of_ble_eq_true rfl, Nat.le_of_ble_eq_true rfl⟩) (fun E ce q9 H1 hco hz hk1 hce hcv hcl => ?_) (fun hp_2 => ?_)
    · exact zx_out htab hlocks hz hk1 hce hcv hcl (by first | exact (hco.2 trivial).elim | exact ⟨hco.1, by have h9 := hco.2; omega⟩ | exact Or.inl ⟨hco.1, by have h9 := hco.2; omega⟩ | exact Or.inr ⟨hco.1, by omega, by have h9 := hco.2; omega⟩) (Nat.le_of_ble_eq_true rfl) (Nat.le_of_ble_eq_true rfl)
    exact hp_2.elim
  · refine lv_iload_n hx hb dX2_addSection_11 rfl (lv_at hl 2 rfl) ?_
    refine lv_iconst (v := zI (0)) hx hb dX2_addSection_12 rfl ?_
    refine lv_sipush (v := zI (255)) hx hb dX2_addSection_13 (by decide) ?_
    refine z_call (va_runS (As := [.int (zI (b)), .int (zI (0)), .int (zI (255))]) (rest := []) ⟨hx, hb, hml, hown, hts⟩ (kX2_isWithin l D G (b) (0) (255) (by omega) (by omega) (by omega)) (va_cwS 3 hts gX2_addSection_X2_isWithin rfl rfl rfl (by decide +kernel) ⟨Nat.le_of_ble_eq_true rfl, Nat.le_of_ble_eq_true rfl⟩) (zPreS hK hN (trivial)) rfl rfl hl.1 rfl (lv_room (Nat.le_of_ble_eq_true rfl)) dX2_addSection_16 ⟨Nat.le_of_ble_eq_true rfl, Nat.le_of_ble_eq_true rfl⟩) ?_
    refine z_eqB (tgt := 26) hx hb dX2_addSection_19 (by decide) (fun c_3 => ?_) (fun c_3 => ?_)
    · refine lv_iconst (v := zI (0)) hx hb dX2_addSection_26 rfl ?_
      refine z_top (w := .int (zB False)) (by rw [zB_f (fun h => h)]; rfl) ?_
      refine z_callX (vx_runS (As := [.int (zB (False))]) (rest := []) ⟨hx, hb, hml, hown, hts⟩ (kX2_checkArgument l D G hl9 (False)) (va_cwS 1 hts gX2_addSection_X2_checkArgument rfl rfl rfl (by decide +kernel) ⟨Nat.le_of_ble_eq_true rfl, Nat.le_of_ble_eq_true rfl⟩) (zPTreS hK hN hT0 (trivial)) rfl rfl hl.1 rfl (lv_room (Nat.le_of_ble_eq_true rfl)) dX2_addSection_27 ⟨Nat.le_of_ble_eq_true rfl, Nat.le_of_ble_eq_true rfl⟩) (fun E ce q9 H1 hco hz hk1 hce hcv hcl => ?_) (fun hp_4 => ?_)
      · exact zx_out htab hlocks hz hk1 hce hcv hcl (by first | exact (hco.2 trivial).elim | exact ⟨hco.1, by have h9 := hco.2; omega⟩ | exact Or.inl ⟨hco.1, by have h9 := hco.2; omega⟩ | exact Or.inr ⟨hco.1, by omega, by have h9 := hco.2; omega⟩) (Nat.le_of_ble_eq_true rfl) (Nat.le_of_ble_eq_true rfl)
      exact hp_4.elim
    · refine lv_iconst (v := zI (1)) hx hb dX2_addSection_22 rfl ?_
      refine lv_goto (tgt := 27) hx hb dX2_addSection_23 (by decide) ?_
      refine z_top (w := .int (zB True)) (by rw [zB_t trivial]; rfl) ?_
      refine z_callX (vx_runS (As := [.int (zB (True))]) (rest := []) ⟨hx, hb, hml, hown, hts⟩ (kX2_checkArgument l D G hl9 (True)) (va_cwS 1 hts gX2_addSection_X2_checkArgument rfl rfl rfl (by decide +kernel) ⟨Nat.le_of_ble_eq_true rfl, Nat.le_of_ble_eq_true rfl⟩) (zPTreS hK hN hT0 (trivial)) rfl rfl hl.1 rfl (lv_room (Nat.le_of_ble_eq_true rfl)) dX2_addSection_27 ⟨Nat.le_of_ble_eq_true rfl, Nat.le_of_ble_eq_true rfl⟩) (fun E ce q9 H1 hco hz hk1 hce hcv hcl => ?_) (fun hp_5 => ?_)
      · exact zx_out htab hlocks hz hk1 hce hcv hcl (by first | exact (hco.2 trivial).elim | exact ⟨hco.1, by have h9 := hco.2; omega⟩ | exact Or.inl ⟨hco.1, by have h9 := hco.2; omega⟩ | exact Or.inr ⟨hco.1, by omega, by have h9 := hco.2; omega⟩) (Nat.le_of_ble_eq_true rfl) (Nat.le_of_ble_eq_true rfl)
      refine lv_aload_n hx hb dX2_addSection_30 rfl (lv_at hl 0 rfl) ?_
      refine va_get (D := D) (ci := 2) (v := .int (zI (m9))) (C := RX2) (T := TX2) (N := 5) hx hb hts hin2 hown hK hP 0 rfl rfl 3 (by decide) (hts (.fieldLink RX2 25 "PolyDrums" "sectionCount" "I") (by decide +kernel)) (fun _ h9 => h9) rfl dX2_addSection_31 ?_
      refine lv_istore (lv' := [(4, .int (zI (m9))), (0, .ref ax), (1, .int (zI (a))), (2, .int (zI (b))), (3, .int (zI (v9)))]) hx hb dX2_addSection_34 hl (by decide) rfl (fun ls hl => ?_)
      refine lv_iload hx hb dX2_addSection_36 (lv_at hl 0 rfl) ?_
      refine z_if_lt (tgt := 51) hx hb (by omega) dX2_addSection_38 (by decide) (fun c_6 => ?_) (fun c_6 => ?_)
      · exfalso; omega
      · refine lv_iload hx hb dX2_addSection_41 (lv_at hl 0 rfl) ?_
        refine lv_aload_n hx hb dX2_addSection_43 rfl (lv_at hl 1 rfl) ?_
        refine va_get (D := D) (ci := 2) (v := .ref (g 0 1)) (C := RX2) (T := TX2) (N := 5) hx hb hts hin2 hown hK hP 0 rfl rfl 2 (by decide) (hts (.fieldLink RX2 21 "PolyDrums" "sections" "[LPolyDrums$Section;") (by decide +kernel)) (fun _ h9 => h9) rfl dX2_addSection_44 ?_
        refine va_alen (D := D) hx hb hK hP 2 5 rfl rfl (v := zI 12) rfl dX2_addSection_47 ?_
        refine z_icmp_lt (tgt := 61) hx hb (by omega) dX2_addSection_48 (by decide) (fun c_7 => ?_) (fun c_7 => ?_)
        · refine lv_aload_n hx hb dX2_addSection_61 rfl (lv_at hl 1 rfl) ?_
          refine z_call (va_runV (As := []) (rest := []) ⟨hx, hb, hml, hown, hts⟩ (kX2_songTicks l D G ax n m9 sp τ ζ g cs ss hOK) (cwV 0 hts gX2_addSection_X2_songTicks rfl rfl rfl (by decide +kernel) ⟨Nat.le_of_ble_eq_true rfl, Nat.le_of_ble_eq_true rfl⟩) (zPreV (va_recv hK hP (ci := 2) (q0 := 0) rfl rfl) hK hN (hW)) rfl rfl hl.1 rfl (lv_room (Nat.le_of_ble_eq_true rfl)) dX2_addSection_62 ⟨Nat.le_of_ble_eq_true rfl, Nat.le_of_ble_eq_true rfl⟩) ?_
          refine lv_istore (lv' := [(5, .int (zI (if m9 = 0 then 0 else ζ (m9 - 1).toNat 0 + ζ (m9 - 1).toNat 1))), (4, .int (zI (m9))), (0, .ref ax), (1, .int (zI (a))), (2, .int (zI (b))), (3, .int (zI (v9)))]) hx hb dX2_addSection_65 hl (by decide) rfl (fun ls hl => ?_)
          have hP : va_P D vwCl [(ax, .inr (2, [.ref (g 0 0), .int (zI (n)), .ref (g 0 1), .int (zI (m9)), .int (zI (sp))])), ((g 0 1), .inl (G 5, 12, .inr (.inr (.inr (.inr (xRef m9 (g 4)))))))] s.heap := hP.sub [0, 2] rfl
          have hnd : [ax, g 0 1].Nodup := by have e1 := hXL.1; have e3 := hXL.2.2.1; simp only [List.nodup_cons, List.mem_cons, List.not_mem_nil, or_false, List.nodup_nil, and_true, not_false_eq_true]; intro e; rw [e] at e1; omega
          have hnd' := hnd
          simp only [List.nodup_cons, List.mem_cons, List.not_mem_nil, or_false, List.nodup_nil, and_true, not_or, not_false_eq_true] at hnd'
          have hD : va_D (zAn [ax, g 0 1] sz) [(ax, .inr (2, [.ref (g 0 0), .int (zI (n)), .ref (g 0 1), .int (zI (m9)), .int (zI (sp))])), ((g 0 1), .inl (G 5, 12, .inr (.inr (.inr (.inr (xRef m9 (g 4)))))))] := z_Dofn hnd rfl
          have hA : ∀ q : Nat, s.heap.size ≤ q → (zAn [ax, g 0 1] sz) q := fun q h => Or.inr (by omega)
          refine lv_aload_n hx hb dX2_addSection_67 rfl (lv_at hl 2 rfl) ?_
          refine va_get (D := D) (ci := 2) (v := .ref (g 0 1)) (C := RX2) (T := TX2) (N := 5) hx hb hts hin2 hown hK hP 0 rfl rfl 2 (by decide) (hts (.fieldLink RX2 21 "PolyDrums" "sections" "[LPolyDrums$Section;") (by decide +kernel)) (fun _ h9 => h9) rfl dX2_addSection_68 ?_
          refine lv_iload hx hb dX2_addSection_71 (lv_at hl 1 rfl) ?_
          refine va_new (D := D) (ci := 0) (C := RX0) (T := TX0) (N := 4) (fs := [.int (0), .int (0), .int (0), .int (0)]) hx hb hts hin0 tyX0 tyX0_ok hown (hts (.classLink RX2 19 RX0) (by decide +kernel)) (hts (.instantiable RX0 4) (by decide +kernel)) (hts (.initialized RX0) (by decide +kernel)) hK hP hD hS hA rfl (z_dfl0) (Nat.le_of_ble_eq_true rfl) (Nat.le_of_ble_eq_true rfl) dX2_addSection_73 (fun q_8 H hP hD hS => ?_)
          have hP : va_P D vwCl [(ax, .inr (2, [.ref (g 0 0), .int (zI (n)), .ref (g 0 1), .int (zI (m9)), .int (zI (sp))])), ((g 0 1), .inl (G 5, 12, .inr (.inr (.inr (.inr (xRef m9 (g 4))))))), (q_8, .inr (0, [.int (0), .int (0), .int (0), .int (0)]))] H := hP
          have hD : va_D (zAn [ax, g 0 1] sz) [(ax, .inr (2, [.ref (g 0 0), .int (zI (n)), .ref (g 0 1), .int (zI (m9)), .int (zI (sp))])), ((g 0 1), .inl (G 5, 12, .inr (.inr (.inr (.inr (xRef m9 (g 4))))))), (q_8, .inr (0, [.int (0), .int (0), .int (0), .int (0)]))] := hD
          have hnd := z_nd hD (L := [ax, (g 0 1), q_8]) rfl
          have hnd' := hnd
          simp only [List.nodup_cons, List.mem_cons, List.not_mem_nil, or_false, List.nodup_nil, and_true, not_or, not_false_eq_true] at hnd'
          have hsq_8 : sz ≤ q_8 := by have h9 := hD.2 2 _ rfl; simp only [zAn, List.mem_cons, List.not_mem_nil, or_false] at h9; omega
          have hsH : sz ≤ H.size := by have := hS.1; omega
          refine lv_dup hx hb dX2_addSection_76 rfl ?_
          refine lv_iload hx hb dX2_addSection_77 (lv_at hl 0 rfl) ?_
          refine lv_iload_n hx hb dX2_addSection_79 rfl (lv_at hl 3 rfl) ?_
          refine lv_iload_n hx hb dX2_addSection_80 rfl (lv_at hl 4 rfl) ?_
          refine lv_iload_n hx hb dX2_addSection_81 rfl (lv_at hl 5 rfl) ?_
          refine z_callM (va_runIN (As := [.int (zI (if m9 = 0 then 0 else ζ (m9 - 1).toNat 0 + ζ (m9 - 1).toNat 1)), .int (zI (a)), .int (zI (b)), .int (zI (v9))]) (rest := [.ref q_8, .int (zI (m9)), .ref (g 0 1)]) ⟨hx, hb, hml, hown, hts⟩ (kX0_init l D G q_8 (if m9 = 0 then 0 else ζ (m9 - 1).toNat 0 + ζ (m9 - 1).toNat 1) (a) (b) (v9) (by simp) hv9) ⟨va_cnB 4 hts gX2_addSection_X0_init_n120 rfl rfl rfl (hN.1 (RX2, 120, yX0_init) (by decide +kernel)) (hts (.initialized RX0) (by decide +kernel)) (by decide +kernel) ⟨Nat.le_of_ble_eq_true rfl, Nat.le_of_ble_eq_true rfl⟩, rfl, hts (.instanceMethod yX0_init) (by decide +kernel)⟩ (zPreS hK hN (hP.sub [2] rfl)) rfl rfl hl.1 rfl (lv_room (Nat.le_of_ble_eq_true rfl)) dX2_addSection_82 ⟨Nat.le_of_ble_eq_true rfl, Nat.le_of_ble_eq_true rfl⟩) hS (by intro q hq9 hq; simp only [zA, zAn, List.mem_cons, List.not_mem_nil, or_false] at hq ⊢ <;> omega) (by intro q hq; simp only [zA, zAn, List.mem_cons, List.not_mem_nil, or_false] at hq ⊢ <;> omega) (fun H1 locs1 hp1 hz1 hk1 hS1 => ?_)
          have hP : va_P D vwCl [(ax, .inr (2, [.ref (g 0 0), .int (zI (n)), .ref (g 0 1), .int (zI (m9)), .int (zI (sp))])), ((g 0 1), .inl (G 5, 12, .inr (.inr (.inr (.inr (xRef m9 (g 4))))))), (q_8, .inr (0, [.int (zI (if m9 = 0 then 0 else ζ (m9 - 1).toNat 0 + ζ (m9 - 1).toNat 1)), .int (zI (a)), .int (zI (b)), .int (zI (v9))]))] H1 := z_merge hP hk1 (w1 := [(q_8, .inr (0, [.int (zI (if m9 = 0 then 0 else ζ (m9 - 1).toNat 0 + ζ (m9 - 1).toNat 1)), .int (zI (a)), .int (zI (b)), .int (zI (v9))]))]) (wr := [(ax, .inr (2, [.ref (g 0 0), .int (zI (n)), .ref (g 0 1), .int (zI (m9)), .int (zI (sp))])), ((g 0 1), .inl (G 5, 12, .inr (.inr (.inr (.inr (xRef m9 (g 4)))))))]) hp1 [0, 1] rfl (by intro q hq; simp only [List.map, List.mem_cons, List.not_mem_nil, or_false] at hq ⊢ <;> omega) [1, 2, 0] rfl
          have hS := hS1
          clear hS1
          have hD : va_D (zAn [ax, g 0 1] sz) [(ax, .inr (2, [.ref (g 0 0), .int (zI (n)), .ref (g 0 1), .int (zI (m9)), .int (zI (sp))])), ((g 0 1), .inl (G 5, 12, .inr (.inr (.inr (.inr (xRef m9 (g 4))))))), (q_8, .inr (0, [.int (zI (if m9 = 0 then 0 else ζ (m9 - 1).toNat 0 + ζ (m9 - 1).toNat 1)), .int (zI (a)), .int (zI (b)), .int (zI (v9))]))] := z_Dn2 hnd rfl (by intro q hq; simp only [zAn, List.mem_cons, List.not_mem_nil, or_false] at hq ⊢; omega)
          refine z_astq (D := D) hx hb hK hP hD hS 1 5 rfl 2 0 rfl rfl rfl (by omega) (by omega) dX2_addSection_85 (fun H locs hP hD hS => ?_)
          have hP : va_P D vwCl [(ax, .inr (2, [.ref (g 0 0), .int (zI (n)), .ref (g 0 1), .int (zI (m9)), .int (zI (sp))])), ((g 0 1), .inl (G 5, 12, .inr (.inr (.inr (.inr (va_up (xRef m9 (g 4)) (m9).toNat (some (q_8)))))))), (q_8, .inr (0, [.int (zI (if m9 = 0 then 0 else ζ (m9 - 1).toNat 0 + ζ (m9 - 1).toNat 1)), .int (zI (a)), .int (zI (b)), .int (zI (v9))]))] H := hP
          have hD : va_D (zAn [ax, g 0 1] sz) [(ax, .inr (2, [.ref (g 0 0), .int (zI (n)), .ref (g 0 1), .int (zI (m9)), .int (zI (sp))])), ((g 0 1), .inl (G 5, 12, .inr (.inr (.inr (.inr (va_up (xRef m9 (g 4)) (m9).toNat (some (q_8)))))))), (q_8, .inr (0, [.int (zI (if m9 = 0 then 0 else ζ (m9 - 1).toNat 0 + ζ (m9 - 1).toNat 1)), .int (zI (a)), .int (zI (b)), .int (zI (v9))]))] := hD
          refine lv_aload_n hx hb dX2_addSection_86 rfl (lv_at hl 2 rfl) ?_
          refine lv_iload hx hb dX2_addSection_87 (lv_at hl 1 rfl) ?_
          refine lv_iconst (v := zI (1)) hx hb dX2_addSection_89 rfl ?_
          refine z_iadd hx hb dX2_addSection_90 ?_
          refine va_put (D := D) (ci := 2) (v := .int (zI ((m9) + (1)))) (ty := .int) (C := RX2) (T := TX2) (N := 5) hx hb hts hin2 tyX2 tyX2_ok nmX2 hown hK hP hD hS 0 rfl rfl 3 (by decide) (hts (.fieldLink RX2 25 "PolyDrums" "sectionCount" "I") (by decide +kernel)) (fun _ h9 => h9) rfl (by decide +kernel) rfl rfl (Nat.le_of_ble_eq_true rfl) dX2_addSection_91 (fun H locs hP hD hS => ?_)
          have hP : va_P D vwCl [(ax, .inr (2, [.ref (g 0 0), .int (zI (n)), .ref (g 0 1), .int (zI ((m9) + (1))), .int (zI (sp))])), ((g 0 1), .inl (G 5, 12, .inr (.inr (.inr (.inr (va_up (xRef m9 (g 4)) (m9).toNat (some (q_8)))))))), (q_8, .inr (0, [.int (zI (if m9 = 0 then 0 else ζ (m9 - 1).toNat 0 + ζ (m9 - 1).toNat 1)), .int (zI (a)), .int (zI (b)), .int (zI (v9))]))] H := hP
          have hD : va_D (zAn [ax, g 0 1] sz) [(ax, .inr (2, [.ref (g 0 0), .int (zI (n)), .ref (g 0 1), .int (zI ((m9) + (1))), .int (zI (sp))])), ((g 0 1), .inl (G 5, 12, .inr (.inr (.inr (.inr (va_up (xRef m9 (g 4)) (m9).toNat (some (q_8)))))))), (q_8, .inr (0, [.int (zI (if m9 = 0 then 0 else ζ (m9 - 1).toNat 0 + ζ (m9 - 1).toNat 1)), .int (zI (a)), .int (zI (b)), .int (zI (v9))]))] := hD
          refine lv_iload hx hb dX2_addSection_94 (lv_at hl 0 rfl) ?_
          exact zmc_iret hx hb hr hlocks hS (by subst hsz; exact ⟨_, _, XW_sec hW hXL hm0 (z := xZn (if m9 = 0 then 0 else ζ (m9 - 1).toNat 0 + ζ (m9 - 1).toNat 1) a b v9) (hP.sub [0, 1] rfl) (hP.sub [2] rfl) (by omega) (fun q h1 h2 => hS.2.1 q h1 (fun h => h.elim h2 (fun h => by omega)))⟩) (by first | rfl | omega) (by omega) dX2_addSection_96 (Nat.le_of_ble_eq_true rfl) (Nat.le_of_ble_eq_true rfl)
        · exact vx_throwS hx hb hl9 (own := RX2) (cls := "java/lang/IllegalStateException") (text := "there are 12 sections") (names := ["java/lang/RuntimeException", "java/lang/Exception"]) (ik := 39) (is := 115) (ic := 43) (A := fun _ => False) (sa := sa 115) hown (by decide +kernel) (by decide +kernel) (hts (.classLink RX2 39 "java/lang/IllegalStateException") (by decide +kernel)) (hts (.initialized "java/lang/IllegalStateException") (by decide +kernel)) (hsa (115, "there are 12 sections") (by decide +kernel)) (vx_hat (B := [.castable "java/lang/IllegalStateException" "java/lang/IllegalStateException", .declares (Bundle.initS "java/lang/RuntimeException"), .declares (Bundle.initS "java/lang/Exception"), .declares (Bundle.initS "java/lang/Throwable")]) (fun w h => hts w (List.mem_cons_of_mem _ (List.mem_append_left _ (List.mem_append_right _ h)))) (by decide +kernel) (vx_c (va_Nw.use rfl (hN.2.2.1 "java/lang/IllegalStateException" (by decide +kernel))) (vx_c (va_Nw.use rfl (hN.2.2.2.2.1 "java/lang/RuntimeException" (by decide +kernel))) (vx_c (va_Nw.use rfl (hN.2.2.2.2.1 "java/lang/Exception" (by decide +kernel))) (vx_c (va_Nw.use rfl (hN.2.2.2.2.1 "java/lang/Throwable" (by decide +kernel))) vx_n))))) (by decide +kernel) hT0.1 hT0.2 va_S.rf (hl.1.trans hml.symm) dX2_addSection_51 dX2_addSection_54 dX2_addSection_55 dX2_addSection_57 dX2_addSection_60 (fun x hx => (htab x hx).elim) (Nat.le_of_ble_eq_true rfl) (Nat.le_of_ble_eq_true rfl) (Nat.le_of_ble_eq_true rfl) (Nat.le_of_ble_eq_true rfl) hlocks (fun t _ hz hk => ⟨Or.inr ⟨rfl, by omega, by omega⟩, hz, fun q hq _ => hk q hq⟩) (fun _ h => nomatch h) (Nat.le_of_ble_eq_true rfl) (Nat.le_of_ble_eq_true rfl)

set_option maxHeartbeats 4000000 in
set_option maxRecDepth 100000 in
theorem kX2_addTrack (l : Launch) (D : va_G) (G : Nat → ClassId) (hl9 : l.stackTraces = false) (ax : Nat) (n m9 sp : Int) (τ ζ : Nat → Nat → Int) (g : Nat → Nat → Nat) (cs ss : Nat → Nat → Int32) (hOK : XOK n m9 sp τ ζ) (lab : Nat → Nat) (hXL : XL lab ax n m9 g) (sz : Nat) (a b : Int) (hr0 : -2147483648 ≤ a ∧ a ≤ 2147483647) (hr1 : -2147483648 ≤ b ∧ b ≤ 2147483647) : vx_Met l yX2_addTrack wsX2_addTrack ({ frames := 7, cells := 4, slots := 280, locals := 150 }) (zPT [.ref ax, .int (zI (a)), .int (zI (b))] D G (fun H => H.size = sz ∧ XW D G ax n m9 sp τ ζ g cs ss H)) (zMc (some (.int (zI (n)))) (((1 ≤ a ∧ a ≤ 32) ∧ (1 ≤ b ∧ b ≤ 48)) ∧ n < 8) (fun H => ∃ (g' : Nat → Nat → Nat) (lab' : Nat → Nat) (cs' ss' : Nat → Nat → Int32), XW D G ax (n + 1) m9 sp (va_up τ n.toNat (xF0 a b)) ζ g' cs' ss' H ∧ XL lab' ax (n + 1) m9 g' ∧ ∀ q : Nat, q < sz → lab' q = lab q) (zAn [ax, g 0 0] sz)) (zX (fun E => (E = zIA ∧ ¬ ((1 ≤ a ∧ a ≤ 32) ∧ (1 ≤ b ∧ b ≤ 48))) ∨ (E = zIS ∧ ((1 ≤ a ∧ a ≤ 32) ∧ (1 ≤ b ∧ b ≤ 48)) ∧ ¬ (n < 8)))) 4 280 (zAn [ax, g 0 0] sz) := by
  refine vx_ofW (cc := cX2_addTrack) (maxL := 4) (ret := (some .int)) (by decide) rfl ?_
  intro p e s m args below meth c s₁ B hml htab hv
  obtain ⟨hav, ⟨hsz, hW⟩, hK, hN, hT0⟩ := hv
  have hx := B.exec
  have hb := B.bytes
  have hr := B.returns
  have hts := atoms_spec (ws := wsX2_addTrack) B.pre
  have hown : s.vm.findClass RX2 = some m.cls := findClass_of_methodNamed B.named
  have hlocks : meth.locks = false := B.notSynchronized
  have hin1 : ∀ w ∈ u_ws RX1 TX1 10, w ∈ wsX2_addTrack := by decide +kernel
  have hin2 : ∀ w ∈ u_ws RX2 TX2 5, w ∈ wsX2_addTrack := by decide +kernel
  obtain ⟨sa, hsa⟩ := hN.2.2.2.2.2.2
  have hS : va_S (zAn [ax, g 0 0] sz) s.heap s.heap [] := va_S.rf
  obtain ⟨hP, hT, hZ⟩ := id hW
  have hB := id hOK
  obtain ⟨hn0, hn8, hm0, hm12, hsp0, hsp1, -⟩ := hB
  refine z_entry hav (Nat.le_of_ble_eq_true rfl) rfl (fun ls hl => ?_)
  have hl : lv_has ls 4 [(0, .ref ax), (1, .int (zI (a))), (2, .int (zI (b)))] := hl
  refine lv_iload_n hx hb dX2_addTrack_0 rfl (lv_at hl 1 rfl) ?_
  refine lv_iconst (v := zI (1)) hx hb dX2_addTrack_1 rfl ?_
  refine lv_bipush (v := zI (32)) hx hb dX2_addTrack_2 (by decide) ?_
  refine z_call (va_runS (As := [.int (zI (a)), .int (zI (1)), .int (zI (32))]) (rest := []) ⟨hx, hb, hml, hown, hts⟩ (kX2_isWithin l D G (a) (1) (32) (by omega) (by omega) (by omega)) (va_cwS 3 hts gX2_addTrack_X2_isWithin rfl rfl rfl (by decide +kernel) ⟨Nat.le_of_ble_eq_true rfl, Nat.le_of_ble_eq_true rfl⟩) (zPreS hK hN (trivial)) rfl rfl hl.1 rfl (lv_room (Nat.le_of_ble_eq_true rfl)) dX2_addTrack_4 ⟨Nat.le_of_ble_eq_true rfl, Nat.le_of_ble_eq_true rfl⟩) ?_
  refine z_eqB (tgt := 24) hx hb dX2_addTrack_7 (by decide) (fun c_1 => ?_) (fun c_1 => ?_)
  · refine lv_iconst (v := zI (0)) hx hb dX2_addTrack_24 rfl ?_
    refine z_top (w := .int (zB False)) (by rw [zB_f (fun h => h)]; rfl) ?_
    refine z_callX (vx_runS (As := [.int (zB (False))]) (rest := []) ⟨hx, hb, hml, hown, hts⟩ (kX2_checkArgument l D G hl9 (False)) (va_cwS 1 hts gX2_addTrack_X2_checkArgument rfl rfl rfl (by decide +kernel) ⟨Nat.le_of_ble_eq_true rfl, Nat.le_of_ble_eq_true rfl⟩) (zPTreS hK hN hT0 (trivial)) rfl rfl hl.1 rfl (lv_room (Nat.le_of_ble_eq_true rfl)) dX2_addTrack_25 ⟨Nat.le_of_ble_eq_true rfl, Nat.le_of_ble_eq_true rfl⟩) (fun E ce q9 H1 hco hz hk1 hce hcv hcl => ?_) (fun hp_2 => ?_)
    · exact zx_out htab hlocks hz hk1 hce hcv hcl (by first | exact (hco.2 trivial).elim | exact ⟨hco.1, by have h9 := hco.2; omega⟩ | exact Or.inl ⟨hco.1, by have h9 := hco.2; omega⟩ | exact Or.inr ⟨hco.1, by omega, by have h9 := hco.2; omega⟩) (Nat.le_of_ble_eq_true rfl) (Nat.le_of_ble_eq_true rfl)
    exact hp_2.elim
  · refine lv_iload_n hx hb dX2_addTrack_10 rfl (lv_at hl 2 rfl) ?_
    refine lv_iconst (v := zI (1)) hx hb dX2_addTrack_11 rfl ?_
    refine lv_bipush (v := zI (48)) hx hb dX2_addTrack_12 (by decide) ?_
    refine z_call (va_runS (As := [.int (zI (b)), .int (zI (1)), .int (zI (48))]) (rest := []) ⟨hx, hb, hml, hown, hts⟩ (kX2_isWithin l D G (b) (1) (48) (by omega) (by omega) (by omega)) (va_cwS 3 hts gX2_addTrack_X2_isWithin rfl rfl rfl (by decide +kernel) ⟨Nat.le_of_ble_eq_true rfl, Nat.le_of_ble_eq_true rfl⟩) (zPreS hK hN (trivial)) rfl rfl hl.1 rfl (lv_room (Nat.le_of_ble_eq_true rfl)) dX2_addTrack_14 ⟨Nat.le_of_ble_eq_true rfl, Nat.le_of_ble_eq_true rfl⟩) ?_
    refine z_eqB (tgt := 24) hx hb dX2_addTrack_17 (by decide) (fun c_3 => ?_) (fun c_3 => ?_)
    · refine lv_iconst (v := zI (0)) hx hb dX2_addTrack_24 rfl ?_
      refine z_top (w := .int (zB False)) (by rw [zB_f (fun h => h)]; rfl) ?_
      refine z_callX (vx_runS (As := [.int (zB (False))]) (rest := []) ⟨hx, hb, hml, hown, hts⟩ (kX2_checkArgument l D G hl9 (False)) (va_cwS 1 hts gX2_addTrack_X2_checkArgument rfl rfl rfl (by decide +kernel) ⟨Nat.le_of_ble_eq_true rfl, Nat.le_of_ble_eq_true rfl⟩) (zPTreS hK hN hT0 (trivial)) rfl rfl hl.1 rfl (lv_room (Nat.le_of_ble_eq_true rfl)) dX2_addTrack_25 ⟨Nat.le_of_ble_eq_true rfl, Nat.le_of_ble_eq_true rfl⟩) (fun E ce q9 H1 hco hz hk1 hce hcv hcl => ?_) (fun hp_4 => ?_)
      · exact zx_out htab hlocks hz hk1 hce hcv hcl (by first | exact (hco.2 trivial).elim | exact ⟨hco.1, by have h9 := hco.2; omega⟩ | exact Or.inl ⟨hco.1, by have h9 := hco.2; omega⟩ | exact Or.inr ⟨hco.1, by omega, by have h9 := hco.2; omega⟩) (Nat.le_of_ble_eq_true rfl) (Nat.le_of_ble_eq_true rfl)
      exact hp_4.elim
    · refine lv_iconst (v := zI (1)) hx hb dX2_addTrack_20 rfl ?_
      refine lv_goto (tgt := 25) hx hb dX2_addTrack_21 (by decide) ?_
      refine z_top (w := .int (zB True)) (by rw [zB_t trivial]; rfl) ?_
      refine z_callX (vx_runS (As := [.int (zB (True))]) (rest := []) ⟨hx, hb, hml, hown, hts⟩ (kX2_checkArgument l D G hl9 (True)) (va_cwS 1 hts gX2_addTrack_X2_checkArgument rfl rfl rfl (by decide +kernel) ⟨Nat.le_of_ble_eq_true rfl, Nat.le_of_ble_eq_true rfl⟩) (zPTreS hK hN hT0 (trivial)) rfl rfl hl.1 rfl (lv_room (Nat.le_of_ble_eq_true rfl)) dX2_addTrack_25 ⟨Nat.le_of_ble_eq_true rfl, Nat.le_of_ble_eq_true rfl⟩) (fun E ce q9 H1 hco hz hk1 hce hcv hcl => ?_) (fun hp_5 => ?_)
      · exact zx_out htab hlocks hz hk1 hce hcv hcl (by first | exact (hco.2 trivial).elim | exact ⟨hco.1, by have h9 := hco.2; omega⟩ | exact Or.inl ⟨hco.1, by have h9 := hco.2; omega⟩ | exact Or.inr ⟨hco.1, by omega, by have h9 := hco.2; omega⟩) (Nat.le_of_ble_eq_true rfl) (Nat.le_of_ble_eq_true rfl)
      refine lv_aload_n hx hb dX2_addTrack_28 rfl (lv_at hl 0 rfl) ?_
      refine va_get (D := D) (ci := 2) (v := .int (zI (n))) (C := RX2) (T := TX2) (N := 5) hx hb hts hin2 hown hK hP 0 rfl rfl 1 (by decide) (hts (.fieldLink RX2 15 "PolyDrums" "trackCount" "I") (by decide +kernel)) (fun _ h9 => h9) rfl dX2_addTrack_29 ?_
      refine lv_istore_n (lv' := [(3, .int (zI (n))), (0, .ref ax), (1, .int (zI (a))), (2, .int (zI (b)))]) hx hb dX2_addTrack_32 rfl hl (by decide) rfl (fun ls hl => ?_)
      refine lv_iload_n hx hb dX2_addTrack_33 rfl (lv_at hl 0 rfl) ?_
      refine z_if_lt (tgt := 46) hx hb (by omega) dX2_addTrack_34 (by decide) (fun c_6 => ?_) (fun c_6 => ?_)
      · exfalso; omega
      · refine lv_iload_n hx hb dX2_addTrack_37 rfl (lv_at hl 0 rfl) ?_
        refine lv_aload_n hx hb dX2_addTrack_38 rfl (lv_at hl 1 rfl) ?_
        refine va_get (D := D) (ci := 2) (v := .ref (g 0 0)) (C := RX2) (T := TX2) (N := 5) hx hb hts hin2 hown hK hP 0 rfl rfl 0 (by decide) (hts (.fieldLink RX2 11 "PolyDrums" "tracks" "[LPolyDrums$Track;") (by decide +kernel)) (fun _ h9 => h9) rfl dX2_addTrack_39 ?_
        refine va_alen (D := D) hx hb hK hP 1 4 rfl rfl (v := zI 8) rfl dX2_addTrack_42 ?_
        refine z_icmp_lt (tgt := 56) hx hb (by omega) dX2_addTrack_43 (by decide) (fun c_7 => ?_) (fun c_7 => ?_)
        · have hP : va_P D vwCl [(ax, .inr (2, [.ref (g 0 0), .int (zI (n)), .ref (g 0 1), .int (zI (m9)), .int (zI (sp))])), ((g 0 0), .inl (G 4, 8, .inr (.inr (.inr (.inr (xRef n (g 1)))))))] s.heap := hP.sub [0, 1] rfl
          have hnd : [ax, g 0 0].Nodup := by have e1 := hXL.1; have e3 := hXL.2.1; simp only [List.nodup_cons, List.mem_cons, List.not_mem_nil, or_false, List.nodup_nil, and_true, not_false_eq_true]; intro e; rw [e] at e1; omega
          have hnd' := hnd
          simp only [List.nodup_cons, List.mem_cons, List.not_mem_nil, or_false, List.nodup_nil, and_true, not_or, not_false_eq_true] at hnd'
          have hD : va_D (zAn [ax, g 0 0] sz) [(ax, .inr (2, [.ref (g 0 0), .int (zI (n)), .ref (g 0 1), .int (zI (m9)), .int (zI (sp))])), ((g 0 0), .inl (G 4, 8, .inr (.inr (.inr (.inr (xRef n (g 1)))))))] := z_Dofn hnd rfl
          have hA : ∀ q : Nat, s.heap.size ≤ q → (zAn [ax, g 0 0] sz) q := fun q h => Or.inr (by omega)
          refine lv_aload_n hx hb dX2_addTrack_56 rfl (lv_at hl 1 rfl) ?_
          refine va_get (D := D) (ci := 2) (v := .ref (g 0 0)) (C := RX2) (T := TX2) (N := 5) hx hb hts hin2 hown hK hP 0 rfl rfl 0 (by decide) (hts (.fieldLink RX2 11 "PolyDrums" "tracks" "[LPolyDrums$Track;") (by decide +kernel)) (fun _ h9 => h9) rfl dX2_addTrack_57 ?_
          refine lv_iload_n hx hb dX2_addTrack_60 rfl (lv_at hl 0 rfl) ?_
          refine va_new (D := D) (ci := 1) (C := RX1) (T := TX1) (N := 10) (fs := [.int (0), .int (0), .int (0), .int (0), .int (0), .int (0), .int (0), .int (0), .null, .null]) hx hb hts hin1 tyX1 tyX1_ok hown (hts (.classLink RX2 9 RX1) (by decide +kernel)) (hts (.instantiable RX1 10) (by decide +kernel)) (hts (.initialized RX1) (by decide +kernel)) hK hP hD hS hA rfl (z_dfl1) (Nat.le_of_ble_eq_true rfl) (Nat.le_of_ble_eq_true rfl) dX2_addTrack_61 (fun q_8 H hP hD hS => ?_)
          have hP : va_P D vwCl [(ax, .inr (2, [.ref (g 0 0), .int (zI (n)), .ref (g 0 1), .int (zI (m9)), .int (zI (sp))])), ((g 0 0), .inl (G 4, 8, .inr (.inr (.inr (.inr (xRef n (g 1))))))), (q_8, .inr (1, [.int (0), .int (0), .int (0), .int (0), .int (0), .int (0), .int (0), .int (0), .null, .null]))] H := hP
          have hD : va_D (zAn [ax, g 0 0] sz) [(ax, .inr (2, [.ref (g 0 0), .int (zI (n)), .ref (g 0 1), .int (zI (m9)), .int (zI (sp))])), ((g 0 0), .inl (G 4, 8, .inr (.inr (.inr (.inr (xRef n (g 1))))))), (q_8, .inr (1, [.int (0), .int (0), .int (0), .int (0), .int (0), .int (0), .int (0), .int (0), .null, .null]))] := hD
          have hnd := z_nd hD (L := [ax, (g 0 0), q_8]) rfl
          have hnd' := hnd
          simp only [List.nodup_cons, List.mem_cons, List.not_mem_nil, or_false, List.nodup_nil, and_true, not_or, not_false_eq_true] at hnd'
          have hsq_8 : sz ≤ q_8 := by have h9 := hD.2 2 _ rfl; simp only [zAn, List.mem_cons, List.not_mem_nil, or_false] at h9; omega
          have hsH : sz ≤ H.size := by have := hS.1; omega
          refine lv_dup hx hb dX2_addTrack_64 rfl ?_
          refine lv_iload_n hx hb dX2_addTrack_65 rfl (lv_at hl 2 rfl) ?_
          refine lv_iload_n hx hb dX2_addTrack_66 rfl (lv_at hl 3 rfl) ?_
          refine z_callM (va_runIN (As := [.int (zI (a)), .int (zI (b))]) (rest := [.ref q_8, .int (zI (n)), .ref (g 0 0)]) ⟨hx, hb, hml, hown, hts⟩ (kX1_init l D G q_8 H.size (a) (b) (by omega) (by omega)) ⟨va_cnB 2 hts gX2_addTrack_X1_init_n46 rfl rfl rfl (hN.1 (RX2, 46, yX1_init) (by decide +kernel)) (hts (.initialized RX1) (by decide +kernel)) (by decide +kernel) ⟨Nat.le_of_ble_eq_true rfl, Nat.le_of_ble_eq_true rfl⟩, rfl, hts (.instanceMethod yX1_init) (by decide +kernel)⟩ (zPreS hK hN (⟨rfl, hP.sub [2] rfl⟩)) rfl rfl hl.1 rfl (lv_room (Nat.le_of_ble_eq_true rfl)) dX2_addTrack_67 ⟨Nat.le_of_ble_eq_true rfl, Nat.le_of_ble_eq_true rfl⟩) hS (by intro q hq9 hq; simp only [zA, zAn, List.mem_cons, List.not_mem_nil, or_false] at hq ⊢ <;> omega) (by intro q hq; simp only [zA, zAn, List.mem_cons, List.not_mem_nil, or_false] at hq ⊢ <;> omega) (fun H1 locs1 hp1 hz1 hk1 hS1 => ?_)
          obtain ⟨ca, pa, cn, sn, hp2, hnt, hcs, hps, hTR⟩ := hp1
          have hlx := (hP 0 _ rfl).lt
          have hly := (hP 1 _ rfl).lt
          have hlq := (hP 2 _ rfl).lt
          have hP : va_P D vwCl [(ax, .inr (2, [.ref (g 0 0), .int (zI (n)), .ref (g 0 1), .int (zI (m9)), .int (zI (sp))])), ((g 0 0), .inl (G 4, 8, .inr (.inr (.inr (.inr (xRef n (g 1))))))), (q_8, .inr (1, [.int (zI ((xF0 a b) 1)), .int (zI ((xF0 a b) 0)), .int (zI ((xF0 a b) 2)), .int (zI ((xF0 a b) 3)), .int (zI ((xF0 a b) 4)), .int (zI ((xF0 a b) 5)), .int (zI ((xF0 a b) 6)), .int (zI ((xF0 a b) 7)), .ref ca, .ref pa])), (ca, .inl (G 0, 128, .inl (cn))), (pa, .inl (G 0, 128, .inl (sn)))] H1 := z_mergeN hP hk1 (w1 := [(q_8, .inr (1, [.int (zI ((xF0 a b) 1)), .int (zI ((xF0 a b) 0)), .int (zI ((xF0 a b) 2)), .int (zI ((xF0 a b) 3)), .int (zI ((xF0 a b) 4)), .int (zI ((xF0 a b) 5)), .int (zI ((xF0 a b) 6)), .int (zI ((xF0 a b) 7)), .ref ca, .ref pa])), (ca, .inl (G 0, 128, .inl (cn))), (pa, .inl (G 0, 128, .inl (sn)))]) (wr := [(ax, .inr (2, [.ref (g 0 0), .int (zI (n)), .ref (g 0 1), .int (zI (m9)), .int (zI (sp))])), ((g 0 0), .inl (G 4, 8, .inr (.inr (.inr (.inr (xRef n (g 1)))))))]) hp2 [0, 1] rfl (by intro q hq; simp only [List.map, List.mem_cons, List.not_mem_nil, or_false] at hq ⊢ <;> omega) [3, 4, 0, 1, 2] rfl
          have hS := hS1
          clear hS1
          simp only [List.nodup_cons, List.mem_cons, List.not_mem_nil, or_false, List.nodup_nil, and_true, not_or, not_false_eq_true] at hnt
          have hnd : [ax, g 0 0, q_8, ca, pa].Nodup := by simp only [List.nodup_cons, List.mem_cons, List.not_mem_nil, or_false, List.nodup_nil, and_true, not_or, not_false_eq_true]; have hlx : ax < H.size := hlx; have hly : g 0 0 < H.size := hly; omega
          have hD : va_D (zAn [ax, g 0 0] sz) [(ax, .inr (2, [.ref (g 0 0), .int (zI (n)), .ref (g 0 1), .int (zI (m9)), .int (zI (sp))])), ((g 0 0), .inl (G 4, 8, .inr (.inr (.inr (.inr (xRef n (g 1))))))), (q_8, .inr (1, [.int (zI ((xF0 a b) 1)), .int (zI ((xF0 a b) 0)), .int (zI ((xF0 a b) 2)), .int (zI ((xF0 a b) 3)), .int (zI ((xF0 a b) 4)), .int (zI ((xF0 a b) 5)), .int (zI ((xF0 a b) 6)), .int (zI ((xF0 a b) 7)), .ref ca, .ref pa])), (ca, .inl (G 0, 128, .inl (cn))), (pa, .inl (G 0, 128, .inl (sn)))] := z_Dn2 hnd rfl (by intro q hq; simp only [zAn, List.mem_cons, List.not_mem_nil, or_false] at hq ⊢; omega)
          refine z_astq (D := D) hx hb hK hP hD hS 1 4 rfl 2 1 rfl rfl rfl (by omega) (by omega) dX2_addTrack_70 (fun H locs hP hD hS => ?_)
          have hP : va_P D vwCl [(ax, .inr (2, [.ref (g 0 0), .int (zI (n)), .ref (g 0 1), .int (zI (m9)), .int (zI (sp))])), ((g 0 0), .inl (G 4, 8, .inr (.inr (.inr (.inr (va_up (xRef n (g 1)) (n).toNat (some (q_8)))))))), (q_8, .inr (1, [.int (zI ((xF0 a b) 1)), .int (zI ((xF0 a b) 0)), .int (zI ((xF0 a b) 2)), .int (zI ((xF0 a b) 3)), .int (zI ((xF0 a b) 4)), .int (zI ((xF0 a b) 5)), .int (zI ((xF0 a b) 6)), .int (zI ((xF0 a b) 7)), .ref ca, .ref pa])), (ca, .inl (G 0, 128, .inl (cn))), (pa, .inl (G 0, 128, .inl (sn)))] H := hP
          have hD : va_D (zAn [ax, g 0 0] sz) [(ax, .inr (2, [.ref (g 0 0), .int (zI (n)), .ref (g 0 1), .int (zI (m9)), .int (zI (sp))])), ((g 0 0), .inl (G 4, 8, .inr (.inr (.inr (.inr (va_up (xRef n (g 1)) (n).toNat (some (q_8)))))))), (q_8, .inr (1, [.int (zI ((xF0 a b) 1)), .int (zI ((xF0 a b) 0)), .int (zI ((xF0 a b) 2)), .int (zI ((xF0 a b) 3)), .int (zI ((xF0 a b) 4)), .int (zI ((xF0 a b) 5)), .int (zI ((xF0 a b) 6)), .int (zI ((xF0 a b) 7)), .ref ca, .ref pa])), (ca, .inl (G 0, 128, .inl (cn))), (pa, .inl (G 0, 128, .inl (sn)))] := hD
          refine lv_aload_n hx hb dX2_addTrack_71 rfl (lv_at hl 1 rfl) ?_
          refine lv_iload_n hx hb dX2_addTrack_72 rfl (lv_at hl 0 rfl) ?_
          refine lv_iconst (v := zI (1)) hx hb dX2_addTrack_73 rfl ?_
          refine z_iadd hx hb dX2_addTrack_74 ?_
          refine va_put (D := D) (ci := 2) (v := .int (zI ((n) + (1)))) (ty := .int) (C := RX2) (T := TX2) (N := 5) hx hb hts hin2 tyX2 tyX2_ok nmX2 hown hK hP hD hS 0 rfl rfl 1 (by decide) (hts (.fieldLink RX2 15 "PolyDrums" "trackCount" "I") (by decide +kernel)) (fun _ h9 => h9) rfl (by decide +kernel) rfl rfl (Nat.le_of_ble_eq_true rfl) dX2_addTrack_75 (fun H locs hP hD hS => ?_)
          have hP : va_P D vwCl [(ax, .inr (2, [.ref (g 0 0), .int (zI ((n) + (1))), .ref (g 0 1), .int (zI (m9)), .int (zI (sp))])), ((g 0 0), .inl (G 4, 8, .inr (.inr (.inr (.inr (va_up (xRef n (g 1)) (n).toNat (some (q_8)))))))), (q_8, .inr (1, [.int (zI ((xF0 a b) 1)), .int (zI ((xF0 a b) 0)), .int (zI ((xF0 a b) 2)), .int (zI ((xF0 a b) 3)), .int (zI ((xF0 a b) 4)), .int (zI ((xF0 a b) 5)), .int (zI ((xF0 a b) 6)), .int (zI ((xF0 a b) 7)), .ref ca, .ref pa])), (ca, .inl (G 0, 128, .inl (cn))), (pa, .inl (G 0, 128, .inl (sn)))] H := hP
          have hD : va_D (zAn [ax, g 0 0] sz) [(ax, .inr (2, [.ref (g 0 0), .int (zI ((n) + (1))), .ref (g 0 1), .int (zI (m9)), .int (zI (sp))])), ((g 0 0), .inl (G 4, 8, .inr (.inr (.inr (.inr (va_up (xRef n (g 1)) (n).toNat (some (q_8)))))))), (q_8, .inr (1, [.int (zI ((xF0 a b) 1)), .int (zI ((xF0 a b) 0)), .int (zI ((xF0 a b) 2)), .int (zI ((xF0 a b) 3)), .int (zI ((xF0 a b) 4)), .int (zI ((xF0 a b) 5)), .int (zI ((xF0 a b) 6)), .int (zI ((xF0 a b) 7)), .ref ca, .ref pa])), (ca, .inl (G 0, 128, .inl (cn))), (pa, .inl (G 0, 128, .inl (sn)))] := hD
          refine lv_iload_n hx hb dX2_addTrack_78 rfl (lv_at hl 0 rfl) ?_
          exact zmc_iret hx hb hr hlocks hS (by subst hsz; exact ⟨_, _, _, _, XW_add hW hXL hn0 (f := xF0 a b) (hP.sub [0, 1] rfl) (hP.sub [2, 3, 4] rfl) hTR (by omega) (by omega) (by omega) (by simp only [List.nodup_cons, List.mem_cons, List.not_mem_nil, or_false, List.nodup_nil, and_true, not_or, not_false_eq_true]; omega) (fun q h1 h2 => hS.2.1 q h1 (fun h => h.elim h2 (fun h => by omega)))⟩) (by first | rfl | omega) (by omega) dX2_addTrack_79 (Nat.le_of_ble_eq_true rfl) (Nat.le_of_ble_eq_true rfl)
        · exact vx_throwS hx hb hl9 (own := RX2) (cls := "java/lang/IllegalStateException") (text := "there are 8 tracks") (names := ["java/lang/RuntimeException", "java/lang/Exception"]) (ik := 39) (is := 41) (ic := 43) (A := fun _ => False) (sa := sa 41) hown (by decide +kernel) (by decide +kernel) (hts (.classLink RX2 39 "java/lang/IllegalStateException") (by decide +kernel)) (hts (.initialized "java/lang/IllegalStateException") (by decide +kernel)) (hsa (41, "there are 8 tracks") (by decide +kernel)) (vx_hat (B := [.castable "java/lang/IllegalStateException" "java/lang/IllegalStateException", .declares (Bundle.initS "java/lang/RuntimeException"), .declares (Bundle.initS "java/lang/Exception"), .declares (Bundle.initS "java/lang/Throwable")]) (fun w h => hts w (List.mem_cons_of_mem _ (List.mem_append_left _ (List.mem_append_right _ h)))) (by decide +kernel) (vx_c (va_Nw.use rfl (hN.2.2.1 "java/lang/IllegalStateException" (by decide +kernel))) (vx_c (va_Nw.use rfl (hN.2.2.2.2.1 "java/lang/RuntimeException" (by decide +kernel))) (vx_c (va_Nw.use rfl (hN.2.2.2.2.1 "java/lang/Exception" (by decide +kernel))) (vx_c (va_Nw.use rfl (hN.2.2.2.2.1 "java/lang/Throwable" (by decide +kernel))) vx_n))))) (by decide +kernel) hT0.1 hT0.2 va_S.rf (hl.1.trans hml.symm) dX2_addTrack_46 dX2_addTrack_49 dX2_addTrack_50 dX2_addTrack_52 dX2_addTrack_55 (fun x hx => (htab x hx).elim) (Nat.le_of_ble_eq_true rfl) (Nat.le_of_ble_eq_true rfl) (Nat.le_of_ble_eq_true rfl) (Nat.le_of_ble_eq_true rfl) hlocks (fun t _ hz hk => ⟨Or.inr ⟨rfl, by omega, by omega⟩, hz, fun q hq _ => hk q hq⟩) (fun _ h => nomatch h) (Nat.le_of_ble_eq_true rfl) (Nat.le_of_ble_eq_true rfl)

set_option maxHeartbeats 4000000 in
set_option maxRecDepth 100000 in
theorem kX2_init (l : Launch) (D : va_G) (G : Nat → ClassId) (ax sz : Nat)  : Met l yX2_init wsX2_init ({ frames := 1, cells := 2, slots := 20, locals := 60 }) (zP [.ref ax] D G (fun H => H.size = sz ∧ va_P D vwCl [(ax, .inr (2, [.null, .int (0), .null, .int (0), .int (0)]))] H)) (zM none (fun H => ∃ ta sa : Nat, va_P D vwCl [(ax, .inr (2, [.ref ta, .int (zI (0)), .ref sa, .int (zI (0)), .int (zI (120))])), (ta, .inl (G 4, 8, .inr (.inr (.inr (.inr (fun _ => none)))))), (sa, .inl (G 5, 12, .inr (.inr (.inr (.inr (fun _ => none))))))] H ∧ [ax, ta, sa].Nodup ∧ sz ≤ ta ∧ sz ≤ sa) (zAn [ax] sz)) 2 20 (zAn [ax] sz) := by
  refine Met.ofW (cc := cX2_init) (maxL := 1) (ret := none) (by decide) rfl ?_
  intro p e s m args below meth c s₁ B hml hv
  obtain ⟨hav, ⟨hsz, hP⟩, hK, hN⟩ := hv
  have hx := B.exec
  have hb := B.bytes
  have hr := B.returns
  have hts := atoms_spec (ws := wsX2_init) B.pre
  have hown : s.vm.findClass RX2 = some m.cls := findClass_of_methodNamed B.named
  have hlocks : meth.locks = false := B.notSynchronized
  have hin2 : ∀ w ∈ u_ws RX2 TX2 5, w ∈ wsX2_init := by decide +kernel
  have hin_ : meth.name = "<init>" := (name_of_methodNamed B.named B.method).1
  have hS : va_S (zAn [ax] sz) s.heap s.heap [] := va_S.rf
  have hD : va_D (zAn [ax] sz) [(ax, .inr (2, [.null, .int (0), .null, .int (0), .int (0)]))] := z_Dofn (by simp) rfl
  have hA : ∀ q : Nat, s.heap.size ≤ q → zAn [ax] sz q := fun q h => Or.inr (by omega)
  refine z_entry hav (Nat.le_of_ble_eq_true rfl) rfl (fun ls hl => ?_)
  have hl : lv_has ls 1 [(0, .ref ax)] := hl
  refine lv_aload_n hx hb dX2_init_0 rfl (lv_at hl 0 rfl) ?_
  refine W.objInit hx hb hown (hts (.methodLink RX2 1 objectInit) (by decide +kernel)) (hts (.instanceMethod objectInit) (by decide +kernel)) (hts (.code objectInit ⟨#[0xb1]⟩ 1 none) (by decide +kernel)) rfl (hl.1.trans hml.symm) rfl dX2_init_1 (Nat.le_of_ble_eq_true rfl) (Nat.le_of_ble_eq_true rfl) ?_
  refine W.eq (g2 := F0 m 4 ls []) rfl ?_
  refine lv_aload_n hx hb dX2_init_4 rfl (lv_at hl 0 rfl) ?_
  refine lv_bipush (v := zI (8)) hx hb dX2_init_5 (by decide) ?_
  refine z_newq (D := D) (C := RX1) hx hb hown (hts (.classLink RX2 9 RX1) (by decide +kernel)) (hN.2.2.2.2.2.1.1 RX1 (by decide +kernel)) hK hP hD hS hA 4 rfl (N' := 8) rfl (by omega) (Nat.le_of_ble_eq_true rfl) (Nat.le_of_ble_eq_true rfl) dX2_init_7 (fun q_1 H hP hD hS => ?_)
  have hP : va_P D vwCl [(ax, .inr (2, [.null, .int (0), .null, .int (0), .int (0)])), (q_1, .inl (G 4, 8, .inr (.inr (.inr (.inr (fun _ => none))))))] H := hP
  have hD : va_D (zAn [ax] sz) [(ax, .inr (2, [.null, .int (0), .null, .int (0), .int (0)])), (q_1, .inl (G 4, 8, .inr (.inr (.inr (.inr (fun _ => none))))))] := hD
  refine va_putF (D := D) (ci := 2) (v := .ref q_1) (ty := .array (.object "PolyDrums$Track")) (C := RX2) (T := TX2) (N := 5) hx hb hts hin2 tyX2 tyX2_ok nmX2 hown hK hP hD hS 0 rfl rfl 0 (by decide) (hts (.fieldLink RX2 11 "PolyDrums" "tracks" "[LPolyDrums$Track;") (by decide +kernel)) (fun _ h9 => h9) rfl hin_ rfl (by decide +kernel) rfl rfl (Nat.le_of_ble_eq_true rfl) dX2_init_10 (fun H locs hP hD hS => ?_)
  have hP : va_P D vwCl [(ax, .inr (2, [.ref q_1, .int (0), .null, .int (0), .int (0)])), (q_1, .inl (G 4, 8, .inr (.inr (.inr (.inr (fun _ => none))))))] H := hP
  have hD : va_D (zAn [ax] sz) [(ax, .inr (2, [.ref q_1, .int (0), .null, .int (0), .int (0)])), (q_1, .inl (G 4, 8, .inr (.inr (.inr (.inr (fun _ => none))))))] := hD
  refine lv_aload_n hx hb dX2_init_13 rfl (lv_at hl 0 rfl) ?_
  refine lv_iconst (v := zI (0)) hx hb dX2_init_14 rfl ?_
  refine va_put (D := D) (ci := 2) (v := .int (zI (0))) (ty := .int) (C := RX2) (T := TX2) (N := 5) hx hb hts hin2 tyX2 tyX2_ok nmX2 hown hK hP hD hS 0 rfl rfl 1 (by decide) (hts (.fieldLink RX2 15 "PolyDrums" "trackCount" "I") (by decide +kernel)) (fun _ h9 => h9) rfl (by decide +kernel) rfl rfl (Nat.le_of_ble_eq_true rfl) dX2_init_15 (fun H locs hP hD hS => ?_)
  have hP : va_P D vwCl [(ax, .inr (2, [.ref q_1, .int (zI (0)), .null, .int (0), .int (0)])), (q_1, .inl (G 4, 8, .inr (.inr (.inr (.inr (fun _ => none))))))] H := hP
  have hD : va_D (zAn [ax] sz) [(ax, .inr (2, [.ref q_1, .int (zI (0)), .null, .int (0), .int (0)])), (q_1, .inl (G 4, 8, .inr (.inr (.inr (.inr (fun _ => none))))))] := hD
  refine lv_aload_n hx hb dX2_init_18 rfl (lv_at hl 0 rfl) ?_
  refine lv_bipush (v := zI (12)) hx hb dX2_init_19 (by decide) ?_
  refine z_newq (D := D) (C := RX0) hx hb hown (hts (.classLink RX2 19 RX0) (by decide +kernel)) (hN.2.2.2.2.2.1.1 RX0 (by decide +kernel)) hK hP hD hS hA 5 rfl (N' := 12) rfl (by omega) (Nat.le_of_ble_eq_true rfl) (Nat.le_of_ble_eq_true rfl) dX2_init_21 (fun q_2 H hP hD hS => ?_)
  have hP : va_P D vwCl [(ax, .inr (2, [.ref q_1, .int (zI (0)), .null, .int (0), .int (0)])), (q_1, .inl (G 4, 8, .inr (.inr (.inr (.inr (fun _ => none)))))), (q_2, .inl (G 5, 12, .inr (.inr (.inr (.inr (fun _ => none))))))] H := hP
  have hD : va_D (zAn [ax] sz) [(ax, .inr (2, [.ref q_1, .int (zI (0)), .null, .int (0), .int (0)])), (q_1, .inl (G 4, 8, .inr (.inr (.inr (.inr (fun _ => none)))))), (q_2, .inl (G 5, 12, .inr (.inr (.inr (.inr (fun _ => none))))))] := hD
  refine va_putF (D := D) (ci := 2) (v := .ref q_2) (ty := .array (.object "PolyDrums$Section")) (C := RX2) (T := TX2) (N := 5) hx hb hts hin2 tyX2 tyX2_ok nmX2 hown hK hP hD hS 0 rfl rfl 2 (by decide) (hts (.fieldLink RX2 21 "PolyDrums" "sections" "[LPolyDrums$Section;") (by decide +kernel)) (fun _ h9 => h9) rfl hin_ rfl (by decide +kernel) rfl rfl (Nat.le_of_ble_eq_true rfl) dX2_init_24 (fun H locs hP hD hS => ?_)
  have hP : va_P D vwCl [(ax, .inr (2, [.ref q_1, .int (zI (0)), .ref q_2, .int (0), .int (0)])), (q_1, .inl (G 4, 8, .inr (.inr (.inr (.inr (fun _ => none)))))), (q_2, .inl (G 5, 12, .inr (.inr (.inr (.inr (fun _ => none))))))] H := hP
  have hD : va_D (zAn [ax] sz) [(ax, .inr (2, [.ref q_1, .int (zI (0)), .ref q_2, .int (0), .int (0)])), (q_1, .inl (G 4, 8, .inr (.inr (.inr (.inr (fun _ => none)))))), (q_2, .inl (G 5, 12, .inr (.inr (.inr (.inr (fun _ => none))))))] := hD
  refine lv_aload_n hx hb dX2_init_27 rfl (lv_at hl 0 rfl) ?_
  refine lv_iconst (v := zI (0)) hx hb dX2_init_28 rfl ?_
  refine va_put (D := D) (ci := 2) (v := .int (zI (0))) (ty := .int) (C := RX2) (T := TX2) (N := 5) hx hb hts hin2 tyX2 tyX2_ok nmX2 hown hK hP hD hS 0 rfl rfl 3 (by decide) (hts (.fieldLink RX2 25 "PolyDrums" "sectionCount" "I") (by decide +kernel)) (fun _ h9 => h9) rfl (by decide +kernel) rfl rfl (Nat.le_of_ble_eq_true rfl) dX2_init_29 (fun H locs hP hD hS => ?_)
  have hP : va_P D vwCl [(ax, .inr (2, [.ref q_1, .int (zI (0)), .ref q_2, .int (zI (0)), .int (0)])), (q_1, .inl (G 4, 8, .inr (.inr (.inr (.inr (fun _ => none)))))), (q_2, .inl (G 5, 12, .inr (.inr (.inr (.inr (fun _ => none))))))] H := hP
  have hD : va_D (zAn [ax] sz) [(ax, .inr (2, [.ref q_1, .int (zI (0)), .ref q_2, .int (zI (0)), .int (0)])), (q_1, .inl (G 4, 8, .inr (.inr (.inr (.inr (fun _ => none)))))), (q_2, .inl (G 5, 12, .inr (.inr (.inr (.inr (fun _ => none))))))] := hD
  refine lv_aload_n hx hb dX2_init_32 rfl (lv_at hl 0 rfl) ?_
  refine lv_bipush (v := zI (120)) hx hb dX2_init_33 (by decide) ?_
  refine va_put (D := D) (ci := 2) (v := .int (zI (120))) (ty := .int) (C := RX2) (T := TX2) (N := 5) hx hb hts hin2 tyX2 tyX2_ok nmX2 hown hK hP hD hS 0 rfl rfl 4 (by decide) (hts (.fieldLink RX2 28 "PolyDrums" "beats" "I") (by decide +kernel)) (fun _ h9 => h9) rfl (by decide +kernel) rfl rfl (Nat.le_of_ble_eq_true rfl) dX2_init_35 (fun H locs hP hD hS => ?_)
  have hP : va_P D vwCl [(ax, .inr (2, [.ref q_1, .int (zI (0)), .ref q_2, .int (zI (0)), .int (zI (120))])), (q_1, .inl (G 4, 8, .inr (.inr (.inr (.inr (fun _ => none)))))), (q_2, .inl (G 5, 12, .inr (.inr (.inr (.inr (fun _ => none))))))] H := hP
  have hD : va_D (zAn [ax] sz) [(ax, .inr (2, [.ref q_1, .int (zI (0)), .ref q_2, .int (zI (0)), .int (zI (120))])), (q_1, .inl (G 4, 8, .inr (.inr (.inr (.inr (fun _ => none)))))), (q_2, .inl (G 5, 12, .inr (.inr (.inr (.inr (fun _ => none))))))] := hD
  have hnd := z_nd hD (L := [ax, q_1, q_2]) rfl
  have hnd' := hnd
  simp only [List.nodup_cons, List.mem_cons, List.not_mem_nil, or_false, List.nodup_nil, and_true, not_or, not_false_eq_true] at hnd'
  have hc9 : sz ≤ q_1 := by have h9 := hD.2 1 _ rfl; simp only [zAn, List.mem_cons, List.not_mem_nil, or_false] at h9; omega
  have hp9 : sz ≤ q_2 := by have h9 := hD.2 2 _ rfl; simp only [zAn, List.mem_cons, List.not_mem_nil, or_false] at h9; omega
  exact zm_vret hx hb hr hlocks hS (⟨q_1, q_2, hP, hnd, hc9, hp9⟩) dX2_init_38
