set_option maxHeartbeats 4000000 in
set_option maxRecDepth 100000 in
theorem kX3_told (l : Launch) (D : va_G) (G : Nat → ClassId) (am : Nat) (th n m9 sp : Int) (τ ζ : Nat → Nat → Int) (h : Nat → Nat) (M : Nat → Nat → Int32) (hOK : XOK n m9 sp τ ζ) (hM : MR n m9 τ ζ M) (k w9 : Int) (hk : 0 ≤ k ∧ k < n) (hw : 0 ≤ w9 ∧ w9 ≤ 7) : Met l yX3_told wsX3_told ({ frames := 0, cells := 0, slots := 0, locals := 0 }) (zP [.ref am, .int (zI (k)), .int (zI (w9))] D G (fun H => va_P D vwCl [(am, .inr (3, [.int (zI (th)), .int (zI (n)), .ref (h 0), .ref (h 1), .ref (h 2), .ref (h 3), .ref (h 4), .ref (h 5), .ref (h 6), .int (zI (m9)), .ref (h 7), .ref (h 8), .ref (h 9), .int (zI (sp))])), ((h 0), .inl (G 0, 8, .inl (M 0))), ((h 1), .inl (G 0, 8, .inl (M 1))), ((h 2), .inl (G 0, 8, .inl (M 2))), ((h 3), .inl (G 0, 8, .inl (M 3))), ((h 4), .inl (G 0, 8, .inl (M 4))), ((h 5), .inl (G 1, 24, .inl (M 5))), ((h 6), .inl (G 0, 1024, .inl (M 6))), ((h 7), .inl (G 0, 13, .inl (M 7))), ((h 8), .inl (G 0, 12, .inl (M 8))), ((h 9), .inl (G 1, 12, .inl (M 9)))] H)) (zQ (some (.int (zI (τ k.toNat w9.toNat))))) 0 0 (fun _ => False) := by
  refine Met.ofW (cc := cX3_told) (maxL := 3) (ret := (some .int)) (by decide) rfl ?_
  intro p e s m args below meth c s₁ B hml hv
  obtain ⟨hav, hP, hK, hN⟩ := hv
  have hx := B.exec
  have hb := B.bytes
  have hr := B.returns
  have hts := atoms_spec (ws := wsX3_told) B.pre
  have hown : s.vm.findClass RX3 = some m.cls := findClass_of_methodNamed B.named
  have hlocks : meth.locks = false := B.notSynchronized
  have hin3 : ∀ w ∈ u_ws RX3 TX3 14, w ∈ wsX3_told := by decide +kernel
  have hB := id hOK
  obtain ⟨hn0, hn8, hm0, hm12, hsp0, hsp1, -⟩ := hB
  have htb := hOK.tb hk
  refine z_entry hav (Nat.le_of_ble_eq_true rfl) rfl (fun ls hl => ?_)
  have hl : lv_has ls 3 [(0, .ref am), (1, .int (zI (k))), (2, .int (zI (w9)))] := hl
  refine lv_iload_n hx hb dX3_told_0 rfl (lv_at hl 2 rfl) ?_
  rcases (show w9 = 0 ∨ w9 = 1 ∨ w9 = 2 ∨ w9 = 3 ∨ w9 = 4 ∨ w9 = 5 ∨ w9 = 6 ∨ w9 = 7 by omega) with rfl | rfl | rfl | rfl | rfl | rfl | rfl | rfl
  · refine lv_tableIn (tgt := 36) hx hb dX3_told_1 (by decide) (by decide) rfl (by decide) ?_
    refine lv_aload_n hx hb dX3_told_36 rfl (lv_at hl 0 rfl) ?_
    refine va_get (D := D) (ci := 3) (v := .ref (h 0)) (C := RX3) (T := TX3) (N := 14) hx hb hts hin3 hown hK hP 0 rfl rfl 2 (by decide) (hts (.fieldLink RX3 9 "PolyDrumsModel" "counts" "[I") (by decide +kernel)) (fun _ h9 => h9) rfl dX3_told_37 ?_
    refine lv_iload_n hx hb dX3_told_40 rfl (lv_at hl 1 rfl) ?_
    refine z_iald (x := zI (τ (k).toNat 0)) (D := D) hx hb hK hP 1 0 rfl rfl (by omega) (by omega) (hM.a (k := k) (by omega) 0 (by omega)) dX3_told_41 ?_
    exact z_iret hx hb hr hlocks (rfl) dX3_told_42
  · refine lv_tableIn (tgt := 43) hx hb dX3_told_1 (by decide) (by decide) rfl (by decide) ?_
    refine lv_aload_n hx hb dX3_told_43 rfl (lv_at hl 0 rfl) ?_
    refine va_get (D := D) (ci := 3) (v := .ref (h 1)) (C := RX3) (T := TX3) (N := 14) hx hb hts hin3 hown hK hP 0 rfl rfl 3 (by decide) (hts (.fieldLink RX3 13 "PolyDrumsModel" "ticks" "[I") (by decide +kernel)) (fun _ h9 => h9) rfl dX3_told_44 ?_
    refine lv_iload_n hx hb dX3_told_47 rfl (lv_at hl 1 rfl) ?_
    refine z_iald (x := zI (τ (k).toNat 1)) (D := D) hx hb hK hP 2 0 rfl rfl (by omega) (by omega) (hM.a (k := k) (by omega) 1 (by omega)) dX3_told_48 ?_
    exact z_iret hx hb hr hlocks (rfl) dX3_told_49
  · refine lv_tableIn (tgt := 50) hx hb dX3_told_1 (by decide) (by decide) rfl (by decide) ?_
    refine lv_aload_n hx hb dX3_told_50 rfl (lv_at hl 0 rfl) ?_
    refine va_get (D := D) (ci := 3) (v := .ref (h 2)) (C := RX3) (T := TX3) (N := 14) hx hb hts hin3 hown hK hP 0 rfl rfl 4 (by decide) (hts (.fieldLink RX3 16 "PolyDrumsModel" "swings" "[I") (by decide +kernel)) (fun _ h9 => h9) rfl dX3_told_51 ?_
    refine lv_iload_n hx hb dX3_told_54 rfl (lv_at hl 1 rfl) ?_
    refine z_iald (x := zI (τ (k).toNat 2)) (D := D) hx hb hK hP 3 0 rfl rfl (by omega) (by omega) (hM.a (k := k) (by omega) 2 (by omega)) dX3_told_55 ?_
    exact z_iret hx hb hr hlocks (rfl) dX3_told_56
  · refine lv_tableIn (tgt := 57) hx hb dX3_told_1 (by decide) (by decide) rfl (by decide) ?_
    refine lv_aload_n hx hb dX3_told_57 rfl (lv_at hl 0 rfl) ?_
    refine va_get (D := D) (ci := 3) (v := .ref (h 3)) (C := RX3) (T := TX3) (N := 14) hx hb hts hin3 hown hK hP 0 rfl rfl 5 (by decide) (hts (.fieldLink RX3 19 "PolyDrumsModel" "rings" "[I") (by decide +kernel)) (fun _ h9 => h9) rfl dX3_told_58 ?_
    refine lv_iload_n hx hb dX3_told_61 rfl (lv_at hl 1 rfl) ?_
    refine z_iald (x := zI (τ (k).toNat 3)) (D := D) hx hb hK hP 4 0 rfl rfl (by omega) (by omega) (hM.a (k := k) (by omega) 3 (by omega)) dX3_told_62 ?_
    exact z_iret hx hb hr hlocks (rfl) dX3_told_63
  · refine lv_tableIn (tgt := 64) hx hb dX3_told_1 (by decide) (by decide) rfl (by decide) ?_
    refine lv_aload_n hx hb dX3_told_64 rfl (lv_at hl 0 rfl) ?_
    refine va_get (D := D) (ci := 3) (v := .ref (h 4)) (C := RX3) (T := TX3) (N := 14) hx hb hts hin3 hown hK hP 0 rfl rfl 6 (by decide) (hts (.fieldLink RX3 22 "PolyDrumsModel" "groups" "[I") (by decide +kernel)) (fun _ h9 => h9) rfl dX3_told_65 ?_
    refine lv_iload_n hx hb dX3_told_68 rfl (lv_at hl 1 rfl) ?_
    refine z_iald (x := zI (τ (k).toNat 4)) (D := D) hx hb hK hP 5 0 rfl rfl (by omega) (by omega) (hM.a (k := k) (by omega) 4 (by omega)) dX3_told_69 ?_
    exact z_iret hx hb hr hlocks (rfl) dX3_told_70
  · refine lv_tableOut (tgt := 71) hx hb dX3_told_1 (by decide) (by decide) ?_
    refine lv_aload_n hx hb dX3_told_71 rfl (lv_at hl 0 rfl) ?_
    refine va_get (D := D) (ci := 3) (v := .ref (h 5)) (C := RX3) (T := TX3) (N := 14) hx hb hts hin3 hown hK hP 0 rfl rfl 7 (by decide) (hts (.fieldLink RX3 25 "PolyDrumsModel" "flags" "[Z") (by decide +kernel)) (fun _ h9 => h9) rfl dX3_told_72 ?_
    refine lv_iconst (v := zI (3)) hx hb dX3_told_75 rfl ?_
    refine lv_iload_n hx hb dX3_told_76 rfl (lv_at hl 1 rfl) ?_
    refine z_imul hx hb dX3_told_77 ?_
    refine lv_iload_n hx hb dX3_told_78 rfl (lv_at hl 2 rfl) ?_
    refine z_iadd hx hb dX3_told_79 ?_
    refine lv_iconst (v := zI (5)) hx hb dX3_told_80 rfl ?_
    refine z_isub hx hb dX3_told_81 ?_
    refine z_zald (x := zB (τ (k).toNat 5 = 1)) (D := D) hx hb hK hP 6 1 rfl rfl (by omega) (by omega) (hM.fl hOK (k := k) 0 (by omega) (by omega) (by omega)) dX3_told_82 ?_
    refine z_eqB (tgt := 90) hx hb dX3_told_83 (by decide) (fun c_1 => ?_) (fun c_1 => ?_)
    · refine lv_iconst (v := zI (0)) hx hb dX3_told_90 rfl ?_
      exact z_iret hx hb hr hlocks (by show _ = τ k.toNat 5; omega) dX3_told_91
    · refine lv_iconst (v := zI (1)) hx hb dX3_told_86 rfl ?_
      refine lv_goto (tgt := 91) hx hb dX3_told_87 (by decide) ?_
      exact z_iret hx hb hr hlocks (by show _ = τ k.toNat 5; omega) dX3_told_91
  · refine lv_tableOut (tgt := 71) hx hb dX3_told_1 (by decide) (by decide) ?_
    refine lv_aload_n hx hb dX3_told_71 rfl (lv_at hl 0 rfl) ?_
    refine va_get (D := D) (ci := 3) (v := .ref (h 5)) (C := RX3) (T := TX3) (N := 14) hx hb hts hin3 hown hK hP 0 rfl rfl 7 (by decide) (hts (.fieldLink RX3 25 "PolyDrumsModel" "flags" "[Z") (by decide +kernel)) (fun _ h9 => h9) rfl dX3_told_72 ?_
    refine lv_iconst (v := zI (3)) hx hb dX3_told_75 rfl ?_
    refine lv_iload_n hx hb dX3_told_76 rfl (lv_at hl 1 rfl) ?_
    refine z_imul hx hb dX3_told_77 ?_
    refine lv_iload_n hx hb dX3_told_78 rfl (lv_at hl 2 rfl) ?_
    refine z_iadd hx hb dX3_told_79 ?_
    refine lv_iconst (v := zI (5)) hx hb dX3_told_80 rfl ?_
    refine z_isub hx hb dX3_told_81 ?_
    refine z_zald (x := zB (τ (k).toNat 6 = 1)) (D := D) hx hb hK hP 6 1 rfl rfl (by omega) (by omega) (hM.fl hOK (k := k) 1 (by omega) (by omega) (by omega)) dX3_told_82 ?_
    refine z_eqB (tgt := 90) hx hb dX3_told_83 (by decide) (fun c_2 => ?_) (fun c_2 => ?_)
    · refine lv_iconst (v := zI (0)) hx hb dX3_told_90 rfl ?_
      exact z_iret hx hb hr hlocks (by show _ = τ k.toNat 6; omega) dX3_told_91
    · refine lv_iconst (v := zI (1)) hx hb dX3_told_86 rfl ?_
      refine lv_goto (tgt := 91) hx hb dX3_told_87 (by decide) ?_
      exact z_iret hx hb hr hlocks (by show _ = τ k.toNat 6; omega) dX3_told_91
  · refine lv_tableOut (tgt := 71) hx hb dX3_told_1 (by decide) (by decide) ?_
    refine lv_aload_n hx hb dX3_told_71 rfl (lv_at hl 0 rfl) ?_
    refine va_get (D := D) (ci := 3) (v := .ref (h 5)) (C := RX3) (T := TX3) (N := 14) hx hb hts hin3 hown hK hP 0 rfl rfl 7 (by decide) (hts (.fieldLink RX3 25 "PolyDrumsModel" "flags" "[Z") (by decide +kernel)) (fun _ h9 => h9) rfl dX3_told_72 ?_
    refine lv_iconst (v := zI (3)) hx hb dX3_told_75 rfl ?_
    refine lv_iload_n hx hb dX3_told_76 rfl (lv_at hl 1 rfl) ?_
    refine z_imul hx hb dX3_told_77 ?_
    refine lv_iload_n hx hb dX3_told_78 rfl (lv_at hl 2 rfl) ?_
    refine z_iadd hx hb dX3_told_79 ?_
    refine lv_iconst (v := zI (5)) hx hb dX3_told_80 rfl ?_
    refine z_isub hx hb dX3_told_81 ?_
    refine z_zald (x := zB (τ (k).toNat 7 = 1)) (D := D) hx hb hK hP 6 1 rfl rfl (by omega) (by omega) (hM.fl hOK (k := k) 2 (by omega) (by omega) (by omega)) dX3_told_82 ?_
    refine z_eqB (tgt := 90) hx hb dX3_told_83 (by decide) (fun c_3 => ?_) (fun c_3 => ?_)
    · refine lv_iconst (v := zI (0)) hx hb dX3_told_90 rfl ?_
      exact z_iret hx hb hr hlocks (by show _ = τ k.toNat 7; omega) dX3_told_91
    · refine lv_iconst (v := zI (1)) hx hb dX3_told_86 rfl ?_
      refine lv_goto (tgt := 91) hx hb dX3_told_87 (by decide) ?_
      exact z_iret hx hb hr hlocks (by show _ = τ k.toNat 7; omega) dX3_told_91

set_option maxHeartbeats 4000000 in
set_option maxRecDepth 100000 in
theorem kX3_isSilent (l : Launch) (D : va_G) (G : Nat → ClassId) (am : Nat) (th n m9 sp : Int) (τ ζ : Nat → Nat → Int) (h : Nat → Nat) (M : Nat → Nat → Int32) (hOK : XOK n m9 sp τ ζ) (hM : MR n m9 τ ζ M) (k : Int) (hk : 0 ≤ k ∧ k < n) : Met l yX3_isSilent wsX3_isSilent ({ frames := 0, cells := 0, slots := 0, locals := 0 }) (zP [.ref am, .int (zI (k))] D G (fun H => va_P D vwCl [(am, .inr (3, [.int (zI (th)), .int (zI (n)), .ref (h 0), .ref (h 1), .ref (h 2), .ref (h 3), .ref (h 4), .ref (h 5), .ref (h 6), .int (zI (m9)), .ref (h 7), .ref (h 8), .ref (h 9), .int (zI (sp))])), ((h 0), .inl (G 0, 8, .inl (M 0))), ((h 1), .inl (G 0, 8, .inl (M 1))), ((h 2), .inl (G 0, 8, .inl (M 2))), ((h 3), .inl (G 0, 8, .inl (M 3))), ((h 4), .inl (G 0, 8, .inl (M 4))), ((h 5), .inl (G 1, 24, .inl (M 5))), ((h 6), .inl (G 0, 1024, .inl (M 6))), ((h 7), .inl (G 0, 13, .inl (M 7))), ((h 8), .inl (G 0, 12, .inl (M 8))), ((h 9), .inl (G 1, 12, .inl (M 9)))] H)) (zQ (some (.int (zB (xSil n τ k))))) 0 0 (fun _ => False) := by
  refine Met.ofW (cc := cX3_isSilent) (maxL := 4) (ret := (some .boolean)) (by decide) rfl ?_
  intro p e s m args below meth c s₁ B hml hv
  obtain ⟨hav, hP, hK, hN⟩ := hv
  have hx := B.exec
  have hb := B.bytes
  have hr := B.returns
  have hts := atoms_spec (ws := wsX3_isSilent) B.pre
  have hown : s.vm.findClass RX3 = some m.cls := findClass_of_methodNamed B.named
  have hlocks : meth.locks = false := B.notSynchronized
  have hin3 : ∀ w ∈ u_ws RX3 TX3 14, w ∈ wsX3_isSilent := by decide +kernel
  have hB := id hOK
  obtain ⟨hn0, hn8, hm0, hm12, hsp0, hsp1, -⟩ := hB
  have htb := hOK.tb hk
  refine z_entry hav (Nat.le_of_ble_eq_true rfl) rfl (fun ls hl => ?_)
  have hl : lv_has ls 4 [(0, .ref am), (1, .int (zI (k)))] := hl
  refine lv_iconst (v := zI (0)) hx hb dX3_isSilent_0 rfl ?_
  refine lv_istore_n (lv' := [(2, .int (zI (0))), (0, .ref am), (1, .int (zI (k)))]) hx hb dX3_isSilent_1 rfl hl (by decide) rfl (fun ls hl => ?_)
  refine lv_iconst (v := zI (0)) hx hb dX3_isSilent_2 rfl ?_
  refine lv_istore_n (lv' := [(3, .int (zI (0))), (2, .int (zI (0))), (0, .ref am), (1, .int (zI (k)))]) hx hb dX3_isSilent_3 rfl hl (by decide) rfl (fun ls hl => ?_)
  have loop_4 : ∀ (fu : Nat) (a : Int) (v : Int), (0 ≤ a ∧ a ≤ n) → ((v = 1 ∧ ∃ j : Int, 0 ≤ j ∧ j < a ∧ j ≠ k ∧ τ j.toNat 6 = 1) ∨ (v = 0 ∧ ∀ j : Int, 0 ≤ j → j < a → j ≠ k → ¬ τ j.toNat 6 = 1)) → n - a < (fu : Int) → ∀ (ls : Array Slot), lv_has ls 4 [(0, .ref am), (1, .int (zI (k))), (2, .int (zI (v))), (3, .int (zI (a)))] → W p l e (headSpec wsX3_isSilent ({ frames := 0, cells := 0, slots := 0, locals := 0 })).room s m args below meth c s.heap [] 0 0 (MQ below (zQ (some (.int (zB (xSil n τ k))))) args s 0 0 (fun _ => False)) (F0 m 4 ls []) := by
    intro fu
    induction fu with
    | zero =>
      intro a v ha0 hv hm
      exfalso; omega
    | succ fu ih =>
      intro a v ha0 hv hm ls hl
      have hv1 : v = 0 ∨ v = 1 := by rcases hv with ⟨h1, -⟩ | ⟨h1, -⟩ <;> omega
      have ih_4 := ih
      refine lv_iload_n hx hb dX3_isSilent_4 rfl (lv_at hl 3 rfl) ?_
      refine lv_aload_n hx hb dX3_isSilent_5 rfl (lv_at hl 0 rfl) ?_
      refine va_get (D := D) (ci := 3) (v := .int (zI (n))) (C := RX3) (T := TX3) (N := 14) hx hb hts hin3 hown hK hP 0 rfl rfl 1 (by decide) (hts (.fieldLink RX3 48 "PolyDrumsModel" "tracks" "I") (by decide +kernel)) (fun _ h9 => h9) rfl dX3_isSilent_6 ?_
      refine z_icmp_ge (tgt := 46) hx hb (by omega) dX3_isSilent_9 (by decide) (fun c_1 => ?_) (fun c_1 => ?_)
      · refine lv_aload_n hx hb dX3_isSilent_46 rfl (lv_at hl 0 rfl) ?_
        refine va_get (D := D) (ci := 3) (v := .ref (h 5)) (C := RX3) (T := TX3) (N := 14) hx hb hts hin3 hown hK hP 0 rfl rfl 7 (by decide) (hts (.fieldLink RX3 25 "PolyDrumsModel" "flags" "[Z") (by decide +kernel)) (fun _ h9 => h9) rfl dX3_isSilent_47 ?_
        refine lv_iconst (v := zI (3)) hx hb dX3_isSilent_50 rfl ?_
        refine lv_iload_n hx hb dX3_isSilent_51 rfl (lv_at hl 1 rfl) ?_
        refine z_imul hx hb dX3_isSilent_52 ?_
        refine z_zald (x := zB (τ (k).toNat 5 = 1)) (D := D) hx hb hK hP 6 1 rfl rfl (by omega) (by omega) (hM.fl hOK (k := k) 0 (by omega) (by omega) (by omega)) dX3_isSilent_53 ?_
        refine z_neB (tgt := 74) hx hb dX3_isSilent_54 (by decide) (fun c_2 => ?_) (fun c_2 => ?_)
        · refine lv_iconst (v := zI (1)) hx hb dX3_isSilent_74 rfl ?_
          refine lv_goto (tgt := 79) hx hb dX3_isSilent_75 (by decide) ?_
          exact z_zretT hx hb hr hlocks (Or.inl (by omega)) dX3_isSilent_79
        · refine lv_iload_n hx hb dX3_isSilent_57 rfl (lv_at hl 2 rfl) ?_
          refine z_if_eq (tgt := 78) hx hb (by omega) dX3_isSilent_58 (by decide) (fun c_3 => ?_) (fun c_3 => ?_)
          · refine lv_iconst (v := zI (0)) hx hb dX3_isSilent_78 rfl ?_
            exact z_zretF hx hb hr hlocks (fun q => q.elim (fun q => by omega) (fun ⟨q1, j, q2, q3, q4⟩ => by rcases hv with ⟨h1, -⟩ | ⟨h1, h2⟩; omega; by_cases e : j = k; (rw [e] at q4; omega); exact h2 j q2 (by omega) e q4)) dX3_isSilent_79
          · refine lv_aload_n hx hb dX3_isSilent_61 rfl (lv_at hl 0 rfl) ?_
            refine va_get (D := D) (ci := 3) (v := .ref (h 5)) (C := RX3) (T := TX3) (N := 14) hx hb hts hin3 hown hK hP 0 rfl rfl 7 (by decide) (hts (.fieldLink RX3 25 "PolyDrumsModel" "flags" "[Z") (by decide +kernel)) (fun _ h9 => h9) rfl dX3_isSilent_62 ?_
            refine lv_iconst (v := zI (3)) hx hb dX3_isSilent_65 rfl ?_
            refine lv_iload_n hx hb dX3_isSilent_66 rfl (lv_at hl 1 rfl) ?_
            refine z_imul hx hb dX3_isSilent_67 ?_
            refine lv_iconst (v := zI (1)) hx hb dX3_isSilent_68 rfl ?_
            refine z_iadd hx hb dX3_isSilent_69 ?_
            refine z_zald (x := zB (τ (k).toNat 6 = 1)) (D := D) hx hb hK hP 6 1 rfl rfl (by omega) (by omega) (hM.fl hOK (k := k) 1 (by omega) (by omega) (by omega)) dX3_isSilent_70 ?_
            refine z_neB (tgt := 78) hx hb dX3_isSilent_71 (by decide) (fun c_4 => ?_) (fun c_4 => ?_)
            · refine lv_iconst (v := zI (0)) hx hb dX3_isSilent_78 rfl ?_
              exact z_zretF hx hb hr hlocks (fun q => q.elim (fun q => by omega) (fun q => by have := q.1; omega)) dX3_isSilent_79
            · refine lv_iconst (v := zI (1)) hx hb dX3_isSilent_74 rfl ?_
              refine lv_goto (tgt := 79) hx hb dX3_isSilent_75 (by decide) ?_
              exact z_zretT hx hb hr hlocks (Or.inr ⟨by clear hv; omega, m_sil1 hv (by clear hv; omega) (by clear hv; omega)⟩) dX3_isSilent_79
      · refine lv_iload_n hx hb dX3_isSilent_12 rfl (lv_at hl 2 rfl) ?_
        refine z_if_ne (tgt := 34) hx hb (by omega) dX3_isSilent_13 (by decide) (fun c_5 => ?_) (fun c_5 => ?_)
        · refine lv_iconst (v := zI (1)) hx hb dX3_isSilent_34 rfl ?_
          refine lv_goto (tgt := 39) hx hb dX3_isSilent_35 (by decide) ?_
          refine lv_istore_n (lv' := [(2, .int (zI (1))), (0, .ref am), (1, .int (zI (k))), (3, .int (zI (a)))]) hx hb dX3_isSilent_39 rfl hl (by decide) rfl (fun ls hl => ?_)
          refine lv_iinc (v := zI (a + 1)) (lv' := [(3, .int (zI (a + 1))), (2, .int (zI (1))), (0, .ref am), (1, .int (zI (k)))]) hx hb dX3_isSilent_40 hl (k := 3) rfl (zI_add (a) (1)) (by decide) rfl (fun ls hl => ?_)
          refine lv_goto (tgt := 4) hx hb dX3_isSilent_43 (by decide) ?_
          exact ih_4 (a + 1) (1) (by omega) (m_sil hv ha0.1 (by first | exact Or.inl ⟨rfl, Or.inl (by omega)⟩ | exact Or.inl ⟨rfl, Or.inr ⟨by omega, by assumption⟩⟩ | exact Or.inr ⟨rfl, by omega, fun h1 h2 => by first | exact h1 (by assumption) | omega⟩)) (by omega) _ (lv_sub hl [2, 3, 1, 0] rfl)
        · refine lv_iload_n hx hb dX3_isSilent_16 rfl (lv_at hl 3 rfl) ?_
          refine lv_iload_n hx hb dX3_isSilent_17 rfl (lv_at hl 1 rfl) ?_
          refine z_icmp_eq (tgt := 38) hx hb (by omega) dX3_isSilent_18 (by decide) (fun c_6 => ?_) (fun c_6 => ?_)
          · refine lv_iconst (v := zI (0)) hx hb dX3_isSilent_38 rfl ?_
            refine lv_istore_n (lv' := [(2, .int (zI (0))), (0, .ref am), (1, .int (zI (k))), (3, .int (zI (a)))]) hx hb dX3_isSilent_39 rfl hl (by decide) rfl (fun ls hl => ?_)
            refine lv_iinc (v := zI (a + 1)) (lv' := [(3, .int (zI (a + 1))), (2, .int (zI (0))), (0, .ref am), (1, .int (zI (k)))]) hx hb dX3_isSilent_40 hl (k := 3) rfl (zI_add (a) (1)) (by decide) rfl (fun ls hl => ?_)
            refine lv_goto (tgt := 4) hx hb dX3_isSilent_43 (by decide) ?_
            exact ih_4 (a + 1) (0) (by omega) (m_sil hv ha0.1 (by first | exact Or.inl ⟨rfl, Or.inl (by omega)⟩ | exact Or.inl ⟨rfl, Or.inr ⟨by omega, by assumption⟩⟩ | exact Or.inr ⟨rfl, by omega, fun h1 h2 => by first | exact h1 (by assumption) | omega⟩)) (by omega) _ (lv_sub hl [2, 3, 1, 0] rfl)
          · refine lv_aload_n hx hb dX3_isSilent_21 rfl (lv_at hl 0 rfl) ?_
            refine va_get (D := D) (ci := 3) (v := .ref (h 5)) (C := RX3) (T := TX3) (N := 14) hx hb hts hin3 hown hK hP 0 rfl rfl 7 (by decide) (hts (.fieldLink RX3 25 "PolyDrumsModel" "flags" "[Z") (by decide +kernel)) (fun _ h9 => h9) rfl dX3_isSilent_22 ?_
            refine lv_iconst (v := zI (3)) hx hb dX3_isSilent_25 rfl ?_
            refine lv_iload_n hx hb dX3_isSilent_26 rfl (lv_at hl 3 rfl) ?_
            refine z_imul hx hb dX3_isSilent_27 ?_
            refine lv_iconst (v := zI (1)) hx hb dX3_isSilent_28 rfl ?_
            refine z_iadd hx hb dX3_isSilent_29 ?_
            refine z_zald (x := zB (τ (a).toNat 6 = 1)) (D := D) hx hb hK hP 6 1 rfl rfl (by omega) (by omega) (hM.fl hOK (k := a) 1 (by omega) (by omega) (by omega)) dX3_isSilent_30 ?_
            refine z_eqB (tgt := 38) hx hb dX3_isSilent_31 (by decide) (fun c_7 => ?_) (fun c_7 => ?_)
            · refine lv_iconst (v := zI (0)) hx hb dX3_isSilent_38 rfl ?_
              refine lv_istore_n (lv' := [(2, .int (zI (0))), (0, .ref am), (1, .int (zI (k))), (3, .int (zI (a)))]) hx hb dX3_isSilent_39 rfl hl (by decide) rfl (fun ls hl => ?_)
              refine lv_iinc (v := zI (a + 1)) (lv' := [(3, .int (zI (a + 1))), (2, .int (zI (0))), (0, .ref am), (1, .int (zI (k)))]) hx hb dX3_isSilent_40 hl (k := 3) rfl (zI_add (a) (1)) (by decide) rfl (fun ls hl => ?_)
              refine lv_goto (tgt := 4) hx hb dX3_isSilent_43 (by decide) ?_
              exact ih_4 (a + 1) (0) (by omega) (m_sil hv ha0.1 (by first | exact Or.inl ⟨rfl, Or.inl (by omega)⟩ | exact Or.inl ⟨rfl, Or.inr ⟨by omega, by assumption⟩⟩ | exact Or.inr ⟨rfl, by omega, fun h1 h2 => by first | exact h1 (by assumption) | omega⟩)) (by omega) _ (lv_sub hl [2, 3, 1, 0] rfl)
            · refine lv_iconst (v := zI (1)) hx hb dX3_isSilent_34 rfl ?_
              refine lv_goto (tgt := 39) hx hb dX3_isSilent_35 (by decide) ?_
              refine lv_istore_n (lv' := [(2, .int (zI (1))), (0, .ref am), (1, .int (zI (k))), (3, .int (zI (a)))]) hx hb dX3_isSilent_39 rfl hl (by decide) rfl (fun ls hl => ?_)
              refine lv_iinc (v := zI (a + 1)) (lv' := [(3, .int (zI (a + 1))), (2, .int (zI (1))), (0, .ref am), (1, .int (zI (k)))]) hx hb dX3_isSilent_40 hl (k := 3) rfl (zI_add (a) (1)) (by decide) rfl (fun ls hl => ?_)
              refine lv_goto (tgt := 4) hx hb dX3_isSilent_43 (by decide) ?_
              exact ih_4 (a + 1) (1) (by omega) (m_sil hv ha0.1 (by first | exact Or.inl ⟨rfl, Or.inl (by omega)⟩ | exact Or.inl ⟨rfl, Or.inr ⟨by omega, by assumption⟩⟩ | exact Or.inr ⟨rfl, by omega, fun h1 h2 => by first | exact h1 (by assumption) | omega⟩)) (by omega) _ (lv_sub hl [2, 3, 1, 0] rfl)
  exact loop_4 (9) (0) (0) (by omega) (Or.inr ⟨rfl, fun j h1 h2 => by omega⟩) (by omega) ls (lv_sub hl [2, 3, 1, 0] rfl)
