set_option maxHeartbeats 4000000 in
set_option maxRecDepth 100000 in
theorem kX1_setting (l : Launch) (D : va_G) (G : Nat → ClassId) (ta ca pa : Nat) (f : Nat → Int) (k : Int) (hk : 0 ≤ k ∧ k ≤ 7) (hb5 : (f 5 = 0 ∨ f 5 = 1) ∧ (f 6 = 0 ∨ f 6 = 1) ∧ (f 7 = 0 ∨ f 7 = 1)) : Met l yX1_setting wsX1_setting ({ frames := 0, cells := 0, slots := 0, locals := 0 }) (zP [.ref ta, .int (zI (k))] D G (fun H => va_P D vwCl [(ta, .inr (1, [.int (zI (f 1)), .int (zI (f 0)), .int (zI (f 2)), .int (zI (f 3)), .int (zI (f 4)), .int (zI (f 5)), .int (zI (f 6)), .int (zI (f 7)), .ref ca, .ref pa]))] H)) (zQ (some (.int (zI (f k.toNat))))) 0 0 (fun _ => False) := by
  refine Met.ofW (cc := cX1_setting) (maxL := 2) (ret := (some .int)) (by decide) rfl ?_
  intro p e s m args below meth c s₁ B hml hv
  obtain ⟨hav, hP, hK, hN⟩ := hv
  have hx := B.exec
  have hb := B.bytes
  have hr := B.returns
  have hts := atoms_spec (ws := wsX1_setting) B.pre
  have hown : s.vm.findClass RX1 = some m.cls := findClass_of_methodNamed B.named
  have hlocks : meth.locks = false := B.notSynchronized
  have hin1 : ∀ w ∈ u_ws RX1 TX1 10, w ∈ wsX1_setting := by decide +kernel
  refine z_entry hav (Nat.le_of_ble_eq_true rfl) rfl (fun ls hl => ?_)
  have hl : lv_has ls 2 [(0, .ref ta), (1, .int (zI (k)))] := hl
  refine lv_iload_n hx hb dX1_setting_0 rfl (lv_at hl 1 rfl) ?_
  rcases (show k = 0 ∨ k = 1 ∨ k = 2 ∨ k = 3 ∨ k = 4 ∨ k = 5 ∨ k = 6 ∨ k = 7 by omega) with rfl | rfl | rfl | rfl | rfl | rfl | rfl | rfl
  · refine lv_tableIn (tgt := 44) hx hb dX1_setting_1 (by decide) (by decide) rfl (by decide) ?_
    refine lv_aload_n hx hb dX1_setting_44 rfl (lv_at hl 0 rfl) ?_
    refine va_get (D := D) (ci := 1) (v := .int (zI (f 0))) (C := RX1) (T := TX1) (N := 10) hx hb hts hin1 hown hK hP 0 rfl rfl 1 (by decide) (hts (.fieldLink RX1 38 "PolyDrums$Track" "steps" "I") (by decide +kernel)) (fun _ h9 => h9) rfl dX1_setting_45 ?_
    exact z_iret hx hb hr hlocks (rfl) dX1_setting_48
  · refine lv_tableIn (tgt := 49) hx hb dX1_setting_1 (by decide) (by decide) rfl (by decide) ?_
    refine lv_aload_n hx hb dX1_setting_49 rfl (lv_at hl 0 rfl) ?_
    refine va_get (D := D) (ci := 1) (v := .int (zI (f 1))) (C := RX1) (T := TX1) (N := 10) hx hb hts hin1 hown hK hP 0 rfl rfl 0 (by decide) (hts (.fieldLink RX1 41 "PolyDrums$Track" "stepTicks" "I") (by decide +kernel)) (fun _ h9 => h9) rfl dX1_setting_50 ?_
    exact z_iret hx hb hr hlocks (rfl) dX1_setting_53
  · refine lv_tableIn (tgt := 54) hx hb dX1_setting_1 (by decide) (by decide) rfl (by decide) ?_
    refine lv_aload_n hx hb dX1_setting_54 rfl (lv_at hl 0 rfl) ?_
    refine va_get (D := D) (ci := 1) (v := .int (zI (f 2))) (C := RX1) (T := TX1) (N := 10) hx hb hts hin1 hown hK hP 0 rfl rfl 2 (by decide) (hts (.fieldLink RX1 9 "PolyDrums$Track" "swing" "I") (by decide +kernel)) (fun _ h9 => h9) rfl dX1_setting_55 ?_
    exact z_iret hx hb hr hlocks (rfl) dX1_setting_58
  · refine lv_tableIn (tgt := 59) hx hb dX1_setting_1 (by decide) (by decide) rfl (by decide) ?_
    refine lv_aload_n hx hb dX1_setting_59 rfl (lv_at hl 0 rfl) ?_
    refine va_get (D := D) (ci := 1) (v := .int (zI (f 3))) (C := RX1) (T := TX1) (N := 10) hx hb hts hin1 hown hK hP 0 rfl rfl 3 (by decide) (hts (.fieldLink RX1 15 "PolyDrums$Track" "ring" "I") (by decide +kernel)) (fun _ h9 => h9) rfl dX1_setting_60 ?_
    exact z_iret hx hb hr hlocks (rfl) dX1_setting_63
  · refine lv_tableIn (tgt := 64) hx hb dX1_setting_1 (by decide) (by decide) rfl (by decide) ?_
    refine lv_aload_n hx hb dX1_setting_64 rfl (lv_at hl 0 rfl) ?_
    refine va_get (D := D) (ci := 1) (v := .int (zI (f 4))) (C := RX1) (T := TX1) (N := 10) hx hb hts hin1 hown hK hP 0 rfl rfl 4 (by decide) (hts (.fieldLink RX1 18 "PolyDrums$Track" "group" "I") (by decide +kernel)) (fun _ h9 => h9) rfl dX1_setting_65 ?_
    exact z_iret hx hb hr hlocks (rfl) dX1_setting_68
  · refine lv_tableIn (tgt := 69) hx hb dX1_setting_1 (by decide) (by decide) rfl (by decide) ?_
    refine lv_aload_n hx hb dX1_setting_69 rfl (lv_at hl 0 rfl) ?_
    refine va_get (D := D) (ci := 1) (v := .int (zI (f 5))) (C := RX1) (T := TX1) (N := 10) hx hb hts hin1 hown hK hP 0 rfl rfl 5 (by decide) (hts (.fieldLink RX1 21 "PolyDrums$Track" "isMuted" "Z") (by decide +kernel)) (fun _ h9 => h9) rfl dX1_setting_70 ?_
    refine z_if_eq (tgt := 80) hx hb (by omega) dX1_setting_73 (by decide) (fun c_1 => ?_) (fun c_1 => ?_)
    · refine lv_iconst (v := zI (0)) hx hb dX1_setting_80 rfl ?_
      exact z_iret hx hb hr hlocks (by show _ = f 5; omega) dX1_setting_81
    · refine lv_iconst (v := zI (1)) hx hb dX1_setting_76 rfl ?_
      refine lv_goto (tgt := 81) hx hb dX1_setting_77 (by decide) ?_
      exact z_iret hx hb hr hlocks (by show _ = f 5; omega) dX1_setting_81
  · refine lv_tableIn (tgt := 82) hx hb dX1_setting_1 (by decide) (by decide) rfl (by decide) ?_
    refine lv_aload_n hx hb dX1_setting_82 rfl (lv_at hl 0 rfl) ?_
    refine va_get (D := D) (ci := 1) (v := .int (zI (f 6))) (C := RX1) (T := TX1) (N := 10) hx hb hts hin1 hown hK hP 0 rfl rfl 6 (by decide) (hts (.fieldLink RX1 25 "PolyDrums$Track" "isSolo" "Z") (by decide +kernel)) (fun _ h9 => h9) rfl dX1_setting_83 ?_
    refine z_if_eq (tgt := 93) hx hb (by omega) dX1_setting_86 (by decide) (fun c_2 => ?_) (fun c_2 => ?_)
    · refine lv_iconst (v := zI (0)) hx hb dX1_setting_93 rfl ?_
      exact z_iret hx hb hr hlocks (by show _ = f 6; omega) dX1_setting_94
    · refine lv_iconst (v := zI (1)) hx hb dX1_setting_89 rfl ?_
      refine lv_goto (tgt := 94) hx hb dX1_setting_90 (by decide) ?_
      exact z_iret hx hb hr hlocks (by show _ = f 6; omega) dX1_setting_94
  · refine lv_tableOut (tgt := 95) hx hb dX1_setting_1 (by decide) (by decide) ?_
    refine lv_aload_n hx hb dX1_setting_95 rfl (lv_at hl 0 rfl) ?_
    refine va_get (D := D) (ci := 1) (v := .int (zI (f 7))) (C := RX1) (T := TX1) (N := 10) hx hb hts hin1 hown hK hP 0 rfl rfl 7 (by decide) (hts (.fieldLink RX1 28 "PolyDrums$Track" "isAccent" "Z") (by decide +kernel)) (fun _ h9 => h9) rfl dX1_setting_96 ?_
    refine z_if_eq (tgt := 106) hx hb (by omega) dX1_setting_99 (by decide) (fun c_3 => ?_) (fun c_3 => ?_)
    · refine lv_iconst (v := zI (0)) hx hb dX1_setting_106 rfl ?_
      exact z_iret hx hb hr hlocks (by show _ = f 7; omega) dX1_setting_107
    · refine lv_iconst (v := zI (1)) hx hb dX1_setting_102 rfl ?_
      refine lv_goto (tgt := 107) hx hb dX1_setting_103 (by decide) ?_
      exact z_iret hx hb hr hlocks (by show _ = f 7; omega) dX1_setting_107

set_option maxHeartbeats 4000000 in
set_option maxRecDepth 100000 in
theorem kX1_putCell (l : Launch) (D : va_G) (G : Nat → ClassId) (ta ca pa : Nat) (f : Nat → Int) (cn : Nat → Int32) (k w : Int) (x : Int32) (hnd : [ta, ca].Nodup) (hk : 0 ≤ k ∧ k ≤ 31) (hw : 0 ≤ w ∧ w ≤ 3) : Met l yX1_putCell wsX1_putCell ({ frames := 1, cells := 0, slots := 0, locals := 22 }) (zP [.ref ta, .int (zI (k)), .int (zI (w)), .int (x)] D G (fun H => va_P D vwCl [(ta, .inr (1, [.int (zI (f 1)), .int (zI (f 0)), .int (zI (f 2)), .int (zI (f 3)), .int (zI (f 4)), .int (zI (f 5)), .int (zI (f 6)), .int (zI (f 7)), .ref ca, .ref pa])), (ca, .inl (G 0, 128, .inl (cn)))] H)) (zM none (fun H => va_P D vwCl [(ta, .inr (1, [.int (zI (f 1)), .int (zI (f 0)), .int (zI (f 2)), .int (zI (f 3)), .int (zI (f 4)), .int (zI (f 5)), .int (zI (f 6)), .int (zI (f 7)), .ref ca, .ref pa])), (ca, .inl (G 0, 128, .inl (upd cn (k * 4 + w).toNat x)))] H) (zA [ca])) 0 0 (zA [ca]) := by
  refine Met.ofW (cc := cX1_putCell) (maxL := 4) (ret := none) (by decide) rfl ?_
  intro p e s m args below meth c s₁ B hml hv
  obtain ⟨hav, hP, hK, hN⟩ := hv
  have hx := B.exec
  have hb := B.bytes
  have hr := B.returns
  have hts := atoms_spec (ws := wsX1_putCell) B.pre
  have hown : s.vm.findClass RX1 = some m.cls := findClass_of_methodNamed B.named
  have hlocks : meth.locks = false := B.notSynchronized
  have hin1 : ∀ w ∈ u_ws RX1 TX1 10, w ∈ wsX1_putCell := by decide +kernel
  have hS : va_S (zA [ca]) s.heap s.heap [] := va_S.rf
  have hnd' := hnd
  simp only [List.nodup_cons, List.mem_cons, List.not_mem_nil, or_false, List.nodup_nil, and_true, not_or, not_false_eq_true] at hnd'
  refine z_entry hav (Nat.le_of_ble_eq_true rfl) rfl (fun ls hl => ?_)
  have hl : lv_has ls 4 [(0, .ref ta), (1, .int (zI (k))), (2, .int (zI (w))), (3, .int (x))] := hl
  refine lv_aload_n hx hb dX1_putCell_0 rfl (lv_at hl 0 rfl) ?_
  refine va_get (D := D) (ci := 1) (v := .ref ca) (C := RX1) (T := TX1) (N := 10) hx hb hts hin1 hown hK hP 0 rfl rfl 8 (by decide) (hts (.fieldLink RX1 31 "PolyDrums$Track" "cells" "[I") (by decide +kernel)) (fun _ h9 => h9) rfl dX1_putCell_1 ?_
  refine lv_iload_n hx hb dX1_putCell_4 rfl (lv_at hl 1 rfl) ?_
  refine lv_iconst (v := zI (4)) hx hb dX1_putCell_5 rfl ?_
  refine z_imul hx hb dX1_putCell_6 ?_
  refine lv_iload_n hx hb dX1_putCell_7 rfl (lv_at hl 2 rfl) ?_
  refine z_iadd hx hb dX1_putCell_8 ?_
  refine lv_iload_n hx hb dX1_putCell_9 rfl (lv_at hl 3 rfl) ?_
  refine z_callM (va_runSN (As := [.ref ca, .int (zI (((k) * (4)) + (w))), .int (x)]) (rest := []) ⟨hx, hb, hml, hown, hts⟩ (kX2_write l D G ca 128 (cn) (((k) * (4)) + (w)) ((x)) (by simp) (by omega) (by omega)) ⟨va_cnB 3 hts gX1_putCell_X2_write_n52 rfl rfl rfl (hN.1 (RX1, 52, yX2_write) (by decide +kernel)) (hts (.initialized RX2) (by decide +kernel)) (by decide +kernel) ⟨Nat.le_of_ble_eq_true rfl, Nat.le_of_ble_eq_true rfl⟩, hts (.static yX2_write) (by decide +kernel), trivial⟩ (zPreS hK hN (hP.sub [1] rfl)) rfl rfl hl.1 rfl (lv_room (Nat.le_of_ble_eq_true rfl)) dX1_putCell_10 ⟨Nat.le_of_ble_eq_true rfl, Nat.le_of_ble_eq_true rfl⟩) hS (by intro q hq9 hq; simp only [zA, zAn, List.mem_cons, List.not_mem_nil, or_false] at hq ⊢ <;> omega) (by intro q hq; simp only [zA, zAn, List.mem_cons, List.not_mem_nil, or_false] at hq ⊢ <;> omega) (fun H1 locs1 hp1 hz1 hk1 hS1 => ?_)
  have hP : va_P D vwCl [(ta, .inr (1, [.int (zI (f 1)), .int (zI (f 0)), .int (zI (f 2)), .int (zI (f 3)), .int (zI (f 4)), .int (zI (f 5)), .int (zI (f 6)), .int (zI (f 7)), .ref ca, .ref pa])), (ca, .inl (G 0, 128, .inl (upd (cn) (((k) * (4)) + (w)).toNat ((x)))))] H1 := z_merge hP hk1 (w1 := [(ca, .inl (G 0, 128, .inl (upd (cn) (((k) * (4)) + (w)).toNat ((x)))))]) (wr := [(ta, .inr (1, [.int (zI (f 1)), .int (zI (f 0)), .int (zI (f 2)), .int (zI (f 3)), .int (zI (f 4)), .int (zI (f 5)), .int (zI (f 6)), .int (zI (f 7)), .ref ca, .ref pa]))]) hp1 [0] rfl (by intro q hq; simp only [List.map, List.mem_cons, List.not_mem_nil, or_false] at hq ⊢ <;> omega) [1, 0] rfl
  have hS := hS1
  clear hS1
  exact zm_vret hx hb hr hlocks hS (hP) dX1_putCell_13

set_option maxHeartbeats 4000000 in
set_option maxRecDepth 100000 in
theorem kX1_clearStep (l : Launch) (D : va_G) (G : Nat → ClassId) (ta ca pa : Nat) (f : Nat → Int) (cn : Nat → Int32) (k v : Int) (hnd : [ta, ca].Nodup) (hk : 0 ≤ k ∧ k ≤ 31) : Met l yX1_clearStep wsX1_clearStep ({ frames := 2, cells := 0, slots := 0, locals := 45 }) (zP [.ref ta, .int (zI (k)), .int (zI (v))] D G (fun H => va_P D vwCl [(ta, .inr (1, [.int (zI (f 1)), .int (zI (f 0)), .int (zI (f 2)), .int (zI (f 3)), .int (zI (f 4)), .int (zI (f 5)), .int (zI (f 6)), .int (zI (f 7)), .ref ca, .ref pa])), (ca, .inl (G 0, 128, .inl (cn)))] H)) (zM none (fun H => va_P D vwCl [(ta, .inr (1, [.int (zI (f 1)), .int (zI (f 0)), .int (zI (f 2)), .int (zI (f 3)), .int (zI (f 4)), .int (zI (f 5)), .int (zI (f 6)), .int (zI (f 7)), .ref ca, .ref pa])), (ca, .inl (G 0, 128, .inl (xClr cn k v)))] H) (zA [ca])) 0 0 (zA [ca]) := by
  refine Met.ofW (cc := cX1_clearStep) (maxL := 3) (ret := none) (by decide) rfl ?_
  intro p e s m args below meth c s₁ B hml hv
  obtain ⟨hav, hP, hK, hN⟩ := hv
  have hx := B.exec
  have hb := B.bytes
  have hr := B.returns
  have hts := atoms_spec (ws := wsX1_clearStep) B.pre
  have hown : s.vm.findClass RX1 = some m.cls := findClass_of_methodNamed B.named
  have hlocks : meth.locks = false := B.notSynchronized
  have hS : va_S (zA [ca]) s.heap s.heap [] := va_S.rf
  have hnd' := hnd
  simp only [List.nodup_cons, List.mem_cons, List.not_mem_nil, or_false, List.nodup_nil, and_true, not_or, not_false_eq_true] at hnd'
  refine z_entry hav (Nat.le_of_ble_eq_true rfl) rfl (fun ls hl => ?_)
  have hl : lv_has ls 3 [(0, .ref ta), (1, .int (zI (k))), (2, .int (zI (v)))] := hl
  refine lv_aload_n hx hb dX1_clearStep_0 rfl (lv_at hl 0 rfl) ?_
  refine lv_iload_n hx hb dX1_clearStep_1 rfl (lv_at hl 1 rfl) ?_
  refine lv_iconst (v := zI (0)) hx hb dX1_clearStep_2 rfl ?_
  refine lv_iload_n hx hb dX1_clearStep_3 rfl (lv_at hl 2 rfl) ?_
  refine z_callM (va_runV (As := [.int (zI (k)), .int (zI (0)), .int (zI (v))]) (rest := []) ⟨hx, hb, hml, hown, hts⟩ (kX1_putCell l D G ta ca pa f (cn) (k) (0) (zI (v)) (by simp only [List.nodup_cons, List.mem_cons, List.not_mem_nil, or_false, List.nodup_nil, and_true, not_or, not_false_eq_true]; omega) (by omega) (by omega)) (cwV 3 hts gX1_clearStep_X1_putCell rfl rfl rfl (by decide +kernel) ⟨Nat.le_of_ble_eq_true rfl, Nat.le_of_ble_eq_true rfl⟩) (zPreV (va_recv hK hP (ci := 1) (q0 := 0) rfl rfl) hK hN (hP.sub [0, 1] rfl)) rfl rfl hl.1 rfl (lv_room (Nat.le_of_ble_eq_true rfl)) dX1_clearStep_4 ⟨Nat.le_of_ble_eq_true rfl, Nat.le_of_ble_eq_true rfl⟩) hS (by intro q hq9 hq; simp only [zA, zAn, List.mem_cons, List.not_mem_nil, or_false] at hq ⊢ <;> omega) (by intro q hq; simp only [zA, zAn, List.mem_cons, List.not_mem_nil, or_false] at hq ⊢ <;> omega) (fun H1 locs1 hp1 hz1 hk1 hS1 => ?_)
  have hP : va_P D vwCl [(ta, .inr (1, [.int (zI (f 1)), .int (zI (f 0)), .int (zI (f 2)), .int (zI (f 3)), .int (zI (f 4)), .int (zI (f 5)), .int (zI (f 6)), .int (zI (f 7)), .ref ca, .ref pa])), (ca, .inl (G 0, 128, .inl (upd (cn) ((k) * 4 + 0).toNat (zI (v)))))] H1 := z_merge hP hk1 (w1 := [(ta, .inr (1, [.int (zI (f 1)), .int (zI (f 0)), .int (zI (f 2)), .int (zI (f 3)), .int (zI (f 4)), .int (zI (f 5)), .int (zI (f 6)), .int (zI (f 7)), .ref ca, .ref pa])), (ca, .inl (G 0, 128, .inl (upd (cn) ((k) * 4 + 0).toNat (zI (v)))))]) (wr := []) hp1 [] rfl (by intro q hq; simp only [List.map, List.mem_cons, List.not_mem_nil, or_false] at hq ⊢ <;> omega) [0, 1] rfl
  have hS := hS1
  clear hS1
  refine lv_aload_n hx hb dX1_clearStep_7 rfl (lv_at hl 0 rfl) ?_
  refine lv_iload_n hx hb dX1_clearStep_8 rfl (lv_at hl 1 rfl) ?_
  refine lv_iconst (v := zI (1)) hx hb dX1_clearStep_9 rfl ?_
  refine lv_iconst (v := zI (1)) hx hb dX1_clearStep_10 rfl ?_
  refine z_callM (va_runV (As := [.int (zI (k)), .int (zI (1)), .int (zI (1))]) (rest := []) ⟨hx, hb, hml, hown, hts⟩ (kX1_putCell l D G ta ca pa f (upd (cn) ((k) * 4 + 0).toNat (zI (v))) (k) (1) (zI (1)) (by simp only [List.nodup_cons, List.mem_cons, List.not_mem_nil, or_false, List.nodup_nil, and_true, not_or, not_false_eq_true]; omega) (by omega) (by omega)) (cwV 3 hts gX1_clearStep_X1_putCell rfl rfl rfl (by decide +kernel) ⟨Nat.le_of_ble_eq_true rfl, Nat.le_of_ble_eq_true rfl⟩) (zPreV (va_recv hK hP (ci := 1) (q0 := 0) rfl rfl) hK hN (hP.sub [0, 1] rfl)) rfl rfl hl.1 rfl (lv_room (Nat.le_of_ble_eq_true rfl)) dX1_clearStep_11 ⟨Nat.le_of_ble_eq_true rfl, Nat.le_of_ble_eq_true rfl⟩) hS (by intro q hq9 hq; simp only [zA, zAn, List.mem_cons, List.not_mem_nil, or_false] at hq ⊢ <;> omega) (by intro q hq; simp only [zA, zAn, List.mem_cons, List.not_mem_nil, or_false] at hq ⊢ <;> omega) (fun H1 locs1 hp1 hz1 hk1 hS1 => ?_)
  have hP : va_P D vwCl [(ta, .inr (1, [.int (zI (f 1)), .int (zI (f 0)), .int (zI (f 2)), .int (zI (f 3)), .int (zI (f 4)), .int (zI (f 5)), .int (zI (f 6)), .int (zI (f 7)), .ref ca, .ref pa])), (ca, .inl (G 0, 128, .inl (upd (upd (cn) ((k) * 4 + 0).toNat (zI (v))) ((k) * 4 + 1).toNat (zI (1)))))] H1 := z_merge hP hk1 (w1 := [(ta, .inr (1, [.int (zI (f 1)), .int (zI (f 0)), .int (zI (f 2)), .int (zI (f 3)), .int (zI (f 4)), .int (zI (f 5)), .int (zI (f 6)), .int (zI (f 7)), .ref ca, .ref pa])), (ca, .inl (G 0, 128, .inl (upd (upd (cn) ((k) * 4 + 0).toNat (zI (v))) ((k) * 4 + 1).toNat (zI (1)))))]) (wr := []) hp1 [] rfl (by intro q hq; simp only [List.map, List.mem_cons, List.not_mem_nil, or_false] at hq ⊢ <;> omega) [0, 1] rfl
  have hS := hS1
  clear hS1
  refine lv_aload_n hx hb dX1_clearStep_14 rfl (lv_at hl 0 rfl) ?_
  refine lv_iload_n hx hb dX1_clearStep_15 rfl (lv_at hl 1 rfl) ?_
  refine lv_iconst (v := zI (2)) hx hb dX1_clearStep_16 rfl ?_
  refine lv_iconst (v := zI (0)) hx hb dX1_clearStep_17 rfl ?_
  refine z_callM (va_runV (As := [.int (zI (k)), .int (zI (2)), .int (zI (0))]) (rest := []) ⟨hx, hb, hml, hown, hts⟩ (kX1_putCell l D G ta ca pa f (upd (upd (cn) ((k) * 4 + 0).toNat (zI (v))) ((k) * 4 + 1).toNat (zI (1))) (k) (2) (zI (0)) (by simp only [List.nodup_cons, List.mem_cons, List.not_mem_nil, or_false, List.nodup_nil, and_true, not_or, not_false_eq_true]; omega) (by omega) (by omega)) (cwV 3 hts gX1_clearStep_X1_putCell rfl rfl rfl (by decide +kernel) ⟨Nat.le_of_ble_eq_true rfl, Nat.le_of_ble_eq_true rfl⟩) (zPreV (va_recv hK hP (ci := 1) (q0 := 0) rfl rfl) hK hN (hP.sub [0, 1] rfl)) rfl rfl hl.1 rfl (lv_room (Nat.le_of_ble_eq_true rfl)) dX1_clearStep_18 ⟨Nat.le_of_ble_eq_true rfl, Nat.le_of_ble_eq_true rfl⟩) hS (by intro q hq9 hq; simp only [zA, zAn, List.mem_cons, List.not_mem_nil, or_false] at hq ⊢ <;> omega) (by intro q hq; simp only [zA, zAn, List.mem_cons, List.not_mem_nil, or_false] at hq ⊢ <;> omega) (fun H1 locs1 hp1 hz1 hk1 hS1 => ?_)
  have hP : va_P D vwCl [(ta, .inr (1, [.int (zI (f 1)), .int (zI (f 0)), .int (zI (f 2)), .int (zI (f 3)), .int (zI (f 4)), .int (zI (f 5)), .int (zI (f 6)), .int (zI (f 7)), .ref ca, .ref pa])), (ca, .inl (G 0, 128, .inl (upd (upd (upd (cn) ((k) * 4 + 0).toNat (zI (v))) ((k) * 4 + 1).toNat (zI (1))) ((k) * 4 + 2).toNat (zI (0)))))] H1 := z_merge hP hk1 (w1 := [(ta, .inr (1, [.int (zI (f 1)), .int (zI (f 0)), .int (zI (f 2)), .int (zI (f 3)), .int (zI (f 4)), .int (zI (f 5)), .int (zI (f 6)), .int (zI (f 7)), .ref ca, .ref pa])), (ca, .inl (G 0, 128, .inl (upd (upd (upd (cn) ((k) * 4 + 0).toNat (zI (v))) ((k) * 4 + 1).toNat (zI (1))) ((k) * 4 + 2).toNat (zI (0)))))]) (wr := []) hp1 [] rfl (by intro q hq; simp only [List.map, List.mem_cons, List.not_mem_nil, or_false] at hq ⊢ <;> omega) [0, 1] rfl
  have hS := hS1
  clear hS1
  refine lv_aload_n hx hb dX1_clearStep_21 rfl (lv_at hl 0 rfl) ?_
  refine lv_iload_n hx hb dX1_clearStep_22 rfl (lv_at hl 1 rfl) ?_
  refine lv_iconst (v := zI (3)) hx hb dX1_clearStep_23 rfl ?_
  refine lv_iconst (v := zI (1)) hx hb dX1_clearStep_24 rfl ?_
  refine z_callM (va_runV (As := [.int (zI (k)), .int (zI (3)), .int (zI (1))]) (rest := []) ⟨hx, hb, hml, hown, hts⟩ (kX1_putCell l D G ta ca pa f (upd (upd (upd (cn) ((k) * 4 + 0).toNat (zI (v))) ((k) * 4 + 1).toNat (zI (1))) ((k) * 4 + 2).toNat (zI (0))) (k) (3) (zI (1)) (by simp only [List.nodup_cons, List.mem_cons, List.not_mem_nil, or_false, List.nodup_nil, and_true, not_or, not_false_eq_true]; omega) (by omega) (by omega)) (cwV 3 hts gX1_clearStep_X1_putCell rfl rfl rfl (by decide +kernel) ⟨Nat.le_of_ble_eq_true rfl, Nat.le_of_ble_eq_true rfl⟩) (zPreV (va_recv hK hP (ci := 1) (q0 := 0) rfl rfl) hK hN (hP.sub [0, 1] rfl)) rfl rfl hl.1 rfl (lv_room (Nat.le_of_ble_eq_true rfl)) dX1_clearStep_25 ⟨Nat.le_of_ble_eq_true rfl, Nat.le_of_ble_eq_true rfl⟩) hS (by intro q hq9 hq; simp only [zA, zAn, List.mem_cons, List.not_mem_nil, or_false] at hq ⊢ <;> omega) (by intro q hq; simp only [zA, zAn, List.mem_cons, List.not_mem_nil, or_false] at hq ⊢ <;> omega) (fun H1 locs1 hp1 hz1 hk1 hS1 => ?_)
  have hP : va_P D vwCl [(ta, .inr (1, [.int (zI (f 1)), .int (zI (f 0)), .int (zI (f 2)), .int (zI (f 3)), .int (zI (f 4)), .int (zI (f 5)), .int (zI (f 6)), .int (zI (f 7)), .ref ca, .ref pa])), (ca, .inl (G 0, 128, .inl (upd (upd (upd (upd (cn) ((k) * 4 + 0).toNat (zI (v))) ((k) * 4 + 1).toNat (zI (1))) ((k) * 4 + 2).toNat (zI (0))) ((k) * 4 + 3).toNat (zI (1)))))] H1 := z_merge hP hk1 (w1 := [(ta, .inr (1, [.int (zI (f 1)), .int (zI (f 0)), .int (zI (f 2)), .int (zI (f 3)), .int (zI (f 4)), .int (zI (f 5)), .int (zI (f 6)), .int (zI (f 7)), .ref ca, .ref pa])), (ca, .inl (G 0, 128, .inl (upd (upd (upd (upd (cn) ((k) * 4 + 0).toNat (zI (v))) ((k) * 4 + 1).toNat (zI (1))) ((k) * 4 + 2).toNat (zI (0))) ((k) * 4 + 3).toNat (zI (1)))))]) (wr := []) hp1 [] rfl (by intro q hq; simp only [List.map, List.mem_cons, List.not_mem_nil, or_false] at hq ⊢ <;> omega) [0, 1] rfl
  have hS := hS1
  clear hS1
  exact zm_vret hx hb hr hlocks hS (hP) dX1_clearStep_28

set_option maxHeartbeats 4000000 in
set_option maxRecDepth 100000 in
theorem kX1_stepsWithForce (l : Launch) (D : va_G) (G : Nat → ClassId) (ta ca pa : Nat) (f : Nat → Int) (cn : Nat → Int32) (hf : TOK f) (hR : TR f cn) : Met l yX1_stepsWithForce wsX1_stepsWithForce ({ frames := 2, cells := 0, slots := 0, locals := 43 }) (zP [.ref ta] D G (fun H => va_P D vwCl [(ta, .inr (1, [.int (zI (f 1)), .int (zI (f 0)), .int (zI (f 2)), .int (zI (f 3)), .int (zI (f 4)), .int (zI (f 5)), .int (zI (f 6)), .int (zI (f 7)), .ref ca, .ref pa])), (ca, .inl (G 0, 128, .inl (cn)))] H)) (zQ (some (.int (zI (xLoud f (f 0).toNat))))) 0 0 (fun _ => False) := by
  refine Met.ofW (cc := cX1_stepsWithForce) (maxL := 3) (ret := (some .int)) (by decide) rfl ?_
  intro p e s m args below meth c s₁ B hml hv
  obtain ⟨hav, hP, hK, hN⟩ := hv
  have hx := B.exec
  have hb := B.bytes
  have hr := B.returns
  have hts := atoms_spec (ws := wsX1_stepsWithForce) B.pre
  have hown : s.vm.findClass RX1 = some m.cls := findClass_of_methodNamed B.named
  have hlocks : meth.locks = false := B.notSynchronized
  have hin1 : ∀ w ∈ u_ws RX1 TX1 10, w ∈ wsX1_stepsWithForce := by decide +kernel
  have hf1 : 1 ≤ f 0 ∧ f 0 ≤ 32 := by unfold TOK at hf; omega
  refine z_entry hav (Nat.le_of_ble_eq_true rfl) rfl (fun ls hl => ?_)
  have hl : lv_has ls 3 [(0, .ref ta)] := hl
  refine lv_iconst (v := zI (0)) hx hb dX1_stepsWithForce_0 rfl ?_
  refine lv_istore_n (lv' := [(1, .int (zI (0))), (0, .ref ta)]) hx hb dX1_stepsWithForce_1 rfl hl (by decide) rfl (fun ls hl => ?_)
  refine lv_iconst (v := zI (0)) hx hb dX1_stepsWithForce_2 rfl ?_
  refine lv_istore_n (lv' := [(2, .int (zI (0))), (1, .int (zI (0))), (0, .ref ta)]) hx hb dX1_stepsWithForce_3 rfl hl (by decide) rfl (fun ls hl => ?_)
  have loop_4 : ∀ (fu : Nat) (k : Int) (n : Int), (0 ≤ k ∧ k ≤ f 0) → (n = xLoud f k.toNat) → f 0 - k < (fu : Int) → ∀ (ls : Array Slot), lv_has ls 3 [(0, .ref ta), (1, .int (zI (n))), (2, .int (zI (k)))] → W p l e (headSpec wsX1_stepsWithForce ({ frames := 2, cells := 0, slots := 0, locals := 43 })).room s m args below meth c s.heap [] 0 0 (MQ below (zQ (some (.int (zI (xLoud f (f 0).toNat))))) args s 0 0 (fun _ => False)) (F0 m 4 ls []) := by
    intro fu
    induction fu with
    | zero =>
      intro k n hk0 hn hm
      exfalso; omega
    | succ fu ih =>
      intro k n hk0 hn hm ls hl
      have ih_4 := ih
      refine lv_iload_n hx hb dX1_stepsWithForce_4 rfl (lv_at hl 2 rfl) ?_
      refine lv_aload_n hx hb dX1_stepsWithForce_5 rfl (lv_at hl 0 rfl) ?_
      refine va_get (D := D) (ci := 1) (v := .int (zI (f 0))) (C := RX1) (T := TX1) (N := 10) hx hb hts hin1 hown hK hP 0 rfl rfl 1 (by decide) (hts (.fieldLink RX1 38 "PolyDrums$Track" "steps" "I") (by decide +kernel)) (fun _ h9 => h9) rfl dX1_stepsWithForce_6 ?_
      refine z_icmp_ge (tgt := 30) hx hb (by omega) dX1_stepsWithForce_9 (by decide) (fun c_1 => ?_) (fun c_1 => ?_)
      · refine lv_iload_n hx hb dX1_stepsWithForce_30 rfl (lv_at hl 1 rfl) ?_
        exact z_iret hx hb hr hlocks (by rw [hn, show k = f 0 by omega]) dX1_stepsWithForce_31
      · have hc1 := hf.2.2.2.2.2.2.2.2.2.2.2.2.2 k hk0.1 (by omega)
        have hb1 := xLoud_b f k.toNat
        refine lv_aload_n hx hb dX1_stepsWithForce_12 rfl (lv_at hl 0 rfl) ?_
        refine lv_iload_n hx hb dX1_stepsWithForce_13 rfl (lv_at hl 2 rfl) ?_
        refine lv_iconst (v := zI (0)) hx hb dX1_stepsWithForce_14 rfl ?_
        refine z_call (va_runV (As := [.int (zI (k)), .int (zI (0))]) (rest := []) ⟨hx, hb, hml, hown, hts⟩ (kX1_cell l D G ta ca pa f cn (k) (0) (by have := hf; unfold TOK at this; omega) hR (by omega) (by omega)) (cwV 2 hts gX1_stepsWithForce_X1_cell rfl rfl rfl (by decide +kernel) ⟨Nat.le_of_ble_eq_true rfl, Nat.le_of_ble_eq_true rfl⟩) (zPreV (va_recv hK hP (ci := 1) (q0 := 0) rfl rfl) hK hN (hP.sub [0, 1] rfl)) rfl rfl hl.1 rfl (lv_room (Nat.le_of_ble_eq_true rfl)) dX1_stepsWithForce_15 ⟨Nat.le_of_ble_eq_true rfl, Nat.le_of_ble_eq_true rfl⟩) ?_
        refine z_if_le (tgt := 24) hx hb (by omega) dX1_stepsWithForce_18 (by decide) (fun c_2 => ?_) (fun c_2 => ?_)
        · refine lv_iinc (v := zI (k + 1)) (lv' := [(2, .int (zI (k + 1))), (0, .ref ta), (1, .int (zI (n)))]) hx hb dX1_stepsWithForce_24 hl (k := 2) rfl (zI_add (k) (1)) (by decide) rfl (fun ls hl => ?_)
          refine lv_goto (tgt := 4) hx hb dX1_stepsWithForce_27 (by decide) ?_
          exact ih_4 (k + 1) (n) (by omega) (by rw [xLoud_s hk0.1]; split <;> omega) (by omega) _ (lv_sub hl [1, 2, 0] rfl)
        · refine lv_iinc (v := zI (n + 1)) (lv' := [(1, .int (zI (n + 1))), (0, .ref ta), (2, .int (zI (k)))]) hx hb dX1_stepsWithForce_21 hl (k := 1) rfl (zI_add (n) (1)) (by decide) rfl (fun ls hl => ?_)
          refine lv_iinc (v := zI (k + 1)) (lv' := [(2, .int (zI (k + 1))), (1, .int (zI (n + 1))), (0, .ref ta)]) hx hb dX1_stepsWithForce_24 hl (k := 2) rfl (zI_add (k) (1)) (by decide) rfl (fun ls hl => ?_)
          refine lv_goto (tgt := 4) hx hb dX1_stepsWithForce_27 (by decide) ?_
          exact ih_4 (k + 1) (n + 1) (by omega) (by rw [xLoud_s hk0.1]; split <;> omega) (by omega) _ (lv_sub hl [2, 1, 0] rfl)
  exact loop_4 (33) (0) (0) (by omega) (rfl) (by omega) ls (lv_sub hl [2, 1, 0] rfl)
