set_option maxHeartbeats 4000000 in
set_option maxRecDepth 100000 in
theorem kX2_digest (l : Launch) (D : va_G) (G : Nat → ClassId) (ax : Nat) (n m9 sp : Int) (τ ζ : Nat → Nat → Int) (g : Nat → Nat → Nat) (cs ss : Nat → Nat → Int32) (hOK : XOK n m9 sp τ ζ)   : Met l yX2_digest wsX2_digest ({ frames := 3, cells := 0, slots := 0, locals := 69 }) (zP [.ref ax] D G (fun H => XW D G ax n m9 sp τ ζ g cs ss H)) (zQ (some (.long (xDig n m9 sp τ ζ)))) 0 0 (fun _ => False) := by
  refine Met.ofW (cc := cX2_digest) (maxL := 5) (ret := (some .long)) (by decide) rfl ?_
  intro p e s m args below meth c s₁ B hml hv
  obtain ⟨hav, hW, hK, hN⟩ := hv
  have hx := B.exec
  have hb := B.bytes
  have hr := B.returns
  have hts := atoms_spec (ws := wsX2_digest) B.pre
  have hown : s.vm.findClass RX2 = some m.cls := findClass_of_methodNamed B.named
  have hlocks : meth.locks = false := B.notSynchronized
  have hin0 : ∀ w ∈ u_ws RX0 TX0 4, w ∈ wsX2_digest := by decide +kernel
  have hin2 : ∀ w ∈ u_ws RX2 TX2 5, w ∈ wsX2_digest := by decide +kernel
  obtain ⟨hP, hT, hZ⟩ := id hW
  have hB := id hOK
  obtain ⟨hn0, hn8, hm0, hm12, hsp0, hsp1, -⟩ := hB
  refine z_entry hav (Nat.le_of_ble_eq_true rfl) rfl (fun ls hl => ?_)
  have hl : lv_has ls 5 [(0, .ref ax)] := hl
  refine lv_ldc2 (v := 313) hx hb hown (hts (.constantLong RX2 185 (313)) (by decide +kernel)) dX2_digest_0 ?_
  refine lv_aload_n hx hb dX2_digest_3 rfl (lv_at hl 0 rfl) ?_
  refine va_get (D := D) (ci := 2) (v := .int (zI (sp))) (C := RX2) (T := TX2) (N := 5) hx hb hts hin2 hown hK hP 0 rfl rfl 4 (by decide) (hts (.fieldLink RX2 28 "PolyDrums" "beats" "I") (by decide +kernel)) (fun _ h9 => h9) rfl dX2_digest_4 ?_
  refine lv_i2l (v := (zI (sp)).toInt64) hx hb dX2_digest_7 rfl ?_
  refine z_call (va_runS (As := [.long (313), .long ((zI (sp)).toInt64)]) (rest := []) ⟨hx, hb, hml, hown, hts⟩ (kX2_mix l D G (313) ((zI (sp)).toInt64)) (va_cwS 2 hts gX2_digest_X2_mix rfl rfl rfl (by decide +kernel) ⟨Nat.le_of_ble_eq_true rfl, Nat.le_of_ble_eq_true rfl⟩) (zPreS hK hN (trivial)) rfl rfl hl.1 rfl (lv_room (Nat.le_of_ble_eq_true rfl)) dX2_digest_8 ⟨Nat.le_of_ble_eq_true rfl, Nat.le_of_ble_eq_true rfl⟩) ?_
  refine lv_aload_n hx hb dX2_digest_11 rfl (lv_at hl 0 rfl) ?_
  refine va_get (D := D) (ci := 2) (v := .int (zI (n))) (C := RX2) (T := TX2) (N := 5) hx hb hts hin2 hown hK hP 0 rfl rfl 1 (by decide) (hts (.fieldLink RX2 15 "PolyDrums" "trackCount" "I") (by decide +kernel)) (fun _ h9 => h9) rfl dX2_digest_12 ?_
  refine lv_i2l (v := (zI (n)).toInt64) hx hb dX2_digest_15 rfl ?_
  refine z_call (va_runS (As := [.long ((313) * 31 + ((zI (sp)).toInt64)), .long ((zI (n)).toInt64)]) (rest := []) ⟨hx, hb, hml, hown, hts⟩ (kX2_mix l D G ((313) * 31 + ((zI (sp)).toInt64)) ((zI (n)).toInt64)) (va_cwS 2 hts gX2_digest_X2_mix rfl rfl rfl (by decide +kernel) ⟨Nat.le_of_ble_eq_true rfl, Nat.le_of_ble_eq_true rfl⟩) (zPreS hK hN (trivial)) rfl rfl hl.1 rfl (lv_room (Nat.le_of_ble_eq_true rfl)) dX2_digest_16 ⟨Nat.le_of_ble_eq_true rfl, Nat.le_of_ble_eq_true rfl⟩) ?_
  refine z_top (w := .long (xMix (xMix 313 sp) n)) (rfl) ?_
  refine lv_lstore_n (lv' := [(1, .long (xMix (xMix 313 sp) n)), (0, .ref ax)]) hx hb dX2_digest_19 rfl hl (by decide) rfl (fun ls hl => ?_)
  refine lv_iconst (v := zI (0)) hx hb dX2_digest_20 rfl ?_
  refine lv_istore_n (lv' := [(3, .int (zI (0))), (1, .long (xMix (xMix 313 sp) n)), (0, .ref ax)]) hx hb dX2_digest_21 rfl hl (by decide) rfl (fun ls hl => ?_)
  have loop_22 : ∀ (fu : Nat) (k : Int) (v : Int64), (0 ≤ k ∧ k ≤ n) → (v = xDt τ (xMix (xMix 313 sp) n) k.toNat) → n - k < (fu : Int) → ∀ (ls : Array Slot), lv_has ls 5 [(0, .ref ax), (1, .long (v)), (3, .int (zI (k)))] → W p l e (headSpec wsX2_digest ({ frames := 3, cells := 0, slots := 0, locals := 69 })).room s m args below meth c s.heap [] 0 0 (MQ below (zQ (some (.long (xDig n m9 sp τ ζ)))) args s 0 0 (fun _ => False)) (F0 m 22 ls []) := by
    intro fu
    induction fu with
    | zero =>
      intro k v hk0 hv hm
      exfalso; omega
    | succ fu ih =>
      intro k v hk0 hv hm ls hl
      have ih_22 := ih
      refine lv_iload_n hx hb dX2_digest_22 rfl (lv_at hl 2 rfl) ?_
      refine lv_aload_n hx hb dX2_digest_23 rfl (lv_at hl 0 rfl) ?_
      refine va_get (D := D) (ci := 2) (v := .int (zI (n))) (C := RX2) (T := TX2) (N := 5) hx hb hts hin2 hown hK hP 0 rfl rfl 1 (by decide) (hts (.fieldLink RX2 15 "PolyDrums" "trackCount" "I") (by decide +kernel)) (fun _ h9 => h9) rfl dX2_digest_24 ?_
      refine z_icmp_ge (tgt := 55) hx hb (by omega) dX2_digest_27 (by decide) (fun c_1 => ?_) (fun c_1 => ?_)
      · refine lv_lload_n hx hb dX2_digest_55 rfl (lv_at hl 1 rfl) ?_
        refine lv_aload_n hx hb dX2_digest_56 rfl (lv_at hl 0 rfl) ?_
        refine va_get (D := D) (ci := 2) (v := .int (zI (m9))) (C := RX2) (T := TX2) (N := 5) hx hb hts hin2 hown hK hP 0 rfl rfl 3 (by decide) (hts (.fieldLink RX2 25 "PolyDrums" "sectionCount" "I") (by decide +kernel)) (fun _ h9 => h9) rfl dX2_digest_57 ?_
        refine lv_i2l (v := (zI (m9)).toInt64) hx hb dX2_digest_60 rfl ?_
        refine z_call (va_runS (As := [.long (v), .long ((zI (m9)).toInt64)]) (rest := []) ⟨hx, hb, hml, hown, hts⟩ (kX2_mix l D G (v) ((zI (m9)).toInt64)) (va_cwS 2 hts gX2_digest_X2_mix rfl rfl rfl (by decide +kernel) ⟨Nat.le_of_ble_eq_true rfl, Nat.le_of_ble_eq_true rfl⟩) (zPreS hK hN (trivial)) rfl rfl hl.1 rfl (lv_room (Nat.le_of_ble_eq_true rfl)) dX2_digest_61 ⟨Nat.le_of_ble_eq_true rfl, Nat.le_of_ble_eq_true rfl⟩) ?_
        refine z_top (w := .long (xMix (xDt τ (xMix (xMix 313 sp) n) n.toNat) m9)) (by rw [hv, show k = n by omega]; rfl) ?_
        refine lv_lstore_n (lv' := [(1, .long (xMix (xDt τ (xMix (xMix 313 sp) n) n.toNat) m9)), (0, .ref ax), (3, .int (zI (k)))]) hx hb dX2_digest_64 rfl hl (by decide) rfl (fun ls hl => ?_)
        refine lv_iconst (v := zI (0)) hx hb dX2_digest_65 rfl ?_
        refine lv_istore_n (lv' := [(3, .int (zI (0))), (1, .long (xMix (xDt τ (xMix (xMix 313 sp) n) n.toNat) m9)), (0, .ref ax)]) hx hb dX2_digest_66 rfl hl (by decide) rfl (fun ls hl => ?_)
        have loop_67 : ∀ (fu : Nat) (k : Int) (v : Int64), (0 ≤ k ∧ k ≤ m9) → (v = xDz ζ (xMix (xDt τ (xMix (xMix 313 sp) n) n.toNat) m9) k.toNat) → m9 - k < (fu : Int) → ∀ (ls : Array Slot), lv_has ls 5 [(0, .ref ax), (1, .long (v)), (3, .int (zI (k)))] → W p l e (headSpec wsX2_digest ({ frames := 3, cells := 0, slots := 0, locals := 69 })).room s m args below meth c s.heap [] 0 0 (MQ below (zQ (some (.long (xDig n m9 sp τ ζ)))) args s 0 0 (fun _ => False)) (F0 m 67 ls []) := by
          intro fu
          induction fu with
          | zero =>
            intro k v hk0 hv hm
            exfalso; omega
          | succ fu ih =>
            intro k v hk0 hv hm ls hl
            have ih_67 := ih
            refine lv_iload_n hx hb dX2_digest_67 rfl (lv_at hl 2 rfl) ?_
            refine lv_aload_n hx hb dX2_digest_68 rfl (lv_at hl 0 rfl) ?_
            refine va_get (D := D) (ci := 2) (v := .int (zI (m9))) (C := RX2) (T := TX2) (N := 5) hx hb hts hin2 hown hK hP 0 rfl rfl 3 (by decide) (hts (.fieldLink RX2 25 "PolyDrums" "sectionCount" "I") (by decide +kernel)) (fun _ h9 => h9) rfl dX2_digest_69 ?_
            refine z_icmp_ge (tgt := 129) hx hb (by omega) dX2_digest_72 (by decide) (fun c_2 => ?_) (fun c_2 => ?_)
            · refine lv_lload_n hx hb dX2_digest_129 rfl (lv_at hl 1 rfl) ?_
              exact z_lret hx hb hr hlocks (by unfold xDig; rw [hv, show k = m9 by omega]) dX2_digest_130
            · have hzb := hOK.zb' (k := k) (by omega)
              refine lv_aload_n hx hb dX2_digest_75 rfl (lv_at hl 0 rfl) ?_
              refine lv_iload_n hx hb dX2_digest_76 rfl (lv_at hl 2 rfl) ?_
              refine z_call (va_runV (As := [.int (zI (k))]) (rest := []) ⟨hx, hb, hml, hown, hts⟩ (kX2_sectionOrNull l D G ax n m9 sp τ ζ g cs ss hOK (k) (by omega)) (cwV 1 hts gX2_digest_X2_sectionOrNull rfl rfl rfl (by decide +kernel) ⟨Nat.le_of_ble_eq_true rfl, Nat.le_of_ble_eq_true rfl⟩) (zPreV (va_recv hK hP (ci := 2) (q0 := 0) rfl rfl) hK hN (hW)) rfl rfl hl.1 rfl (lv_room (Nat.le_of_ble_eq_true rfl)) dX2_digest_77 ⟨Nat.le_of_ble_eq_true rfl, Nat.le_of_ble_eq_true rfl⟩) ?_
              refine z_top (w := .ref (g 4 ((k)).toNat)) (by rw [xOpt_t (by omega)]; rfl) ?_
              refine lv_astore (lv' := [(4, .ref (g 4 ((k)).toNat)), (0, .ref ax), (1, .long (v)), (3, .int (zI (k)))]) hx hb dX2_digest_80 hl (by decide) rfl (fun ls hl => ?_)
              refine lv_aload hx hb dX2_digest_82 (lv_at hl 0 rfl) ?_
              refine lv_ifnull hx hb dX2_digest_84 ?_
              refine lv_lload_n hx hb dX2_digest_87 rfl (lv_at hl 2 rfl) ?_
              refine lv_aload hx hb dX2_digest_88 (lv_at hl 0 rfl) ?_
              refine va_getN (D := D) (ci := 0) (v := .int (zI (ζ ((k)).toNat 1))) (C := RX0) (T := TX0) (N := 4) hx hb hts hin0 hown hK (hZ ((k)).toNat (by omega)) 0 rfl rfl 1 (by decide) (va_Nw.use rfl (hN.2.1 (198, RX0, "length", "I") (by decide))) (fun _ h9 => h9) rfl dX2_digest_90 ?_
              refine lv_i2l (v := (zI (ζ ((k)).toNat 1)).toInt64) hx hb dX2_digest_93 rfl ?_
              refine z_call (va_runS (As := [.long (v), .long ((zI (ζ ((k)).toNat 1)).toInt64)]) (rest := []) ⟨hx, hb, hml, hown, hts⟩ (kX2_mix l D G (v) ((zI (ζ ((k)).toNat 1)).toInt64)) (va_cwS 2 hts gX2_digest_X2_mix rfl rfl rfl (by decide +kernel) ⟨Nat.le_of_ble_eq_true rfl, Nat.le_of_ble_eq_true rfl⟩) (zPreS hK hN (trivial)) rfl rfl hl.1 rfl (lv_room (Nat.le_of_ble_eq_true rfl)) dX2_digest_94 ⟨Nat.le_of_ble_eq_true rfl, Nat.le_of_ble_eq_true rfl⟩) ?_
              refine lv_aload hx hb dX2_digest_97 (lv_at hl 0 rfl) ?_
              refine va_getN (D := D) (ci := 0) (v := .int (zI (ζ ((k)).toNat 2))) (C := RX0) (T := TX0) (N := 4) hx hb hts hin0 hown hK (hZ ((k)).toNat (by omega)) 0 rfl rfl 2 (by decide) (va_Nw.use rfl (hN.2.1 (201, RX0, "set", "I") (by decide))) (fun _ h9 => h9) rfl dX2_digest_99 ?_
              refine lv_i2l (v := (zI (ζ ((k)).toNat 2)).toInt64) hx hb dX2_digest_102 rfl ?_
              refine z_call (va_runS (As := [.long ((v) * 31 + ((zI (ζ ((k)).toNat 1)).toInt64)), .long ((zI (ζ ((k)).toNat 2)).toInt64)]) (rest := []) ⟨hx, hb, hml, hown, hts⟩ (kX2_mix l D G ((v) * 31 + ((zI (ζ ((k)).toNat 1)).toInt64)) ((zI (ζ ((k)).toNat 2)).toInt64)) (va_cwS 2 hts gX2_digest_X2_mix rfl rfl rfl (by decide +kernel) ⟨Nat.le_of_ble_eq_true rfl, Nat.le_of_ble_eq_true rfl⟩) (zPreS hK hN (trivial)) rfl rfl hl.1 rfl (lv_room (Nat.le_of_ble_eq_true rfl)) dX2_digest_103 ⟨Nat.le_of_ble_eq_true rfl, Nat.le_of_ble_eq_true rfl⟩) ?_
              refine lv_aload hx hb dX2_digest_106 (lv_at hl 0 rfl) ?_
              refine va_getN (D := D) (ci := 0) (v := .int (zI (ζ ((k)).toNat 3))) (C := RX0) (T := TX0) (N := 4) hx hb hts hin0 hown hK (hZ ((k)).toNat (by omega)) 0 rfl rfl 3 (by decide) (va_Nw.use rfl (hN.2.1 (204, RX0, "isNew", "Z") (by decide))) (fun _ h9 => h9) rfl dX2_digest_108 ?_
              refine z_if_eq (tgt := 118) hx hb (by omega) dX2_digest_111 (by decide) (fun c_3 => ?_) (fun c_3 => ?_)
              · refine lv_lconst (v := lN 0) hx hb dX2_digest_118 (by decide) ?_
                refine z_call (va_runS (As := [.long (((v) * 31 + ((zI (ζ ((k)).toNat 1)).toInt64)) * 31 + ((zI (ζ ((k)).toNat 2)).toInt64)), .long (lN (0))]) (rest := []) ⟨hx, hb, hml, hown, hts⟩ (kX2_mix l D G (((v) * 31 + ((zI (ζ ((k)).toNat 1)).toInt64)) * 31 + ((zI (ζ ((k)).toNat 2)).toInt64)) (lN (0))) (va_cwS 2 hts gX2_digest_X2_mix rfl rfl rfl (by decide +kernel) ⟨Nat.le_of_ble_eq_true rfl, Nat.le_of_ble_eq_true rfl⟩) (zPreS hK hN (trivial)) rfl rfl hl.1 rfl (lv_room (Nat.le_of_ble_eq_true rfl)) dX2_digest_119 ⟨Nat.le_of_ble_eq_true rfl, Nat.le_of_ble_eq_true rfl⟩) ?_
                refine lv_lstore_n (lv' := [(1, .long ((((v) * 31 + ((zI (ζ ((k)).toNat 1)).toInt64)) * 31 + ((zI (ζ ((k)).toNat 2)).toInt64)) * 31 + (lN (0)))), (4, .ref (g 4 ((k)).toNat)), (0, .ref ax), (3, .int (zI (k)))]) hx hb dX2_digest_122 rfl hl (by decide) rfl (fun ls hl => ?_)
                refine lv_iinc (v := zI (k + 1)) (lv' := [(3, .int (zI (k + 1))), (1, .long ((((v) * 31 + ((zI (ζ ((k)).toNat 1)).toInt64)) * 31 + ((zI (ζ ((k)).toNat 2)).toInt64)) * 31 + (lN (0)))), (4, .ref (g 4 ((k)).toNat)), (0, .ref ax)]) hx hb dX2_digest_123 hl (k := 3) rfl (zI_add (k) (1)) (by decide) rfl (fun ls hl => ?_)
                refine lv_goto (tgt := 67) hx hb dX2_digest_126 (by decide) ?_
                exact ih_67 (k + 1) ((((v) * 31 + ((zI (ζ ((k)).toNat 1)).toInt64)) * 31 + ((zI (ζ ((k)).toNat 2)).toInt64)) * 31 + (lN (0))) (by omega) (by rw [xDz_s hk0.1, hv]; first | (rw [show ζ k.toNat 3 = 1 by omega]; rfl) | (rw [show ζ k.toNat 3 = 0 by omega]; rfl)) (by omega) _ (lv_sub hl [3, 1, 0] rfl)
              · refine lv_lconst (v := lN 1) hx hb dX2_digest_114 (by decide) ?_
                refine lv_goto (tgt := 119) hx hb dX2_digest_115 (by decide) ?_
                refine z_call (va_runS (As := [.long (((v) * 31 + ((zI (ζ ((k)).toNat 1)).toInt64)) * 31 + ((zI (ζ ((k)).toNat 2)).toInt64)), .long (lN (1))]) (rest := []) ⟨hx, hb, hml, hown, hts⟩ (kX2_mix l D G (((v) * 31 + ((zI (ζ ((k)).toNat 1)).toInt64)) * 31 + ((zI (ζ ((k)).toNat 2)).toInt64)) (lN (1))) (va_cwS 2 hts gX2_digest_X2_mix rfl rfl rfl (by decide +kernel) ⟨Nat.le_of_ble_eq_true rfl, Nat.le_of_ble_eq_true rfl⟩) (zPreS hK hN (trivial)) rfl rfl hl.1 rfl (lv_room (Nat.le_of_ble_eq_true rfl)) dX2_digest_119 ⟨Nat.le_of_ble_eq_true rfl, Nat.le_of_ble_eq_true rfl⟩) ?_
                refine lv_lstore_n (lv' := [(1, .long ((((v) * 31 + ((zI (ζ ((k)).toNat 1)).toInt64)) * 31 + ((zI (ζ ((k)).toNat 2)).toInt64)) * 31 + (lN (1)))), (4, .ref (g 4 ((k)).toNat)), (0, .ref ax), (3, .int (zI (k)))]) hx hb dX2_digest_122 rfl hl (by decide) rfl (fun ls hl => ?_)
                refine lv_iinc (v := zI (k + 1)) (lv' := [(3, .int (zI (k + 1))), (1, .long ((((v) * 31 + ((zI (ζ ((k)).toNat 1)).toInt64)) * 31 + ((zI (ζ ((k)).toNat 2)).toInt64)) * 31 + (lN (1)))), (4, .ref (g 4 ((k)).toNat)), (0, .ref ax)]) hx hb dX2_digest_123 hl (k := 3) rfl (zI_add (k) (1)) (by decide) rfl (fun ls hl => ?_)
                refine lv_goto (tgt := 67) hx hb dX2_digest_126 (by decide) ?_
                exact ih_67 (k + 1) ((((v) * 31 + ((zI (ζ ((k)).toNat 1)).toInt64)) * 31 + ((zI (ζ ((k)).toNat 2)).toInt64)) * 31 + (lN (1))) (by omega) (by rw [xDz_s hk0.1, hv]; first | (rw [show ζ k.toNat 3 = 1 by omega]; rfl) | (rw [show ζ k.toNat 3 = 0 by omega]; rfl)) (by omega) _ (lv_sub hl [3, 1, 0] rfl)
        exact loop_67 (13) (0) (xMix (xDt τ (xMix (xMix 313 sp) n) n.toNat) m9) (by omega) (rfl) (by omega) ls (lv_sub hl [2, 1, 0] rfl)
      · refine lv_aload_n hx hb dX2_digest_30 rfl (lv_at hl 0 rfl) ?_
        refine lv_iload_n hx hb dX2_digest_31 rfl (lv_at hl 2 rfl) ?_
        refine z_call (va_runV (As := [.int (zI (k))]) (rest := []) ⟨hx, hb, hml, hown, hts⟩ (kX2_trackOrNull l D G ax n m9 sp τ ζ g cs ss hOK (k) (by omega)) (cwV 1 hts gX2_digest_X2_trackOrNull rfl rfl rfl (by decide +kernel) ⟨Nat.le_of_ble_eq_true rfl, Nat.le_of_ble_eq_true rfl⟩) (zPreV (va_recv hK hP (ci := 2) (q0 := 0) rfl rfl) hK hN (hW)) rfl rfl hl.1 rfl (lv_room (Nat.le_of_ble_eq_true rfl)) dX2_digest_32 ⟨Nat.le_of_ble_eq_true rfl, Nat.le_of_ble_eq_true rfl⟩) ?_
        refine z_top (w := .ref (g 1 ((k)).toNat)) (by rw [xOpt_t (by omega)]; rfl) ?_
        refine lv_astore (lv' := [(4, .ref (g 1 ((k)).toNat)), (0, .ref ax), (1, .long (v)), (3, .int (zI (k)))]) hx hb dX2_digest_35 hl (by decide) rfl (fun ls hl => ?_)
        refine lv_aload hx hb dX2_digest_37 (lv_at hl 0 rfl) ?_
        refine lv_ifnull hx hb dX2_digest_39 ?_
        refine lv_aload hx hb dX2_digest_42 (lv_at hl 0 rfl) ?_
        refine lv_lload_n hx hb dX2_digest_44 rfl (lv_at hl 2 rfl) ?_
        refine z_call (va_runVN (As := [.long (v)]) (rest := []) ⟨hx, hb, hml, hown, hts⟩ (kX1_mixInto l D G (g 1 ((k)).toNat) (g 2 ((k)).toNat) (g 3 ((k)).toNat) (τ ((k)).toNat) (cs ((k)).toNat) (v) (hOK.t (k := (k)) (by omega)) (hT ((k)).toNat (by omega)).2) ⟨va_cnB 1 hts gX2_digest_X1_mixInto_n190 rfl rfl rfl (hN.1 (RX2, 190, yX1_mixInto) (by decide +kernel)) (hts (.initialized RX1) (by decide +kernel)) (by decide +kernel) ⟨Nat.le_of_ble_eq_true rfl, Nat.le_of_ble_eq_true rfl⟩, hts (.instanceMethod yX1_mixInto) (by decide +kernel), hts (.selects RX1 yX1_mixInto yX1_mixInto) (by decide +kernel)⟩ (zPreV (va_recv hK (hT ((k)).toNat (by omega)).1 (ci := 1) (q0 := 0) rfl rfl) hK hN ((hT ((k)).toNat (by omega)).1.sub [0, 1] rfl)) rfl rfl hl.1 rfl (lv_room (Nat.le_of_ble_eq_true rfl)) dX2_digest_45 ⟨Nat.le_of_ble_eq_true rfl, Nat.le_of_ble_eq_true rfl⟩) ?_
        refine lv_lstore_n (lv' := [(1, .long (xMt (τ ((k)).toNat) (v))), (4, .ref (g 1 ((k)).toNat)), (0, .ref ax), (3, .int (zI (k)))]) hx hb dX2_digest_48 rfl hl (by decide) rfl (fun ls hl => ?_)
        refine lv_iinc (v := zI (k + 1)) (lv' := [(3, .int (zI (k + 1))), (1, .long (xMt (τ ((k)).toNat) (v))), (4, .ref (g 1 ((k)).toNat)), (0, .ref ax)]) hx hb dX2_digest_49 hl (k := 3) rfl (zI_add (k) (1)) (by decide) rfl (fun ls hl => ?_)
        refine lv_goto (tgt := 22) hx hb dX2_digest_52 (by decide) ?_
        exact ih_22 (k + 1) (xMt (τ ((k)).toNat) (v)) (by omega) (by rw [xDt_s hk0.1, hv]) (by omega) _ (lv_sub hl [3, 1, 0] rfl)
  exact loop_22 (9) (0) (xMix (xMix 313 sp) n) (by omega) (rfl) (by omega) ls (lv_sub hl [2, 1, 0] rfl)
