set_option maxHeartbeats 4000000 in
set_option maxRecDepth 100000 in
theorem kX3_sounds (l : Launch) (D : va_G) (G : Nat → ClassId) (am : Nat) (th n m9 sp : Int) (τ ζ : Nat → Nat → Int) (h : Nat → Nat) (M : Nat → Nat → Int32) (hOK : XOK n m9 sp τ ζ) (hM : MR n m9 τ ζ M) (k t9 : Int) (hk : 0 ≤ k ∧ k < n) (ht : 0 ≤ t9 ∧ t9 ≤ 99999) : Met l yX3_sounds wsX3_sounds ({ frames := 3, cells := 0, slots := 0, locals := 76 }) (zP [.ref am, .int (zI (k)), .int (zI (t9))] D G (fun H => va_P D vwCl [(am, .inr (3, [.int (zI (th)), .int (zI (n)), .ref (h 0), .ref (h 1), .ref (h 2), .ref (h 3), .ref (h 4), .ref (h 5), .ref (h 6), .int (zI (m9)), .ref (h 7), .ref (h 8), .ref (h 9), .int (zI (sp))])), ((h 0), .inl (G 0, 8, .inl (M 0))), ((h 1), .inl (G 0, 8, .inl (M 1))), ((h 2), .inl (G 0, 8, .inl (M 2))), ((h 3), .inl (G 0, 8, .inl (M 3))), ((h 4), .inl (G 0, 8, .inl (M 4))), ((h 5), .inl (G 1, 24, .inl (M 5))), ((h 6), .inl (G 0, 1024, .inl (M 6))), ((h 7), .inl (G 0, 13, .inl (M 7))), ((h 8), .inl (G 0, 12, .inl (M 8))), ((h 9), .inl (G 1, 12, .inl (M 9)))] H)) (zQ (some (.int (zB (xSnd n m9 τ ζ t9 k))))) 0 0 (fun _ => False) := by
  refine Met.ofW (cc := cX3_sounds) (maxL := 7) (ret := (some .boolean)) (by decide) rfl ?_
  intro p e s m args below meth c s₁ B hml hv
  obtain ⟨hav, hP, hK, hN⟩ := hv
  have hx := B.exec
  have hb := B.bytes
  have hr := B.returns
  have hts := atoms_spec (ws := wsX3_sounds) B.pre
  have hown : s.vm.findClass RX3 = some m.cls := findClass_of_methodNamed B.named
  have hlocks : meth.locks = false := B.notSynchronized
  have hin3 : ∀ w ∈ u_ws RX3 TX3 14, w ∈ wsX3_sounds := by decide +kernel
  have hB := id hOK
  obtain ⟨hn0, hn8, hm0, hm12, hsp0, hsp1, -⟩ := hB
  have htb := hOK.tb hk
  refine z_entry hav (Nat.le_of_ble_eq_true rfl) rfl (fun ls hl => ?_)
  have hl : lv_has ls 7 [(0, .ref am), (1, .int (zI (k))), (2, .int (zI (t9)))] := hl
  refine lv_iload_n hx hb dX3_sounds_0 rfl (lv_at hl 2 rfl) ?_
  refine lv_istore_n (lv' := [(3, .int (zI (t9))), (0, .ref am), (1, .int (zI (k))), (2, .int (zI (t9)))]) hx hb dX3_sounds_1 rfl hl (by decide) rfl (fun ls hl => ?_)
  have loop_2 : ∀ (fu : Nat) (a : Int), (-1 ≤ a ∧ a ≤ t9) → (yC n (mH n m9 τ ζ t9) (mQ τ) k (t9 - a)) → a + 1 < (fu : Int) → ∀ (ls : Array Slot), lv_has ls 7 [(0, .ref am), (1, .int (zI (k))), (2, .int (zI (t9))), (3, .int (zI (a)))] → W p l e (headSpec wsX3_sounds ({ frames := 3, cells := 0, slots := 0, locals := 76 })).room s m args below meth c s.heap [] 0 0 (MQ below (zQ (some (.int (zB (xSnd n m9 τ ζ t9 k))))) args s 0 0 (fun _ => False)) (F0 m 2 ls []) := by
    intro fu
    induction fu with
    | zero =>
      intro a ha0 hC hm
      exfalso; omega
    | succ fu ih =>
      intro a ha0 hC hm ls hl
      have ih_2 := ih
      refine lv_iload_n hx hb dX3_sounds_2 rfl (lv_at hl 3 rfl) ?_
      refine z_if_lt (tgt := 123) hx hb (by omega) dX3_sounds_3 (by decide) (fun c_1 => ?_) (fun c_1 => ?_)
      · refine lv_iconst (v := zI (0)) hx hb dX3_sounds_123 rfl ?_
        exact z_zretF hx hb hr hlocks (mS_e hC (by omega)) dX3_sounds_124
      · refine lv_iload_n hx hb dX3_sounds_6 rfl (lv_at hl 3 rfl) ?_
        refine lv_iload_n hx hb dX3_sounds_7 rfl (lv_at hl 2 rfl) ?_
        refine lv_aload_n hx hb dX3_sounds_8 rfl (lv_at hl 0 rfl) ?_
        refine va_get (D := D) (ci := 3) (v := .ref (h 3)) (C := RX3) (T := TX3) (N := 14) hx hb hts hin3 hown hK hP 0 rfl rfl 5 (by decide) (hts (.fieldLink RX3 19 "PolyDrumsModel" "rings" "[I") (by decide +kernel)) (fun _ h9 => h9) rfl dX3_sounds_9 ?_
        refine lv_iload_n hx hb dX3_sounds_12 rfl (lv_at hl 1 rfl) ?_
        refine z_iald (x := zI (τ (k).toNat 3)) (D := D) hx hb hK hP 4 0 rfl rfl (by omega) (by omega) (hM.a (k := k) (by omega) 3 (by omega)) dX3_sounds_13 ?_
        refine z_isub hx hb dX3_sounds_14 ?_
        refine z_icmp_le (tgt := 123) hx hb (by omega) dX3_sounds_15 (by decide) (fun c_2 => ?_) (fun c_2 => ?_)
        · refine lv_iconst (v := zI (0)) hx hb dX3_sounds_123 rfl ?_
          exact z_zretF hx hb hr hlocks (mS_e hC (by omega)) dX3_sounds_124
        · refine lv_aload_n hx hb dX3_sounds_18 rfl (lv_at hl 0 rfl) ?_
          refine lv_iload_n hx hb dX3_sounds_19 rfl (lv_at hl 1 rfl) ?_
          refine lv_iload_n hx hb dX3_sounds_20 rfl (lv_at hl 3 rfl) ?_
          refine z_call (va_runV (As := [.int (zI (k)), .int (zI (a))]) (rest := []) ⟨hx, hb, hml, hown, hts⟩ (kX3_hits l D G am (th) n m9 sp τ ζ h M hOK hM (k) (a) (by omega) (by omega)) (cwV 2 hts gX3_sounds_X3_hits rfl rfl rfl (by decide +kernel) ⟨Nat.le_of_ble_eq_true rfl, Nat.le_of_ble_eq_true rfl⟩) (zPreV (va_recv hK hP (ci := 3) (q0 := 0) rfl rfl) hK hN (hP)) rfl rfl hl.1 rfl (lv_room (Nat.le_of_ble_eq_true rfl)) dX3_sounds_21 ⟨Nat.le_of_ble_eq_true rfl, Nat.le_of_ble_eq_true rfl⟩) ?_
          refine lv_istore (lv' := [(4, .int (zB (xHit n m9 τ ζ ((k)) ((a))))), (0, .ref am), (1, .int (zI (k))), (2, .int (zI (t9))), (3, .int (zI (a)))]) hx hb dX3_sounds_24 hl (by decide) rfl (fun ls hl => ?_)
          refine lv_iconst (v := zI (0)) hx hb dX3_sounds_26 rfl ?_
          refine lv_istore (lv' := [(5, .int (zI (0))), (4, .int (zB (xHit n m9 τ ζ ((k)) ((a))))), (0, .ref am), (1, .int (zI (k))), (2, .int (zI (t9))), (3, .int (zI (a)))]) hx hb dX3_sounds_27 hl (by decide) rfl (fun ls hl => ?_)
          have loop_29 : ∀ (fu : Nat) (j : Int), (0 ≤ j ∧ j ≤ n) → (∀ i : Int, 0 ≤ i → i < j → yG (mQ τ) k i → xHit n m9 τ ζ i a → xHit n m9 τ ζ k a ∧ i < k) → n - j < (fu : Int) → ∀ (ls : Array Slot), lv_has ls 7 [(0, .ref am), (1, .int (zI (k))), (2, .int (zI (t9))), (3, .int (zI (a))), (4, .int (zB (xHit n m9 τ ζ (k) (a)))), (5, .int (zI (j)))] → W p l e (headSpec wsX3_sounds ({ frames := 3, cells := 0, slots := 0, locals := 76 })).room s m args below meth c s.heap [] 0 0 (MQ below (zQ (some (.int (zB (xSnd n m9 τ ζ t9 k))))) args s 0 0 (fun _ => False)) (F0 m 29 ls []) := by
            intro fu
            induction fu with
            | zero =>
              intro j hj0 hin hm
              exfalso; omega
            | succ fu ih =>
              intro j hj0 hin hm ls hl
              have ih_29 := ih
              refine lv_iload hx hb dX3_sounds_29 (lv_at hl 5 rfl) ?_
              refine lv_aload_n hx hb dX3_sounds_31 rfl (lv_at hl 0 rfl) ?_
              refine va_get (D := D) (ci := 3) (v := .int (zI (n))) (C := RX3) (T := TX3) (N := 14) hx hb hts hin3 hown hK hP 0 rfl rfl 1 (by decide) (hts (.fieldLink RX3 48 "PolyDrumsModel" "tracks" "I") (by decide +kernel)) (fun _ h9 => h9) rfl dX3_sounds_32 ?_
              refine z_icmp_ge (tgt := 110) hx hb (by omega) dX3_sounds_35 (by decide) (fun c_3 => ?_) (fun c_3 => ?_)
              · have hall : ∀ i : Int, 0 ≤ i → i < n → yG (mQ τ) k i → xHit n m9 τ ζ i a → xHit n m9 τ ζ k a ∧ i < k := fun i h1 h2 => hin i h1 (by omega)
                refine lv_iload hx hb dX3_sounds_110 (lv_at hl 4 rfl) ?_
                refine z_eqB (tgt := 117) hx hb dX3_sounds_112 (by decide) (fun c_4 => ?_) (fun c_4 => ?_)
                · refine lv_iinc (v := zI (a - 1)) (lv' := [(3, .int (zI (a - 1))), (0, .ref am), (1, .int (zI (k))), (2, .int (zI (t9))), (4, .int (zB (xHit n m9 τ ζ (k) (a)))), (5, .int (zI (j)))]) hx hb dX3_sounds_117 hl (k := 3) rfl (zI_add (a) (-1)) (by decide) rfl (fun ls hl => ?_)
                  refine lv_goto (tgt := 2) hx hb dX3_sounds_120 (by decide) ?_
                  exact ih_2 (a - 1) (by omega) (mC_s hC (by assumption) hall) (by omega) _ (lv_sub hl [1, 2, 3, 0] rfl)
                · refine lv_iconst (v := zI (1)) hx hb dX3_sounds_115 rfl ?_
                  exact z_zretT hx hb hr hlocks (mS_t hC (by omega) (by omega) (by assumption) hall) dX3_sounds_116
              · have htj := hOK.tb (k := j) (by omega)
                refine lv_aload_n hx hb dX3_sounds_38 rfl (lv_at hl 0 rfl) ?_
                refine va_get (D := D) (ci := 3) (v := .ref (h 4)) (C := RX3) (T := TX3) (N := 14) hx hb hts hin3 hown hK hP 0 rfl rfl 6 (by decide) (hts (.fieldLink RX3 22 "PolyDrumsModel" "groups" "[I") (by decide +kernel)) (fun _ h9 => h9) rfl dX3_sounds_39 ?_
                refine lv_iload_n hx hb dX3_sounds_42 rfl (lv_at hl 1 rfl) ?_
                refine z_iald (x := zI (τ (k).toNat 4)) (D := D) hx hb hK hP 5 0 rfl rfl (by omega) (by omega) (hM.a (k := k) (by omega) 4 (by omega)) dX3_sounds_43 ?_
                refine z_if_le (tgt := 110) hx hb (by omega) dX3_sounds_44 (by decide) (fun c_5 => ?_) (fun c_5 => ?_)
                · have hall : ∀ i : Int, 0 ≤ i → i < n → yG (mQ τ) k i → xHit n m9 τ ζ i a → xHit n m9 τ ζ k a ∧ i < k := fun i h1 h2 h3 => absurd h3.2.1 (by show ¬ (τ k.toNat 4 ≠ 0); omega)
                  refine lv_iload hx hb dX3_sounds_110 (lv_at hl 4 rfl) ?_
                  refine z_eqB (tgt := 117) hx hb dX3_sounds_112 (by decide) (fun c_6 => ?_) (fun c_6 => ?_)
                  · refine lv_iinc (v := zI (a - 1)) (lv' := [(3, .int (zI (a - 1))), (0, .ref am), (1, .int (zI (k))), (2, .int (zI (t9))), (4, .int (zB (xHit n m9 τ ζ (k) (a)))), (5, .int (zI (j)))]) hx hb dX3_sounds_117 hl (k := 3) rfl (zI_add (a) (-1)) (by decide) rfl (fun ls hl => ?_)
                    refine lv_goto (tgt := 2) hx hb dX3_sounds_120 (by decide) ?_
                    exact ih_2 (a - 1) (by omega) (mC_s hC (by assumption) hall) (by omega) _ (lv_sub hl [1, 2, 3, 0] rfl)
                  · refine lv_iconst (v := zI (1)) hx hb dX3_sounds_115 rfl ?_
                    exact z_zretT hx hb hr hlocks (mS_t hC (by omega) (by omega) (by assumption) hall) dX3_sounds_116
                · refine lv_iload hx hb dX3_sounds_47 (lv_at hl 5 rfl) ?_
                  refine lv_iload_n hx hb dX3_sounds_49 rfl (lv_at hl 1 rfl) ?_
                  refine z_icmp_eq (tgt := 84) hx hb (by omega) dX3_sounds_50 (by decide) (fun c_7 => ?_) (fun c_7 => ?_)
                  · refine lv_iconst (v := zI (0)) hx hb dX3_sounds_84 rfl ?_
                    refine lv_istore (lv' := [(6, .int (zI (0))), (0, .ref am), (1, .int (zI (k))), (2, .int (zI (t9))), (3, .int (zI (a))), (4, .int (zB (xHit n m9 τ ζ (k) (a)))), (5, .int (zI (j)))]) hx hb dX3_sounds_85 hl (by decide) rfl (fun ls hl => ?_)
                    refine lv_iload hx hb dX3_sounds_87 (lv_at hl 0 rfl) ?_
                    refine z_if_eq (tgt := 104) hx hb (by omega) dX3_sounds_89 (by decide) (fun c_8 => ?_) (fun c_8 => ?_)
                    · refine lv_iinc (v := zI (j + 1)) (lv' := [(5, .int (zI (j + 1))), (6, .int (zI (0))), (0, .ref am), (1, .int (zI (k))), (2, .int (zI (t9))), (3, .int (zI (a))), (4, .int (zB (xHit n m9 τ ζ (k) (a))))]) hx hb dX3_sounds_104 hl (k := 6) rfl (zI_add (j) (1)) (by decide) rfl (fun ls hl => ?_)
                      refine lv_goto (tgt := 29) hx hb dX3_sounds_107 (by decide) ?_
                      exact ih_29 (j + 1) (by omega) (m_in hin (fun q1 q2 => by first | exact absurd q2 (by assumption) | exact absurd q1 (fun q => absurd q.1 (by omega)) | exact absurd q1 (fun q => absurd q.2.2 (by show ¬ (τ j.toNat 4 = τ k.toNat 4); omega)) | exact ⟨by assumption, by have := q1.1; omega⟩)) (by omega) _ (lv_sub hl [2, 3, 4, 5, 6, 0] rfl)
                    · exfalso; omega
                  · refine lv_aload_n hx hb dX3_sounds_53 rfl (lv_at hl 0 rfl) ?_
                    refine va_get (D := D) (ci := 3) (v := .ref (h 4)) (C := RX3) (T := TX3) (N := 14) hx hb hts hin3 hown hK hP 0 rfl rfl 6 (by decide) (hts (.fieldLink RX3 22 "PolyDrumsModel" "groups" "[I") (by decide +kernel)) (fun _ h9 => h9) rfl dX3_sounds_54 ?_
                    refine lv_iload hx hb dX3_sounds_57 (lv_at hl 5 rfl) ?_
                    refine z_iald (x := zI (τ (j).toNat 4)) (D := D) hx hb hK hP 5 0 rfl rfl (by omega) (by omega) (hM.a (k := j) (by omega) 4 (by omega)) dX3_sounds_59 ?_
                    refine lv_aload_n hx hb dX3_sounds_60 rfl (lv_at hl 0 rfl) ?_
                    refine va_get (D := D) (ci := 3) (v := .ref (h 4)) (C := RX3) (T := TX3) (N := 14) hx hb hts hin3 hown hK hP 0 rfl rfl 6 (by decide) (hts (.fieldLink RX3 22 "PolyDrumsModel" "groups" "[I") (by decide +kernel)) (fun _ h9 => h9) rfl dX3_sounds_61 ?_
                    refine lv_iload_n hx hb dX3_sounds_64 rfl (lv_at hl 1 rfl) ?_
                    refine z_iald (x := zI (τ (k).toNat 4)) (D := D) hx hb hK hP 5 0 rfl rfl (by omega) (by omega) (hM.a (k := k) (by omega) 4 (by omega)) dX3_sounds_65 ?_
                    refine z_icmp_ne (tgt := 84) hx hb (by omega) dX3_sounds_66 (by decide) (fun c_9 => ?_) (fun c_9 => ?_)
                    · refine lv_iconst (v := zI (0)) hx hb dX3_sounds_84 rfl ?_
                      refine lv_istore (lv' := [(6, .int (zI (0))), (0, .ref am), (1, .int (zI (k))), (2, .int (zI (t9))), (3, .int (zI (a))), (4, .int (zB (xHit n m9 τ ζ (k) (a)))), (5, .int (zI (j)))]) hx hb dX3_sounds_85 hl (by decide) rfl (fun ls hl => ?_)
                      refine lv_iload hx hb dX3_sounds_87 (lv_at hl 0 rfl) ?_
                      refine z_if_eq (tgt := 104) hx hb (by omega) dX3_sounds_89 (by decide) (fun c_10 => ?_) (fun c_10 => ?_)
                      · refine lv_iinc (v := zI (j + 1)) (lv' := [(5, .int (zI (j + 1))), (6, .int (zI (0))), (0, .ref am), (1, .int (zI (k))), (2, .int (zI (t9))), (3, .int (zI (a))), (4, .int (zB (xHit n m9 τ ζ (k) (a))))]) hx hb dX3_sounds_104 hl (k := 6) rfl (zI_add (j) (1)) (by decide) rfl (fun ls hl => ?_)
                        refine lv_goto (tgt := 29) hx hb dX3_sounds_107 (by decide) ?_
                        exact ih_29 (j + 1) (by omega) (m_in hin (fun q1 q2 => by first | exact absurd q2 (by assumption) | exact absurd q1 (fun q => absurd q.1 (by omega)) | exact absurd q1 (fun q => absurd q.2.2 (by show ¬ (τ j.toNat 4 = τ k.toNat 4); omega)) | exact ⟨by assumption, by have := q1.1; omega⟩)) (by omega) _ (lv_sub hl [2, 3, 4, 5, 6, 0] rfl)
                      · exfalso; omega
                    · refine lv_iload hx hb dX3_sounds_69 (lv_at hl 4 rfl) ?_
                      refine z_eqB (tgt := 80) hx hb dX3_sounds_71 (by decide) (fun c_11 => ?_) (fun c_11 => ?_)
                      · refine lv_iconst (v := zI (1)) hx hb dX3_sounds_80 rfl ?_
                        refine lv_goto (tgt := 85) hx hb dX3_sounds_81 (by decide) ?_
                        refine lv_istore (lv' := [(6, .int (zI (1))), (0, .ref am), (1, .int (zI (k))), (2, .int (zI (t9))), (3, .int (zI (a))), (4, .int (zB (xHit n m9 τ ζ (k) (a)))), (5, .int (zI (j)))]) hx hb dX3_sounds_85 hl (by decide) rfl (fun ls hl => ?_)
                        refine lv_iload hx hb dX3_sounds_87 (lv_at hl 0 rfl) ?_
                        refine z_if_eq (tgt := 104) hx hb (by omega) dX3_sounds_89 (by decide) (fun c_12 => ?_) (fun c_12 => ?_)
                        · exfalso; omega
                        · refine lv_aload_n hx hb dX3_sounds_92 rfl (lv_at hl 1 rfl) ?_
                          refine lv_iload hx hb dX3_sounds_93 (lv_at hl 6 rfl) ?_
                          refine lv_iload_n hx hb dX3_sounds_95 rfl (lv_at hl 4 rfl) ?_
                          refine z_call (va_runV (As := [.int (zI (j)), .int (zI (a))]) (rest := []) ⟨hx, hb, hml, hown, hts⟩ (kX3_hits l D G am (th) n m9 sp τ ζ h M hOK hM (j) (a) (by omega) (by omega)) (cwV 2 hts gX3_sounds_X3_hits rfl rfl rfl (by decide +kernel) ⟨Nat.le_of_ble_eq_true rfl, Nat.le_of_ble_eq_true rfl⟩) (zPreV (va_recv hK hP (ci := 3) (q0 := 0) rfl rfl) hK hN (hP)) rfl rfl hl.1 rfl (lv_room (Nat.le_of_ble_eq_true rfl)) dX3_sounds_96 ⟨Nat.le_of_ble_eq_true rfl, Nat.le_of_ble_eq_true rfl⟩) ?_
                          refine z_eqB (tgt := 104) hx hb dX3_sounds_99 (by decide) (fun c_13 => ?_) (fun c_13 => ?_)
                          · refine lv_iinc (v := zI (j + 1)) (lv' := [(5, .int (zI (j + 1))), (6, .int (zI (1))), (0, .ref am), (1, .int (zI (k))), (2, .int (zI (t9))), (3, .int (zI (a))), (4, .int (zB (xHit n m9 τ ζ (k) (a))))]) hx hb dX3_sounds_104 hl (k := 6) rfl (zI_add (j) (1)) (by decide) rfl (fun ls hl => ?_)
                            refine lv_goto (tgt := 29) hx hb dX3_sounds_107 (by decide) ?_
                            exact ih_29 (j + 1) (by omega) (m_in hin (fun q1 q2 => by first | exact absurd q2 (by assumption) | exact absurd q1 (fun q => absurd q.1 (by omega)) | exact absurd q1 (fun q => absurd q.2.2 (by show ¬ (τ j.toNat 4 = τ k.toNat 4); omega)) | exact ⟨by assumption, by have := q1.1; omega⟩)) (by omega) _ (lv_sub hl [2, 3, 4, 5, 6, 0] rfl)
                          · refine lv_iconst (v := zI (0)) hx hb dX3_sounds_102 rfl ?_
                            exact z_zretF hx hb hr hlocks (mS_c hC (by omega) (j := j) (by omega) ⟨by omega, by show τ k.toNat 4 ≠ 0; omega, by show τ j.toNat 4 = τ k.toNat 4; omega⟩ (by assumption) (by first | exact Or.inl (by assumption) | exact Or.inr (by omega))) dX3_sounds_103
                      · refine lv_iload hx hb dX3_sounds_74 (lv_at hl 5 rfl) ?_
                        refine lv_iload_n hx hb dX3_sounds_76 rfl (lv_at hl 1 rfl) ?_
                        refine z_icmp_le (tgt := 84) hx hb (by omega) dX3_sounds_77 (by decide) (fun c_14 => ?_) (fun c_14 => ?_)
                        · refine lv_iconst (v := zI (0)) hx hb dX3_sounds_84 rfl ?_
                          refine lv_istore (lv' := [(6, .int (zI (0))), (0, .ref am), (1, .int (zI (k))), (2, .int (zI (t9))), (3, .int (zI (a))), (4, .int (zB (xHit n m9 τ ζ (k) (a)))), (5, .int (zI (j)))]) hx hb dX3_sounds_85 hl (by decide) rfl (fun ls hl => ?_)
                          refine lv_iload hx hb dX3_sounds_87 (lv_at hl 0 rfl) ?_
                          refine z_if_eq (tgt := 104) hx hb (by omega) dX3_sounds_89 (by decide) (fun c_15 => ?_) (fun c_15 => ?_)
                          · refine lv_iinc (v := zI (j + 1)) (lv' := [(5, .int (zI (j + 1))), (6, .int (zI (0))), (0, .ref am), (1, .int (zI (k))), (2, .int (zI (t9))), (3, .int (zI (a))), (4, .int (zB (xHit n m9 τ ζ (k) (a))))]) hx hb dX3_sounds_104 hl (k := 6) rfl (zI_add (j) (1)) (by decide) rfl (fun ls hl => ?_)
                            refine lv_goto (tgt := 29) hx hb dX3_sounds_107 (by decide) ?_
                            exact ih_29 (j + 1) (by omega) (m_in hin (fun q1 q2 => by first | exact absurd q2 (by assumption) | exact absurd q1 (fun q => absurd q.1 (by omega)) | exact absurd q1 (fun q => absurd q.2.2 (by show ¬ (τ j.toNat 4 = τ k.toNat 4); omega)) | exact ⟨by assumption, by have := q1.1; omega⟩)) (by omega) _ (lv_sub hl [2, 3, 4, 5, 6, 0] rfl)
                          · exfalso; omega
                        · refine lv_iconst (v := zI (1)) hx hb dX3_sounds_80 rfl ?_
                          refine lv_goto (tgt := 85) hx hb dX3_sounds_81 (by decide) ?_
                          refine lv_istore (lv' := [(6, .int (zI (1))), (0, .ref am), (1, .int (zI (k))), (2, .int (zI (t9))), (3, .int (zI (a))), (4, .int (zB (xHit n m9 τ ζ (k) (a)))), (5, .int (zI (j)))]) hx hb dX3_sounds_85 hl (by decide) rfl (fun ls hl => ?_)
                          refine lv_iload hx hb dX3_sounds_87 (lv_at hl 0 rfl) ?_
                          refine z_if_eq (tgt := 104) hx hb (by omega) dX3_sounds_89 (by decide) (fun c_16 => ?_) (fun c_16 => ?_)
                          · exfalso; omega
                          · refine lv_aload_n hx hb dX3_sounds_92 rfl (lv_at hl 1 rfl) ?_
                            refine lv_iload hx hb dX3_sounds_93 (lv_at hl 6 rfl) ?_
                            refine lv_iload_n hx hb dX3_sounds_95 rfl (lv_at hl 4 rfl) ?_
                            refine z_call (va_runV (As := [.int (zI (j)), .int (zI (a))]) (rest := []) ⟨hx, hb, hml, hown, hts⟩ (kX3_hits l D G am (th) n m9 sp τ ζ h M hOK hM (j) (a) (by omega) (by omega)) (cwV 2 hts gX3_sounds_X3_hits rfl rfl rfl (by decide +kernel) ⟨Nat.le_of_ble_eq_true rfl, Nat.le_of_ble_eq_true rfl⟩) (zPreV (va_recv hK hP (ci := 3) (q0 := 0) rfl rfl) hK hN (hP)) rfl rfl hl.1 rfl (lv_room (Nat.le_of_ble_eq_true rfl)) dX3_sounds_96 ⟨Nat.le_of_ble_eq_true rfl, Nat.le_of_ble_eq_true rfl⟩) ?_
                            refine z_eqB (tgt := 104) hx hb dX3_sounds_99 (by decide) (fun c_17 => ?_) (fun c_17 => ?_)
                            · refine lv_iinc (v := zI (j + 1)) (lv' := [(5, .int (zI (j + 1))), (6, .int (zI (1))), (0, .ref am), (1, .int (zI (k))), (2, .int (zI (t9))), (3, .int (zI (a))), (4, .int (zB (xHit n m9 τ ζ (k) (a))))]) hx hb dX3_sounds_104 hl (k := 6) rfl (zI_add (j) (1)) (by decide) rfl (fun ls hl => ?_)
                              refine lv_goto (tgt := 29) hx hb dX3_sounds_107 (by decide) ?_
                              exact ih_29 (j + 1) (by omega) (m_in hin (fun q1 q2 => by first | exact absurd q2 (by assumption) | exact absurd q1 (fun q => absurd q.1 (by omega)) | exact absurd q1 (fun q => absurd q.2.2 (by show ¬ (τ j.toNat 4 = τ k.toNat 4); omega)) | exact ⟨by assumption, by have := q1.1; omega⟩)) (by omega) _ (lv_sub hl [2, 3, 4, 5, 6, 0] rfl)
                            · refine lv_iconst (v := zI (0)) hx hb dX3_sounds_102 rfl ?_
                              exact z_zretF hx hb hr hlocks (mS_c hC (by omega) (j := j) (by omega) ⟨by omega, by show τ k.toNat 4 ≠ 0; omega, by show τ j.toNat 4 = τ k.toNat 4; omega⟩ (by assumption) (by first | exact Or.inl (by assumption) | exact Or.inr (by omega))) dX3_sounds_103
          exact loop_29 (9) (0) (by omega) (fun i h1 h2 => by omega) (by omega) ls (lv_sub hl [2, 3, 4, 5, 1, 0] rfl)
  exact loop_2 (t9.toNat + 2) (t9) (by omega) (mC_0) (by omega) ls (lv_sub hl [1, 2, 3, 0] rfl)
