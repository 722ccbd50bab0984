set_option maxHeartbeats 4000000 in
set_option maxRecDepth 100000 in
theorem kX3_strike (l : Launch) (D : va_G) (G : Nat → ClassId) (am : Nat) (th n m9 sp : Int) (τ ζ : Nat → Nat → Int) (h : Nat → Nat) (M : Nat → Nat → Int32) (hOK : XOK n m9 sp τ ζ) (hM : MR n m9 τ ζ M) (k t9 : Int) (hk : 0 ≤ k ∧ k < n) (ht : 0 ≤ t9 ∧ t9 ≤ 99999) : Met l yX3_strike wsX3_strike ({ frames := 1, cells := 0, slots := 0, locals := 23 }) (zP [.ref am, .int (zI (k)), .int (zI (t9))] D G (fun H => va_P D vwCl [(am, .inr (3, [.int (zI (th)), .int (zI (n)), .ref (h 0), .ref (h 1), .ref (h 2), .ref (h 3), .ref (h 4), .ref (h 5), .ref (h 6), .int (zI (m9)), .ref (h 7), .ref (h 8), .ref (h 9), .int (zI (sp))])), ((h 0), .inl (G 0, 8, .inl (M 0))), ((h 1), .inl (G 0, 8, .inl (M 1))), ((h 2), .inl (G 0, 8, .inl (M 2))), ((h 3), .inl (G 0, 8, .inl (M 3))), ((h 4), .inl (G 0, 8, .inl (M 4))), ((h 5), .inl (G 1, 24, .inl (M 5))), ((h 6), .inl (G 0, 1024, .inl (M 6))), ((h 7), .inl (G 0, 13, .inl (M 7))), ((h 8), .inl (G 0, 12, .inl (M 8))), ((h 9), .inl (G 1, 12, .inl (M 9)))] H)) (zQ (some (.int (zI (xStr n m9 τ ζ k t9))))) 0 0 (fun _ => False) := by
  refine Met.ofW (cc := cX3_strike) (maxL := 12) (ret := (some .int)) (by decide) rfl ?_
  intro p e s m args below meth c s₁ B hml hv
  obtain ⟨hav, hP, hK, hN⟩ := hv
  have hx := B.exec
  have hb := B.bytes
  have hr := B.returns
  have hts := atoms_spec (ws := wsX3_strike) B.pre
  have hown : s.vm.findClass RX3 = some m.cls := findClass_of_methodNamed B.named
  have hlocks : meth.locks = false := B.notSynchronized
  have hin3 : ∀ w ∈ u_ws RX3 TX3 14, w ∈ wsX3_strike := by decide +kernel
  have hB := id hOK
  obtain ⟨hn0, hn8, hm0, hm12, hsp0, hsp1, -⟩ := hB
  have htb := hOK.tb hk
  have hft := hOK.t hk
  have hr1 := x_round hft
  have hsb := xSec_b ζ t9 m9.toNat
  have hlb := xLoc_b hOK (k := k) ht
  refine z_entry hav (Nat.le_of_ble_eq_true rfl) rfl (fun ls hl => ?_)
  have hl : lv_has ls 12 [(0, .ref am), (1, .int (zI (k))), (2, .int (zI (t9)))] := hl
  refine lv_aload_n hx hb dX3_strike_0 rfl (lv_at hl 0 rfl) ?_
  refine lv_iload_n hx hb dX3_strike_1 rfl (lv_at hl 1 rfl) ?_
  refine z_call (va_runV (As := [.int (zI (k))]) (rest := []) ⟨hx, hb, hml, hown, hts⟩ (kX3_isSilent l D G am (th) n m9 sp τ ζ h M hOK hM (k) (by omega)) (cwV 1 hts gX3_strike_X3_isSilent rfl rfl rfl (by decide +kernel) ⟨Nat.le_of_ble_eq_true rfl, Nat.le_of_ble_eq_true rfl⟩) (zPreV (va_recv hK hP (ci := 3) (q0 := 0) rfl rfl) hK hN (hP)) rfl rfl hl.1 rfl (lv_room (Nat.le_of_ble_eq_true rfl)) dX3_strike_2 ⟨Nat.le_of_ble_eq_true rfl, Nat.le_of_ble_eq_true rfl⟩) ?_
  refine z_eqB (tgt := 10) hx hb dX3_strike_5 (by decide) (fun c_1 => ?_) (fun c_1 => ?_)
  · have hsil := c_1
    have join_72 : ∀ (u : Int), (0 ≤ u ∧ u ≤ 99999) → (xLoc m9 ζ k t9 = u) → ∀ (ls : Array Slot), lv_has ls 12 [(0, .ref am), (1, .int (zI (k))), (2, .int (zI (t9))), (3, .int (zI (u)))] → W p l e (headSpec wsX3_strike ({ frames := 1, cells := 0, slots := 0, locals := 23 })).room s m args below meth c s.heap [] 0 0 (MQ below (zQ (some (.int (zI (xStr n m9 τ ζ k t9))))) args s 0 0 (fun _ => False)) (F0 m 72 ls []) := by
      intro u hu hloc ls hl
      have hp1 := x_place hft u
      have hd1 := xDelay_b hft (xS (τ k.toNat) u)
      have hc1 := hft.2.2.2.2.2.2.2.2.2.2.2.2.2 (xS (τ k.toNat) u) hp1.2.2.1 hp1.2.2.2.1
      have hq1 := x_divb (a := u) (r := τ k.toNat 0 * τ k.toNat 1) hu.1 (by omega)
      have hm1 := x_modb (a := u / (τ k.toNat 0 * τ k.toNat 1)) (r := xC (τ k.toNat) (xS (τ k.toNat) u) 3) (by omega)
      refine lv_aload_n hx hb dX3_strike_72 rfl (lv_at hl 0 rfl) ?_
      refine va_get (D := D) (ci := 3) (v := .ref (h 1)) (C := RX3) (T := TX3) (N := 14) hx hb hts hin3 hown hK hP 0 rfl rfl 3 (by decide) (hts (.fieldLink RX3 13 "PolyDrumsModel" "ticks" "[I") (by decide +kernel)) (fun _ h9 => h9) rfl dX3_strike_73 ?_
      refine lv_iload_n hx hb dX3_strike_76 rfl (lv_at hl 1 rfl) ?_
      refine z_iald (x := zI (τ (k).toNat 1)) (D := D) hx hb hK hP 2 0 rfl rfl (by omega) (by omega) (hM.a (k := k) (by omega) 1 (by omega)) dX3_strike_77 ?_
      refine lv_istore (lv' := [(4, .int (zI (τ (k).toNat 1))), (0, .ref am), (1, .int (zI (k))), (2, .int (zI (t9))), (3, .int (zI (u)))]) hx hb dX3_strike_78 hl (by decide) rfl (fun ls hl => ?_)
      refine lv_aload_n hx hb dX3_strike_80 rfl (lv_at hl 1 rfl) ?_
      refine va_get (D := D) (ci := 3) (v := .ref (h 0)) (C := RX3) (T := TX3) (N := 14) hx hb hts hin3 hown hK hP 0 rfl rfl 2 (by decide) (hts (.fieldLink RX3 9 "PolyDrumsModel" "counts" "[I") (by decide +kernel)) (fun _ h9 => h9) rfl dX3_strike_81 ?_
      refine lv_iload_n hx hb dX3_strike_84 rfl (lv_at hl 2 rfl) ?_
      refine z_iald (x := zI (τ (k).toNat 0)) (D := D) hx hb hK hP 1 0 rfl rfl (by omega) (by omega) (hM.a (k := k) (by omega) 0 (by omega)) dX3_strike_85 ?_
      refine lv_iload hx hb dX3_strike_86 (lv_at hl 0 rfl) ?_
      refine z_imul hx hb dX3_strike_88 ?_
      refine lv_istore (lv' := [(5, .int (zI ((τ (k).toNat 0) * (τ (k).toNat 1)))), (4, .int (zI (τ (k).toNat 1))), (0, .ref am), (1, .int (zI (k))), (2, .int (zI (t9))), (3, .int (zI (u)))]) hx hb dX3_strike_89 hl (by decide) rfl (fun ls hl => ?_)
      refine lv_iload_n hx hb dX3_strike_91 rfl (lv_at hl 5 rfl) ?_
      refine lv_iload hx hb dX3_strike_92 (lv_at hl 0 rfl) ?_
      refine z_irem hx hb (by omega) dX3_strike_94 ?_
      refine z_val (y := xP (τ k.toNat) u) (rfl) ?_
      refine lv_iload hx hb dX3_strike_95 (lv_at hl 1 rfl) ?_
      refine z_idiv hx hb (by omega) dX3_strike_97 ?_
      refine z_val (y := xS (τ k.toNat) u) (rfl) ?_
      refine lv_istore (lv' := [(6, .int (zI (xS (τ k.toNat) u))), (5, .int (zI ((τ (k).toNat 0) * (τ (k).toNat 1)))), (4, .int (zI (τ (k).toNat 1))), (0, .ref am), (1, .int (zI (k))), (2, .int (zI (t9))), (3, .int (zI (u)))]) hx hb dX3_strike_98 hl (by decide) rfl (fun ls hl => ?_)
      refine lv_iload_n hx hb dX3_strike_100 rfl (lv_at hl 4 rfl) ?_
      refine lv_iload hx hb dX3_strike_101 (lv_at hl 0 rfl) ?_
      refine z_call (va_runS (As := [.int (zI (k)), .int (zI (xS (τ k.toNat) u))]) (rest := []) ⟨hx, hb, hml, hown, hts⟩ (kX3_at l D G (k) (xS (τ k.toNat) u)) (va_cwS 2 hts gX3_strike_X3_at rfl rfl rfl (by decide +kernel) ⟨Nat.le_of_ble_eq_true rfl, Nat.le_of_ble_eq_true rfl⟩) (zPreS hK hN (trivial)) rfl rfl hl.1 rfl (lv_room (Nat.le_of_ble_eq_true rfl)) dX3_strike_103 ⟨Nat.le_of_ble_eq_true rfl, Nat.le_of_ble_eq_true rfl⟩) ?_
      refine lv_istore (lv' := [(7, .int (zI (4 * (32 * (k) + (xS (τ k.toNat) u))))), (6, .int (zI (xS (τ k.toNat) u))), (5, .int (zI ((τ (k).toNat 0) * (τ (k).toNat 1)))), (4, .int (zI (τ (k).toNat 1))), (0, .ref am), (1, .int (zI (k))), (2, .int (zI (t9))), (3, .int (zI (u)))]) hx hb dX3_strike_106 hl (by decide) rfl (fun ls hl => ?_)
      refine lv_aload_n hx hb dX3_strike_108 rfl (lv_at hl 4 rfl) ?_
      refine lv_iload_n hx hb dX3_strike_109 rfl (lv_at hl 5 rfl) ?_
      refine lv_iload hx hb dX3_strike_110 (lv_at hl 1 rfl) ?_
      refine z_call (va_runV (As := [.int (zI (k)), .int (zI (xS (τ k.toNat) u))]) (rest := []) ⟨hx, hb, hml, hown, hts⟩ (kX3_delay l D G am (th) n m9 sp τ ζ h M hOK hM (k) (xS (τ k.toNat) u) (by omega) (by omega)) (cwV 2 hts gX3_strike_X3_delay rfl rfl rfl (by decide +kernel) ⟨Nat.le_of_ble_eq_true rfl, Nat.le_of_ble_eq_true rfl⟩) (zPreV (va_recv hK hP (ci := 3) (q0 := 0) rfl rfl) hK hN (hP)) rfl rfl hl.1 rfl (lv_room (Nat.le_of_ble_eq_true rfl)) dX3_strike_112 ⟨Nat.le_of_ble_eq_true rfl, Nat.le_of_ble_eq_true rfl⟩) ?_
      refine lv_istore (lv' := [(8, .int (zI (xDelay (τ ((k)).toNat) (xS (τ k.toNat) u)))), (7, .int (zI (4 * (32 * (k) + (xS (τ k.toNat) u))))), (6, .int (zI (xS (τ k.toNat) u))), (5, .int (zI ((τ (k).toNat 0) * (τ (k).toNat 1)))), (4, .int (zI (τ (k).toNat 1))), (0, .ref am), (1, .int (zI (k))), (2, .int (zI (t9))), (3, .int (zI (u)))]) hx hb dX3_strike_115 hl (by decide) rfl (fun ls hl => ?_)
      refine lv_iload_n hx hb dX3_strike_117 rfl (lv_at hl 8 rfl) ?_
      refine lv_iload hx hb dX3_strike_118 (lv_at hl 3 rfl) ?_
      refine z_irem hx hb (by omega) dX3_strike_120 ?_
      refine z_val (y := xP (τ k.toNat) u) (rfl) ?_
      refine lv_iload hx hb dX3_strike_121 (lv_at hl 2 rfl) ?_
      refine lv_iload hx hb dX3_strike_123 (lv_at hl 4 rfl) ?_
      refine z_imul hx hb dX3_strike_125 ?_
      refine z_isub hx hb dX3_strike_126 ?_
      refine lv_istore (lv' := [(9, .int (zI ((xP (τ k.toNat) u) - ((xS (τ k.toNat) u) * (τ (k).toNat 1))))), (8, .int (zI (xDelay (τ ((k)).toNat) (xS (τ k.toNat) u)))), (7, .int (zI (4 * (32 * (k) + (xS (τ k.toNat) u))))), (6, .int (zI (xS (τ k.toNat) u))), (5, .int (zI ((τ (k).toNat 0) * (τ (k).toNat 1)))), (4, .int (zI (τ (k).toNat 1))), (0, .ref am), (1, .int (zI (k))), (2, .int (zI (t9))), (3, .int (zI (u)))]) hx hb dX3_strike_127 hl (by decide) rfl (fun ls hl => ?_)
      refine lv_iload_n hx hb dX3_strike_129 rfl (lv_at hl 9 rfl) ?_
      refine lv_iload hx hb dX3_strike_130 (lv_at hl 4 rfl) ?_
      refine z_idiv hx hb (by omega) dX3_strike_132 ?_
      refine lv_aload_n hx hb dX3_strike_133 rfl (lv_at hl 6 rfl) ?_
      refine va_get (D := D) (ci := 3) (v := .ref (h 6)) (C := RX3) (T := TX3) (N := 14) hx hb hts hin3 hown hK hP 0 rfl rfl 8 (by decide) (hts (.fieldLink RX3 29 "PolyDrumsModel" "steps" "[I") (by decide +kernel)) (fun _ h9 => h9) rfl dX3_strike_134 ?_
      refine lv_iload hx hb dX3_strike_137 (lv_at hl 2 rfl) ?_
      refine lv_iconst (v := zI (3)) hx hb dX3_strike_139 rfl ?_
      refine z_iadd hx hb dX3_strike_140 ?_
      refine z_iald (x := zI (xC (τ (k).toNat) (xS (τ k.toNat) u) 3)) (D := D) hx hb hK hP 7 0 rfl rfl (by have h32 := (hOK.tb (k := k) (by omega)).2.1; omega) (by omega) (hM.st (k := k) (s := xS (τ k.toNat) u) (w := 3) (by omega) (by omega) (by omega) (by omega)) dX3_strike_141 ?_
      refine z_irem hx hb (by omega) dX3_strike_142 ?_
      refine lv_aload_n hx hb dX3_strike_143 rfl (lv_at hl 6 rfl) ?_
      refine va_get (D := D) (ci := 3) (v := .ref (h 6)) (C := RX3) (T := TX3) (N := 14) hx hb hts hin3 hown hK hP 0 rfl rfl 8 (by decide) (hts (.fieldLink RX3 29 "PolyDrumsModel" "steps" "[I") (by decide +kernel)) (fun _ h9 => h9) rfl dX3_strike_144 ?_
      refine lv_iload hx hb dX3_strike_147 (lv_at hl 2 rfl) ?_
      refine lv_iconst (v := zI (2)) hx hb dX3_strike_149 rfl ?_
      refine z_iadd hx hb dX3_strike_150 ?_
      refine z_iald (x := zI (xC (τ (k).toNat) (xS (τ k.toNat) u) 2)) (D := D) hx hb hK hP 7 0 rfl rfl (by have h32 := (hOK.tb (k := k) (by omega)).2.1; omega) (by omega) (hM.st (k := k) (s := xS (τ k.toNat) u) (w := 2) (by omega) (by omega) (by omega) (by omega)) dX3_strike_151 ?_
      refine z_icmp_eq (tgt := 157) hx hb (by omega) dX3_strike_152 (by decide) (fun c_2 => ?_) (fun c_2 => ?_)
      · have hturn := c_2
        refine lv_iconst (v := zI (0)) hx hb dX3_strike_157 rfl ?_
        refine lv_istore (lv' := [(10, .int (zI (0))), (9, .int (zI ((xP (τ k.toNat) u) - ((xS (τ k.toNat) u) * (τ (k).toNat 1))))), (8, .int (zI (xDelay (τ ((k)).toNat) (xS (τ k.toNat) u)))), (7, .int (zI (4 * (32 * (k) + (xS (τ k.toNat) u))))), (6, .int (zI (xS (τ k.toNat) u))), (5, .int (zI ((τ (k).toNat 0) * (τ (k).toNat 1)))), (4, .int (zI (τ (k).toNat 1))), (0, .ref am), (1, .int (zI (k))), (2, .int (zI (t9))), (3, .int (zI (u)))]) hx hb dX3_strike_158 hl (by decide) rfl (fun ls hl => ?_)
        refine lv_iconst (v := zI (0)) hx hb dX3_strike_160 rfl ?_
        refine lv_istore (lv' := [(11, .int (zI (0))), (10, .int (zI (0))), (9, .int (zI ((xP (τ k.toNat) u) - ((xS (τ k.toNat) u) * (τ (k).toNat 1))))), (8, .int (zI (xDelay (τ ((k)).toNat) (xS (τ k.toNat) u)))), (7, .int (zI (4 * (32 * (k) + (xS (τ k.toNat) u))))), (6, .int (zI (xS (τ k.toNat) u))), (5, .int (zI ((τ (k).toNat 0) * (τ (k).toNat 1)))), (4, .int (zI (τ (k).toNat 1))), (0, .ref am), (1, .int (zI (k))), (2, .int (zI (t9))), (3, .int (zI (u)))]) hx hb dX3_strike_161 hl (by decide) rfl (fun ls hl => ?_)
        have loop_163 : ∀ (fu : Nat) (a : Int) (v : Int), (0 ≤ a ∧ a ≤ xC (τ (k).toNat) (xS (τ k.toNat) u) 1) → (mAny (fun j => xP (τ k.toNat) u - xS (τ k.toNat) u * τ (k).toNat 1 - xDelay (τ (k).toNat) (xS (τ k.toNat) u) = j * (τ (k).toNat 1 - xDelay (τ (k).toNat) (xS (τ k.toNat) u)) / xC (τ (k).toNat) (xS (τ k.toNat) u) 1) a v) → xC (τ (k).toNat) (xS (τ k.toNat) u) 1 - a < (fu : Int) → ∀ (ls : Array Slot), lv_has ls 12 [(0, .ref am), (1, .int (zI (k))), (2, .int (zI (t9))), (3, .int (zI (u))), (4, .int (zI (τ (k).toNat 1))), (5, .int (zI ((τ (k).toNat 0) * (τ (k).toNat 1)))), (6, .int (zI (xS (τ k.toNat) u))), (7, .int (zI (4 * (32 * (k) + (xS (τ k.toNat) u))))), (8, .int (zI (xDelay (τ (k).toNat) (xS (τ k.toNat) u)))), (9, .int (zI ((xP (τ k.toNat) u) - ((xS (τ k.toNat) u) * (τ (k).toNat 1))))), (10, .int (zI (v))), (11, .int (zI (a)))] → W p l e (headSpec wsX3_strike ({ frames := 1, cells := 0, slots := 0, locals := 23 })).room s m args below meth c s.heap [] 0 0 (MQ below (zQ (some (.int (zI (xStr n m9 τ ζ k t9))))) args s 0 0 (fun _ => False)) (F0 m 163 ls []) := by
          intro fu
          induction fu with
          | zero =>
            intro a v ha0 hv hm
            exfalso; omega
          | succ fu ih =>
            intro a v ha0 hv hm ls hl
            have hmb := x_mulb 4 48 ha0.1 (by omega) (show 0 ≤ τ (k).toNat 1 - xDelay (τ (k).toNat) (xS (τ k.toNat) u) by omega) (by omega)
            have hqb := x_divb (r := xC (τ (k).toNat) (xS (τ k.toNat) u) 1) hmb.1 (by omega)
            have hv1 : v = 0 ∨ v = 1 := by rcases hv with ⟨h1, -⟩ | ⟨h1, -⟩ <;> omega
            have ih_163 := ih
            refine lv_iload hx hb dX3_strike_163 (lv_at hl 11 rfl) ?_
            refine lv_aload_n hx hb dX3_strike_165 rfl (lv_at hl 0 rfl) ?_
            refine va_get (D := D) (ci := 3) (v := .ref (h 6)) (C := RX3) (T := TX3) (N := 14) hx hb hts hin3 hown hK hP 0 rfl rfl 8 (by decide) (hts (.fieldLink RX3 29 "PolyDrumsModel" "steps" "[I") (by decide +kernel)) (fun _ h9 => h9) rfl dX3_strike_166 ?_
            refine lv_iload hx hb dX3_strike_169 (lv_at hl 7 rfl) ?_
            refine lv_iconst (v := zI (1)) hx hb dX3_strike_171 rfl ?_
            refine z_iadd hx hb dX3_strike_172 ?_
            refine z_iald (x := zI (xC (τ (k).toNat) (xS (τ k.toNat) u) 1)) (D := D) hx hb hK hP 7 0 rfl rfl (by have h32 := (hOK.tb (k := k) (by omega)).2.1; omega) (by omega) (hM.st (k := k) (s := xS (τ k.toNat) u) (w := 1) (by omega) (by omega) (by omega) (by omega)) dX3_strike_173 ?_
            refine z_icmp_ge (tgt := 221) hx hb (by omega) dX3_strike_174 (by decide) (fun c_3 => ?_) (fun c_3 => ?_)
            · refine lv_iload hx hb dX3_strike_221 (lv_at hl 10 rfl) ?_
              refine z_if_eq (tgt := 238) hx hb (by omega) dX3_strike_223 (by decide) (fun c_4 => ?_) (fun c_4 => ?_)
              · refine lv_iconst (v := zI (0)) hx hb dX3_strike_238 rfl ?_
                exact z_iret hx hb hr hlocks (by unfold xStr; rw [if_neg hsil, hloc, if_neg (by omega)]; exact (xForce_f (fun q => q.2.elim (fun j q2 => hv.f (by omega) j q2.1 (by have := q2.2.1; omega) q2.2.2))).symm) dX3_strike_239
              · refine lv_aload_n hx hb dX3_strike_226 rfl (lv_at hl 0 rfl) ?_
                refine va_get (D := D) (ci := 3) (v := .ref (h 6)) (C := RX3) (T := TX3) (N := 14) hx hb hts hin3 hown hK hP 0 rfl rfl 8 (by decide) (hts (.fieldLink RX3 29 "PolyDrumsModel" "steps" "[I") (by decide +kernel)) (fun _ h9 => h9) rfl dX3_strike_227 ?_
                refine lv_iload hx hb dX3_strike_230 (lv_at hl 7 rfl) ?_
                refine lv_iconst (v := zI (0)) hx hb dX3_strike_232 rfl ?_
                refine z_iadd hx hb dX3_strike_233 ?_
                refine z_iald (x := zI (xC (τ (k).toNat) (xS (τ k.toNat) u) 0)) (D := D) hx hb hK hP 7 0 rfl rfl (by have h32 := (hOK.tb (k := k) (by omega)).2.1; omega) (by omega) (hM.st (k := k) (s := xS (τ k.toNat) u) (w := 0) (by omega) (by omega) (by omega) (by omega)) dX3_strike_234 ?_
                refine lv_goto (tgt := 239) hx hb dX3_strike_235 (by decide) ?_
                exact z_iret hx hb hr hlocks (by unfold xStr; rw [if_neg hsil, hloc, if_neg (by omega)]; exact (xForce_t ⟨hturn, (hv.t (by omega)).elim (fun j q2 => ⟨j, q2.1, by have := q2.2.1; omega, q2.2.2⟩)⟩).symm) dX3_strike_239
            · refine lv_iload hx hb dX3_strike_177 (lv_at hl 10 rfl) ?_
              refine z_if_ne (tgt := 208) hx hb (by omega) dX3_strike_179 (by decide) (fun c_5 => ?_) (fun c_5 => ?_)
              · refine lv_iconst (v := zI (1)) hx hb dX3_strike_208 rfl ?_
                refine lv_goto (tgt := 213) hx hb dX3_strike_209 (by decide) ?_
                refine lv_istore (lv' := [(10, .int (zI (1))), (0, .ref am), (1, .int (zI (k))), (2, .int (zI (t9))), (3, .int (zI (u))), (4, .int (zI (τ (k).toNat 1))), (5, .int (zI ((τ (k).toNat 0) * (τ (k).toNat 1)))), (6, .int (zI (xS (τ k.toNat) u))), (7, .int (zI (4 * (32 * (k) + (xS (τ k.toNat) u))))), (8, .int (zI (xDelay (τ (k).toNat) (xS (τ k.toNat) u)))), (9, .int (zI ((xP (τ k.toNat) u) - ((xS (τ k.toNat) u) * (τ (k).toNat 1))))), (11, .int (zI (a)))]) hx hb dX3_strike_213 hl (by decide) rfl (fun ls hl => ?_)
                refine lv_iinc (v := zI (a + 1)) (lv' := [(11, .int (zI (a + 1))), (10, .int (zI (1))), (0, .ref am), (1, .int (zI (k))), (2, .int (zI (t9))), (3, .int (zI (u))), (4, .int (zI (τ (k).toNat 1))), (5, .int (zI ((τ (k).toNat 0) * (τ (k).toNat 1)))), (6, .int (zI (xS (τ k.toNat) u))), (7, .int (zI (4 * (32 * (k) + (xS (τ k.toNat) u))))), (8, .int (zI (xDelay (τ (k).toNat) (xS (τ k.toNat) u)))), (9, .int (zI ((xP (τ k.toNat) u) - ((xS (τ k.toNat) u) * (τ (k).toNat 1)))))]) hx hb dX3_strike_215 hl (k := 11) rfl (zI_add (a) (1)) (by decide) rfl (fun ls hl => ?_)
                refine lv_goto (tgt := 163) hx hb dX3_strike_218 (by decide) ?_
                exact ih_163 (a + 1) (1) (by omega) (hv.s ha0.1 (by first | exact Or.inl ⟨rfl, Or.inl (by omega)⟩ | exact Or.inl ⟨rfl, Or.inr (by show _ = _; omega)⟩ | exact Or.inr ⟨rfl, by omega, by show ¬ (_ = _); omega⟩)) (by omega) _ (lv_sub hl [2, 3, 4, 5, 6, 7, 8, 9, 10, 11, 1, 0] rfl)
              · refine lv_iload hx hb dX3_strike_182 (lv_at hl 9 rfl) ?_
                refine lv_iload hx hb dX3_strike_184 (lv_at hl 8 rfl) ?_
                refine lv_iload hx hb dX3_strike_186 (lv_at hl 11 rfl) ?_
                refine lv_iload hx hb dX3_strike_188 (lv_at hl 4 rfl) ?_
                refine lv_iload hx hb dX3_strike_190 (lv_at hl 8 rfl) ?_
                refine z_isub hx hb dX3_strike_192 ?_
                refine z_imul hx hb dX3_strike_193 ?_
                refine lv_aload_n hx hb dX3_strike_194 rfl (lv_at hl 0 rfl) ?_
                refine va_get (D := D) (ci := 3) (v := .ref (h 6)) (C := RX3) (T := TX3) (N := 14) hx hb hts hin3 hown hK hP 0 rfl rfl 8 (by decide) (hts (.fieldLink RX3 29 "PolyDrumsModel" "steps" "[I") (by decide +kernel)) (fun _ h9 => h9) rfl dX3_strike_195 ?_
                refine lv_iload hx hb dX3_strike_198 (lv_at hl 7 rfl) ?_
                refine lv_iconst (v := zI (1)) hx hb dX3_strike_200 rfl ?_
                refine z_iadd hx hb dX3_strike_201 ?_
                refine z_iald (x := zI (xC (τ (k).toNat) (xS (τ k.toNat) u) 1)) (D := D) hx hb hK hP 7 0 rfl rfl (by have h32 := (hOK.tb (k := k) (by omega)).2.1; omega) (by omega) (hM.st (k := k) (s := xS (τ k.toNat) u) (w := 1) (by omega) (by omega) (by omega) (by omega)) dX3_strike_202 ?_
                refine z_idiv hx hb (by omega) dX3_strike_203 ?_
                refine z_iadd hx hb dX3_strike_204 ?_
                refine z_icmp_ne (tgt := 212) hx hb (by omega) dX3_strike_205 (by decide) (fun c_6 => ?_) (fun c_6 => ?_)
                · refine lv_iconst (v := zI (0)) hx hb dX3_strike_212 rfl ?_
                  refine lv_istore (lv' := [(10, .int (zI (0))), (0, .ref am), (1, .int (zI (k))), (2, .int (zI (t9))), (3, .int (zI (u))), (4, .int (zI (τ (k).toNat 1))), (5, .int (zI ((τ (k).toNat 0) * (τ (k).toNat 1)))), (6, .int (zI (xS (τ k.toNat) u))), (7, .int (zI (4 * (32 * (k) + (xS (τ k.toNat) u))))), (8, .int (zI (xDelay (τ (k).toNat) (xS (τ k.toNat) u)))), (9, .int (zI ((xP (τ k.toNat) u) - ((xS (τ k.toNat) u) * (τ (k).toNat 1))))), (11, .int (zI (a)))]) hx hb dX3_strike_213 hl (by decide) rfl (fun ls hl => ?_)
                  refine lv_iinc (v := zI (a + 1)) (lv' := [(11, .int (zI (a + 1))), (10, .int (zI (0))), (0, .ref am), (1, .int (zI (k))), (2, .int (zI (t9))), (3, .int (zI (u))), (4, .int (zI (τ (k).toNat 1))), (5, .int (zI ((τ (k).toNat 0) * (τ (k).toNat 1)))), (6, .int (zI (xS (τ k.toNat) u))), (7, .int (zI (4 * (32 * (k) + (xS (τ k.toNat) u))))), (8, .int (zI (xDelay (τ (k).toNat) (xS (τ k.toNat) u)))), (9, .int (zI ((xP (τ k.toNat) u) - ((xS (τ k.toNat) u) * (τ (k).toNat 1)))))]) hx hb dX3_strike_215 hl (k := 11) rfl (zI_add (a) (1)) (by decide) rfl (fun ls hl => ?_)
                  refine lv_goto (tgt := 163) hx hb dX3_strike_218 (by decide) ?_
                  exact ih_163 (a + 1) (0) (by omega) (hv.s ha0.1 (by first | exact Or.inl ⟨rfl, Or.inl (by omega)⟩ | exact Or.inl ⟨rfl, Or.inr (by show _ = _; omega)⟩ | exact Or.inr ⟨rfl, by omega, by show ¬ (_ = _); omega⟩)) (by omega) _ (lv_sub hl [2, 3, 4, 5, 6, 7, 8, 9, 10, 11, 1, 0] rfl)
                · refine lv_iconst (v := zI (1)) hx hb dX3_strike_208 rfl ?_
                  refine lv_goto (tgt := 213) hx hb dX3_strike_209 (by decide) ?_
                  refine lv_istore (lv' := [(10, .int (zI (1))), (0, .ref am), (1, .int (zI (k))), (2, .int (zI (t9))), (3, .int (zI (u))), (4, .int (zI (τ (k).toNat 1))), (5, .int (zI ((τ (k).toNat 0) * (τ (k).toNat 1)))), (6, .int (zI (xS (τ k.toNat) u))), (7, .int (zI (4 * (32 * (k) + (xS (τ k.toNat) u))))), (8, .int (zI (xDelay (τ (k).toNat) (xS (τ k.toNat) u)))), (9, .int (zI ((xP (τ k.toNat) u) - ((xS (τ k.toNat) u) * (τ (k).toNat 1))))), (11, .int (zI (a)))]) hx hb dX3_strike_213 hl (by decide) rfl (fun ls hl => ?_)
                  refine lv_iinc (v := zI (a + 1)) (lv' := [(11, .int (zI (a + 1))), (10, .int (zI (1))), (0, .ref am), (1, .int (zI (k))), (2, .int (zI (t9))), (3, .int (zI (u))), (4, .int (zI (τ (k).toNat 1))), (5, .int (zI ((τ (k).toNat 0) * (τ (k).toNat 1)))), (6, .int (zI (xS (τ k.toNat) u))), (7, .int (zI (4 * (32 * (k) + (xS (τ k.toNat) u))))), (8, .int (zI (xDelay (τ (k).toNat) (xS (τ k.toNat) u)))), (9, .int (zI ((xP (τ k.toNat) u) - ((xS (τ k.toNat) u) * (τ (k).toNat 1)))))]) hx hb dX3_strike_215 hl (k := 11) rfl (zI_add (a) (1)) (by decide) rfl (fun ls hl => ?_)
                  refine lv_goto (tgt := 163) hx hb dX3_strike_218 (by decide) ?_
                  exact ih_163 (a + 1) (1) (by omega) (hv.s ha0.1 (by first | exact Or.inl ⟨rfl, Or.inl (by omega)⟩ | exact Or.inl ⟨rfl, Or.inr (by show _ = _; omega)⟩ | exact Or.inr ⟨rfl, by omega, by show ¬ (_ = _); omega⟩)) (by omega) _ (lv_sub hl [2, 3, 4, 5, 6, 7, 8, 9, 10, 11, 1, 0] rfl)
        exact loop_163 (5) (0) (0) (by omega) (mAny.z _) (by omega) ls (lv_sub hl [8, 9, 10, 11, 7, 6, 5, 4, 3, 2, 1, 0] rfl)
      · refine lv_iconst (v := zI (0)) hx hb dX3_strike_155 rfl ?_
        exact z_iret hx hb hr hlocks (by unfold xStr; rw [if_neg hsil, hloc, if_neg (by omega)]; exact (xForce_f (fun q => c_2 q.1)).symm) dX3_strike_156
    refine lv_iload_n hx hb dX3_strike_10 rfl (lv_at hl 2 rfl) ?_
    refine lv_istore_n (lv' := [(3, .int (zI (t9))), (0, .ref am), (1, .int (zI (k))), (2, .int (zI (t9)))]) hx hb dX3_strike_11 rfl hl (by decide) rfl (fun ls hl => ?_)
    refine lv_aload_n hx hb dX3_strike_12 rfl (lv_at hl 1 rfl) ?_
    refine va_get (D := D) (ci := 3) (v := .int (zI (m9))) (C := RX3) (T := TX3) (N := 14) hx hb hts hin3 hown hK hP 0 rfl rfl 9 (by decide) (hts (.fieldLink RX3 111 "PolyDrumsModel" "sections" "I") (by decide +kernel)) (fun _ h9 => h9) rfl dX3_strike_13 ?_
    refine z_if_le (tgt := 72) hx hb (by omega) dX3_strike_16 (by decide) (fun c_7 => ?_) (fun c_7 => ?_)
    · exact join_72 (t9) (by omega) (by unfold xLoc; rw [if_pos (by omega)])  _ (lv_sub hl [1, 2, 3, 0] rfl)
    · refine lv_aload_n hx hb dX3_strike_19 rfl (lv_at hl 1 rfl) ?_
      refine lv_iload_n hx hb dX3_strike_20 rfl (lv_at hl 3 rfl) ?_
      refine z_call (va_runV (As := [.int (zI (t9))]) (rest := []) ⟨hx, hb, hml, hown, hts⟩ (kX3_section l D G am (th) n m9 sp τ ζ h M hOK hM (t9) (by omega)) (cwV 1 hts gX3_strike_X3_section rfl rfl rfl (by decide +kernel) ⟨Nat.le_of_ble_eq_true rfl, Nat.le_of_ble_eq_true rfl⟩) (zPreV (va_recv hK hP (ci := 3) (q0 := 0) rfl rfl) hK hN (hP)) rfl rfl hl.1 rfl (lv_room (Nat.le_of_ble_eq_true rfl)) dX3_strike_21 ⟨Nat.le_of_ble_eq_true rfl, Nat.le_of_ble_eq_true rfl⟩) ?_
      refine lv_istore (lv' := [(4, .int (zI (xSec ζ (t9) m9.toNat))), (3, .int (zI (t9))), (0, .ref am), (1, .int (zI (k))), (2, .int (zI (t9)))]) hx hb dX3_strike_24 hl (by decide) rfl (fun ls hl => ?_)
      refine lv_iload hx hb dX3_strike_26 (lv_at hl 0 rfl) ?_
      refine lv_iconst (v := zI (-1)) hx hb dX3_strike_28 rfl ?_
      refine z_icmp_eq (tgt := 46) hx hb (by omega) dX3_strike_29 (by decide) (fun c_8 => ?_) (fun c_8 => ?_)
      · refine lv_iconst (v := zI (0)) hx hb dX3_strike_46 rfl ?_
        exact z_iret hx hb hr hlocks (by unfold xStr; rw [if_neg hsil, if_pos (show xLoc m9 ζ k t9 = -1 by unfold xLoc; rw [if_neg (by omega)]; first | (rw [if_pos (by omega)]; done) | (rw [if_neg (by omega), if_neg (by assumption)]; done))]) dX3_strike_47
      · have hzc := hOK.zb' (k := xSec ζ t9 m9.toNat) (by omega)
        refine lv_aload_n hx hb dX3_strike_32 rfl (lv_at hl 2 rfl) ?_
        refine va_get (D := D) (ci := 3) (v := .ref (h 8)) (C := RX3) (T := TX3) (N := 14) hx hb hts hin3 hown hK hP 0 rfl rfl 11 (by decide) (hts (.fieldLink RX3 35 "PolyDrumsModel" "sets" "[I") (by decide +kernel)) (fun _ h9 => h9) rfl dX3_strike_33 ?_
        refine lv_iload hx hb dX3_strike_36 (lv_at hl 0 rfl) ?_
        refine z_iald (x := zI (ζ (xSec ζ (t9) m9.toNat).toNat 2)) (D := D) hx hb hK hP 9 0 rfl rfl (by omega) (by omega) (hM.z (k := xSec ζ (t9) m9.toNat) (by omega)) dX3_strike_38 ?_
        refine lv_iload_n hx hb dX3_strike_39 rfl (lv_at hl 3 rfl) ?_
        refine lv_ishr hx hb dX3_strike_40 ?_
        refine lv_iconst (v := zI (1)) hx hb dX3_strike_41 rfl ?_
        refine lv_iand hx hb dX3_strike_42 ?_
        refine z_raw (y := zB (xBit (ζ (xSec ζ t9 m9.toNat).toNat 2) k)) (xBit_shr (by omega) (by omega)) ?_
        refine z_neB (tgt := 48) hx hb dX3_strike_43 (by decide) (fun c_9 => ?_) (fun c_9 => ?_)
        · have hbit := c_9
          refine lv_aload_n hx hb dX3_strike_48 rfl (lv_at hl 2 rfl) ?_
          refine va_get (D := D) (ci := 3) (v := .ref (h 9)) (C := RX3) (T := TX3) (N := 14) hx hb hts hin3 hown hK hP 0 rfl rfl 12 (by decide) (hts (.fieldLink RX3 38 "PolyDrumsModel" "areNew" "[Z") (by decide +kernel)) (fun _ h9 => h9) rfl dX3_strike_49 ?_
          refine lv_iload hx hb dX3_strike_52 (lv_at hl 0 rfl) ?_
          refine z_zald (x := zB (ζ (xSec ζ (t9) m9.toNat).toNat 3 = 1)) (D := D) hx hb hK hP 10 1 rfl rfl (by omega) (by omega) (hM.w hOK (k := xSec ζ (t9) m9.toNat) (by omega)) dX3_strike_54 ?_
          refine z_eqB (tgt := 70) hx hb dX3_strike_55 (by decide) (fun c_10 => ?_) (fun c_10 => ?_)
          · refine lv_iload_n hx hb dX3_strike_70 rfl (lv_at hl 4 rfl) ?_
            refine lv_istore_n (lv' := [(3, .int (zI (t9))), (4, .int (zI (xSec ζ (t9) m9.toNat))), (0, .ref am), (1, .int (zI (k))), (2, .int (zI (t9)))]) hx hb dX3_strike_71 rfl hl (by decide) rfl (fun ls hl => ?_)
            exact join_72 (t9) (by omega) (by unfold xLoc; rw [if_neg (by omega), if_neg (by omega), if_pos hbit, if_neg (by assumption)])  _ (lv_sub hl [2, 3, 4, 0] rfl)
          · refine lv_iload_n hx hb dX3_strike_58 rfl (lv_at hl 4 rfl) ?_
            refine lv_aload_n hx hb dX3_strike_59 rfl (lv_at hl 2 rfl) ?_
            refine va_get (D := D) (ci := 3) (v := .ref (h 7)) (C := RX3) (T := TX3) (N := 14) hx hb hts hin3 hown hK hP 0 rfl rfl 10 (by decide) (hts (.fieldLink RX3 32 "PolyDrumsModel" "begins" "[I") (by decide +kernel)) (fun _ h9 => h9) rfl dX3_strike_60 ?_
            refine lv_iload hx hb dX3_strike_63 (lv_at hl 0 rfl) ?_
            refine z_iald (x := zI (ζ (xSec ζ (t9) m9.toNat).toNat 0)) (D := D) hx hb hK hP 8 0 rfl rfl (by omega) (by omega) (hM.b (k := xSec ζ (t9) m9.toNat) (by omega)) dX3_strike_65 ?_
            refine z_isub hx hb dX3_strike_66 ?_
            refine lv_goto (tgt := 71) hx hb dX3_strike_67 (by decide) ?_
            refine lv_istore_n (lv' := [(3, .int (zI ((t9) - (ζ (xSec ζ (t9) m9.toNat).toNat 0)))), (4, .int (zI (xSec ζ (t9) m9.toNat))), (0, .ref am), (1, .int (zI (k))), (2, .int (zI (t9)))]) hx hb dX3_strike_71 rfl hl (by decide) rfl (fun ls hl => ?_)
            exact join_72 ((t9) - (ζ (xSec ζ (t9) m9.toNat).toNat 0)) (by have h8 : xLoc m9 ζ k t9 = t9 - ζ (xSec ζ t9 m9.toNat).toNat 0 := by { unfold xLoc; rw [if_neg (by omega), if_neg (by omega), if_pos hbit, if_pos (by assumption)] }; have h9 := (xSec_in hOK ht.1 m9.toNat (by omega)).2 (by omega); omega) (by unfold xLoc; rw [if_neg (by omega), if_neg (by omega), if_pos hbit, if_pos (by assumption)])  _ (lv_sub hl [2, 3, 4, 0] rfl)
        · refine lv_iconst (v := zI (0)) hx hb dX3_strike_46 rfl ?_
          exact z_iret hx hb hr hlocks (by unfold xStr; rw [if_neg hsil, if_pos (show xLoc m9 ζ k t9 = -1 by unfold xLoc; rw [if_neg (by omega)]; first | (rw [if_pos (by omega)]; done) | (rw [if_neg (by omega), if_neg (by assumption)]; done))]) dX3_strike_47
  · refine lv_iconst (v := zI (0)) hx hb dX3_strike_8 rfl ?_
    exact z_iret hx hb hr hlocks (by unfold xStr; rw [if_pos c_1]) dX3_strike_9

set_option maxHeartbeats 4000000 in
set_option maxRecDepth 100000 in
theorem kX3_hits (l : Launch) (D : va_G) (G : Nat → ClassId) (am : Nat) (th n m9 sp : Int) (τ ζ : Nat → Nat → Int) (h : Nat → Nat) (M : Nat → Nat → Int32) (hOK : XOK n m9 sp τ ζ) (hM : MR n m9 τ ζ M) (k t9 : Int) (hk : 0 ≤ k ∧ k < n) (ht : 0 ≤ t9 ∧ t9 ≤ 99999) : Met l yX3_hits wsX3_hits ({ frames := 2, cells := 0, slots := 0, locals := 54 }) (zP [.ref am, .int (zI (k)), .int (zI (t9))] D G (fun H => va_P D vwCl [(am, .inr (3, [.int (zI (th)), .int (zI (n)), .ref (h 0), .ref (h 1), .ref (h 2), .ref (h 3), .ref (h 4), .ref (h 5), .ref (h 6), .int (zI (m9)), .ref (h 7), .ref (h 8), .ref (h 9), .int (zI (sp))])), ((h 0), .inl (G 0, 8, .inl (M 0))), ((h 1), .inl (G 0, 8, .inl (M 1))), ((h 2), .inl (G 0, 8, .inl (M 2))), ((h 3), .inl (G 0, 8, .inl (M 3))), ((h 4), .inl (G 0, 8, .inl (M 4))), ((h 5), .inl (G 1, 24, .inl (M 5))), ((h 6), .inl (G 0, 1024, .inl (M 6))), ((h 7), .inl (G 0, 13, .inl (M 7))), ((h 8), .inl (G 0, 12, .inl (M 8))), ((h 9), .inl (G 1, 12, .inl (M 9)))] H)) (zQ (some (.int (zB (xHit n m9 τ ζ k t9))))) 0 0 (fun _ => False) := by
  refine Met.ofW (cc := cX3_hits) (maxL := 3) (ret := (some .boolean)) (by decide) rfl ?_
  intro p e s m args below meth c s₁ B hml hv
  obtain ⟨hav, hP, hK, hN⟩ := hv
  have hx := B.exec
  have hb := B.bytes
  have hr := B.returns
  have hts := atoms_spec (ws := wsX3_hits) B.pre
  have hown : s.vm.findClass RX3 = some m.cls := findClass_of_methodNamed B.named
  have hlocks : meth.locks = false := B.notSynchronized
  have hin3 : ∀ w ∈ u_ws RX3 TX3 14, w ∈ wsX3_hits := by decide +kernel
  have hB := id hOK
  obtain ⟨hn0, hn8, hm0, hm12, hsp0, hsp1, -⟩ := hB
  have htb := hOK.tb hk
  have hsb := xStr_b hOK (t := t9) hk
  refine z_entry hav (Nat.le_of_ble_eq_true rfl) rfl (fun ls hl => ?_)
  have hl : lv_has ls 3 [(0, .ref am), (1, .int (zI (k))), (2, .int (zI (t9)))] := hl
  refine lv_aload_n hx hb dX3_hits_0 rfl (lv_at hl 0 rfl) ?_
  refine va_get (D := D) (ci := 3) (v := .ref (h 5)) (C := RX3) (T := TX3) (N := 14) hx hb hts hin3 hown hK hP 0 rfl rfl 7 (by decide) (hts (.fieldLink RX3 25 "PolyDrumsModel" "flags" "[Z") (by decide +kernel)) (fun _ h9 => h9) rfl dX3_hits_1 ?_
  refine lv_iconst (v := zI (3)) hx hb dX3_hits_4 rfl ?_
  refine lv_iload_n hx hb dX3_hits_5 rfl (lv_at hl 1 rfl) ?_
  refine z_imul hx hb dX3_hits_6 ?_
  refine lv_iconst (v := zI (2)) hx hb dX3_hits_7 rfl ?_
  refine z_iadd hx hb dX3_hits_8 ?_
  refine z_zald (x := zB (τ (k).toNat 7 = 1)) (D := D) hx hb hK hP 6 1 rfl rfl (by omega) (by omega) (hM.fl hOK (k := k) 2 (by omega) (by omega) (by omega)) dX3_hits_9 ?_
  refine z_neB (tgt := 26) hx hb dX3_hits_10 (by decide) (fun c_1 => ?_) (fun c_1 => ?_)
  · refine lv_iconst (v := zI (0)) hx hb dX3_hits_26 rfl ?_
    exact z_zretF hx hb hr hlocks (fun q => by have := q.1; have := q.2; omega) dX3_hits_27
  · refine lv_aload_n hx hb dX3_hits_13 rfl (lv_at hl 0 rfl) ?_
    refine lv_iload_n hx hb dX3_hits_14 rfl (lv_at hl 1 rfl) ?_
    refine lv_iload_n hx hb dX3_hits_15 rfl (lv_at hl 2 rfl) ?_
    refine z_call (va_runV (As := [.int (zI (k)), .int (zI (t9))]) (rest := []) ⟨hx, hb, hml, hown, hts⟩ (kX3_strike l D G am (th) n m9 sp τ ζ h M hOK hM (k) (t9) (by omega) (by omega)) (cwV 2 hts gX3_hits_X3_strike rfl rfl rfl (by decide +kernel) ⟨Nat.le_of_ble_eq_true rfl, Nat.le_of_ble_eq_true rfl⟩) (zPreV (va_recv hK hP (ci := 3) (q0 := 0) rfl rfl) hK hN (hP)) rfl rfl hl.1 rfl (lv_room (Nat.le_of_ble_eq_true rfl)) dX3_hits_16 ⟨Nat.le_of_ble_eq_true rfl, Nat.le_of_ble_eq_true rfl⟩) ?_
    refine z_if_le (tgt := 26) hx hb (by omega) dX3_hits_19 (by decide) (fun c_2 => ?_) (fun c_2 => ?_)
    · refine lv_iconst (v := zI (0)) hx hb dX3_hits_26 rfl ?_
      exact z_zretF hx hb hr hlocks (fun q => by have := q.1; have := q.2; omega) dX3_hits_27
    · refine lv_iconst (v := zI (1)) hx hb dX3_hits_22 rfl ?_
      refine lv_goto (tgt := 27) hx hb dX3_hits_23 (by decide) ?_
      exact z_zretT hx hb hr hlocks (⟨by omega, by omega⟩) dX3_hits_27
