set_option maxHeartbeats 4000000 in
set_option maxRecDepth 100000 in
theorem lc_0 (l : Launch) (hl9 : l.stackTraces = false) {p : Program} {e : Env} {s : State} {m : MethodId} {below : List Frame} {meth : Method} {c : Code} {H : Heap} {locs : List Loc} {cells slots : Nat} {Q : State → Prop} {D : va_G} {G : Nat → ClassId} {b L : Nat} {xs : Nat → Int32} {ax am o1 o2 : Nat} {h : Nat → Nat} {th : Int} {ls : Array Slot} (hx : p.tables.exec = Jvm.exec) (hb : c.code = cL_law) (hml : c.maxLocals = 9) (hown : s.vm.findClass RL = some m.cls) (hts : ∀ w ∈ wsL_law, w.before #[Value.ref b] s = true) (hK : va_K D vwCl (zTy G) s) (hN : zN s) (hT0 : zT s s.heap) (hX : va_X b L xs s s.heap) (hbl : b < s.heap.size) (hL9 : L ≤ 2560) (hce : cells + 20 ≤ 601024) (hsl : slots + 3000 ≤ 7293034) (hS : va_S (fun q => s.heap.size ≤ q) s.heap H locs) (hI : LI D G ax am o1 o2 s.heap.size h th H) (i : Int) (hi : 0 ≤ i ∧ i + 5 ≤ L) (x1 : Int) (hv1 : xs (i + 1).toNat = zI x1) (hr1 : -2147483648 ≤ x1 ∧ x1 ≤ 2147483647) (x2 : Int) (hv2 : xs (i + 2).toNat = zI x2) (hr2 : -2147483648 ≤ x2 ∧ x2 ≤ 2147483647) (x3 : Int) (hv3 : xs (i + 3).toNat = zI x3) (hr3 : -2147483648 ≤ x3 ∧ x3 ≤ 2147483647) (x4 : Int) (hv4 : xs (i + 4).toNat = zI x4) (hr4 : -2147483648 ≤ x4 ∧ x4 ≤ 2147483647) (hl : lv_has ls 9 [(0, .ref b), (1, .ref ax), (2, .ref am), (3, .ref o1), (4, .ref o2), (5, .int (zI (i)))]) (kk : ∀ (H1 : Heap) (locs1 : List Loc) (th1 : Int) (ls1 : Array Slot), va_S (fun q => s.heap.size ≤ q) s.heap H1 locs1 → LI D G ax am o1 o2 s.heap.size h th1 H1 → lv_has ls1 9 [(0, .ref b), (1, .ref ax), (2, .ref am), (3, .ref o1), (4, .ref o2), (5, .int (zI (i)))] → W p l e room_1 s m #[Value.ref b] below meth c H1 locs1 (cells + 20) (slots + 3000) Q (F0 m 1999 ls1 [])) : W p l e room_1 s m #[Value.ref b] below meth c H locs cells slots Q (F0 m 172 ls []) := by
  obtain ⟨lab, n, m9, sp, τ, ζ, g, cs, ss, M, hOK, hM, hXL, hML, ho1, ho2, hz0, hW, hPm, ⟨f1, hO1⟩, ⟨f2, hO2⟩⟩ := id hI
  refine lv_aload_n hx hb dL_law_172 rfl (lv_at hl 1 rfl) ?_
  refine lv_aload_n hx hb dL_law_173 rfl (lv_at hl 0 rfl) ?_
  refine lv_iload hx hb dL_law_174 (lv_at hl 5 rfl) ?_
  refine lv_iconst (v := zI (1)) hx hb dL_law_176 rfl ?_
  refine z_iadd hx hb dL_law_177 ?_
  refine z_sld hx hb hX hbl (Nat.not_le.mpr hbl) hS (i := i + 1) (x := x1) (by omega) (by omega) hv1 dL_law_178 ?_
  refine lv_aload_n hx hb dL_law_179 rfl (lv_at hl 0 rfl) ?_
  refine lv_iload hx hb dL_law_180 (lv_at hl 5 rfl) ?_
  refine lv_iconst (v := zI (2)) hx hb dL_law_182 rfl ?_
  refine z_iadd hx hb dL_law_183 ?_
  refine z_sld hx hb hX hbl (Nat.not_le.mpr hbl) hS (i := i + 2) (x := x2) (by omega) (by omega) hv2 dL_law_184 ?_
  refine lv_aload_n hx hb dL_law_185 rfl (lv_at hl 3 rfl) ?_
  have hAL : ∀ q : Nat, LA lab o1 H.size q → s.heap.size ≤ q := fun q h9 => Nat.not_lt.mp (fun h8 => by have h7 := hz0 q h8; have h6 := hS.1; rcases h9 with h9 | h9 | h9 <;> first | omega | (rw [h9] at h7; omega))
  refine z_callM (vx_runSW (As := [.ref ax, .int (zI (x1)), .int (zI (x2)), .ref o1]) (rest := []) ⟨hx, hb, hml, hown, hts⟩ (kL_addTrack l D G hl9 ax n m9 sp τ ζ g cs ss hOK lab hXL o1 H.size f1 (by omega) (x1) (x2) hr1 hr2) (vx_cwSW 4 hts gL_law_L_addTrack rfl rfl rfl (by decide +kernel) ⟨Nat.le_of_ble_eq_true rfl, Nat.le_of_ble_eq_true rfl⟩) (zPTreS hK hN (zT.kp hT0 hS) ⟨rfl, hW, hO1⟩) rfl rfl hl.1 rfl (lv_room (Nat.le_of_ble_eq_true rfl)) dL_law_186 ⟨z_rc (by omega), z_rs (by omega)⟩) hS (fun q _ h9 => hAL q h9) hAL (fun H1 locs1 hp1 hz1 hk1 hS1 => ?_)
  obtain ⟨g', lab', cs', ss', hqC, hqN, hlb⟩ := hp1
  have hMLn := hML.same hPm hlb
  have ho1n : lab' o1 = 200 := (hlb _ (o_lt hO1)).trans ho1
  have ho2n : lab' o2 = 201 := (hlb _ (o_lt hO2)).trans ho2
  have hz0n : ∀ q : Nat, q < s.heap.size → lab' q = 300 := fun q hq => (hlb q (Nat.lt_of_lt_of_le hq hS.1)).trans (hz0 q hq)
  have hPm1 := mW.kp hPm hML (fun q hq h1 h2 => hk1 q hq (fun h9 => by rcases h9 with h9 | h9 | h9 <;> first | omega | (rw [h9] at h2; omega)))
  have hOx := o_kp hO2 (fun hq => hk1 o2 hq (fun h9 => by rcases h9 with h9 | h9 | h9 <;> first | omega | (rw [h9] at ho2; omega)))
  refine lv_istore (lv' := [(6, .int (zI (if (1 ≤ (x1) ∧ (x1) ≤ 32) ∧ (1 ≤ (x2) ∧ (x2) ≤ 48) then (if n < 8 then 0 else 2) else 1))), (0, .ref b), (1, .ref ax), (2, .ref am), (3, .ref o1), (4, .ref o2), (5, .int (zI (i)))]) hx hb dL_law_189 hl (by decide) rfl (fun ls hl => ?_)
  refine lv_aload_n hx hb dL_law_191 rfl (lv_at hl 3 rfl) ?_
  refine lv_aload_n hx hb dL_law_192 rfl (lv_at hl 1 rfl) ?_
  refine lv_iload hx hb dL_law_193 (lv_at hl 6 rfl) ?_
  refine lv_iconst (v := zI (1)) hx hb dL_law_195 rfl ?_
  refine z_iadd hx hb dL_law_196 ?_
  refine z_sld hx hb hX hbl (Nat.not_le.mpr hbl) hS1 (i := i + 1) (x := x1) (by omega) (by omega) hv1 dL_law_197 ?_
  refine lv_aload_n hx hb dL_law_198 rfl (lv_at hl 1 rfl) ?_
  refine lv_iload hx hb dL_law_199 (lv_at hl 6 rfl) ?_
  refine lv_iconst (v := zI (2)) hx hb dL_law_201 rfl ?_
  refine z_iadd hx hb dL_law_202 ?_
  refine z_sld hx hb hX hbl (Nat.not_le.mpr hbl) hS1 (i := i + 2) (x := x2) (by omega) (by omega) hv2 dL_law_203 ?_
  have hAM : ∀ q : Nat, zA [am, h 0, h 1, h 2, h 3, h 4, h 5, h 6, h 7, h 8, h 9] q → s.heap.size ≤ q := fun q h9 => Nat.not_lt.mp (fun h8 => by have h7 := hz0n q h8; have h6 := hMLn.in h9; omega)
  refine z_callM (va_runV (As := [.int (zI (x1)), .int (zI (x2))]) (rest := []) ⟨hx, hb, hml, hown, hts⟩ (kX3_addTrack l D G am th n m9 sp τ ζ h M hOK hM hMLn.nd (x1) (x2) hr1 hr2) (cwV 2 hts gL_law_X3_addTrack rfl rfl rfl (by decide +kernel) ⟨Nat.le_of_ble_eq_true rfl, Nat.le_of_ble_eq_true rfl⟩) (zPreV (va_recv hK hPm1 (ci := 3) (q0 := 0) rfl rfl) hK hN (hPm1)) rfl rfl hl.1 rfl (lv_room (Nat.le_of_ble_eq_true rfl)) dL_law_204 ⟨z_rc (by omega), z_rs (by omega)⟩) hS1 (fun q _ h9 => hAM q h9) hAM (fun H2 locs2 hp2 hz2 hk2 hS2 => ?_)
  have hfr : ∀ q : Nat, q < H1.size → (lab' q < 100 ∨ 200 ≤ lab' q) → H2[q]? = H1[q]? := fun q hq hl8 => hk2 q hq (fun h9 => by have h6 := hMLn.in h9; omega)
  obtain ⟨M', hPm2, hMC, hMN⟩ := hp2
  have hfin := LI.fin (D := D) (G := G) (C := ((1 ≤ (x1) ∧ (x1) ≤ 32) ∧ (1 ≤ (x2) ∧ (x2) ≤ 48)) ∧ n < 8) (v := (zI (n)).toInt64) hOK (fun hC => hOK.add9 hC.2 (xF0_ok hC.1.1 hC.1.2)) hM hMC hMN hMLn ho1n ho2n hz0n hqC hqN ⟨f2, hOx⟩ hPm2 (fun hC => ⟨if_pos hC, rfl, rfl⟩) (fun hC => ⟨if_neg hC, rfl, rfl⟩) hfr
  obtain ⟨hI2, hval⟩ := hfin
  obtain ⟨lab2, n2, m2, sp2, τ2, ζ2, g2, cs2, ss2, M2, hOK2, hM2, hXL2, hML2, -, -, -, -, hPm3, -, -⟩ := id hI2
  refine lv_istore (lv' := [(7, .int (zI (if (1 ≤ (x1) ∧ (x1) ≤ 32) ∧ (1 ≤ (x2) ∧ (x2) ≤ 48) then (if n < 8 then n else 0) else 0))), (6, .int (zI (if (1 ≤ (x1) ∧ (x1) ≤ 32) ∧ (1 ≤ (x2) ∧ (x2) ≤ 48) then (if n < 8 then 0 else 2) else 1))), (0, .ref b), (1, .ref ax), (2, .ref am), (3, .ref o1), (4, .ref o2), (5, .int (zI (i)))]) hx hb dL_law_207 hl (by decide) rfl (fun ls hl => ?_)
  refine lv_aload_n hx hb dL_law_209 rfl (lv_at hl 4 rfl) ?_
  refine z_call (va_runV (As := []) (rest := []) ⟨hx, hb, hml, hown, hts⟩ (kX3_thrown l D G am (if (1 ≤ (x1) ∧ (x1) ≤ 32) ∧ (1 ≤ (x2) ∧ (x2) ≤ 48) then (if n < 8 then 0 else 2) else 1) n2 m2 sp2 τ2 ζ2 h M2 hOK2 hM2) (cwV 0 hts gL_law_X3_thrown rfl rfl rfl (by decide +kernel) ⟨Nat.le_of_ble_eq_true rfl, Nat.le_of_ble_eq_true rfl⟩) (zPreV (va_recv hK hPm3 (ci := 3) (q0 := 0) rfl rfl) hK hN (hPm3)) rfl rfl hl.1 rfl (lv_room (Nat.le_of_ble_eq_true rfl)) dL_law_210 ⟨z_rc (by omega), z_rs (by omega)⟩) ?_
  refine lv_iload hx hb dL_law_213 (lv_at hl 1 rfl) ?_
  refine lv_icmp_eq (tgt := 220) hx hb dL_law_215 (by decide) (fun _ => ?_) (fun c9 => absurd rfl c9)
  refine lv_iload hx hb dL_law_220 (lv_at hl 1 rfl) ?_
  refine lv_if_ne (tgt := 237) hx hb dL_law_222 (by decide) (fun _ => ?_) (fun c9 => ?_)
  · refine lv_goto (tgt := 1999) hx hb dL_law_237 (by decide) ?_
    refine W.widen (k := cells + 20) (n := slots + 3000) (by omega) (by omega) ?_
    exact kk _ _ _ _ hS2 hI2 (lv_sub hl [2, 3, 4, 5, 6, 7] rfl)
  · have hC := zK2 c9
    obtain ⟨f9, hf9, hPo9⟩ := hval hC
    refine lv_aload_n hx hb dL_law_225 rfl (lv_at hl 5 rfl) ?_
    refine lv_iconst (v := zI (0)) hx hb dL_law_226 rfl ?_
    refine z_lald (x := (zI (n)).toInt64) (D := D) hx hb hK hPo9 0 2 rfl rfl (by omega) (by omega) hf9 dL_law_227 ?_
    refine lv_iload hx hb dL_law_228 (lv_at hl 0 rfl) ?_
    refine lv_i2l (v := (zI (if (1 ≤ (x1) ∧ (x1) ≤ 32) ∧ (1 ≤ (x2) ∧ (x2) ≤ 48) then (if n < 8 then n else 0) else 0)).toInt64) hx hb dL_law_230 rfl ?_
    refine W.lcmp hx hb dL_law_231 ?_
    refine lv_if_eq (tgt := 237) hx hb dL_law_232 (by decide) (fun _ => ?_) (fun c8 => absurd (by rw [if_pos hC.1, if_pos hC.2]; exact z_cmp_self _) c8)
    refine lv_goto (tgt := 1999) hx hb dL_law_237 (by decide) ?_
    refine W.widen (k := cells + 20) (n := slots + 3000) (by omega) (by omega) ?_
    exact kk _ _ _ _ hS2 hI2 (lv_sub hl [2, 3, 4, 5, 6, 7] rfl)

set_option maxHeartbeats 4000000 in
set_option maxRecDepth 100000 in
theorem lc_1 (l : Launch) (hl9 : l.stackTraces = false) {p : Program} {e : Env} {s : State} {m : MethodId} {below : List Frame} {meth : Method} {c : Code} {H : Heap} {locs : List Loc} {cells slots : Nat} {Q : State → Prop} {D : va_G} {G : Nat → ClassId} {b L : Nat} {xs : Nat → Int32} {ax am o1 o2 : Nat} {h : Nat → Nat} {th : Int} {ls : Array Slot} (hx : p.tables.exec = Jvm.exec) (hb : c.code = cL_law) (hml : c.maxLocals = 9) (hown : s.vm.findClass RL = some m.cls) (hts : ∀ w ∈ wsL_law, w.before #[Value.ref b] s = true) (hK : va_K D vwCl (zTy G) s) (hN : zN s) (hT0 : zT s s.heap) (hX : va_X b L xs s s.heap) (hbl : b < s.heap.size) (hL9 : L ≤ 2560) (hce : cells + 20 ≤ 601024) (hsl : slots + 3000 ≤ 7293034) (hS : va_S (fun q => s.heap.size ≤ q) s.heap H locs) (hI : LI D G ax am o1 o2 s.heap.size h th H) (i : Int) (hi : 0 ≤ i ∧ i + 5 ≤ L) (x1 : Int) (hv1 : xs (i + 1).toNat = zI x1) (hr1 : -2147483648 ≤ x1 ∧ x1 ≤ 2147483647) (x2 : Int) (hv2 : xs (i + 2).toNat = zI x2) (hr2 : -2147483648 ≤ x2 ∧ x2 ≤ 2147483647) (x3 : Int) (hv3 : xs (i + 3).toNat = zI x3) (hr3 : -2147483648 ≤ x3 ∧ x3 ≤ 2147483647) (x4 : Int) (hv4 : xs (i + 4).toNat = zI x4) (hr4 : -2147483648 ≤ x4 ∧ x4 ≤ 2147483647) (hl : lv_has ls 9 [(0, .ref b), (1, .ref ax), (2, .ref am), (3, .ref o1), (4, .ref o2), (5, .int (zI (i)))]) (kk : ∀ (H1 : Heap) (locs1 : List Loc) (th1 : Int) (ls1 : Array Slot), va_S (fun q => s.heap.size ≤ q) s.heap H1 locs1 → LI D G ax am o1 o2 s.heap.size h th1 H1 → lv_has ls1 9 [(0, .ref b), (1, .ref ax), (2, .ref am), (3, .ref o1), (4, .ref o2), (5, .int (zI (i)))] → W p l e room_1 s m #[Value.ref b] below meth c H1 locs1 (cells + 20) (slots + 3000) Q (F0 m 1999 ls1 [])) : W p l e room_1 s m #[Value.ref b] below meth c H locs cells slots Q (F0 m 240 ls []) := by
  obtain ⟨lab, n, m9, sp, τ, ζ, g, cs, ss, M, hOK, hM, hXL, hML, ho1, ho2, hz0, hW, hPm, ⟨f1, hO1⟩, ⟨f2, hO2⟩⟩ := id hI
  refine lv_aload_n hx hb dL_law_240 rfl (lv_at hl 1 rfl) ?_
  refine lv_aload_n hx hb dL_law_241 rfl (lv_at hl 0 rfl) ?_
  refine lv_iload hx hb dL_law_242 (lv_at hl 5 rfl) ?_
  refine lv_iconst (v := zI (1)) hx hb dL_law_244 rfl ?_
  refine z_iadd hx hb dL_law_245 ?_
  refine z_sld hx hb hX hbl (Nat.not_le.mpr hbl) hS (i := i + 1) (x := x1) (by omega) (by omega) hv1 dL_law_246 ?_
  refine lv_aload_n hx hb dL_law_247 rfl (lv_at hl 0 rfl) ?_
  refine lv_iload hx hb dL_law_248 (lv_at hl 5 rfl) ?_
  refine lv_iconst (v := zI (2)) hx hb dL_law_250 rfl ?_
  refine z_iadd hx hb dL_law_251 ?_
  refine z_sld hx hb hX hbl (Nat.not_le.mpr hbl) hS (i := i + 2) (x := x2) (by omega) (by omega) hv2 dL_law_252 ?_
  refine lv_aload_n hx hb dL_law_253 rfl (lv_at hl 0 rfl) ?_
  refine lv_iload hx hb dL_law_254 (lv_at hl 5 rfl) ?_
  refine lv_iconst (v := zI (3)) hx hb dL_law_256 rfl ?_
  refine z_iadd hx hb dL_law_257 ?_
  refine z_sld hx hb hX hbl (Nat.not_le.mpr hbl) hS (i := i + 3) (x := x3) (by omega) (by omega) hv3 dL_law_258 ?_
  refine lv_aload_n hx hb dL_law_259 rfl (lv_at hl 0 rfl) ?_
  refine lv_iload hx hb dL_law_260 (lv_at hl 5 rfl) ?_
  refine lv_iconst (v := zI (4)) hx hb dL_law_262 rfl ?_
  refine z_iadd hx hb dL_law_263 ?_
  refine z_sld hx hb hX hbl (Nat.not_le.mpr hbl) hS (i := i + 4) (x := x4) (by omega) (by omega) hv4 dL_law_264 ?_
  refine lv_aload_n hx hb dL_law_265 rfl (lv_at hl 3 rfl) ?_
  have hAL : ∀ q : Nat, LA lab o1 H.size q → s.heap.size ≤ q := fun q h9 => Nat.not_lt.mp (fun h8 => by have h7 := hz0 q h8; have h6 := hS.1; rcases h9 with h9 | h9 | h9 <;> first | omega | (rw [h9] at h7; omega))
  refine z_callM (vx_runSW (As := [.ref ax, .int (zI (x1)), .int (zI (x2)), .int (zI (x3)), .int (zI (x4)), .ref o1]) (rest := []) ⟨hx, hb, hml, hown, hts⟩ (kL_set l D G hl9 ax n m9 sp τ ζ g cs ss hOK lab hXL o1 H.size f1 (by omega) (x1) (x2) (x3) (x4) hr1 hr2 hr3 hr4) (vx_cwSW 6 hts gL_law_L_set rfl rfl rfl (by decide +kernel) ⟨Nat.le_of_ble_eq_true rfl, Nat.le_of_ble_eq_true rfl⟩) (zPTreS hK hN (zT.kp hT0 hS) ⟨rfl, hW, hO1⟩) rfl rfl hl.1 rfl (lv_room (Nat.le_of_ble_eq_true rfl)) dL_law_266 ⟨z_rc (by omega), z_rs (by omega)⟩) hS (fun q _ h9 => hAL q h9) hAL (fun H1 locs1 hp1 hz1 hk1 hS1 => ?_)
  obtain ⟨g', lab', cs', ss', hqC, hqN, hlb⟩ := hp1
  have hMLn := hML.same hPm hlb
  have ho1n : lab' o1 = 200 := (hlb _ (o_lt hO1)).trans ho1
  have ho2n : lab' o2 = 201 := (hlb _ (o_lt hO2)).trans ho2
  have hz0n : ∀ q : Nat, q < s.heap.size → lab' q = 300 := fun q hq => (hlb q (Nat.lt_of_lt_of_le hq hS.1)).trans (hz0 q hq)
  have hPm1 := mW.kp hPm hML (fun q hq h1 h2 => hk1 q hq (fun h9 => by rcases h9 with h9 | h9 | h9 <;> first | omega | (rw [h9] at h2; omega)))
  have hOx := o_kp hO2 (fun hq => hk1 o2 hq (fun h9 => by rcases h9 with h9 | h9 | h9 <;> first | omega | (rw [h9] at ho2; omega)))
  refine lv_istore (lv' := [(6, .int (zI (if 0 ≤ (x1) ∧ (x1) < n ∧ 0 ≤ (x2) ∧ (x2) < τ (x1).toNat 0 then (if (0 ≤ (x3) ∧ (x3) ≤ 127) ∧ (1 ≤ (x4) ∧ (x4) ≤ 4) then 0 else 2) else 1))), (0, .ref b), (1, .ref ax), (2, .ref am), (3, .ref o1), (4, .ref o2), (5, .int (zI (i)))]) hx hb dL_law_269 hl (by decide) rfl (fun ls hl => ?_)
  refine lv_aload_n hx hb dL_law_271 rfl (lv_at hl 3 rfl) ?_
  refine lv_aload_n hx hb dL_law_272 rfl (lv_at hl 1 rfl) ?_
  refine lv_iload hx hb dL_law_273 (lv_at hl 6 rfl) ?_
  refine lv_iconst (v := zI (1)) hx hb dL_law_275 rfl ?_
  refine z_iadd hx hb dL_law_276 ?_
  refine z_sld hx hb hX hbl (Nat.not_le.mpr hbl) hS1 (i := i + 1) (x := x1) (by omega) (by omega) hv1 dL_law_277 ?_
  refine lv_aload_n hx hb dL_law_278 rfl (lv_at hl 1 rfl) ?_
  refine lv_iload hx hb dL_law_279 (lv_at hl 6 rfl) ?_
  refine lv_iconst (v := zI (2)) hx hb dL_law_281 rfl ?_
  refine z_iadd hx hb dL_law_282 ?_
  refine z_sld hx hb hX hbl (Nat.not_le.mpr hbl) hS1 (i := i + 2) (x := x2) (by omega) (by omega) hv2 dL_law_283 ?_
  refine lv_aload_n hx hb dL_law_284 rfl (lv_at hl 1 rfl) ?_
  refine lv_iload hx hb dL_law_285 (lv_at hl 6 rfl) ?_
  refine lv_iconst (v := zI (3)) hx hb dL_law_287 rfl ?_
  refine z_iadd hx hb dL_law_288 ?_
  refine z_sld hx hb hX hbl (Nat.not_le.mpr hbl) hS1 (i := i + 3) (x := x3) (by omega) (by omega) hv3 dL_law_289 ?_
  refine lv_aload_n hx hb dL_law_290 rfl (lv_at hl 1 rfl) ?_
  refine lv_iload hx hb dL_law_291 (lv_at hl 6 rfl) ?_
  refine lv_iconst (v := zI (4)) hx hb dL_law_293 rfl ?_
  refine z_iadd hx hb dL_law_294 ?_
  refine z_sld hx hb hX hbl (Nat.not_le.mpr hbl) hS1 (i := i + 4) (x := x4) (by omega) (by omega) hv4 dL_law_295 ?_
  have hAM : ∀ q : Nat, zA [am, h 0, h 1, h 2, h 3, h 4, h 5, h 6, h 7, h 8, h 9] q → s.heap.size ≤ q := fun q h9 => Nat.not_lt.mp (fun h8 => by have h7 := hz0n q h8; have h6 := hMLn.in h9; omega)
  refine z_callM (va_runV (As := [.int (zI (x1)), .int (zI (x2)), .int (zI (x3)), .int (zI (x4))]) (rest := []) ⟨hx, hb, hml, hown, hts⟩ (kX3_set l D G am th n m9 sp τ ζ h M hOK hM hMLn.nd (x1) (x2) (x3) (x4) hr1 hr2 hr3 hr4) (cwV 4 hts gL_law_X3_set rfl rfl rfl (by decide +kernel) ⟨Nat.le_of_ble_eq_true rfl, Nat.le_of_ble_eq_true rfl⟩) (zPreV (va_recv hK hPm1 (ci := 3) (q0 := 0) rfl rfl) hK hN (hPm1)) rfl rfl hl.1 rfl (lv_room (Nat.le_of_ble_eq_true rfl)) dL_law_296 ⟨z_rc (by omega), z_rs (by omega)⟩) hS1 (fun q _ h9 => hAM q h9) hAM (fun H2 locs2 hp2 hz2 hk2 hS2 => ?_)
  have hfr : ∀ q : Nat, q < H1.size → (lab' q < 100 ∨ 200 ≤ lab' q) → H2[q]? = H1[q]? := fun q hq hl8 => hk2 q hq (fun h9 => by have h6 := hMLn.in h9; omega)
  obtain ⟨M', hPm2, hMC, hMN⟩ := hp2
  have hfin := LI.fin (D := D) (G := G) (C := (0 ≤ (x1) ∧ (x1) < n ∧ 0 ≤ (x2) ∧ (x2) < τ (x1).toNat 0) ∧ ((0 ≤ (x3) ∧ (x3) ≤ 127) ∧ (1 ≤ (x4) ∧ (x4) ≤ 4))) (v := (zI (xC (τ (x1).toNat) (x2) 0)).toInt64) hOK (fun hC => hOK.up (xFs_ok (hOK.t (k := (x1)) (by omega)) (by omega) hC.2.1 hC.2.2)) hM hMC hMN hMLn ho1n ho2n hz0n hqC hqN ⟨f2, hOx⟩ hPm2 (fun hC => ⟨rfl, rfl, rfl⟩) (fun hC => ⟨rfl, rfl, rfl⟩) hfr
  obtain ⟨hI2, hval⟩ := hfin
  obtain ⟨lab2, n2, m2, sp2, τ2, ζ2, g2, cs2, ss2, M2, hOK2, hM2, hXL2, hML2, -, -, -, -, hPm3, -, -⟩ := id hI2
  refine lv_istore (lv' := [(7, .int (zI (if 0 ≤ (x1) ∧ (x1) < n ∧ 0 ≤ (x2) ∧ (x2) < τ (x1).toNat 0 then (if (0 ≤ (x3) ∧ (x3) ≤ 127) ∧ (1 ≤ (x4) ∧ (x4) ≤ 4) then (xC (τ (x1).toNat) (x2) 0) else 0) else 0))), (6, .int (zI (if 0 ≤ (x1) ∧ (x1) < n ∧ 0 ≤ (x2) ∧ (x2) < τ (x1).toNat 0 then (if (0 ≤ (x3) ∧ (x3) ≤ 127) ∧ (1 ≤ (x4) ∧ (x4) ≤ 4) then 0 else 2) else 1))), (0, .ref b), (1, .ref ax), (2, .ref am), (3, .ref o1), (4, .ref o2), (5, .int (zI (i)))]) hx hb dL_law_299 hl (by decide) rfl (fun ls hl => ?_)
  refine lv_aload_n hx hb dL_law_301 rfl (lv_at hl 4 rfl) ?_
  refine z_call (va_runV (As := []) (rest := []) ⟨hx, hb, hml, hown, hts⟩ (kX3_thrown l D G am (if 0 ≤ (x1) ∧ (x1) < n ∧ 0 ≤ (x2) ∧ (x2) < τ (x1).toNat 0 then (if (0 ≤ (x3) ∧ (x3) ≤ 127) ∧ (1 ≤ (x4) ∧ (x4) ≤ 4) then 0 else 2) else 1) n2 m2 sp2 τ2 ζ2 h M2 hOK2 hM2) (cwV 0 hts gL_law_X3_thrown rfl rfl rfl (by decide +kernel) ⟨Nat.le_of_ble_eq_true rfl, Nat.le_of_ble_eq_true rfl⟩) (zPreV (va_recv hK hPm3 (ci := 3) (q0 := 0) rfl rfl) hK hN (hPm3)) rfl rfl hl.1 rfl (lv_room (Nat.le_of_ble_eq_true rfl)) dL_law_302 ⟨z_rc (by omega), z_rs (by omega)⟩) ?_
  refine lv_iload hx hb dL_law_305 (lv_at hl 1 rfl) ?_
  refine lv_icmp_eq (tgt := 312) hx hb dL_law_307 (by decide) (fun _ => ?_) (fun c9 => absurd rfl c9)
  refine lv_iload hx hb dL_law_312 (lv_at hl 1 rfl) ?_
  refine lv_if_ne (tgt := 329) hx hb dL_law_314 (by decide) (fun _ => ?_) (fun c9 => ?_)
  · refine lv_goto (tgt := 1999) hx hb dL_law_329 (by decide) ?_
    refine W.widen (k := cells + 20) (n := slots + 3000) (by omega) (by omega) ?_
    exact kk _ _ _ _ hS2 hI2 (lv_sub hl [2, 3, 4, 5, 6, 7] rfl)
  · have hC := zK2 c9
    obtain ⟨f9, hf9, hPo9⟩ := hval hC
    refine lv_aload_n hx hb dL_law_317 rfl (lv_at hl 5 rfl) ?_
    refine lv_iconst (v := zI (0)) hx hb dL_law_318 rfl ?_
    refine z_lald (x := (zI (xC (τ (x1).toNat) (x2) 0)).toInt64) (D := D) hx hb hK hPo9 0 2 rfl rfl (by omega) (by omega) hf9 dL_law_319 ?_
    refine lv_iload hx hb dL_law_320 (lv_at hl 0 rfl) ?_
    refine lv_i2l (v := (zI (if 0 ≤ (x1) ∧ (x1) < n ∧ 0 ≤ (x2) ∧ (x2) < τ (x1).toNat 0 then (if (0 ≤ (x3) ∧ (x3) ≤ 127) ∧ (1 ≤ (x4) ∧ (x4) ≤ 4) then (xC (τ (x1).toNat) (x2) 0) else 0) else 0)).toInt64) hx hb dL_law_322 rfl ?_
    refine W.lcmp hx hb dL_law_323 ?_
    refine lv_if_eq (tgt := 329) hx hb dL_law_324 (by decide) (fun _ => ?_) (fun c8 => absurd (by rw [if_pos hC.1, if_pos hC.2]; exact z_cmp_self _) c8)
    refine lv_goto (tgt := 1999) hx hb dL_law_329 (by decide) ?_
    refine W.widen (k := cells + 20) (n := slots + 3000) (by omega) (by omega) ?_
    exact kk _ _ _ _ hS2 hI2 (lv_sub hl [2, 3, 4, 5, 6, 7] rfl)

set_option maxHeartbeats 4000000 in
set_option maxRecDepth 100000 in
theorem lc_2 (l : Launch) (hl9 : l.stackTraces = false) {p : Program} {e : Env} {s : State} {m : MethodId} {below : List Frame} {meth : Method} {c : Code} {H : Heap} {locs : List Loc} {cells slots : Nat} {Q : State → Prop} {D : va_G} {G : Nat → ClassId} {b L : Nat} {xs : Nat → Int32} {ax am o1 o2 : Nat} {h : Nat → Nat} {th : Int} {ls : Array Slot} (hx : p.tables.exec = Jvm.exec) (hb : c.code = cL_law) (hml : c.maxLocals = 9) (hown : s.vm.findClass RL = some m.cls) (hts : ∀ w ∈ wsL_law, w.before #[Value.ref b] s = true) (hK : va_K D vwCl (zTy G) s) (hN : zN s) (hT0 : zT s s.heap) (hX : va_X b L xs s s.heap) (hbl : b < s.heap.size) (hL9 : L ≤ 2560) (hce : cells + 20 ≤ 601024) (hsl : slots + 3000 ≤ 7293034) (hS : va_S (fun q => s.heap.size ≤ q) s.heap H locs) (hI : LI D G ax am o1 o2 s.heap.size h th H) (i : Int) (hi : 0 ≤ i ∧ i + 5 ≤ L) (x1 : Int) (hv1 : xs (i + 1).toNat = zI x1) (hr1 : -2147483648 ≤ x1 ∧ x1 ≤ 2147483647) (x2 : Int) (hv2 : xs (i + 2).toNat = zI x2) (hr2 : -2147483648 ≤ x2 ∧ x2 ≤ 2147483647) (x3 : Int) (hv3 : xs (i + 3).toNat = zI x3) (hr3 : -2147483648 ≤ x3 ∧ x3 ≤ 2147483647) (x4 : Int) (hv4 : xs (i + 4).toNat = zI x4) (hr4 : -2147483648 ≤ x4 ∧ x4 ≤ 2147483647) (hl : lv_has ls 9 [(0, .ref b), (1, .ref ax), (2, .ref am), (3, .ref o1), (4, .ref o2), (5, .int (zI (i)))]) (kk : ∀ (H1 : Heap) (locs1 : List Loc) (th1 : Int) (ls1 : Array Slot), va_S (fun q => s.heap.size ≤ q) s.heap H1 locs1 → LI D G ax am o1 o2 s.heap.size h th1 H1 → lv_has ls1 9 [(0, .ref b), (1, .ref ax), (2, .ref am), (3, .ref o1), (4, .ref o2), (5, .int (zI (i)))] → W p l e room_1 s m #[Value.ref b] below meth c H1 locs1 (cells + 20) (slots + 3000) Q (F0 m 1999 ls1 [])) : W p l e room_1 s m #[Value.ref b] below meth c H locs cells slots Q (F0 m 332 ls []) := by
  obtain ⟨lab, n, m9, sp, τ, ζ, g, cs, ss, M, hOK, hM, hXL, hML, ho1, ho2, hz0, hW, hPm, ⟨f1, hO1⟩, ⟨f2, hO2⟩⟩ := id hI
  refine lv_aload_n hx hb dL_law_332 rfl (lv_at hl 1 rfl) ?_
  refine lv_aload_n hx hb dL_law_333 rfl (lv_at hl 0 rfl) ?_
  refine lv_iload hx hb dL_law_334 (lv_at hl 5 rfl) ?_
  refine lv_iconst (v := zI (1)) hx hb dL_law_336 rfl ?_
  refine z_iadd hx hb dL_law_337 ?_
  refine z_sld hx hb hX hbl (Nat.not_le.mpr hbl) hS (i := i + 1) (x := x1) (by omega) (by omega) hv1 dL_law_338 ?_
  refine lv_aload_n hx hb dL_law_339 rfl (lv_at hl 0 rfl) ?_
  refine lv_iload hx hb dL_law_340 (lv_at hl 5 rfl) ?_
  refine lv_iconst (v := zI (2)) hx hb dL_law_342 rfl ?_
  refine z_iadd hx hb dL_law_343 ?_
  refine z_sld hx hb hX hbl (Nat.not_le.mpr hbl) hS (i := i + 2) (x := x2) (by omega) (by omega) hv2 dL_law_344 ?_
  refine lv_aload_n hx hb dL_law_345 rfl (lv_at hl 0 rfl) ?_
  refine lv_iload hx hb dL_law_346 (lv_at hl 5 rfl) ?_
  refine lv_iconst (v := zI (3)) hx hb dL_law_348 rfl ?_
  refine z_iadd hx hb dL_law_349 ?_
  refine z_sld hx hb hX hbl (Nat.not_le.mpr hbl) hS (i := i + 3) (x := x3) (by omega) (by omega) hv3 dL_law_350 ?_
  refine lv_aload_n hx hb dL_law_351 rfl (lv_at hl 0 rfl) ?_
  refine lv_iload hx hb dL_law_352 (lv_at hl 5 rfl) ?_
  refine lv_iconst (v := zI (4)) hx hb dL_law_354 rfl ?_
  refine z_iadd hx hb dL_law_355 ?_
  refine z_sld hx hb hX hbl (Nat.not_le.mpr hbl) hS (i := i + 4) (x := x4) (by omega) (by omega) hv4 dL_law_356 ?_
  refine lv_aload_n hx hb dL_law_357 rfl (lv_at hl 3 rfl) ?_
  have hAL : ∀ q : Nat, LA lab o1 H.size q → s.heap.size ≤ q := fun q h9 => Nat.not_lt.mp (fun h8 => by have h7 := hz0 q h8; have h6 := hS.1; rcases h9 with h9 | h9 | h9 <;> first | omega | (rw [h9] at h7; omega))
  refine z_callM (vx_runSW (As := [.ref ax, .int (zI (x1)), .int (zI (x2)), .int (zI (x3)), .int (zI (x4)), .ref o1]) (rest := []) ⟨hx, hb, hml, hown, hts⟩ (kL_setTurn l D G hl9 ax n m9 sp τ ζ g cs ss hOK lab hXL o1 H.size f1 (by omega) (x1) (x2) (x3) (x4) hr1 hr2 hr3 hr4) (vx_cwSW 6 hts gL_law_L_setTurn rfl rfl rfl (by decide +kernel) ⟨Nat.le_of_ble_eq_true rfl, Nat.le_of_ble_eq_true rfl⟩) (zPTreS hK hN (zT.kp hT0 hS) ⟨rfl, hW, hO1⟩) rfl rfl hl.1 rfl (lv_room (Nat.le_of_ble_eq_true rfl)) dL_law_358 ⟨z_rc (by omega), z_rs (by omega)⟩) hS (fun q _ h9 => hAL q h9) hAL (fun H1 locs1 hp1 hz1 hk1 hS1 => ?_)
  obtain ⟨g', lab', cs', ss', hqC, hqN, hlb⟩ := hp1
  have hMLn := hML.same hPm hlb
  have ho1n : lab' o1 = 200 := (hlb _ (o_lt hO1)).trans ho1
  have ho2n : lab' o2 = 201 := (hlb _ (o_lt hO2)).trans ho2
  have hz0n : ∀ q : Nat, q < s.heap.size → lab' q = 300 := fun q hq => (hlb q (Nat.lt_of_lt_of_le hq hS.1)).trans (hz0 q hq)
  have hPm1 := mW.kp hPm hML (fun q hq h1 h2 => hk1 q hq (fun h9 => by rcases h9 with h9 | h9 | h9 <;> first | omega | (rw [h9] at h2; omega)))
  have hOx := o_kp hO2 (fun hq => hk1 o2 hq (fun h9 => by rcases h9 with h9 | h9 | h9 <;> first | omega | (rw [h9] at ho2; omega)))
  refine lv_istore (lv' := [(6, .int (zI (if 0 ≤ (x1) ∧ (x1) < n ∧ 0 ≤ (x2) ∧ (x2) < τ (x1).toNat 0 then (if (1 ≤ (x4) ∧ (x4) ≤ 8) ∧ (0 ≤ (x3) ∧ (x3) ≤ (x4) - 1) then 0 else 2) else 1))), (0, .ref b), (1, .ref ax), (2, .ref am), (3, .ref o1), (4, .ref o2), (5, .int (zI (i)))]) hx hb dL_law_361 hl (by decide) rfl (fun ls hl => ?_)
  refine lv_aload_n hx hb dL_law_363 rfl (lv_at hl 3 rfl) ?_
  refine lv_aload_n hx hb dL_law_364 rfl (lv_at hl 1 rfl) ?_
  refine lv_iload hx hb dL_law_365 (lv_at hl 6 rfl) ?_
  refine lv_iconst (v := zI (1)) hx hb dL_law_367 rfl ?_
  refine z_iadd hx hb dL_law_368 ?_
  refine z_sld hx hb hX hbl (Nat.not_le.mpr hbl) hS1 (i := i + 1) (x := x1) (by omega) (by omega) hv1 dL_law_369 ?_
  refine lv_aload_n hx hb dL_law_370 rfl (lv_at hl 1 rfl) ?_
  refine lv_iload hx hb dL_law_371 (lv_at hl 6 rfl) ?_
  refine lv_iconst (v := zI (2)) hx hb dL_law_373 rfl ?_
  refine z_iadd hx hb dL_law_374 ?_
  refine z_sld hx hb hX hbl (Nat.not_le.mpr hbl) hS1 (i := i + 2) (x := x2) (by omega) (by omega) hv2 dL_law_375 ?_
  refine lv_aload_n hx hb dL_law_376 rfl (lv_at hl 1 rfl) ?_
  refine lv_iload hx hb dL_law_377 (lv_at hl 6 rfl) ?_
  refine lv_iconst (v := zI (3)) hx hb dL_law_379 rfl ?_
  refine z_iadd hx hb dL_law_380 ?_
  refine z_sld hx hb hX hbl (Nat.not_le.mpr hbl) hS1 (i := i + 3) (x := x3) (by omega) (by omega) hv3 dL_law_381 ?_
  refine lv_aload_n hx hb dL_law_382 rfl (lv_at hl 1 rfl) ?_
  refine lv_iload hx hb dL_law_383 (lv_at hl 6 rfl) ?_
  refine lv_iconst (v := zI (4)) hx hb dL_law_385 rfl ?_
  refine z_iadd hx hb dL_law_386 ?_
  refine z_sld hx hb hX hbl (Nat.not_le.mpr hbl) hS1 (i := i + 4) (x := x4) (by omega) (by omega) hv4 dL_law_387 ?_
  have hAM : ∀ q : Nat, zA [am, h 0, h 1, h 2, h 3, h 4, h 5, h 6, h 7, h 8, h 9] q → s.heap.size ≤ q := fun q h9 => Nat.not_lt.mp (fun h8 => by have h7 := hz0n q h8; have h6 := hMLn.in h9; omega)
  refine z_callM (va_runV (As := [.int (zI (x1)), .int (zI (x2)), .int (zI (x3)), .int (zI (x4))]) (rest := []) ⟨hx, hb, hml, hown, hts⟩ (kX3_setTurn l D G am th n m9 sp τ ζ h M hOK hM hMLn.nd (x1) (x2) (x3) (x4) hr1 hr2 hr3 hr4) (cwV 4 hts gL_law_X3_setTurn rfl rfl rfl (by decide +kernel) ⟨Nat.le_of_ble_eq_true rfl, Nat.le_of_ble_eq_true rfl⟩) (zPreV (va_recv hK hPm1 (ci := 3) (q0 := 0) rfl rfl) hK hN (hPm1)) rfl rfl hl.1 rfl (lv_room (Nat.le_of_ble_eq_true rfl)) dL_law_388 ⟨z_rc (by omega), z_rs (by omega)⟩) hS1 (fun q _ h9 => hAM q h9) hAM (fun H2 locs2 hp2 hz2 hk2 hS2 => ?_)
  have hfr : ∀ q : Nat, q < H1.size → (lab' q < 100 ∨ 200 ≤ lab' q) → H2[q]? = H1[q]? := fun q hq hl8 => hk2 q hq (fun h9 => by have h6 := hMLn.in h9; omega)
  obtain ⟨M', hPm2, hMC, hMN⟩ := hp2
  have hfin := LI.fin (D := D) (G := G) (C := (0 ≤ (x1) ∧ (x1) < n ∧ 0 ≤ (x2) ∧ (x2) < τ (x1).toNat 0) ∧ ((1 ≤ (x4) ∧ (x4) ≤ 8) ∧ (0 ≤ (x3) ∧ (x3) ≤ (x4) - 1))) (v := (zI (xC (τ (x1).toNat) (x2) 3)).toInt64) hOK (fun hC => hOK.up (xFt_ok (hOK.t (k := (x1)) (by omega)) (by omega) hC.2.1 hC.2.2)) hM hMC hMN hMLn ho1n ho2n hz0n hqC hqN ⟨f2, hOx⟩ hPm2 (fun hC => ⟨rfl, rfl, rfl⟩) (fun hC => ⟨rfl, rfl, rfl⟩) hfr
  obtain ⟨hI2, hval⟩ := hfin
  obtain ⟨lab2, n2, m2, sp2, τ2, ζ2, g2, cs2, ss2, M2, hOK2, hM2, hXL2, hML2, -, -, -, -, hPm3, -, -⟩ := id hI2
  refine lv_istore (lv' := [(7, .int (zI (if 0 ≤ (x1) ∧ (x1) < n ∧ 0 ≤ (x2) ∧ (x2) < τ (x1).toNat 0 then (if (1 ≤ (x4) ∧ (x4) ≤ 8) ∧ (0 ≤ (x3) ∧ (x3) ≤ (x4) - 1) then (xC (τ (x1).toNat) (x2) 3) else 0) else 0))), (6, .int (zI (if 0 ≤ (x1) ∧ (x1) < n ∧ 0 ≤ (x2) ∧ (x2) < τ (x1).toNat 0 then (if (1 ≤ (x4) ∧ (x4) ≤ 8) ∧ (0 ≤ (x3) ∧ (x3) ≤ (x4) - 1) then 0 else 2) else 1))), (0, .ref b), (1, .ref ax), (2, .ref am), (3, .ref o1), (4, .ref o2), (5, .int (zI (i)))]) hx hb dL_law_391 hl (by decide) rfl (fun ls hl => ?_)
  refine lv_aload_n hx hb dL_law_393 rfl (lv_at hl 4 rfl) ?_
  refine z_call (va_runV (As := []) (rest := []) ⟨hx, hb, hml, hown, hts⟩ (kX3_thrown l D G am (if 0 ≤ (x1) ∧ (x1) < n ∧ 0 ≤ (x2) ∧ (x2) < τ (x1).toNat 0 then (if (1 ≤ (x4) ∧ (x4) ≤ 8) ∧ (0 ≤ (x3) ∧ (x3) ≤ (x4) - 1) then 0 else 2) else 1) n2 m2 sp2 τ2 ζ2 h M2 hOK2 hM2) (cwV 0 hts gL_law_X3_thrown rfl rfl rfl (by decide +kernel) ⟨Nat.le_of_ble_eq_true rfl, Nat.le_of_ble_eq_true rfl⟩) (zPreV (va_recv hK hPm3 (ci := 3) (q0 := 0) rfl rfl) hK hN (hPm3)) rfl rfl hl.1 rfl (lv_room (Nat.le_of_ble_eq_true rfl)) dL_law_394 ⟨z_rc (by omega), z_rs (by omega)⟩) ?_
  refine lv_iload hx hb dL_law_397 (lv_at hl 1 rfl) ?_
  refine lv_icmp_eq (tgt := 404) hx hb dL_law_399 (by decide) (fun _ => ?_) (fun c9 => absurd rfl c9)
  refine lv_iload hx hb dL_law_404 (lv_at hl 1 rfl) ?_
  refine lv_if_ne (tgt := 421) hx hb dL_law_406 (by decide) (fun _ => ?_) (fun c9 => ?_)
  · refine lv_goto (tgt := 1999) hx hb dL_law_421 (by decide) ?_
    refine W.widen (k := cells + 20) (n := slots + 3000) (by omega) (by omega) ?_
    exact kk _ _ _ _ hS2 hI2 (lv_sub hl [2, 3, 4, 5, 6, 7] rfl)
  · have hC := zK2 c9
    obtain ⟨f9, hf9, hPo9⟩ := hval hC
    refine lv_aload_n hx hb dL_law_409 rfl (lv_at hl 5 rfl) ?_
    refine lv_iconst (v := zI (0)) hx hb dL_law_410 rfl ?_
    refine z_lald (x := (zI (xC (τ (x1).toNat) (x2) 3)).toInt64) (D := D) hx hb hK hPo9 0 2 rfl rfl (by omega) (by omega) hf9 dL_law_411 ?_
    refine lv_iload hx hb dL_law_412 (lv_at hl 0 rfl) ?_
    refine lv_i2l (v := (zI (if 0 ≤ (x1) ∧ (x1) < n ∧ 0 ≤ (x2) ∧ (x2) < τ (x1).toNat 0 then (if (1 ≤ (x4) ∧ (x4) ≤ 8) ∧ (0 ≤ (x3) ∧ (x3) ≤ (x4) - 1) then (xC (τ (x1).toNat) (x2) 3) else 0) else 0)).toInt64) hx hb dL_law_414 rfl ?_
    refine W.lcmp hx hb dL_law_415 ?_
    refine lv_if_eq (tgt := 421) hx hb dL_law_416 (by decide) (fun _ => ?_) (fun c8 => absurd (by rw [if_pos hC.1, if_pos hC.2]; exact z_cmp_self _) c8)
    refine lv_goto (tgt := 1999) hx hb dL_law_421 (by decide) ?_
    refine W.widen (k := cells + 20) (n := slots + 3000) (by omega) (by omega) ?_
    exact kk _ _ _ _ hS2 hI2 (lv_sub hl [2, 3, 4, 5, 6, 7] rfl)

set_option maxHeartbeats 4000000 in
set_option maxRecDepth 100000 in
theorem lc_3 (l : Launch) (hl9 : l.stackTraces = false) {p : Program} {e : Env} {s : State} {m : MethodId} {below : List Frame} {meth : Method} {c : Code} {H : Heap} {locs : List Loc} {cells slots : Nat} {Q : State → Prop} {D : va_G} {G : Nat → ClassId} {b L : Nat} {xs : Nat → Int32} {ax am o1 o2 : Nat} {h : Nat → Nat} {th : Int} {ls : Array Slot} (hx : p.tables.exec = Jvm.exec) (hb : c.code = cL_law) (hml : c.maxLocals = 9) (hown : s.vm.findClass RL = some m.cls) (hts : ∀ w ∈ wsL_law, w.before #[Value.ref b] s = true) (hK : va_K D vwCl (zTy G) s) (hN : zN s) (hT0 : zT s s.heap) (hX : va_X b L xs s s.heap) (hbl : b < s.heap.size) (hL9 : L ≤ 2560) (hce : cells + 20 ≤ 601024) (hsl : slots + 3000 ≤ 7293034) (hS : va_S (fun q => s.heap.size ≤ q) s.heap H locs) (hI : LI D G ax am o1 o2 s.heap.size h th H) (i : Int) (hi : 0 ≤ i ∧ i + 5 ≤ L) (x1 : Int) (hv1 : xs (i + 1).toNat = zI x1) (hr1 : -2147483648 ≤ x1 ∧ x1 ≤ 2147483647) (x2 : Int) (hv2 : xs (i + 2).toNat = zI x2) (hr2 : -2147483648 ≤ x2 ∧ x2 ≤ 2147483647) (x3 : Int) (hv3 : xs (i + 3).toNat = zI x3) (hr3 : -2147483648 ≤ x3 ∧ x3 ≤ 2147483647) (x4 : Int) (hv4 : xs (i + 4).toNat = zI x4) (hr4 : -2147483648 ≤ x4 ∧ x4 ≤ 2147483647) (hl : lv_has ls 9 [(0, .ref b), (1, .ref ax), (2, .ref am), (3, .ref o1), (4, .ref o2), (5, .int (zI (i)))]) (kk : ∀ (H1 : Heap) (locs1 : List Loc) (th1 : Int) (ls1 : Array Slot), va_S (fun q => s.heap.size ≤ q) s.heap H1 locs1 → LI D G ax am o1 o2 s.heap.size h th1 H1 → lv_has ls1 9 [(0, .ref b), (1, .ref ax), (2, .ref am), (3, .ref o1), (4, .ref o2), (5, .int (zI (i)))] → W p l e room_1 s m #[Value.ref b] below meth c H1 locs1 (cells + 20) (slots + 3000) Q (F0 m 1999 ls1 [])) : W p l e room_1 s m #[Value.ref b] below meth c H locs cells slots Q (F0 m 424 ls []) := by
  obtain ⟨lab, n, m9, sp, τ, ζ, g, cs, ss, M, hOK, hM, hXL, hML, ho1, ho2, hz0, hW, hPm, ⟨f1, hO1⟩, ⟨f2, hO2⟩⟩ := id hI
  refine lv_aload_n hx hb dL_law_424 rfl (lv_at hl 1 rfl) ?_
  refine lv_aload_n hx hb dL_law_425 rfl (lv_at hl 0 rfl) ?_
  refine lv_iload hx hb dL_law_426 (lv_at hl 5 rfl) ?_
  refine lv_iconst (v := zI (1)) hx hb dL_law_428 rfl ?_
  refine z_iadd hx hb dL_law_429 ?_
  refine z_sld hx hb hX hbl (Nat.not_le.mpr hbl) hS (i := i + 1) (x := x1) (by omega) (by omega) hv1 dL_law_430 ?_
  refine lv_aload_n hx hb dL_law_431 rfl (lv_at hl 0 rfl) ?_
  refine lv_iload hx hb dL_law_432 (lv_at hl 5 rfl) ?_
  refine lv_iconst (v := zI (2)) hx hb dL_law_434 rfl ?_
  refine z_iadd hx hb dL_law_435 ?_
  refine z_sld hx hb hX hbl (Nat.not_le.mpr hbl) hS (i := i + 2) (x := x2) (by omega) (by omega) hv2 dL_law_436 ?_
  refine lv_aload_n hx hb dL_law_437 rfl (lv_at hl 0 rfl) ?_
  refine lv_iload hx hb dL_law_438 (lv_at hl 5 rfl) ?_
  refine lv_iconst (v := zI (3)) hx hb dL_law_440 rfl ?_
  refine z_iadd hx hb dL_law_441 ?_
  refine z_sld hx hb hX hbl (Nat.not_le.mpr hbl) hS (i := i + 3) (x := x3) (by omega) (by omega) hv3 dL_law_442 ?_
  refine lv_aload_n hx hb dL_law_443 rfl (lv_at hl 3 rfl) ?_
  have hAL : ∀ q : Nat, LA lab o1 H.size q → s.heap.size ≤ q := fun q h9 => Nat.not_lt.mp (fun h8 => by have h7 := hz0 q h8; have h6 := hS.1; rcases h9 with h9 | h9 | h9 <;> first | omega | (rw [h9] at h7; omega))
  refine z_callM (vx_runSW (As := [.ref ax, .int (zI (x1)), .int (zI (x2)), .int (zI (x3)), .ref o1]) (rest := []) ⟨hx, hb, hml, hown, hts⟩ (kL_step l D G hl9 ax n m9 sp τ ζ g cs ss hOK lab hXL o1 H.size f1 (by omega) (x1) (x2) (x3) hr1 hr2 hr3) (vx_cwSW 5 hts gL_law_L_step rfl rfl rfl (by decide +kernel) ⟨Nat.le_of_ble_eq_true rfl, Nat.le_of_ble_eq_true rfl⟩) (zPTreS hK hN (zT.kp hT0 hS) ⟨rfl, hW, hO1⟩) rfl rfl hl.1 rfl (lv_room (Nat.le_of_ble_eq_true rfl)) dL_law_444 ⟨z_rc (by omega), z_rs (by omega)⟩) hS (fun q _ h9 => hAL q h9) hAL (fun H1 locs1 hp1 hz1 hk1 hS1 => ?_)
  obtain ⟨g', lab', cs', ss', hqC, hqN, hlb⟩ := hp1
  have hMLn := hML.same hPm hlb
  have ho1n : lab' o1 = 200 := (hlb _ (o_lt hO1)).trans ho1
  have ho2n : lab' o2 = 201 := (hlb _ (o_lt hO2)).trans ho2
  have hz0n : ∀ q : Nat, q < s.heap.size → lab' q = 300 := fun q hq => (hlb q (Nat.lt_of_lt_of_le hq hS.1)).trans (hz0 q hq)
  have hPm1 := mW.kp hPm hML (fun q hq h1 h2 => hk1 q hq (fun h9 => by rcases h9 with h9 | h9 | h9 <;> first | omega | (rw [h9] at h2; omega)))
  have hOx := o_kp hO2 (fun hq => hk1 o2 hq (fun h9 => by rcases h9 with h9 | h9 | h9 <;> first | omega | (rw [h9] at ho2; omega)))
  refine lv_istore (lv' := [(6, .int (zI (if 0 ≤ (x1) ∧ (x1) < n ∧ 0 ≤ (x2) ∧ (x2) < τ (x1).toNat 0 ∧ 0 ≤ (x3) ∧ (x3) ≤ 4 then 0 else 1))), (0, .ref b), (1, .ref ax), (2, .ref am), (3, .ref o1), (4, .ref o2), (5, .int (zI (i)))]) hx hb dL_law_447 hl (by decide) rfl (fun ls hl => ?_)
  refine lv_aload_n hx hb dL_law_449 rfl (lv_at hl 3 rfl) ?_
  refine lv_aload_n hx hb dL_law_450 rfl (lv_at hl 1 rfl) ?_
  refine lv_iload hx hb dL_law_451 (lv_at hl 6 rfl) ?_
  refine lv_iconst (v := zI (1)) hx hb dL_law_453 rfl ?_
  refine z_iadd hx hb dL_law_454 ?_
  refine z_sld hx hb hX hbl (Nat.not_le.mpr hbl) hS1 (i := i + 1) (x := x1) (by omega) (by omega) hv1 dL_law_455 ?_
  refine lv_aload_n hx hb dL_law_456 rfl (lv_at hl 1 rfl) ?_
  refine lv_iload hx hb dL_law_457 (lv_at hl 6 rfl) ?_
  refine lv_iconst (v := zI (2)) hx hb dL_law_459 rfl ?_
  refine z_iadd hx hb dL_law_460 ?_
  refine z_sld hx hb hX hbl (Nat.not_le.mpr hbl) hS1 (i := i + 2) (x := x2) (by omega) (by omega) hv2 dL_law_461 ?_
  refine lv_aload_n hx hb dL_law_462 rfl (lv_at hl 1 rfl) ?_
  refine lv_iload hx hb dL_law_463 (lv_at hl 6 rfl) ?_
  refine lv_iconst (v := zI (3)) hx hb dL_law_465 rfl ?_
  refine z_iadd hx hb dL_law_466 ?_
  refine z_sld hx hb hX hbl (Nat.not_le.mpr hbl) hS1 (i := i + 3) (x := x3) (by omega) (by omega) hv3 dL_law_467 ?_
  have hAM : ∀ q : Nat, zA [am, h 0, h 1, h 2, h 3, h 4, h 5, h 6, h 7, h 8, h 9] q → s.heap.size ≤ q := fun q h9 => Nat.not_lt.mp (fun h8 => by have h7 := hz0n q h8; have h6 := hMLn.in h9; omega)
  refine z_callM (va_runV (As := [.int (zI (x1)), .int (zI (x2)), .int (zI (x3))]) (rest := []) ⟨hx, hb, hml, hown, hts⟩ (kX3_step l D G am th n m9 sp τ ζ h M hOK hM hMLn.nd (x1) (x2) (x3) hr1 hr2 hr3) (cwV 3 hts gL_law_X3_step rfl rfl rfl (by decide +kernel) ⟨Nat.le_of_ble_eq_true rfl, Nat.le_of_ble_eq_true rfl⟩) (zPreV (va_recv hK hPm1 (ci := 3) (q0 := 0) rfl rfl) hK hN (hPm1)) rfl rfl hl.1 rfl (lv_room (Nat.le_of_ble_eq_true rfl)) dL_law_468 ⟨z_rc (by omega), z_rs (by omega)⟩) hS1 (fun q _ h9 => hAM q h9) hAM (fun H2 locs2 hp2 hz2 hk2 hS2 => ?_)
  have hfr : ∀ q : Nat, q < H1.size → (lab' q < 100 ∨ 200 ≤ lab' q) → H2[q]? = H1[q]? := fun q hq hl8 => hk2 q hq (fun h9 => by have h6 := hMLn.in h9; omega)
  have hPm2 := hp2
  have hMC : (0 ≤ (x1) ∧ (x1) < n ∧ 0 ≤ (x2) ∧ (x2) < τ (x1).toNat 0 ∧ 0 ≤ (x3) ∧ (x3) ≤ 4) → MR (n) (m9) (τ) (ζ) M := fun _ => hM
  have hMN : ¬ (0 ≤ (x1) ∧ (x1) < n ∧ 0 ≤ (x2) ∧ (x2) < τ (x1).toNat 0 ∧ 0 ≤ (x3) ∧ (x3) ≤ 4) → M = M := fun _ => rfl
  have hfin := LI.fin (D := D) (G := G) (C := 0 ≤ (x1) ∧ (x1) < n ∧ 0 ≤ (x2) ∧ (x2) < τ (x1).toNat 0 ∧ 0 ≤ (x3) ∧ (x3) ≤ 4) (v := (zI (if (x3) = 4 then xDelay (τ (x1).toNat) (x2) else xC (τ (x1).toNat) (x2) (x3))).toInt64) hOK (fun hC => hOK) hM hMC hMN hMLn ho1n ho2n hz0n hqC hqN ⟨f2, hOx⟩ hPm2 (fun hC => ⟨rfl, rfl, rfl⟩) (fun hC => ⟨rfl, rfl, rfl⟩) hfr
  obtain ⟨hI2, hval⟩ := hfin
  obtain ⟨lab2, n2, m2, sp2, τ2, ζ2, g2, cs2, ss2, M2, hOK2, hM2, hXL2, hML2, -, -, -, -, hPm3, -, -⟩ := id hI2
  refine lv_istore (lv' := [(7, .int (zI (if 0 ≤ (x1) ∧ (x1) < n ∧ 0 ≤ (x2) ∧ (x2) < τ (x1).toNat 0 ∧ 0 ≤ (x3) ∧ (x3) ≤ 4 then (if (x3) = 4 then xDelay (τ (x1).toNat) (x2) else xC (τ (x1).toNat) (x2) (x3)) else 0))), (6, .int (zI (if 0 ≤ (x1) ∧ (x1) < n ∧ 0 ≤ (x2) ∧ (x2) < τ (x1).toNat 0 ∧ 0 ≤ (x3) ∧ (x3) ≤ 4 then 0 else 1))), (0, .ref b), (1, .ref ax), (2, .ref am), (3, .ref o1), (4, .ref o2), (5, .int (zI (i)))]) hx hb dL_law_471 hl (by decide) rfl (fun ls hl => ?_)
  refine lv_aload_n hx hb dL_law_473 rfl (lv_at hl 4 rfl) ?_
  refine z_call (va_runV (As := []) (rest := []) ⟨hx, hb, hml, hown, hts⟩ (kX3_thrown l D G am (if 0 ≤ (x1) ∧ (x1) < n ∧ 0 ≤ (x2) ∧ (x2) < τ (x1).toNat 0 ∧ 0 ≤ (x3) ∧ (x3) ≤ 4 then 0 else 1) n2 m2 sp2 τ2 ζ2 h M2 hOK2 hM2) (cwV 0 hts gL_law_X3_thrown rfl rfl rfl (by decide +kernel) ⟨Nat.le_of_ble_eq_true rfl, Nat.le_of_ble_eq_true rfl⟩) (zPreV (va_recv hK hPm3 (ci := 3) (q0 := 0) rfl rfl) hK hN (hPm3)) rfl rfl hl.1 rfl (lv_room (Nat.le_of_ble_eq_true rfl)) dL_law_474 ⟨z_rc (by omega), z_rs (by omega)⟩) ?_
  refine lv_iload hx hb dL_law_477 (lv_at hl 1 rfl) ?_
  refine lv_icmp_eq (tgt := 484) hx hb dL_law_479 (by decide) (fun _ => ?_) (fun c9 => absurd rfl c9)
  refine lv_iload hx hb dL_law_484 (lv_at hl 1 rfl) ?_
  refine lv_if_ne (tgt := 501) hx hb dL_law_486 (by decide) (fun _ => ?_) (fun c9 => ?_)
  · refine lv_goto (tgt := 1999) hx hb dL_law_501 (by decide) ?_
    refine W.widen (k := cells + 20) (n := slots + 3000) (by omega) (by omega) ?_
    exact kk _ _ _ _ hS2 hI2 (lv_sub hl [2, 3, 4, 5, 6, 7] rfl)
  · have hC := zK1 c9
    obtain ⟨f9, hf9, hPo9⟩ := hval hC
    refine lv_aload_n hx hb dL_law_489 rfl (lv_at hl 5 rfl) ?_
    refine lv_iconst (v := zI (0)) hx hb dL_law_490 rfl ?_
    refine z_lald (x := (zI (if (x3) = 4 then xDelay (τ (x1).toNat) (x2) else xC (τ (x1).toNat) (x2) (x3))).toInt64) (D := D) hx hb hK hPo9 0 2 rfl rfl (by omega) (by omega) hf9 dL_law_491 ?_
    refine lv_iload hx hb dL_law_492 (lv_at hl 0 rfl) ?_
    refine lv_i2l (v := (zI (if 0 ≤ (x1) ∧ (x1) < n ∧ 0 ≤ (x2) ∧ (x2) < τ (x1).toNat 0 ∧ 0 ≤ (x3) ∧ (x3) ≤ 4 then (if (x3) = 4 then xDelay (τ (x1).toNat) (x2) else xC (τ (x1).toNat) (x2) (x3)) else 0)).toInt64) hx hb dL_law_494 rfl ?_
    refine W.lcmp hx hb dL_law_495 ?_
    refine lv_if_eq (tgt := 501) hx hb dL_law_496 (by decide) (fun _ => ?_) (fun c8 => absurd (by rw [if_pos hC]; exact z_cmp_self _) c8)
    refine lv_goto (tgt := 1999) hx hb dL_law_501 (by decide) ?_
    refine W.widen (k := cells + 20) (n := slots + 3000) (by omega) (by omega) ?_
    exact kk _ _ _ _ hS2 hI2 (lv_sub hl [2, 3, 4, 5, 6, 7] rfl)

set_option maxHeartbeats 4000000 in
set_option maxRecDepth 100000 in
theorem lc_4 (l : Launch) (hl9 : l.stackTraces = false) {p : Program} {e : Env} {s : State} {m : MethodId} {below : List Frame} {meth : Method} {c : Code} {H : Heap} {locs : List Loc} {cells slots : Nat} {Q : State → Prop} {D : va_G} {G : Nat → ClassId} {b L : Nat} {xs : Nat → Int32} {ax am o1 o2 : Nat} {h : Nat → Nat} {th : Int} {ls : Array Slot} (hx : p.tables.exec = Jvm.exec) (hb : c.code = cL_law) (hml : c.maxLocals = 9) (hown : s.vm.findClass RL = some m.cls) (hts : ∀ w ∈ wsL_law, w.before #[Value.ref b] s = true) (hK : va_K D vwCl (zTy G) s) (hN : zN s) (hT0 : zT s s.heap) (hX : va_X b L xs s s.heap) (hbl : b < s.heap.size) (hL9 : L ≤ 2560) (hce : cells + 20 ≤ 601024) (hsl : slots + 3000 ≤ 7293034) (hS : va_S (fun q => s.heap.size ≤ q) s.heap H locs) (hI : LI D G ax am o1 o2 s.heap.size h th H) (i : Int) (hi : 0 ≤ i ∧ i + 5 ≤ L) (x1 : Int) (hv1 : xs (i + 1).toNat = zI x1) (hr1 : -2147483648 ≤ x1 ∧ x1 ≤ 2147483647) (x2 : Int) (hv2 : xs (i + 2).toNat = zI x2) (hr2 : -2147483648 ≤ x2 ∧ x2 ≤ 2147483647) (x3 : Int) (hv3 : xs (i + 3).toNat = zI x3) (hr3 : -2147483648 ≤ x3 ∧ x3 ≤ 2147483647) (x4 : Int) (hv4 : xs (i + 4).toNat = zI x4) (hr4 : -2147483648 ≤ x4 ∧ x4 ≤ 2147483647) (hl : lv_has ls 9 [(0, .ref b), (1, .ref ax), (2, .ref am), (3, .ref o1), (4, .ref o2), (5, .int (zI (i)))]) (kk : ∀ (H1 : Heap) (locs1 : List Loc) (th1 : Int) (ls1 : Array Slot), va_S (fun q => s.heap.size ≤ q) s.heap H1 locs1 → LI D G ax am o1 o2 s.heap.size h th1 H1 → lv_has ls1 9 [(0, .ref b), (1, .ref ax), (2, .ref am), (3, .ref o1), (4, .ref o2), (5, .int (zI (i)))] → W p l e room_1 s m #[Value.ref b] below meth c H1 locs1 (cells + 20) (slots + 3000) Q (F0 m 1999 ls1 [])) : W p l e room_1 s m #[Value.ref b] below meth c H locs cells slots Q (F0 m 504 ls []) := by
  obtain ⟨lab, n, m9, sp, τ, ζ, g, cs, ss, M, hOK, hM, hXL, hML, ho1, ho2, hz0, hW, hPm, ⟨f1, hO1⟩, ⟨f2, hO2⟩⟩ := id hI
  refine lv_aload_n hx hb dL_law_504 rfl (lv_at hl 1 rfl) ?_
  refine lv_aload_n hx hb dL_law_505 rfl (lv_at hl 0 rfl) ?_
  refine lv_iload hx hb dL_law_506 (lv_at hl 5 rfl) ?_
  refine lv_iconst (v := zI (1)) hx hb dL_law_508 rfl ?_
  refine z_iadd hx hb dL_law_509 ?_
  refine z_sld hx hb hX hbl (Nat.not_le.mpr hbl) hS (i := i + 1) (x := x1) (by omega) (by omega) hv1 dL_law_510 ?_
  refine lv_aload_n hx hb dL_law_511 rfl (lv_at hl 0 rfl) ?_
  refine lv_iload hx hb dL_law_512 (lv_at hl 5 rfl) ?_
  refine lv_iconst (v := zI (2)) hx hb dL_law_514 rfl ?_
  refine z_iadd hx hb dL_law_515 ?_
  refine z_sld hx hb hX hbl (Nat.not_le.mpr hbl) hS (i := i + 2) (x := x2) (by omega) (by omega) hv2 dL_law_516 ?_
  refine lv_aload_n hx hb dL_law_517 rfl (lv_at hl 3 rfl) ?_
  have hAL : ∀ q : Nat, LA lab o1 H.size q → s.heap.size ≤ q := fun q h9 => Nat.not_lt.mp (fun h8 => by have h7 := hz0 q h8; have h6 := hS.1; rcases h9 with h9 | h9 | h9 <;> first | omega | (rw [h9] at h7; omega))
  refine z_callM (vx_runSW (As := [.ref ax, .int (zI (x1)), .int (zI (x2)), .ref o1]) (rest := []) ⟨hx, hb, hml, hown, hts⟩ (kL_track l D G hl9 ax n m9 sp τ ζ g cs ss hOK lab hXL o1 H.size f1 (by omega) (x1) (x2) hr1 hr2) (vx_cwSW 4 hts gL_law_L_track rfl rfl rfl (by decide +kernel) ⟨Nat.le_of_ble_eq_true rfl, Nat.le_of_ble_eq_true rfl⟩) (zPTreS hK hN (zT.kp hT0 hS) ⟨rfl, hW, hO1⟩) rfl rfl hl.1 rfl (lv_room (Nat.le_of_ble_eq_true rfl)) dL_law_518 ⟨z_rc (by omega), z_rs (by omega)⟩) hS (fun q _ h9 => hAL q h9) hAL (fun H1 locs1 hp1 hz1 hk1 hS1 => ?_)
  obtain ⟨g', lab', cs', ss', hqC, hqN, hlb⟩ := hp1
  have hMLn := hML.same hPm hlb
  have ho1n : lab' o1 = 200 := (hlb _ (o_lt hO1)).trans ho1
  have ho2n : lab' o2 = 201 := (hlb _ (o_lt hO2)).trans ho2
  have hz0n : ∀ q : Nat, q < s.heap.size → lab' q = 300 := fun q hq => (hlb q (Nat.lt_of_lt_of_le hq hS.1)).trans (hz0 q hq)
  have hPm1 := mW.kp hPm hML (fun q hq h1 h2 => hk1 q hq (fun h9 => by rcases h9 with h9 | h9 | h9 <;> first | omega | (rw [h9] at h2; omega)))
  have hOx := o_kp hO2 (fun hq => hk1 o2 hq (fun h9 => by rcases h9 with h9 | h9 | h9 <;> first | omega | (rw [h9] at ho2; omega)))
  refine lv_istore (lv' := [(6, .int (zI (if 0 ≤ (x1) ∧ (x1) < n ∧ 0 ≤ (x2) ∧ (x2) ≤ 7 then 0 else 1))), (0, .ref b), (1, .ref ax), (2, .ref am), (3, .ref o1), (4, .ref o2), (5, .int (zI (i)))]) hx hb dL_law_521 hl (by decide) rfl (fun ls hl => ?_)
  refine lv_aload_n hx hb dL_law_523 rfl (lv_at hl 3 rfl) ?_
  refine lv_aload_n hx hb dL_law_524 rfl (lv_at hl 1 rfl) ?_
  refine lv_iload hx hb dL_law_525 (lv_at hl 6 rfl) ?_
  refine lv_iconst (v := zI (1)) hx hb dL_law_527 rfl ?_
  refine z_iadd hx hb dL_law_528 ?_
  refine z_sld hx hb hX hbl (Nat.not_le.mpr hbl) hS1 (i := i + 1) (x := x1) (by omega) (by omega) hv1 dL_law_529 ?_
  refine lv_aload_n hx hb dL_law_530 rfl (lv_at hl 1 rfl) ?_
  refine lv_iload hx hb dL_law_531 (lv_at hl 6 rfl) ?_
  refine lv_iconst (v := zI (2)) hx hb dL_law_533 rfl ?_
  refine z_iadd hx hb dL_law_534 ?_
  refine z_sld hx hb hX hbl (Nat.not_le.mpr hbl) hS1 (i := i + 2) (x := x2) (by omega) (by omega) hv2 dL_law_535 ?_
  have hAM : ∀ q : Nat, zA [am, h 0, h 1, h 2, h 3, h 4, h 5, h 6, h 7, h 8, h 9] q → s.heap.size ≤ q := fun q h9 => Nat.not_lt.mp (fun h8 => by have h7 := hz0n q h8; have h6 := hMLn.in h9; omega)
  refine z_callM (va_runV (As := [.int (zI (x1)), .int (zI (x2))]) (rest := []) ⟨hx, hb, hml, hown, hts⟩ (kX3_track l D G am th n m9 sp τ ζ h M hOK hM hMLn.nd (x1) (x2) hr1 hr2) (cwV 2 hts gL_law_X3_track rfl rfl rfl (by decide +kernel) ⟨Nat.le_of_ble_eq_true rfl, Nat.le_of_ble_eq_true rfl⟩) (zPreV (va_recv hK hPm1 (ci := 3) (q0 := 0) rfl rfl) hK hN (hPm1)) rfl rfl hl.1 rfl (lv_room (Nat.le_of_ble_eq_true rfl)) dL_law_536 ⟨z_rc (by omega), z_rs (by omega)⟩) hS1 (fun q _ h9 => hAM q h9) hAM (fun H2 locs2 hp2 hz2 hk2 hS2 => ?_)
  have hfr : ∀ q : Nat, q < H1.size → (lab' q < 100 ∨ 200 ≤ lab' q) → H2[q]? = H1[q]? := fun q hq hl8 => hk2 q hq (fun h9 => by have h6 := hMLn.in h9; omega)
  have hPm2 := hp2
  have hMC : (0 ≤ (x1) ∧ (x1) < n ∧ 0 ≤ (x2) ∧ (x2) ≤ 7) → MR (n) (m9) (τ) (ζ) M := fun _ => hM
  have hMN : ¬ (0 ≤ (x1) ∧ (x1) < n ∧ 0 ≤ (x2) ∧ (x2) ≤ 7) → M = M := fun _ => rfl
  have hfin := LI.fin (D := D) (G := G) (C := 0 ≤ (x1) ∧ (x1) < n ∧ 0 ≤ (x2) ∧ (x2) ≤ 7) (v := (zI (τ (x1).toNat (x2).toNat)).toInt64) hOK (fun hC => hOK) hM hMC hMN hMLn ho1n ho2n hz0n hqC hqN ⟨f2, hOx⟩ hPm2 (fun hC => ⟨rfl, rfl, rfl⟩) (fun hC => ⟨rfl, rfl, rfl⟩) hfr
  obtain ⟨hI2, hval⟩ := hfin
  obtain ⟨lab2, n2, m2, sp2, τ2, ζ2, g2, cs2, ss2, M2, hOK2, hM2, hXL2, hML2, -, -, -, -, hPm3, -, -⟩ := id hI2
  refine lv_istore (lv' := [(7, .int (zI (if 0 ≤ (x1) ∧ (x1) < n ∧ 0 ≤ (x2) ∧ (x2) ≤ 7 then (τ (x1).toNat (x2).toNat) else 0))), (6, .int (zI (if 0 ≤ (x1) ∧ (x1) < n ∧ 0 ≤ (x2) ∧ (x2) ≤ 7 then 0 else 1))), (0, .ref b), (1, .ref ax), (2, .ref am), (3, .ref o1), (4, .ref o2), (5, .int (zI (i)))]) hx hb dL_law_539 hl (by decide) rfl (fun ls hl => ?_)
  refine lv_aload_n hx hb dL_law_541 rfl (lv_at hl 4 rfl) ?_
  refine z_call (va_runV (As := []) (rest := []) ⟨hx, hb, hml, hown, hts⟩ (kX3_thrown l D G am (if 0 ≤ (x1) ∧ (x1) < n ∧ 0 ≤ (x2) ∧ (x2) ≤ 7 then 0 else 1) n2 m2 sp2 τ2 ζ2 h M2 hOK2 hM2) (cwV 0 hts gL_law_X3_thrown rfl rfl rfl (by decide +kernel) ⟨Nat.le_of_ble_eq_true rfl, Nat.le_of_ble_eq_true rfl⟩) (zPreV (va_recv hK hPm3 (ci := 3) (q0 := 0) rfl rfl) hK hN (hPm3)) rfl rfl hl.1 rfl (lv_room (Nat.le_of_ble_eq_true rfl)) dL_law_542 ⟨z_rc (by omega), z_rs (by omega)⟩) ?_
  refine lv_iload hx hb dL_law_545 (lv_at hl 1 rfl) ?_
  refine lv_icmp_eq (tgt := 552) hx hb dL_law_547 (by decide) (fun _ => ?_) (fun c9 => absurd rfl c9)
  refine lv_iload hx hb dL_law_552 (lv_at hl 1 rfl) ?_
  refine lv_if_ne (tgt := 569) hx hb dL_law_554 (by decide) (fun _ => ?_) (fun c9 => ?_)
  · refine lv_goto (tgt := 1999) hx hb dL_law_569 (by decide) ?_
    refine W.widen (k := cells + 20) (n := slots + 3000) (by omega) (by omega) ?_
    exact kk _ _ _ _ hS2 hI2 (lv_sub hl [2, 3, 4, 5, 6, 7] rfl)
  · have hC := zK1 c9
    obtain ⟨f9, hf9, hPo9⟩ := hval hC
    refine lv_aload_n hx hb dL_law_557 rfl (lv_at hl 5 rfl) ?_
    refine lv_iconst (v := zI (0)) hx hb dL_law_558 rfl ?_
    refine z_lald (x := (zI (τ (x1).toNat (x2).toNat)).toInt64) (D := D) hx hb hK hPo9 0 2 rfl rfl (by omega) (by omega) hf9 dL_law_559 ?_
    refine lv_iload hx hb dL_law_560 (lv_at hl 0 rfl) ?_
    refine lv_i2l (v := (zI (if 0 ≤ (x1) ∧ (x1) < n ∧ 0 ≤ (x2) ∧ (x2) ≤ 7 then (τ (x1).toNat (x2).toNat) else 0)).toInt64) hx hb dL_law_562 rfl ?_
    refine W.lcmp hx hb dL_law_563 ?_
    refine lv_if_eq (tgt := 569) hx hb dL_law_564 (by decide) (fun _ => ?_) (fun c8 => absurd (by rw [if_pos hC]; exact z_cmp_self _) c8)
    refine lv_goto (tgt := 1999) hx hb dL_law_569 (by decide) ?_
    refine W.widen (k := cells + 20) (n := slots + 3000) (by omega) (by omega) ?_
    exact kk _ _ _ _ hS2 hI2 (lv_sub hl [2, 3, 4, 5, 6, 7] rfl)

set_option maxHeartbeats 4000000 in
set_option maxRecDepth 100000 in
theorem lc_5 (l : Launch) (hl9 : l.stackTraces = false) {p : Program} {e : Env} {s : State} {m : MethodId} {below : List Frame} {meth : Method} {c : Code} {H : Heap} {locs : List Loc} {cells slots : Nat} {Q : State → Prop} {D : va_G} {G : Nat → ClassId} {b L : Nat} {xs : Nat → Int32} {ax am o1 o2 : Nat} {h : Nat → Nat} {th : Int} {ls : Array Slot} (hx : p.tables.exec = Jvm.exec) (hb : c.code = cL_law) (hml : c.maxLocals = 9) (hown : s.vm.findClass RL = some m.cls) (hts : ∀ w ∈ wsL_law, w.before #[Value.ref b] s = true) (hK : va_K D vwCl (zTy G) s) (hN : zN s) (hT0 : zT s s.heap) (hX : va_X b L xs s s.heap) (hbl : b < s.heap.size) (hL9 : L ≤ 2560) (hce : cells + 20 ≤ 601024) (hsl : slots + 3000 ≤ 7293034) (hS : va_S (fun q => s.heap.size ≤ q) s.heap H locs) (hI : LI D G ax am o1 o2 s.heap.size h th H) (i : Int) (hi : 0 ≤ i ∧ i + 5 ≤ L) (x1 : Int) (hv1 : xs (i + 1).toNat = zI x1) (hr1 : -2147483648 ≤ x1 ∧ x1 ≤ 2147483647) (x2 : Int) (hv2 : xs (i + 2).toNat = zI x2) (hr2 : -2147483648 ≤ x2 ∧ x2 ≤ 2147483647) (x3 : Int) (hv3 : xs (i + 3).toNat = zI x3) (hr3 : -2147483648 ≤ x3 ∧ x3 ≤ 2147483647) (x4 : Int) (hv4 : xs (i + 4).toNat = zI x4) (hr4 : -2147483648 ≤ x4 ∧ x4 ≤ 2147483647) (hl : lv_has ls 9 [(0, .ref b), (1, .ref ax), (2, .ref am), (3, .ref o1), (4, .ref o2), (5, .int (zI (i)))]) (kk : ∀ (H1 : Heap) (locs1 : List Loc) (th1 : Int) (ls1 : Array Slot), va_S (fun q => s.heap.size ≤ q) s.heap H1 locs1 → LI D G ax am o1 o2 s.heap.size h th1 H1 → lv_has ls1 9 [(0, .ref b), (1, .ref ax), (2, .ref am), (3, .ref o1), (4, .ref o2), (5, .int (zI (i)))] → W p l e room_1 s m #[Value.ref b] below meth c H1 locs1 (cells + 20) (slots + 3000) Q (F0 m 1999 ls1 [])) : W p l e room_1 s m #[Value.ref b] below meth c H locs cells slots Q (F0 m 572 ls []) := by
  obtain ⟨lab, n, m9, sp, τ, ζ, g, cs, ss, M, hOK, hM, hXL, hML, ho1, ho2, hz0, hW, hPm, ⟨f1, hO1⟩, ⟨f2, hO2⟩⟩ := id hI
  refine lv_aload_n hx hb dL_law_572 rfl (lv_at hl 1 rfl) ?_
  refine lv_aload_n hx hb dL_law_573 rfl (lv_at hl 0 rfl) ?_
  refine lv_iload hx hb dL_law_574 (lv_at hl 5 rfl) ?_
  refine lv_iconst (v := zI (1)) hx hb dL_law_576 rfl ?_
  refine z_iadd hx hb dL_law_577 ?_
  refine z_sld hx hb hX hbl (Nat.not_le.mpr hbl) hS (i := i + 1) (x := x1) (by omega) (by omega) hv1 dL_law_578 ?_
  refine lv_aload_n hx hb dL_law_579 rfl (lv_at hl 0 rfl) ?_
  refine lv_iload hx hb dL_law_580 (lv_at hl 5 rfl) ?_
  refine lv_iconst (v := zI (2)) hx hb dL_law_582 rfl ?_
  refine z_iadd hx hb dL_law_583 ?_
  refine z_sld hx hb hX hbl (Nat.not_le.mpr hbl) hS (i := i + 2) (x := x2) (by omega) (by omega) hv2 dL_law_584 ?_
  refine lv_aload_n hx hb dL_law_585 rfl (lv_at hl 0 rfl) ?_
  refine lv_iload hx hb dL_law_586 (lv_at hl 5 rfl) ?_
  refine lv_iconst (v := zI (3)) hx hb dL_law_588 rfl ?_
  refine z_iadd hx hb dL_law_589 ?_
  refine z_sld hx hb hX hbl (Nat.not_le.mpr hbl) hS (i := i + 3) (x := x3) (by omega) (by omega) hv3 dL_law_590 ?_
  refine lv_aload_n hx hb dL_law_591 rfl (lv_at hl 0 rfl) ?_
  refine lv_iload hx hb dL_law_592 (lv_at hl 5 rfl) ?_
  refine lv_iconst (v := zI (4)) hx hb dL_law_594 rfl ?_
  refine z_iadd hx hb dL_law_595 ?_
  refine z_sld hx hb hX hbl (Nat.not_le.mpr hbl) hS (i := i + 4) (x := x4) (by omega) (by omega) hv4 dL_law_596 ?_
  refine lv_aload_n hx hb dL_law_597 rfl (lv_at hl 3 rfl) ?_
  have hAL : ∀ q : Nat, LA lab o1 H.size q → s.heap.size ≤ q := fun q h9 => Nat.not_lt.mp (fun h8 => by have h7 := hz0 q h8; have h6 := hS.1; rcases h9 with h9 | h9 | h9 <;> first | omega | (rw [h9] at h7; omega))
  refine z_callM (vx_runSW (As := [.ref ax, .int (zI (x1)), .int (zI (x2)), .int (zI (x3)), .int (zI (x4)), .ref o1]) (rest := []) ⟨hx, hb, hml, hown, hts⟩ (kL_tune l D G hl9 ax n m9 sp τ ζ g cs ss hOK lab hXL o1 H.size f1 (by omega) (x1) (x2) (x3) (x4) hr1 hr2 hr3 hr4) (vx_cwSW 6 hts gL_law_L_tune rfl rfl rfl (by decide +kernel) ⟨Nat.le_of_ble_eq_true rfl, Nat.le_of_ble_eq_true rfl⟩) (zPTreS hK hN (zT.kp hT0 hS) ⟨rfl, hW, hO1⟩) rfl rfl hl.1 rfl (lv_room (Nat.le_of_ble_eq_true rfl)) dL_law_598 ⟨z_rc (by omega), z_rs (by omega)⟩) hS (fun q _ h9 => hAL q h9) hAL (fun H1 locs1 hp1 hz1 hk1 hS1 => ?_)
  obtain ⟨g', lab', cs', ss', hqC, hqN, hlb⟩ := hp1
  have hMLn := hML.same hPm hlb
  have ho1n : lab' o1 = 200 := (hlb _ (o_lt hO1)).trans ho1
  have ho2n : lab' o2 = 201 := (hlb _ (o_lt hO2)).trans ho2
  have hz0n : ∀ q : Nat, q < s.heap.size → lab' q = 300 := fun q hq => (hlb q (Nat.lt_of_lt_of_le hq hS.1)).trans (hz0 q hq)
  have hPm1 := mW.kp hPm hML (fun q hq h1 h2 => hk1 q hq (fun h9 => by rcases h9 with h9 | h9 | h9 <;> first | omega | (rw [h9] at h2; omega)))
  have hOx := o_kp hO2 (fun hq => hk1 o2 hq (fun h9 => by rcases h9 with h9 | h9 | h9 <;> first | omega | (rw [h9] at ho2; omega)))
  refine lv_istore (lv' := [(6, .int (zI (if 0 ≤ (x1) ∧ (x1) < n then (if (0 ≤ (x2) ∧ (x2) ≤ τ (x1).toNat 1 - 1) ∧ (1 ≤ (x3) ∧ (x3) ≤ 200) ∧ (0 ≤ (x4) ∧ (x4) ≤ 3) then 0 else 2) else 1))), (0, .ref b), (1, .ref ax), (2, .ref am), (3, .ref o1), (4, .ref o2), (5, .int (zI (i)))]) hx hb dL_law_601 hl (by decide) rfl (fun ls hl => ?_)
  refine lv_aload_n hx hb dL_law_603 rfl (lv_at hl 3 rfl) ?_
  refine lv_aload_n hx hb dL_law_604 rfl (lv_at hl 1 rfl) ?_
  refine lv_iload hx hb dL_law_605 (lv_at hl 6 rfl) ?_
  refine lv_iconst (v := zI (1)) hx hb dL_law_607 rfl ?_
  refine z_iadd hx hb dL_law_608 ?_
  refine z_sld hx hb hX hbl (Nat.not_le.mpr hbl) hS1 (i := i + 1) (x := x1) (by omega) (by omega) hv1 dL_law_609 ?_
  refine lv_aload_n hx hb dL_law_610 rfl (lv_at hl 1 rfl) ?_
  refine lv_iload hx hb dL_law_611 (lv_at hl 6 rfl) ?_
  refine lv_iconst (v := zI (2)) hx hb dL_law_613 rfl ?_
  refine z_iadd hx hb dL_law_614 ?_
  refine z_sld hx hb hX hbl (Nat.not_le.mpr hbl) hS1 (i := i + 2) (x := x2) (by omega) (by omega) hv2 dL_law_615 ?_
  refine lv_aload_n hx hb dL_law_616 rfl (lv_at hl 1 rfl) ?_
  refine lv_iload hx hb dL_law_617 (lv_at hl 6 rfl) ?_
  refine lv_iconst (v := zI (3)) hx hb dL_law_619 rfl ?_
  refine z_iadd hx hb dL_law_620 ?_
  refine z_sld hx hb hX hbl (Nat.not_le.mpr hbl) hS1 (i := i + 3) (x := x3) (by omega) (by omega) hv3 dL_law_621 ?_
  refine lv_aload_n hx hb dL_law_622 rfl (lv_at hl 1 rfl) ?_
  refine lv_iload hx hb dL_law_623 (lv_at hl 6 rfl) ?_
  refine lv_iconst (v := zI (4)) hx hb dL_law_625 rfl ?_
  refine z_iadd hx hb dL_law_626 ?_
  refine z_sld hx hb hX hbl (Nat.not_le.mpr hbl) hS1 (i := i + 4) (x := x4) (by omega) (by omega) hv4 dL_law_627 ?_
  have hAM : ∀ q : Nat, zA [am, h 0, h 1, h 2, h 3, h 4, h 5, h 6, h 7, h 8, h 9] q → s.heap.size ≤ q := fun q h9 => Nat.not_lt.mp (fun h8 => by have h7 := hz0n q h8; have h6 := hMLn.in h9; omega)
  refine z_callM (va_runV (As := [.int (zI (x1)), .int (zI (x2)), .int (zI (x3)), .int (zI (x4))]) (rest := []) ⟨hx, hb, hml, hown, hts⟩ (kX3_tune l D G am th n m9 sp τ ζ h M hOK hM hMLn.nd (x1) (x2) (x3) (x4) hr1 hr2 hr3 hr4) (cwV 4 hts gL_law_X3_tune rfl rfl rfl (by decide +kernel) ⟨Nat.le_of_ble_eq_true rfl, Nat.le_of_ble_eq_true rfl⟩) (zPreV (va_recv hK hPm1 (ci := 3) (q0 := 0) rfl rfl) hK hN (hPm1)) rfl rfl hl.1 rfl (lv_room (Nat.le_of_ble_eq_true rfl)) dL_law_628 ⟨z_rc (by omega), z_rs (by omega)⟩) hS1 (fun q _ h9 => hAM q h9) hAM (fun H2 locs2 hp2 hz2 hk2 hS2 => ?_)
  have hfr : ∀ q : Nat, q < H1.size → (lab' q < 100 ∨ 200 ≤ lab' q) → H2[q]? = H1[q]? := fun q hq hl8 => hk2 q hq (fun h9 => by have h6 := hMLn.in h9; omega)
  obtain ⟨M', hPm2, hMC, hMN⟩ := hp2
  have hfin := LI.fin (D := D) (G := G) (C := (0 ≤ (x1) ∧ (x1) < n) ∧ ((0 ≤ (x2) ∧ (x2) ≤ τ (x1).toNat 1 - 1) ∧ (1 ≤ (x3) ∧ (x3) ≤ 200) ∧ (0 ≤ (x4) ∧ (x4) ≤ 3))) (v := (zI (τ (x1).toNat 2)).toInt64) hOK (fun hC => hOK.up (xFu_ok (hOK.t (k := (x1)) hC.1) hC.2.1 hC.2.2.1 hC.2.2.2)) hM hMC hMN hMLn ho1n ho2n hz0n hqC hqN ⟨f2, hOx⟩ hPm2 (fun hC => ⟨rfl, rfl, rfl⟩) (fun hC => ⟨rfl, rfl, rfl⟩) hfr
  obtain ⟨hI2, hval⟩ := hfin
  obtain ⟨lab2, n2, m2, sp2, τ2, ζ2, g2, cs2, ss2, M2, hOK2, hM2, hXL2, hML2, -, -, -, -, hPm3, -, -⟩ := id hI2
  refine lv_istore (lv' := [(7, .int (zI (if 0 ≤ (x1) ∧ (x1) < n then (if (0 ≤ (x2) ∧ (x2) ≤ τ (x1).toNat 1 - 1) ∧ (1 ≤ (x3) ∧ (x3) ≤ 200) ∧ (0 ≤ (x4) ∧ (x4) ≤ 3) then (τ (x1).toNat 2) else 0) else 0))), (6, .int (zI (if 0 ≤ (x1) ∧ (x1) < n then (if (0 ≤ (x2) ∧ (x2) ≤ τ (x1).toNat 1 - 1) ∧ (1 ≤ (x3) ∧ (x3) ≤ 200) ∧ (0 ≤ (x4) ∧ (x4) ≤ 3) then 0 else 2) else 1))), (0, .ref b), (1, .ref ax), (2, .ref am), (3, .ref o1), (4, .ref o2), (5, .int (zI (i)))]) hx hb dL_law_631 hl (by decide) rfl (fun ls hl => ?_)
  refine lv_aload_n hx hb dL_law_633 rfl (lv_at hl 4 rfl) ?_
  refine z_call (va_runV (As := []) (rest := []) ⟨hx, hb, hml, hown, hts⟩ (kX3_thrown l D G am (if 0 ≤ (x1) ∧ (x1) < n then (if (0 ≤ (x2) ∧ (x2) ≤ τ (x1).toNat 1 - 1) ∧ (1 ≤ (x3) ∧ (x3) ≤ 200) ∧ (0 ≤ (x4) ∧ (x4) ≤ 3) then 0 else 2) else 1) n2 m2 sp2 τ2 ζ2 h M2 hOK2 hM2) (cwV 0 hts gL_law_X3_thrown rfl rfl rfl (by decide +kernel) ⟨Nat.le_of_ble_eq_true rfl, Nat.le_of_ble_eq_true rfl⟩) (zPreV (va_recv hK hPm3 (ci := 3) (q0 := 0) rfl rfl) hK hN (hPm3)) rfl rfl hl.1 rfl (lv_room (Nat.le_of_ble_eq_true rfl)) dL_law_634 ⟨z_rc (by omega), z_rs (by omega)⟩) ?_
  refine lv_iload hx hb dL_law_637 (lv_at hl 1 rfl) ?_
  refine lv_icmp_eq (tgt := 644) hx hb dL_law_639 (by decide) (fun _ => ?_) (fun c9 => absurd rfl c9)
  refine lv_iload hx hb dL_law_644 (lv_at hl 1 rfl) ?_
  refine lv_if_ne (tgt := 661) hx hb dL_law_646 (by decide) (fun _ => ?_) (fun c9 => ?_)
  · refine lv_goto (tgt := 1999) hx hb dL_law_661 (by decide) ?_
    refine W.widen (k := cells + 20) (n := slots + 3000) (by omega) (by omega) ?_
    exact kk _ _ _ _ hS2 hI2 (lv_sub hl [2, 3, 4, 5, 6, 7] rfl)
  · have hC := zK2 c9
    obtain ⟨f9, hf9, hPo9⟩ := hval hC
    refine lv_aload_n hx hb dL_law_649 rfl (lv_at hl 5 rfl) ?_
    refine lv_iconst (v := zI (0)) hx hb dL_law_650 rfl ?_
    refine z_lald (x := (zI (τ (x1).toNat 2)).toInt64) (D := D) hx hb hK hPo9 0 2 rfl rfl (by omega) (by omega) hf9 dL_law_651 ?_
    refine lv_iload hx hb dL_law_652 (lv_at hl 0 rfl) ?_
    refine lv_i2l (v := (zI (if 0 ≤ (x1) ∧ (x1) < n then (if (0 ≤ (x2) ∧ (x2) ≤ τ (x1).toNat 1 - 1) ∧ (1 ≤ (x3) ∧ (x3) ≤ 200) ∧ (0 ≤ (x4) ∧ (x4) ≤ 3) then (τ (x1).toNat 2) else 0) else 0)).toInt64) hx hb dL_law_654 rfl ?_
    refine W.lcmp hx hb dL_law_655 ?_
    refine lv_if_eq (tgt := 661) hx hb dL_law_656 (by decide) (fun _ => ?_) (fun c8 => absurd (by rw [if_pos hC.1, if_pos hC.2]; exact z_cmp_self _) c8)
    refine lv_goto (tgt := 1999) hx hb dL_law_661 (by decide) ?_
    refine W.widen (k := cells + 20) (n := slots + 3000) (by omega) (by omega) ?_
    exact kk _ _ _ _ hS2 hI2 (lv_sub hl [2, 3, 4, 5, 6, 7] rfl)

set_option maxHeartbeats 4000000 in
set_option maxRecDepth 100000 in
theorem lc_6 (l : Launch) (hl9 : l.stackTraces = false) {p : Program} {e : Env} {s : State} {m : MethodId} {below : List Frame} {meth : Method} {c : Code} {H : Heap} {locs : List Loc} {cells slots : Nat} {Q : State → Prop} {D : va_G} {G : Nat → ClassId} {b L : Nat} {xs : Nat → Int32} {ax am o1 o2 : Nat} {h : Nat → Nat} {th : Int} {ls : Array Slot} (hx : p.tables.exec = Jvm.exec) (hb : c.code = cL_law) (hml : c.maxLocals = 9) (hown : s.vm.findClass RL = some m.cls) (hts : ∀ w ∈ wsL_law, w.before #[Value.ref b] s = true) (hK : va_K D vwCl (zTy G) s) (hN : zN s) (hT0 : zT s s.heap) (hX : va_X b L xs s s.heap) (hbl : b < s.heap.size) (hL9 : L ≤ 2560) (hce : cells + 20 ≤ 601024) (hsl : slots + 3000 ≤ 7293034) (hS : va_S (fun q => s.heap.size ≤ q) s.heap H locs) (hI : LI D G ax am o1 o2 s.heap.size h th H) (i : Int) (hi : 0 ≤ i ∧ i + 5 ≤ L) (x1 : Int) (hv1 : xs (i + 1).toNat = zI x1) (hr1 : -2147483648 ≤ x1 ∧ x1 ≤ 2147483647) (x2 : Int) (hv2 : xs (i + 2).toNat = zI x2) (hr2 : -2147483648 ≤ x2 ∧ x2 ≤ 2147483647) (x3 : Int) (hv3 : xs (i + 3).toNat = zI x3) (hr3 : -2147483648 ≤ x3 ∧ x3 ≤ 2147483647) (x4 : Int) (hv4 : xs (i + 4).toNat = zI x4) (hr4 : -2147483648 ≤ x4 ∧ x4 ≤ 2147483647) (hl : lv_has ls 9 [(0, .ref b), (1, .ref ax), (2, .ref am), (3, .ref o1), (4, .ref o2), (5, .int (zI (i)))]) (kk : ∀ (H1 : Heap) (locs1 : List Loc) (th1 : Int) (ls1 : Array Slot), va_S (fun q => s.heap.size ≤ q) s.heap H1 locs1 → LI D G ax am o1 o2 s.heap.size h th1 H1 → lv_has ls1 9 [(0, .ref b), (1, .ref ax), (2, .ref am), (3, .ref o1), (4, .ref o2), (5, .int (zI (i)))] → W p l e room_1 s m #[Value.ref b] below meth c H1 locs1 (cells + 20) (slots + 3000) Q (F0 m 1999 ls1 [])) : W p l e room_1 s m #[Value.ref b] below meth c H locs cells slots Q (F0 m 664 ls []) := by
  obtain ⟨lab, n, m9, sp, τ, ζ, g, cs, ss, M, hOK, hM, hXL, hML, ho1, ho2, hz0, hW, hPm, ⟨f1, hO1⟩, ⟨f2, hO2⟩⟩ := id hI
  refine lv_aload_n hx hb dL_law_664 rfl (lv_at hl 1 rfl) ?_
  refine lv_aload_n hx hb dL_law_665 rfl (lv_at hl 0 rfl) ?_
  refine lv_iload hx hb dL_law_666 (lv_at hl 5 rfl) ?_
  refine lv_iconst (v := zI (1)) hx hb dL_law_668 rfl ?_
  refine z_iadd hx hb dL_law_669 ?_
  refine z_sld hx hb hX hbl (Nat.not_le.mpr hbl) hS (i := i + 1) (x := x1) (by omega) (by omega) hv1 dL_law_670 ?_
  refine lv_aload_n hx hb dL_law_671 rfl (lv_at hl 0 rfl) ?_
  refine lv_iload hx hb dL_law_672 (lv_at hl 5 rfl) ?_
  refine lv_iconst (v := zI (2)) hx hb dL_law_674 rfl ?_
  refine z_iadd hx hb dL_law_675 ?_
  refine z_sld hx hb hX hbl (Nat.not_le.mpr hbl) hS (i := i + 2) (x := x2) (by omega) (by omega) hv2 dL_law_676 ?_
  refine lv_aload_n hx hb dL_law_677 rfl (lv_at hl 0 rfl) ?_
  refine lv_iload hx hb dL_law_678 (lv_at hl 5 rfl) ?_
  refine lv_iconst (v := zI (3)) hx hb dL_law_680 rfl ?_
  refine z_iadd hx hb dL_law_681 ?_
  refine z_sld hx hb hX hbl (Nat.not_le.mpr hbl) hS (i := i + 3) (x := x3) (by omega) (by omega) hv3 dL_law_682 ?_
  refine z_if_eq (tgt := 690) hx hb (by omega) dL_law_683 (by decide) (fun c_1 => ?_) (fun c_1 => ?_)
  · refine lv_iconst (v := zI (0)) hx hb dL_law_690 rfl ?_
    refine lv_aload_n hx hb dL_law_691 rfl (lv_at hl 3 rfl) ?_
    have hAL : ∀ q : Nat, LA lab o1 H.size q → s.heap.size ≤ q := fun q h9 => Nat.not_lt.mp (fun h8 => by have h7 := hz0 q h8; have h6 := hS.1; rcases h9 with h9 | h9 | h9 <;> first | omega | (rw [h9] at h7; omega))
    refine z_callM (vx_runSW (As := [.ref ax, .int (zI (x1)), .int (zI (x2)), .int (zI (0)), .ref o1]) (rest := []) ⟨hx, hb, hml, hown, hts⟩ (kL_turn l D G hl9 ax n m9 sp τ ζ g cs ss hOK lab hXL o1 H.size f1 (by omega) (x1) (x2) (0) hr1 hr2 (by omega)) (vx_cwSW 5 hts gL_law_L_turn rfl rfl rfl (by decide +kernel) ⟨Nat.le_of_ble_eq_true rfl, Nat.le_of_ble_eq_true rfl⟩) (zPTreS hK hN (zT.kp hT0 hS) ⟨rfl, hW, hO1⟩) rfl rfl hl.1 rfl (lv_room (Nat.le_of_ble_eq_true rfl)) dL_law_692 ⟨z_rc (by omega), z_rs (by omega)⟩) hS (fun q _ h9 => hAL q h9) hAL (fun H1 locs1 hp1 hz1 hk1 hS1 => ?_)
    obtain ⟨g', lab', cs', ss', hqC, hqN, hlb⟩ := hp1
    have hMLn := hML.same hPm hlb
    have ho1n : lab' o1 = 200 := (hlb _ (o_lt hO1)).trans ho1
    have ho2n : lab' o2 = 201 := (hlb _ (o_lt hO2)).trans ho2
    have hz0n : ∀ q : Nat, q < s.heap.size → lab' q = 300 := fun q hq => (hlb q (Nat.lt_of_lt_of_le hq hS.1)).trans (hz0 q hq)
    have hPm1 := mW.kp hPm hML (fun q hq h1 h2 => hk1 q hq (fun h9 => by rcases h9 with h9 | h9 | h9 <;> first | omega | (rw [h9] at h2; omega)))
    have hOx := o_kp hO2 (fun hq => hk1 o2 hq (fun h9 => by rcases h9 with h9 | h9 | h9 <;> first | omega | (rw [h9] at ho2; omega)))
    refine lv_istore (lv' := [(6, .int (zI (if 0 ≤ (x1) ∧ (x1) < n ∧ 0 ≤ (x2) ∧ (x2) ≤ 2 then 0 else 1))), (0, .ref b), (1, .ref ax), (2, .ref am), (3, .ref o1), (4, .ref o2), (5, .int (zI (i)))]) hx hb dL_law_695 hl (by decide) rfl (fun ls hl => ?_)
    refine lv_aload_n hx hb dL_law_697 rfl (lv_at hl 3 rfl) ?_
    refine lv_aload_n hx hb dL_law_698 rfl (lv_at hl 1 rfl) ?_
    refine lv_iload hx hb dL_law_699 (lv_at hl 6 rfl) ?_
    refine lv_iconst (v := zI (1)) hx hb dL_law_701 rfl ?_
    refine z_iadd hx hb dL_law_702 ?_
    refine z_sld hx hb hX hbl (Nat.not_le.mpr hbl) hS1 (i := i + 1) (x := x1) (by omega) (by omega) hv1 dL_law_703 ?_
    refine lv_aload_n hx hb dL_law_704 rfl (lv_at hl 1 rfl) ?_
    refine lv_iload hx hb dL_law_705 (lv_at hl 6 rfl) ?_
    refine lv_iconst (v := zI (2)) hx hb dL_law_707 rfl ?_
    refine z_iadd hx hb dL_law_708 ?_
    refine z_sld hx hb hX hbl (Nat.not_le.mpr hbl) hS1 (i := i + 2) (x := x2) (by omega) (by omega) hv2 dL_law_709 ?_
    refine lv_aload_n hx hb dL_law_710 rfl (lv_at hl 1 rfl) ?_
    refine lv_iload hx hb dL_law_711 (lv_at hl 6 rfl) ?_
    refine lv_iconst (v := zI (3)) hx hb dL_law_713 rfl ?_
    refine z_iadd hx hb dL_law_714 ?_
    refine z_sld hx hb hX hbl (Nat.not_le.mpr hbl) hS1 (i := i + 3) (x := x3) (by omega) (by omega) hv3 dL_law_715 ?_
    refine z_if_eq (tgt := 723) hx hb (by omega) dL_law_716 (by decide) (fun c_2 => ?_) (fun c_2 => ?_)
    · refine lv_iconst (v := zI (0)) hx hb dL_law_723 rfl ?_
      have hAM : ∀ q : Nat, zA [am, h 0, h 1, h 2, h 3, h 4, h 5, h 6, h 7, h 8, h 9] q → s.heap.size ≤ q := fun q h9 => Nat.not_lt.mp (fun h8 => by have h7 := hz0n q h8; have h6 := hMLn.in h9; omega)
      refine z_callM (va_runV (As := [.int (zI (x1)), .int (zI (x2)), .int (zI (0))]) (rest := []) ⟨hx, hb, hml, hown, hts⟩ (kX3_turn l D G am th n m9 sp τ ζ h M hOK hM hMLn.nd (x1) (x2) (0) hr1 hr2 (by omega)) (cwV 3 hts gL_law_X3_turn rfl rfl rfl (by decide +kernel) ⟨Nat.le_of_ble_eq_true rfl, Nat.le_of_ble_eq_true rfl⟩) (zPreV (va_recv hK hPm1 (ci := 3) (q0 := 0) rfl rfl) hK hN (hPm1)) rfl rfl hl.1 rfl (lv_room (Nat.le_of_ble_eq_true rfl)) dL_law_724 ⟨z_rc (by omega), z_rs (by omega)⟩) hS1 (fun q _ h9 => hAM q h9) hAM (fun H2 locs2 hp2 hz2 hk2 hS2 => ?_)
      have hfr : ∀ q : Nat, q < H1.size → (lab' q < 100 ∨ 200 ≤ lab' q) → H2[q]? = H1[q]? := fun q hq hl8 => hk2 q hq (fun h9 => by have h6 := hMLn.in h9; omega)
      obtain ⟨M', hPm2, hMC, hMN⟩ := hp2
      have hfin := LI.fin (D := D) (G := G) (C := 0 ≤ (x1) ∧ (x1) < n ∧ 0 ≤ (x2) ∧ (x2) ≤ 2) (v := (zB (τ (x1).toNat (5 + (x2)).toNat = 1)).toInt64) hOK (fun hC => hOK.up (xFw_ok (hOK.t (k := (x1)) (by omega)) (by omega) (by omega))) hM hMC hMN hMLn ho1n ho2n hz0n hqC hqN ⟨f2, hOx⟩ hPm2 (fun hC => ⟨rfl, rfl, rfl⟩) (fun hC => ⟨rfl, rfl, rfl⟩) hfr
      obtain ⟨hI2, hval⟩ := hfin
      obtain ⟨lab2, n2, m2, sp2, τ2, ζ2, g2, cs2, ss2, M2, hOK2, hM2, hXL2, hML2, -, -, -, -, hPm3, -, -⟩ := id hI2
      refine lv_istore (lv' := [(7, .int (zB ((0 ≤ (x1) ∧ (x1) < n ∧ 0 ≤ (x2) ∧ (x2) ≤ 2) ∧ τ (x1).toNat (5 + (x2)).toNat = 1))), (6, .int (zI (if 0 ≤ (x1) ∧ (x1) < n ∧ 0 ≤ (x2) ∧ (x2) ≤ 2 then 0 else 1))), (0, .ref b), (1, .ref ax), (2, .ref am), (3, .ref o1), (4, .ref o2), (5, .int (zI (i)))]) hx hb dL_law_727 hl (by decide) rfl (fun ls hl => ?_)
      refine lv_aload_n hx hb dL_law_729 rfl (lv_at hl 4 rfl) ?_
      refine z_call (va_runV (As := []) (rest := []) ⟨hx, hb, hml, hown, hts⟩ (kX3_thrown l D G am (if 0 ≤ (x1) ∧ (x1) < n ∧ 0 ≤ (x2) ∧ (x2) ≤ 2 then 0 else 1) n2 m2 sp2 τ2 ζ2 h M2 hOK2 hM2) (cwV 0 hts gL_law_X3_thrown rfl rfl rfl (by decide +kernel) ⟨Nat.le_of_ble_eq_true rfl, Nat.le_of_ble_eq_true rfl⟩) (zPreV (va_recv hK hPm3 (ci := 3) (q0 := 0) rfl rfl) hK hN (hPm3)) rfl rfl hl.1 rfl (lv_room (Nat.le_of_ble_eq_true rfl)) dL_law_730 ⟨z_rc (by omega), z_rs (by omega)⟩) ?_
      refine lv_iload hx hb dL_law_733 (lv_at hl 1 rfl) ?_
      refine lv_icmp_eq (tgt := 740) hx hb dL_law_735 (by decide) (fun _ => ?_) (fun c9 => absurd rfl c9)
      refine lv_iload hx hb dL_law_740 (lv_at hl 1 rfl) ?_
      refine lv_if_ne (tgt := 764) hx hb dL_law_742 (by decide) (fun _ => ?_) (fun c9 => ?_)
      · refine lv_goto (tgt := 1999) hx hb dL_law_764 (by decide) ?_
        refine W.widen (k := cells + 20) (n := slots + 3000) (by omega) (by omega) ?_
        exact kk _ _ _ _ hS2 hI2 (lv_sub hl [2, 3, 4, 5, 6, 7] rfl)
      · have hC := zK1 c9
        obtain ⟨f9, hf9, hPo9⟩ := hval hC
        refine lv_aload_n hx hb dL_law_745 rfl (lv_at hl 5 rfl) ?_
        refine lv_iconst (v := zI (0)) hx hb dL_law_746 rfl ?_
        refine z_lald (x := (zB (τ (x1).toNat (5 + (x2)).toNat = 1)).toInt64) (D := D) hx hb hK hPo9 0 2 rfl rfl (by omega) (by omega) hf9 dL_law_747 ?_
        refine lv_iload hx hb dL_law_748 (lv_at hl 0 rfl) ?_
        refine z_eqB (tgt := 757) hx hb dL_law_750 (by decide) (fun c_3 => ?_) (fun c_3 => ?_)
        · refine lv_lconst (v := lN 0) hx hb dL_law_757 (by decide) ?_
          refine W.lcmp hx hb dL_law_758 ?_
          refine lv_if_eq (tgt := 764) hx hb dL_law_759 (by decide) (fun _ => ?_) (fun c8 => absurd (by rw [zB_f (fun h9 => c_3 ⟨hC, h9⟩)]; decide) c8)
          refine lv_goto (tgt := 1999) hx hb dL_law_764 (by decide) ?_
          refine W.widen (k := cells + 20) (n := slots + 3000) (by omega) (by omega) ?_
          exact kk _ _ _ _ hS2 hI2 (lv_sub hl [2, 3, 4, 5, 6, 7] rfl)
        · refine lv_lconst (v := lN 1) hx hb dL_law_753 (by decide) ?_
          refine lv_goto (tgt := 758) hx hb dL_law_754 (by decide) ?_
          refine W.lcmp hx hb dL_law_758 ?_
          refine lv_if_eq (tgt := 764) hx hb dL_law_759 (by decide) (fun _ => ?_) (fun c8 => absurd (by rw [zB_t c_3.2]; decide) c8)
          refine lv_goto (tgt := 1999) hx hb dL_law_764 (by decide) ?_
          refine W.widen (k := cells + 20) (n := slots + 3000) (by omega) (by omega) ?_
          exact kk _ _ _ _ hS2 hI2 (lv_sub hl [2, 3, 4, 5, 6, 7] rfl)
    · exfalso; omega
  · refine lv_iconst (v := zI (1)) hx hb dL_law_686 rfl ?_
    refine lv_goto (tgt := 691) hx hb dL_law_687 (by decide) ?_
    refine lv_aload_n hx hb dL_law_691 rfl (lv_at hl 3 rfl) ?_
    have hAL : ∀ q : Nat, LA lab o1 H.size q → s.heap.size ≤ q := fun q h9 => Nat.not_lt.mp (fun h8 => by have h7 := hz0 q h8; have h6 := hS.1; rcases h9 with h9 | h9 | h9 <;> first | omega | (rw [h9] at h7; omega))
    refine z_callM (vx_runSW (As := [.ref ax, .int (zI (x1)), .int (zI (x2)), .int (zI (1)), .ref o1]) (rest := []) ⟨hx, hb, hml, hown, hts⟩ (kL_turn l D G hl9 ax n m9 sp τ ζ g cs ss hOK lab hXL o1 H.size f1 (by omega) (x1) (x2) (1) hr1 hr2 (by omega)) (vx_cwSW 5 hts gL_law_L_turn rfl rfl rfl (by decide +kernel) ⟨Nat.le_of_ble_eq_true rfl, Nat.le_of_ble_eq_true rfl⟩) (zPTreS hK hN (zT.kp hT0 hS) ⟨rfl, hW, hO1⟩) rfl rfl hl.1 rfl (lv_room (Nat.le_of_ble_eq_true rfl)) dL_law_692 ⟨z_rc (by omega), z_rs (by omega)⟩) hS (fun q _ h9 => hAL q h9) hAL (fun H1 locs1 hp1 hz1 hk1 hS1 => ?_)
    obtain ⟨g', lab', cs', ss', hqC, hqN, hlb⟩ := hp1
    have hMLn := hML.same hPm hlb
    have ho1n : lab' o1 = 200 := (hlb _ (o_lt hO1)).trans ho1
    have ho2n : lab' o2 = 201 := (hlb _ (o_lt hO2)).trans ho2
    have hz0n : ∀ q : Nat, q < s.heap.size → lab' q = 300 := fun q hq => (hlb q (Nat.lt_of_lt_of_le hq hS.1)).trans (hz0 q hq)
    have hPm1 := mW.kp hPm hML (fun q hq h1 h2 => hk1 q hq (fun h9 => by rcases h9 with h9 | h9 | h9 <;> first | omega | (rw [h9] at h2; omega)))
    have hOx := o_kp hO2 (fun hq => hk1 o2 hq (fun h9 => by rcases h9 with h9 | h9 | h9 <;> first | omega | (rw [h9] at ho2; omega)))
    refine lv_istore (lv' := [(6, .int (zI (if 0 ≤ (x1) ∧ (x1) < n ∧ 0 ≤ (x2) ∧ (x2) ≤ 2 then 0 else 1))), (0, .ref b), (1, .ref ax), (2, .ref am), (3, .ref o1), (4, .ref o2), (5, .int (zI (i)))]) hx hb dL_law_695 hl (by decide) rfl (fun ls hl => ?_)
    refine lv_aload_n hx hb dL_law_697 rfl (lv_at hl 3 rfl) ?_
    refine lv_aload_n hx hb dL_law_698 rfl (lv_at hl 1 rfl) ?_
    refine lv_iload hx hb dL_law_699 (lv_at hl 6 rfl) ?_
    refine lv_iconst (v := zI (1)) hx hb dL_law_701 rfl ?_
    refine z_iadd hx hb dL_law_702 ?_
    refine z_sld hx hb hX hbl (Nat.not_le.mpr hbl) hS1 (i := i + 1) (x := x1) (by omega) (by omega) hv1 dL_law_703 ?_
    refine lv_aload_n hx hb dL_law_704 rfl (lv_at hl 1 rfl) ?_
    refine lv_iload hx hb dL_law_705 (lv_at hl 6 rfl) ?_
    refine lv_iconst (v := zI (2)) hx hb dL_law_707 rfl ?_
    refine z_iadd hx hb dL_law_708 ?_
    refine z_sld hx hb hX hbl (Nat.not_le.mpr hbl) hS1 (i := i + 2) (x := x2) (by omega) (by omega) hv2 dL_law_709 ?_
    refine lv_aload_n hx hb dL_law_710 rfl (lv_at hl 1 rfl) ?_
    refine lv_iload hx hb dL_law_711 (lv_at hl 6 rfl) ?_
    refine lv_iconst (v := zI (3)) hx hb dL_law_713 rfl ?_
    refine z_iadd hx hb dL_law_714 ?_
    refine z_sld hx hb hX hbl (Nat.not_le.mpr hbl) hS1 (i := i + 3) (x := x3) (by omega) (by omega) hv3 dL_law_715 ?_
    refine z_if_eq (tgt := 723) hx hb (by omega) dL_law_716 (by decide) (fun c_4 => ?_) (fun c_4 => ?_)
    · exfalso; omega
    · refine lv_iconst (v := zI (1)) hx hb dL_law_719 rfl ?_
      refine lv_goto (tgt := 724) hx hb dL_law_720 (by decide) ?_
      have hAM : ∀ q : Nat, zA [am, h 0, h 1, h 2, h 3, h 4, h 5, h 6, h 7, h 8, h 9] q → s.heap.size ≤ q := fun q h9 => Nat.not_lt.mp (fun h8 => by have h7 := hz0n q h8; have h6 := hMLn.in h9; omega)
      refine z_callM (va_runV (As := [.int (zI (x1)), .int (zI (x2)), .int (zI (1))]) (rest := []) ⟨hx, hb, hml, hown, hts⟩ (kX3_turn l D G am th n m9 sp τ ζ h M hOK hM hMLn.nd (x1) (x2) (1) hr1 hr2 (by omega)) (cwV 3 hts gL_law_X3_turn rfl rfl rfl (by decide +kernel) ⟨Nat.le_of_ble_eq_true rfl, Nat.le_of_ble_eq_true rfl⟩) (zPreV (va_recv hK hPm1 (ci := 3) (q0 := 0) rfl rfl) hK hN (hPm1)) rfl rfl hl.1 rfl (lv_room (Nat.le_of_ble_eq_true rfl)) dL_law_724 ⟨z_rc (by omega), z_rs (by omega)⟩) hS1 (fun q _ h9 => hAM q h9) hAM (fun H2 locs2 hp2 hz2 hk2 hS2 => ?_)
      have hfr : ∀ q : Nat, q < H1.size → (lab' q < 100 ∨ 200 ≤ lab' q) → H2[q]? = H1[q]? := fun q hq hl8 => hk2 q hq (fun h9 => by have h6 := hMLn.in h9; omega)
      obtain ⟨M', hPm2, hMC, hMN⟩ := hp2
      have hfin := LI.fin (D := D) (G := G) (C := 0 ≤ (x1) ∧ (x1) < n ∧ 0 ≤ (x2) ∧ (x2) ≤ 2) (v := (zB (τ (x1).toNat (5 + (x2)).toNat = 1)).toInt64) hOK (fun hC => hOK.up (xFw_ok (hOK.t (k := (x1)) (by omega)) (by omega) (by omega))) hM hMC hMN hMLn ho1n ho2n hz0n hqC hqN ⟨f2, hOx⟩ hPm2 (fun hC => ⟨rfl, rfl, rfl⟩) (fun hC => ⟨rfl, rfl, rfl⟩) hfr
      obtain ⟨hI2, hval⟩ := hfin
      obtain ⟨lab2, n2, m2, sp2, τ2, ζ2, g2, cs2, ss2, M2, hOK2, hM2, hXL2, hML2, -, -, -, -, hPm3, -, -⟩ := id hI2
      refine lv_istore (lv' := [(7, .int (zB ((0 ≤ (x1) ∧ (x1) < n ∧ 0 ≤ (x2) ∧ (x2) ≤ 2) ∧ τ (x1).toNat (5 + (x2)).toNat = 1))), (6, .int (zI (if 0 ≤ (x1) ∧ (x1) < n ∧ 0 ≤ (x2) ∧ (x2) ≤ 2 then 0 else 1))), (0, .ref b), (1, .ref ax), (2, .ref am), (3, .ref o1), (4, .ref o2), (5, .int (zI (i)))]) hx hb dL_law_727 hl (by decide) rfl (fun ls hl => ?_)
      refine lv_aload_n hx hb dL_law_729 rfl (lv_at hl 4 rfl) ?_
      refine z_call (va_runV (As := []) (rest := []) ⟨hx, hb, hml, hown, hts⟩ (kX3_thrown l D G am (if 0 ≤ (x1) ∧ (x1) < n ∧ 0 ≤ (x2) ∧ (x2) ≤ 2 then 0 else 1) n2 m2 sp2 τ2 ζ2 h M2 hOK2 hM2) (cwV 0 hts gL_law_X3_thrown rfl rfl rfl (by decide +kernel) ⟨Nat.le_of_ble_eq_true rfl, Nat.le_of_ble_eq_true rfl⟩) (zPreV (va_recv hK hPm3 (ci := 3) (q0 := 0) rfl rfl) hK hN (hPm3)) rfl rfl hl.1 rfl (lv_room (Nat.le_of_ble_eq_true rfl)) dL_law_730 ⟨z_rc (by omega), z_rs (by omega)⟩) ?_
      refine lv_iload hx hb dL_law_733 (lv_at hl 1 rfl) ?_
      refine lv_icmp_eq (tgt := 740) hx hb dL_law_735 (by decide) (fun _ => ?_) (fun c9 => absurd rfl c9)
      refine lv_iload hx hb dL_law_740 (lv_at hl 1 rfl) ?_
      refine lv_if_ne (tgt := 764) hx hb dL_law_742 (by decide) (fun _ => ?_) (fun c9 => ?_)
      · refine lv_goto (tgt := 1999) hx hb dL_law_764 (by decide) ?_
        refine W.widen (k := cells + 20) (n := slots + 3000) (by omega) (by omega) ?_
        exact kk _ _ _ _ hS2 hI2 (lv_sub hl [2, 3, 4, 5, 6, 7] rfl)
      · have hC := zK1 c9
        obtain ⟨f9, hf9, hPo9⟩ := hval hC
        refine lv_aload_n hx hb dL_law_745 rfl (lv_at hl 5 rfl) ?_
        refine lv_iconst (v := zI (0)) hx hb dL_law_746 rfl ?_
        refine z_lald (x := (zB (τ (x1).toNat (5 + (x2)).toNat = 1)).toInt64) (D := D) hx hb hK hPo9 0 2 rfl rfl (by omega) (by omega) hf9 dL_law_747 ?_
        refine lv_iload hx hb dL_law_748 (lv_at hl 0 rfl) ?_
        refine z_eqB (tgt := 757) hx hb dL_law_750 (by decide) (fun c_5 => ?_) (fun c_5 => ?_)
        · refine lv_lconst (v := lN 0) hx hb dL_law_757 (by decide) ?_
          refine W.lcmp hx hb dL_law_758 ?_
          refine lv_if_eq (tgt := 764) hx hb dL_law_759 (by decide) (fun _ => ?_) (fun c8 => absurd (by rw [zB_f (fun h9 => c_5 ⟨hC, h9⟩)]; decide) c8)
          refine lv_goto (tgt := 1999) hx hb dL_law_764 (by decide) ?_
          refine W.widen (k := cells + 20) (n := slots + 3000) (by omega) (by omega) ?_
          exact kk _ _ _ _ hS2 hI2 (lv_sub hl [2, 3, 4, 5, 6, 7] rfl)
        · refine lv_lconst (v := lN 1) hx hb dL_law_753 (by decide) ?_
          refine lv_goto (tgt := 758) hx hb dL_law_754 (by decide) ?_
          refine W.lcmp hx hb dL_law_758 ?_
          refine lv_if_eq (tgt := 764) hx hb dL_law_759 (by decide) (fun _ => ?_) (fun c8 => absurd (by rw [zB_t c_5.2]; decide) c8)
          refine lv_goto (tgt := 1999) hx hb dL_law_764 (by decide) ?_
          refine W.widen (k := cells + 20) (n := slots + 3000) (by omega) (by omega) ?_
          exact kk _ _ _ _ hS2 hI2 (lv_sub hl [2, 3, 4, 5, 6, 7] rfl)
