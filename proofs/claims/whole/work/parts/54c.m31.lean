set_option maxHeartbeats 4000000 in
set_option maxRecDepth 100000 in
theorem lc_14 (l : Launch) (hl9 : l.stackTraces = false) {p : Program} {e : Env} {s : State} {m : MethodId} {below : List Frame} {meth : Method} {c : Code} {H : Heap} {locs : List Loc} {cells slots : Nat} {Q : State → Prop} {D : va_G} {G : Nat → ClassId} {b L : Nat} {xs : Nat → Int32} {ax am o1 o2 : Nat} {h : Nat → Nat} {th : Int} {ls : Array Slot} (hx : p.tables.exec = Jvm.exec) (hb : c.code = cL_law) (hml : c.maxLocals = 9) (hown : s.vm.findClass RL = some m.cls) (hts : ∀ w ∈ wsL_law, w.before #[Value.ref b] s = true) (hK : va_K D vwCl (zTy G) s) (hN : zN s) (hT0 : zT s s.heap) (hX : va_X b L xs s s.heap) (hbl : b < s.heap.size) (hL9 : L ≤ 2560) (hce : cells + 20 ≤ 601024) (hsl : slots + 3000 ≤ 7293034) (hS : va_S (fun q => s.heap.size ≤ q) s.heap H locs) (hI : LI D G ax am o1 o2 s.heap.size h th H) (i : Int) (hi : 0 ≤ i ∧ i + 5 ≤ L) (x1 : Int) (hv1 : xs (i + 1).toNat = zI x1) (hr1 : -2147483648 ≤ x1 ∧ x1 ≤ 2147483647) (x2 : Int) (hv2 : xs (i + 2).toNat = zI x2) (hr2 : -2147483648 ≤ x2 ∧ x2 ≤ 2147483647) (x3 : Int) (hv3 : xs (i + 3).toNat = zI x3) (hr3 : -2147483648 ≤ x3 ∧ x3 ≤ 2147483647) (x4 : Int) (hv4 : xs (i + 4).toNat = zI x4) (hr4 : -2147483648 ≤ x4 ∧ x4 ≤ 2147483647) (hl : lv_has ls 9 [(0, .ref b), (1, .ref ax), (2, .ref am), (3, .ref o1), (4, .ref o2), (5, .int (zI (i)))]) (kk : ∀ (H1 : Heap) (locs1 : List Loc) (th1 : Int) (ls1 : Array Slot), va_S (fun q => s.heap.size ≤ q) s.heap H1 locs1 → LI D G ax am o1 o2 s.heap.size h th1 H1 → lv_has ls1 9 [(0, .ref b), (1, .ref ax), (2, .ref am), (3, .ref o1), (4, .ref o2), (5, .int (zI (i)))] → W p l e room_1 s m #[Value.ref b] below meth c H1 locs1 (cells + 20) (slots + 3000) Q (F0 m 1999 ls1 [])) : W p l e room_1 s m #[Value.ref b] below meth c H locs cells slots Q (F0 m 1216 ls []) := by
  obtain ⟨lab, n, m9, sp, τ, ζ, g, cs, ss, M, hOK, hM, hXL, hML, ho1, ho2, hz0, hW, hPm, ⟨f1, hO1⟩, ⟨f2, hO2⟩⟩ := id hI
  refine lv_aload_n hx hb dL_law_1216 rfl (lv_at hl 1 rfl) ?_
  refine lv_aload_n hx hb dL_law_1217 rfl (lv_at hl 0 rfl) ?_
  refine lv_iload hx hb dL_law_1218 (lv_at hl 5 rfl) ?_
  refine lv_iconst (v := zI (1)) hx hb dL_law_1220 rfl ?_
  refine z_iadd hx hb dL_law_1221 ?_
  refine z_sld hx hb hX hbl (Nat.not_le.mpr hbl) hS (i := i + 1) (x := x1) (by omega) (by omega) hv1 dL_law_1222 ?_
  refine lv_aload_n hx hb dL_law_1223 rfl (lv_at hl 3 rfl) ?_
  have hAL : ∀ q : Nat, LA lab o1 H.size q → s.heap.size ≤ q := fun q h9 => Nat.not_lt.mp (fun h8 => by have h7 := hz0 q h8; have h6 := hS.1; rcases h9 with h9 | h9 | h9 <;> first | omega | (rw [h9] at h7; omega))
  refine z_callM (vx_runSW (As := [.ref ax, .int (zI (x1)), .ref o1]) (rest := []) ⟨hx, hb, hml, hown, hts⟩ (kL_sectionAt l D G hl9 ax n m9 sp τ ζ g cs ss hOK lab hXL o1 H.size f1 (by omega) (x1) hr1) (vx_cwSW 3 hts gL_law_L_sectionAt rfl rfl rfl (by decide +kernel) ⟨Nat.le_of_ble_eq_true rfl, Nat.le_of_ble_eq_true rfl⟩) (zPTreS hK hN (zT.kp hT0 hS) ⟨rfl, hW, hO1⟩) rfl rfl hl.1 rfl (lv_room (Nat.le_of_ble_eq_true rfl)) dL_law_1224 ⟨z_rc (by omega), z_rs (by omega)⟩) hS (fun q _ h9 => hAL q h9) hAL (fun H1 locs1 hp1 hz1 hk1 hS1 => ?_)
  obtain ⟨g', lab', cs', ss', hqC, hqN, hlb⟩ := hp1
  have hMLn := hML.same hPm hlb
  have ho1n : lab' o1 = 200 := (hlb _ (o_lt hO1)).trans ho1
  have ho2n : lab' o2 = 201 := (hlb _ (o_lt hO2)).trans ho2
  have hz0n : ∀ q : Nat, q < s.heap.size → lab' q = 300 := fun q hq => (hlb q (Nat.lt_of_lt_of_le hq hS.1)).trans (hz0 q hq)
  have hPm1 := mW.kp hPm hML (fun q hq h1 h2 => hk1 q hq (fun h9 => by rcases h9 with h9 | h9 | h9 <;> first | omega | (rw [h9] at h2; omega)))
  have hOx := o_kp hO2 (fun hq => hk1 o2 hq (fun h9 => by rcases h9 with h9 | h9 | h9 <;> first | omega | (rw [h9] at ho2; omega)))
  refine lv_istore (lv' := [(6, .int (zI (if 0 ≤ (x1) ∧ (x1) ≤ 99999 then 0 else 1))), (0, .ref b), (1, .ref ax), (2, .ref am), (3, .ref o1), (4, .ref o2), (5, .int (zI (i)))]) hx hb dL_law_1227 hl (by decide) rfl (fun ls hl => ?_)
  refine lv_aload_n hx hb dL_law_1229 rfl (lv_at hl 3 rfl) ?_
  refine lv_aload_n hx hb dL_law_1230 rfl (lv_at hl 1 rfl) ?_
  refine lv_iload hx hb dL_law_1231 (lv_at hl 6 rfl) ?_
  refine lv_iconst (v := zI (1)) hx hb dL_law_1233 rfl ?_
  refine z_iadd hx hb dL_law_1234 ?_
  refine z_sld hx hb hX hbl (Nat.not_le.mpr hbl) hS1 (i := i + 1) (x := x1) (by omega) (by omega) hv1 dL_law_1235 ?_
  have hAM : ∀ q : Nat, zA [am, h 0, h 1, h 2, h 3, h 4, h 5, h 6, h 7, h 8, h 9] q → s.heap.size ≤ q := fun q h9 => Nat.not_lt.mp (fun h8 => by have h7 := hz0n q h8; have h6 := hMLn.in h9; omega)
  refine z_callM (va_runV (As := [.int (zI (x1))]) (rest := []) ⟨hx, hb, hml, hown, hts⟩ (kX3_sectionAt l D G am th n m9 sp τ ζ h M hOK hM hMLn.nd (x1) hr1) (cwV 1 hts gL_law_X3_sectionAt rfl rfl rfl (by decide +kernel) ⟨Nat.le_of_ble_eq_true rfl, Nat.le_of_ble_eq_true rfl⟩) (zPreV (va_recv hK hPm1 (ci := 3) (q0 := 0) rfl rfl) hK hN (hPm1)) rfl rfl hl.1 rfl (lv_room (Nat.le_of_ble_eq_true rfl)) dL_law_1236 ⟨z_rc (by omega), z_rs (by omega)⟩) hS1 (fun q _ h9 => hAM q h9) hAM (fun H2 locs2 hp2 hz2 hk2 hS2 => ?_)
  have hfr : ∀ q : Nat, q < H1.size → (lab' q < 100 ∨ 200 ≤ lab' q) → H2[q]? = H1[q]? := fun q hq hl8 => hk2 q hq (fun h9 => by have h6 := hMLn.in h9; omega)
  have hPm2 := hp2
  have hMC : (0 ≤ (x1) ∧ (x1) ≤ 99999) → MR (n) (m9) (τ) (ζ) M := fun _ => hM
  have hMN : ¬ (0 ≤ (x1) ∧ (x1) ≤ 99999) → M = M := fun _ => rfl
  have hfin := LI.fin (D := D) (G := G) (C := 0 ≤ (x1) ∧ (x1) ≤ 99999) (v := (zI (xSec ζ (x1) m9.toNat)).toInt64) hOK (fun hC => hOK) hM hMC hMN hMLn ho1n ho2n hz0n hqC hqN ⟨f2, hOx⟩ hPm2 (fun hC => ⟨rfl, rfl, rfl⟩) (fun hC => ⟨rfl, rfl, rfl⟩) hfr
  obtain ⟨hI2, hval⟩ := hfin
  obtain ⟨lab2, n2, m2, sp2, τ2, ζ2, g2, cs2, ss2, M2, hOK2, hM2, hXL2, hML2, -, -, -, -, hPm3, -, -⟩ := id hI2
  refine lv_istore (lv' := [(7, .int (zI (if 0 ≤ (x1) ∧ (x1) ≤ 99999 then (xSec ζ (x1) m9.toNat) else 0))), (6, .int (zI (if 0 ≤ (x1) ∧ (x1) ≤ 99999 then 0 else 1))), (0, .ref b), (1, .ref ax), (2, .ref am), (3, .ref o1), (4, .ref o2), (5, .int (zI (i)))]) hx hb dL_law_1239 hl (by decide) rfl (fun ls hl => ?_)
  refine lv_aload_n hx hb dL_law_1241 rfl (lv_at hl 4 rfl) ?_
  refine z_call (va_runV (As := []) (rest := []) ⟨hx, hb, hml, hown, hts⟩ (kX3_thrown l D G am (if 0 ≤ (x1) ∧ (x1) ≤ 99999 then 0 else 1) n2 m2 sp2 τ2 ζ2 h M2 hOK2 hM2) (cwV 0 hts gL_law_X3_thrown rfl rfl rfl (by decide +kernel) ⟨Nat.le_of_ble_eq_true rfl, Nat.le_of_ble_eq_true rfl⟩) (zPreV (va_recv hK hPm3 (ci := 3) (q0 := 0) rfl rfl) hK hN (hPm3)) rfl rfl hl.1 rfl (lv_room (Nat.le_of_ble_eq_true rfl)) dL_law_1242 ⟨z_rc (by omega), z_rs (by omega)⟩) ?_
  refine lv_iload hx hb dL_law_1245 (lv_at hl 1 rfl) ?_
  refine lv_icmp_eq (tgt := 1252) hx hb dL_law_1247 (by decide) (fun _ => ?_) (fun c9 => absurd rfl c9)
  refine lv_iload hx hb dL_law_1252 (lv_at hl 1 rfl) ?_
  refine lv_if_ne (tgt := 1269) hx hb dL_law_1254 (by decide) (fun _ => ?_) (fun c9 => ?_)
  · refine lv_goto (tgt := 1999) hx hb dL_law_1269 (by decide) ?_
    refine W.widen (k := cells + 20) (n := slots + 3000) (by omega) (by omega) ?_
    exact kk _ _ _ _ hS2 hI2 (lv_sub hl [2, 3, 4, 5, 6, 7] rfl)
  · have hC := zK1 c9
    obtain ⟨f9, hf9, hPo9⟩ := hval hC
    refine lv_aload_n hx hb dL_law_1257 rfl (lv_at hl 5 rfl) ?_
    refine lv_iconst (v := zI (0)) hx hb dL_law_1258 rfl ?_
    refine z_lald (x := (zI (xSec ζ (x1) m9.toNat)).toInt64) (D := D) hx hb hK hPo9 0 2 rfl rfl (by omega) (by omega) hf9 dL_law_1259 ?_
    refine lv_iload hx hb dL_law_1260 (lv_at hl 0 rfl) ?_
    refine lv_i2l (v := (zI (if 0 ≤ (x1) ∧ (x1) ≤ 99999 then (xSec ζ (x1) m9.toNat) else 0)).toInt64) hx hb dL_law_1262 rfl ?_
    refine W.lcmp hx hb dL_law_1263 ?_
    refine lv_if_eq (tgt := 1269) hx hb dL_law_1264 (by decide) (fun _ => ?_) (fun c8 => absurd (by rw [if_pos hC]; exact z_cmp_self _) c8)
    refine lv_goto (tgt := 1999) hx hb dL_law_1269 (by decide) ?_
    refine W.widen (k := cells + 20) (n := slots + 3000) (by omega) (by omega) ?_
    exact kk _ _ _ _ hS2 hI2 (lv_sub hl [2, 3, 4, 5, 6, 7] rfl)

set_option maxHeartbeats 4000000 in
set_option maxRecDepth 100000 in
theorem lc_15 (l : Launch) (hl9 : l.stackTraces = false) {p : Program} {e : Env} {s : State} {m : MethodId} {below : List Frame} {meth : Method} {c : Code} {H : Heap} {locs : List Loc} {cells slots : Nat} {Q : State → Prop} {D : va_G} {G : Nat → ClassId} {b L : Nat} {xs : Nat → Int32} {ax am o1 o2 : Nat} {h : Nat → Nat} {th : Int} {ls : Array Slot} (hx : p.tables.exec = Jvm.exec) (hb : c.code = cL_law) (hml : c.maxLocals = 9) (hown : s.vm.findClass RL = some m.cls) (hts : ∀ w ∈ wsL_law, w.before #[Value.ref b] s = true) (hK : va_K D vwCl (zTy G) s) (hN : zN s) (hT0 : zT s s.heap) (hX : va_X b L xs s s.heap) (hbl : b < s.heap.size) (hL9 : L ≤ 2560) (hce : cells + 20 ≤ 601024) (hsl : slots + 3000 ≤ 7293034) (hS : va_S (fun q => s.heap.size ≤ q) s.heap H locs) (hI : LI D G ax am o1 o2 s.heap.size h th H) (i : Int) (hi : 0 ≤ i ∧ i + 5 ≤ L) (x1 : Int) (hv1 : xs (i + 1).toNat = zI x1) (hr1 : -2147483648 ≤ x1 ∧ x1 ≤ 2147483647) (x2 : Int) (hv2 : xs (i + 2).toNat = zI x2) (hr2 : -2147483648 ≤ x2 ∧ x2 ≤ 2147483647) (x3 : Int) (hv3 : xs (i + 3).toNat = zI x3) (hr3 : -2147483648 ≤ x3 ∧ x3 ≤ 2147483647) (x4 : Int) (hv4 : xs (i + 4).toNat = zI x4) (hr4 : -2147483648 ≤ x4 ∧ x4 ≤ 2147483647) (hl : lv_has ls 9 [(0, .ref b), (1, .ref ax), (2, .ref am), (3, .ref o1), (4, .ref o2), (5, .int (zI (i)))]) (kk : ∀ (H1 : Heap) (locs1 : List Loc) (th1 : Int) (ls1 : Array Slot), va_S (fun q => s.heap.size ≤ q) s.heap H1 locs1 → LI D G ax am o1 o2 s.heap.size h th1 H1 → lv_has ls1 9 [(0, .ref b), (1, .ref ax), (2, .ref am), (3, .ref o1), (4, .ref o2), (5, .int (zI (i)))] → W p l e room_1 s m #[Value.ref b] below meth c H1 locs1 (cells + 20) (slots + 3000) Q (F0 m 1999 ls1 [])) : W p l e room_1 s m #[Value.ref b] below meth c H locs cells slots Q (F0 m 1272 ls []) := by
  obtain ⟨lab, n, m9, sp, τ, ζ, g, cs, ss, M, hOK, hM, hXL, hML, ho1, ho2, hz0, hW, hPm, ⟨f1, hO1⟩, ⟨f2, hO2⟩⟩ := id hI
  refine lv_aload_n hx hb dL_law_1272 rfl (lv_at hl 1 rfl) ?_
  refine z_call (va_runV (As := []) (rest := []) ⟨hx, hb, hml, hown, hts⟩ (kX2_length l D G ax n m9 sp τ ζ g cs ss hOK) (cwV 0 hts gL_law_X2_length rfl rfl rfl (by decide +kernel) ⟨Nat.le_of_ble_eq_true rfl, Nat.le_of_ble_eq_true rfl⟩) (zPreV (va_recv hK hW.1 (ci := 2) (q0 := 0) rfl rfl) hK hN (hW)) rfl rfl hl.1 rfl (lv_room (Nat.le_of_ble_eq_true rfl)) dL_law_1273 ⟨z_rc (by omega), z_rs (by omega)⟩) ?_
  refine lv_aload_n hx hb dL_law_1276 rfl (lv_at hl 2 rfl) ?_
  have hAM : ∀ q : Nat, zA [am, h 0, h 1, h 2, h 3, h 4, h 5, h 6, h 7, h 8, h 9] q → s.heap.size ≤ q := fun q h9 => Nat.not_lt.mp (fun h8 => by have h7 := hz0 q h8; have h6 := hML.in h9; omega)
  refine z_callM (va_runV (As := []) (rest := [.int (zI (if m9 = 0 then 0 else ζ (m9 - 1).toNat 0 + ζ (m9 - 1).toNat 1))]) ⟨hx, hb, hml, hown, hts⟩ (kX3_length l D G am th n m9 sp τ ζ h M hOK hM hML.nd) (cwV 0 hts gL_law_X3_length rfl rfl rfl (by decide +kernel) ⟨Nat.le_of_ble_eq_true rfl, Nat.le_of_ble_eq_true rfl⟩) (zPreV (va_recv hK hPm (ci := 3) (q0 := 0) rfl rfl) hK hN (hPm)) rfl rfl hl.1 rfl (lv_room (Nat.le_of_ble_eq_true rfl)) dL_law_1277 ⟨z_rc (by omega), z_rs (by omega)⟩) hS (fun q _ h9 => hAM q h9) hAM (fun H2 locs2 hp2 hz2 hk2 hS2 => ?_)
  have hfr : ∀ q : Nat, q < H.size → (lab q < 100 ∨ 200 ≤ lab q) → H2[q]? = H[q]? := fun q hq hl8 => hk2 q hq (fun h9 => by have h6 := hML.in h9; omega)
  have hI2 := LI.finM hOK hM hXL hML ho1 ho2 hz0 hW ⟨f1, hO1⟩ ⟨f2, hO2⟩ hp2 hfr
  refine lv_icmp_eq (tgt := 1999) hx hb dL_law_1280 (by decide) (fun _ => ?_) (fun c9 => absurd rfl c9)
  refine W.widen (k := cells + 20) (n := slots + 3000) (by omega) (by omega) ?_
  exact kk _ _ _ _ hS2 hI2 (lv_sub hl [0, 1, 2, 3, 4, 5] rfl)

set_option maxHeartbeats 4000000 in
set_option maxRecDepth 100000 in
theorem lc_16 (l : Launch) (hl9 : l.stackTraces = false) {p : Program} {e : Env} {s : State} {m : MethodId} {below : List Frame} {meth : Method} {c : Code} {H : Heap} {locs : List Loc} {cells slots : Nat} {Q : State → Prop} {D : va_G} {G : Nat → ClassId} {b L : Nat} {xs : Nat → Int32} {ax am o1 o2 : Nat} {h : Nat → Nat} {th : Int} {ls : Array Slot} (hx : p.tables.exec = Jvm.exec) (hb : c.code = cL_law) (hml : c.maxLocals = 9) (hown : s.vm.findClass RL = some m.cls) (hts : ∀ w ∈ wsL_law, w.before #[Value.ref b] s = true) (hK : va_K D vwCl (zTy G) s) (hN : zN s) (hT0 : zT s s.heap) (hX : va_X b L xs s s.heap) (hbl : b < s.heap.size) (hL9 : L ≤ 2560) (hce : cells + 20 ≤ 601024) (hsl : slots + 3000 ≤ 7293034) (hS : va_S (fun q => s.heap.size ≤ q) s.heap H locs) (hI : LI D G ax am o1 o2 s.heap.size h th H) (i : Int) (hi : 0 ≤ i ∧ i + 5 ≤ L) (x1 : Int) (hv1 : xs (i + 1).toNat = zI x1) (hr1 : -2147483648 ≤ x1 ∧ x1 ≤ 2147483647) (x2 : Int) (hv2 : xs (i + 2).toNat = zI x2) (hr2 : -2147483648 ≤ x2 ∧ x2 ≤ 2147483647) (x3 : Int) (hv3 : xs (i + 3).toNat = zI x3) (hr3 : -2147483648 ≤ x3 ∧ x3 ≤ 2147483647) (x4 : Int) (hv4 : xs (i + 4).toNat = zI x4) (hr4 : -2147483648 ≤ x4 ∧ x4 ≤ 2147483647) (hl : lv_has ls 9 [(0, .ref b), (1, .ref ax), (2, .ref am), (3, .ref o1), (4, .ref o2), (5, .int (zI (i)))]) (kk : ∀ (H1 : Heap) (locs1 : List Loc) (th1 : Int) (ls1 : Array Slot), va_S (fun q => s.heap.size ≤ q) s.heap H1 locs1 → LI D G ax am o1 o2 s.heap.size h th1 H1 → lv_has ls1 9 [(0, .ref b), (1, .ref ax), (2, .ref am), (3, .ref o1), (4, .ref o2), (5, .int (zI (i)))] → W p l e room_1 s m #[Value.ref b] below meth c H1 locs1 (cells + 20) (slots + 3000) Q (F0 m 1999 ls1 [])) : W p l e room_1 s m #[Value.ref b] below meth c H locs cells slots Q (F0 m 1285 ls []) := by
  obtain ⟨lab, n, m9, sp, τ, ζ, g, cs, ss, M, hOK, hM, hXL, hML, ho1, ho2, hz0, hW, hPm, ⟨f1, hO1⟩, ⟨f2, hO2⟩⟩ := id hI
  refine lv_aload_n hx hb dL_law_1285 rfl (lv_at hl 1 rfl) ?_
  refine lv_aload_n hx hb dL_law_1286 rfl (lv_at hl 0 rfl) ?_
  refine lv_iload hx hb dL_law_1287 (lv_at hl 5 rfl) ?_
  refine lv_iconst (v := zI (1)) hx hb dL_law_1289 rfl ?_
  refine z_iadd hx hb dL_law_1290 ?_
  refine z_sld hx hb hX hbl (Nat.not_le.mpr hbl) hS (i := i + 1) (x := x1) (by omega) (by omega) hv1 dL_law_1291 ?_
  refine lv_aload_n hx hb dL_law_1292 rfl (lv_at hl 0 rfl) ?_
  refine lv_iload hx hb dL_law_1293 (lv_at hl 5 rfl) ?_
  refine lv_iconst (v := zI (2)) hx hb dL_law_1295 rfl ?_
  refine z_iadd hx hb dL_law_1296 ?_
  refine z_sld hx hb hX hbl (Nat.not_le.mpr hbl) hS (i := i + 2) (x := x2) (by omega) (by omega) hv2 dL_law_1297 ?_
  refine lv_aload_n hx hb dL_law_1298 rfl (lv_at hl 3 rfl) ?_
  have hAL : ∀ q : Nat, LA lab o1 H.size q → s.heap.size ≤ q := fun q h9 => Nat.not_lt.mp (fun h8 => by have h7 := hz0 q h8; have h6 := hS.1; rcases h9 with h9 | h9 | h9 <;> first | omega | (rw [h9] at h7; omega))
  refine z_callM (vx_runSW (As := [.ref ax, .int (zI (x1)), .int (zI (x2)), .ref o1]) (rest := []) ⟨hx, hb, hml, hown, hts⟩ (kL_loudness l D G hl9 ax n m9 sp τ ζ g cs ss hOK lab hXL o1 H.size f1 (by omega) (x1) (x2) hr1 hr2) (vx_cwSW 4 hts gL_law_L_loudness rfl rfl rfl (by decide +kernel) ⟨Nat.le_of_ble_eq_true rfl, Nat.le_of_ble_eq_true rfl⟩) (zPTreS hK hN (zT.kp hT0 hS) ⟨rfl, hW, hO1⟩) rfl rfl hl.1 rfl (lv_room (Nat.le_of_ble_eq_true rfl)) dL_law_1299 ⟨z_rc (by omega), z_rs (by omega)⟩) hS (fun q _ h9 => hAL q h9) hAL (fun H1 locs1 hp1 hz1 hk1 hS1 => ?_)
  obtain ⟨g', lab', cs', ss', hqC, hqN, hlb⟩ := hp1
  have hMLn := hML.same hPm hlb
  have ho1n : lab' o1 = 200 := (hlb _ (o_lt hO1)).trans ho1
  have ho2n : lab' o2 = 201 := (hlb _ (o_lt hO2)).trans ho2
  have hz0n : ∀ q : Nat, q < s.heap.size → lab' q = 300 := fun q hq => (hlb q (Nat.lt_of_lt_of_le hq hS.1)).trans (hz0 q hq)
  have hPm1 := mW.kp hPm hML (fun q hq h1 h2 => hk1 q hq (fun h9 => by rcases h9 with h9 | h9 | h9 <;> first | omega | (rw [h9] at h2; omega)))
  have hOx := o_kp hO2 (fun hq => hk1 o2 hq (fun h9 => by rcases h9 with h9 | h9 | h9 <;> first | omega | (rw [h9] at ho2; omega)))
  refine lv_istore (lv' := [(6, .int (zI (if 0 ≤ (x1) ∧ (x1) < n then (if 0 ≤ (x2) ∧ (x2) ≤ 99999 then 0 else 2) else 1))), (0, .ref b), (1, .ref ax), (2, .ref am), (3, .ref o1), (4, .ref o2), (5, .int (zI (i)))]) hx hb dL_law_1302 hl (by decide) rfl (fun ls hl => ?_)
  refine lv_aload_n hx hb dL_law_1304 rfl (lv_at hl 3 rfl) ?_
  refine lv_aload_n hx hb dL_law_1305 rfl (lv_at hl 1 rfl) ?_
  refine lv_iload hx hb dL_law_1306 (lv_at hl 6 rfl) ?_
  refine lv_iconst (v := zI (1)) hx hb dL_law_1308 rfl ?_
  refine z_iadd hx hb dL_law_1309 ?_
  refine z_sld hx hb hX hbl (Nat.not_le.mpr hbl) hS1 (i := i + 1) (x := x1) (by omega) (by omega) hv1 dL_law_1310 ?_
  refine lv_aload_n hx hb dL_law_1311 rfl (lv_at hl 1 rfl) ?_
  refine lv_iload hx hb dL_law_1312 (lv_at hl 6 rfl) ?_
  refine lv_iconst (v := zI (2)) hx hb dL_law_1314 rfl ?_
  refine z_iadd hx hb dL_law_1315 ?_
  refine z_sld hx hb hX hbl (Nat.not_le.mpr hbl) hS1 (i := i + 2) (x := x2) (by omega) (by omega) hv2 dL_law_1316 ?_
  have hAM : ∀ q : Nat, zA [am, h 0, h 1, h 2, h 3, h 4, h 5, h 6, h 7, h 8, h 9] q → s.heap.size ≤ q := fun q h9 => Nat.not_lt.mp (fun h8 => by have h7 := hz0n q h8; have h6 := hMLn.in h9; omega)
  refine z_callM (va_runV (As := [.int (zI (x1)), .int (zI (x2))]) (rest := []) ⟨hx, hb, hml, hown, hts⟩ (kX3_loudness l D G am th n m9 sp τ ζ h M hOK hM hMLn.nd (x1) (x2) hr1 hr2) (cwV 2 hts gL_law_X3_loudness rfl rfl rfl (by decide +kernel) ⟨Nat.le_of_ble_eq_true rfl, Nat.le_of_ble_eq_true rfl⟩) (zPreV (va_recv hK hPm1 (ci := 3) (q0 := 0) rfl rfl) hK hN (hPm1)) rfl rfl hl.1 rfl (lv_room (Nat.le_of_ble_eq_true rfl)) dL_law_1317 ⟨z_rc (by omega), z_rs (by omega)⟩) hS1 (fun q _ h9 => hAM q h9) hAM (fun H2 locs2 hp2 hz2 hk2 hS2 => ?_)
  have hfr : ∀ q : Nat, q < H1.size → (lab' q < 100 ∨ 200 ≤ lab' q) → H2[q]? = H1[q]? := fun q hq hl8 => hk2 q hq (fun h9 => by have h6 := hMLn.in h9; omega)
  have hPm2 := hp2
  have hMC : ((0 ≤ (x1) ∧ (x1) < n) ∧ (0 ≤ (x2) ∧ (x2) ≤ 99999)) → MR (n) (m9) (τ) (ζ) M := fun _ => hM
  have hMN : ¬ ((0 ≤ (x1) ∧ (x1) < n) ∧ (0 ≤ (x2) ∧ (x2) ≤ 99999)) → M = M := fun _ => rfl
  have hfin := LI.fin (D := D) (G := G) (C := (0 ≤ (x1) ∧ (x1) < n) ∧ (0 ≤ (x2) ∧ (x2) ≤ 99999)) (v := (zI (xLn n m9 τ ζ (x1) (x2))).toInt64) hOK (fun hC => hOK) hM hMC hMN hMLn ho1n ho2n hz0n hqC hqN ⟨f2, hOx⟩ hPm2 (fun hC => ⟨rfl, rfl, rfl⟩) (fun hC => ⟨rfl, rfl, rfl⟩) hfr
  obtain ⟨hI2, hval⟩ := hfin
  obtain ⟨lab2, n2, m2, sp2, τ2, ζ2, g2, cs2, ss2, M2, hOK2, hM2, hXL2, hML2, -, -, -, -, hPm3, -, -⟩ := id hI2
  refine lv_istore (lv' := [(7, .int (zI (if 0 ≤ (x1) ∧ (x1) < n then (if 0 ≤ (x2) ∧ (x2) ≤ 99999 then (xLn n m9 τ ζ (x1) (x2)) else 0) else 0))), (6, .int (zI (if 0 ≤ (x1) ∧ (x1) < n then (if 0 ≤ (x2) ∧ (x2) ≤ 99999 then 0 else 2) else 1))), (0, .ref b), (1, .ref ax), (2, .ref am), (3, .ref o1), (4, .ref o2), (5, .int (zI (i)))]) hx hb dL_law_1320 hl (by decide) rfl (fun ls hl => ?_)
  refine lv_aload_n hx hb dL_law_1322 rfl (lv_at hl 4 rfl) ?_
  refine z_call (va_runV (As := []) (rest := []) ⟨hx, hb, hml, hown, hts⟩ (kX3_thrown l D G am (if 0 ≤ (x1) ∧ (x1) < n then (if 0 ≤ (x2) ∧ (x2) ≤ 99999 then 0 else 2) else 1) n2 m2 sp2 τ2 ζ2 h M2 hOK2 hM2) (cwV 0 hts gL_law_X3_thrown rfl rfl rfl (by decide +kernel) ⟨Nat.le_of_ble_eq_true rfl, Nat.le_of_ble_eq_true rfl⟩) (zPreV (va_recv hK hPm3 (ci := 3) (q0 := 0) rfl rfl) hK hN (hPm3)) rfl rfl hl.1 rfl (lv_room (Nat.le_of_ble_eq_true rfl)) dL_law_1323 ⟨z_rc (by omega), z_rs (by omega)⟩) ?_
  refine lv_iload hx hb dL_law_1326 (lv_at hl 1 rfl) ?_
  refine lv_icmp_eq (tgt := 1333) hx hb dL_law_1328 (by decide) (fun _ => ?_) (fun c9 => absurd rfl c9)
  refine lv_iload hx hb dL_law_1333 (lv_at hl 1 rfl) ?_
  refine lv_if_ne (tgt := 1350) hx hb dL_law_1335 (by decide) (fun _ => ?_) (fun c9 => ?_)
  · refine lv_goto (tgt := 1999) hx hb dL_law_1350 (by decide) ?_
    refine W.widen (k := cells + 20) (n := slots + 3000) (by omega) (by omega) ?_
    exact kk _ _ _ _ hS2 hI2 (lv_sub hl [2, 3, 4, 5, 6, 7] rfl)
  · have hC := zK2 c9
    obtain ⟨f9, hf9, hPo9⟩ := hval hC
    refine lv_aload_n hx hb dL_law_1338 rfl (lv_at hl 5 rfl) ?_
    refine lv_iconst (v := zI (0)) hx hb dL_law_1339 rfl ?_
    refine z_lald (x := (zI (xLn n m9 τ ζ (x1) (x2))).toInt64) (D := D) hx hb hK hPo9 0 2 rfl rfl (by omega) (by omega) hf9 dL_law_1340 ?_
    refine lv_iload hx hb dL_law_1341 (lv_at hl 0 rfl) ?_
    refine lv_i2l (v := (zI (if 0 ≤ (x1) ∧ (x1) < n then (if 0 ≤ (x2) ∧ (x2) ≤ 99999 then (xLn n m9 τ ζ (x1) (x2)) else 0) else 0)).toInt64) hx hb dL_law_1343 rfl ?_
    refine W.lcmp hx hb dL_law_1344 ?_
    refine lv_if_eq (tgt := 1350) hx hb dL_law_1345 (by decide) (fun _ => ?_) (fun c8 => absurd (by rw [if_pos hC.1, if_pos hC.2]; exact z_cmp_self _) c8)
    refine lv_goto (tgt := 1999) hx hb dL_law_1350 (by decide) ?_
    refine W.widen (k := cells + 20) (n := slots + 3000) (by omega) (by omega) ?_
    exact kk _ _ _ _ hS2 hI2 (lv_sub hl [2, 3, 4, 5, 6, 7] rfl)

set_option maxHeartbeats 4000000 in
set_option maxRecDepth 100000 in
theorem lc_17 (l : Launch) (hl9 : l.stackTraces = false) {p : Program} {e : Env} {s : State} {m : MethodId} {below : List Frame} {meth : Method} {c : Code} {H : Heap} {locs : List Loc} {cells slots : Nat} {Q : State → Prop} {D : va_G} {G : Nat → ClassId} {b L : Nat} {xs : Nat → Int32} {ax am o1 o2 : Nat} {h : Nat → Nat} {th : Int} {ls : Array Slot} (hx : p.tables.exec = Jvm.exec) (hb : c.code = cL_law) (hml : c.maxLocals = 9) (hown : s.vm.findClass RL = some m.cls) (hts : ∀ w ∈ wsL_law, w.before #[Value.ref b] s = true) (hK : va_K D vwCl (zTy G) s) (hN : zN s) (hT0 : zT s s.heap) (hX : va_X b L xs s s.heap) (hbl : b < s.heap.size) (hL9 : L ≤ 2560) (hce : cells + 20 ≤ 601024) (hsl : slots + 3000 ≤ 7293034) (hS : va_S (fun q => s.heap.size ≤ q) s.heap H locs) (hI : LI D G ax am o1 o2 s.heap.size h th H) (i : Int) (hi : 0 ≤ i ∧ i + 5 ≤ L) (x1 : Int) (hv1 : xs (i + 1).toNat = zI x1) (hr1 : -2147483648 ≤ x1 ∧ x1 ≤ 2147483647) (x2 : Int) (hv2 : xs (i + 2).toNat = zI x2) (hr2 : -2147483648 ≤ x2 ∧ x2 ≤ 2147483647) (x3 : Int) (hv3 : xs (i + 3).toNat = zI x3) (hr3 : -2147483648 ≤ x3 ∧ x3 ≤ 2147483647) (x4 : Int) (hv4 : xs (i + 4).toNat = zI x4) (hr4 : -2147483648 ≤ x4 ∧ x4 ≤ 2147483647) (hl : lv_has ls 9 [(0, .ref b), (1, .ref ax), (2, .ref am), (3, .ref o1), (4, .ref o2), (5, .int (zI (i)))]) (kk : ∀ (H1 : Heap) (locs1 : List Loc) (th1 : Int) (ls1 : Array Slot), va_S (fun q => s.heap.size ≤ q) s.heap H1 locs1 → LI D G ax am o1 o2 s.heap.size h th1 H1 → lv_has ls1 9 [(0, .ref b), (1, .ref ax), (2, .ref am), (3, .ref o1), (4, .ref o2), (5, .int (zI (i)))] → W p l e room_1 s m #[Value.ref b] below meth c H1 locs1 (cells + 20) (slots + 3000) Q (F0 m 1999 ls1 [])) : W p l e room_1 s m #[Value.ref b] below meth c H locs cells slots Q (F0 m 1353 ls []) := by
  obtain ⟨lab, n, m9, sp, τ, ζ, g, cs, ss, M, hOK, hM, hXL, hML, ho1, ho2, hz0, hW, hPm, ⟨f1, hO1⟩, ⟨f2, hO2⟩⟩ := id hI
  refine lv_aload_n hx hb dL_law_1353 rfl (lv_at hl 1 rfl) ?_
  refine lv_aload_n hx hb dL_law_1354 rfl (lv_at hl 0 rfl) ?_
  refine lv_iload hx hb dL_law_1355 (lv_at hl 5 rfl) ?_
  refine lv_iconst (v := zI (1)) hx hb dL_law_1357 rfl ?_
  refine z_iadd hx hb dL_law_1358 ?_
  refine z_sld hx hb hX hbl (Nat.not_le.mpr hbl) hS (i := i + 1) (x := x1) (by omega) (by omega) hv1 dL_law_1359 ?_
  refine lv_aload_n hx hb dL_law_1360 rfl (lv_at hl 3 rfl) ?_
  have hAL : ∀ q : Nat, LA lab o1 H.size q → s.heap.size ≤ q := fun q h9 => Nat.not_lt.mp (fun h8 => by have h7 := hz0 q h8; have h6 := hS.1; rcases h9 with h9 | h9 | h9 <;> first | omega | (rw [h9] at h7; omega))
  refine z_callM (vx_runSW (As := [.ref ax, .int (zI (x1)), .ref o1]) (rest := []) ⟨hx, hb, hml, hown, hts⟩ (kL_hits l D G hl9 ax n m9 sp τ ζ g cs ss hOK lab hXL o1 H.size f1 (by omega) (x1) hr1) (vx_cwSW 3 hts gL_law_L_hits rfl rfl rfl (by decide +kernel) ⟨Nat.le_of_ble_eq_true rfl, Nat.le_of_ble_eq_true rfl⟩) (zPTreS hK hN (zT.kp hT0 hS) ⟨rfl, hW, hO1⟩) rfl rfl hl.1 rfl (lv_room (Nat.le_of_ble_eq_true rfl)) dL_law_1361 ⟨z_rc (by omega), z_rs (by omega)⟩) hS (fun q _ h9 => hAL q h9) hAL (fun H1 locs1 hp1 hz1 hk1 hS1 => ?_)
  obtain ⟨g', lab', cs', ss', hqC, hqN, hlb⟩ := hp1
  have hMLn := hML.same hPm hlb
  have ho1n : lab' o1 = 200 := (hlb _ (o_lt hO1)).trans ho1
  have ho2n : lab' o2 = 201 := (hlb _ (o_lt hO2)).trans ho2
  have hz0n : ∀ q : Nat, q < s.heap.size → lab' q = 300 := fun q hq => (hlb q (Nat.lt_of_lt_of_le hq hS.1)).trans (hz0 q hq)
  have hPm1 := mW.kp hPm hML (fun q hq h1 h2 => hk1 q hq (fun h9 => by rcases h9 with h9 | h9 | h9 <;> first | omega | (rw [h9] at h2; omega)))
  have hOx := o_kp hO2 (fun hq => hk1 o2 hq (fun h9 => by rcases h9 with h9 | h9 | h9 <;> first | omega | (rw [h9] at ho2; omega)))
  refine lv_istore (lv' := [(6, .int (zI (if 0 ≤ (x1) ∧ (x1) ≤ 99999 then 0 else 1))), (0, .ref b), (1, .ref ax), (2, .ref am), (3, .ref o1), (4, .ref o2), (5, .int (zI (i)))]) hx hb dL_law_1364 hl (by decide) rfl (fun ls hl => ?_)
  refine lv_aload_n hx hb dL_law_1366 rfl (lv_at hl 3 rfl) ?_
  refine lv_aload_n hx hb dL_law_1367 rfl (lv_at hl 1 rfl) ?_
  refine lv_iload hx hb dL_law_1368 (lv_at hl 6 rfl) ?_
  refine lv_iconst (v := zI (1)) hx hb dL_law_1370 rfl ?_
  refine z_iadd hx hb dL_law_1371 ?_
  refine z_sld hx hb hX hbl (Nat.not_le.mpr hbl) hS1 (i := i + 1) (x := x1) (by omega) (by omega) hv1 dL_law_1372 ?_
  have hAM : ∀ q : Nat, zA [am, h 0, h 1, h 2, h 3, h 4, h 5, h 6, h 7, h 8, h 9] q → s.heap.size ≤ q := fun q h9 => Nat.not_lt.mp (fun h8 => by have h7 := hz0n q h8; have h6 := hMLn.in h9; omega)
  refine z_callM (va_runV (As := [.int (zI (x1))]) (rest := []) ⟨hx, hb, hml, hown, hts⟩ (kX3_hits_ l D G am th n m9 sp τ ζ h M hOK hM hMLn.nd (x1) hr1) (cwV 1 hts gL_law_X3_hits_ rfl rfl rfl (by decide +kernel) ⟨Nat.le_of_ble_eq_true rfl, Nat.le_of_ble_eq_true rfl⟩) (zPreV (va_recv hK hPm1 (ci := 3) (q0 := 0) rfl rfl) hK hN (hPm1)) rfl rfl hl.1 rfl (lv_room (Nat.le_of_ble_eq_true rfl)) dL_law_1373 ⟨z_rc (by omega), z_rs (by omega)⟩) hS1 (fun q _ h9 => hAM q h9) hAM (fun H2 locs2 hp2 hz2 hk2 hS2 => ?_)
  have hfr : ∀ q : Nat, q < H1.size → (lab' q < 100 ∨ 200 ≤ lab' q) → H2[q]? = H1[q]? := fun q hq hl8 => hk2 q hq (fun h9 => by have h6 := hMLn.in h9; omega)
  have hPm2 := hp2
  have hMC : (0 ≤ (x1) ∧ (x1) ≤ 99999) → MR (n) (m9) (τ) (ζ) M := fun _ => hM
  have hMN : ¬ (0 ≤ (x1) ∧ (x1) ≤ 99999) → M = M := fun _ => rfl
  have hfin := LI.fin (D := D) (G := G) (C := 0 ≤ (x1) ∧ (x1) ≤ 99999) (v := (zI ((xSet (fun j => xHit n m9 τ ζ (j : Int) (x1)) n.toNat : Nat))).toInt64) hOK (fun hC => hOK) hM hMC hMN hMLn ho1n ho2n hz0n hqC hqN ⟨f2, hOx⟩ hPm2 (fun hC => ⟨rfl, rfl, rfl⟩) (fun hC => ⟨rfl, rfl, rfl⟩) hfr
  obtain ⟨hI2, hval⟩ := hfin
  obtain ⟨lab2, n2, m2, sp2, τ2, ζ2, g2, cs2, ss2, M2, hOK2, hM2, hXL2, hML2, -, -, -, -, hPm3, -, -⟩ := id hI2
  refine lv_istore (lv' := [(7, .int (zI (if 0 ≤ (x1) ∧ (x1) ≤ 99999 then ((xSet (fun j => xHit n m9 τ ζ (j : Int) (x1)) n.toNat : Nat)) else 0))), (6, .int (zI (if 0 ≤ (x1) ∧ (x1) ≤ 99999 then 0 else 1))), (0, .ref b), (1, .ref ax), (2, .ref am), (3, .ref o1), (4, .ref o2), (5, .int (zI (i)))]) hx hb dL_law_1376 hl (by decide) rfl (fun ls hl => ?_)
  refine lv_aload_n hx hb dL_law_1378 rfl (lv_at hl 4 rfl) ?_
  refine z_call (va_runV (As := []) (rest := []) ⟨hx, hb, hml, hown, hts⟩ (kX3_thrown l D G am (if 0 ≤ (x1) ∧ (x1) ≤ 99999 then 0 else 1) n2 m2 sp2 τ2 ζ2 h M2 hOK2 hM2) (cwV 0 hts gL_law_X3_thrown rfl rfl rfl (by decide +kernel) ⟨Nat.le_of_ble_eq_true rfl, Nat.le_of_ble_eq_true rfl⟩) (zPreV (va_recv hK hPm3 (ci := 3) (q0 := 0) rfl rfl) hK hN (hPm3)) rfl rfl hl.1 rfl (lv_room (Nat.le_of_ble_eq_true rfl)) dL_law_1379 ⟨z_rc (by omega), z_rs (by omega)⟩) ?_
  refine lv_iload hx hb dL_law_1382 (lv_at hl 1 rfl) ?_
  refine lv_icmp_eq (tgt := 1389) hx hb dL_law_1384 (by decide) (fun _ => ?_) (fun c9 => absurd rfl c9)
  refine lv_iload hx hb dL_law_1389 (lv_at hl 1 rfl) ?_
  refine lv_if_ne (tgt := 1406) hx hb dL_law_1391 (by decide) (fun _ => ?_) (fun c9 => ?_)
  · refine lv_goto (tgt := 1999) hx hb dL_law_1406 (by decide) ?_
    refine W.widen (k := cells + 20) (n := slots + 3000) (by omega) (by omega) ?_
    exact kk _ _ _ _ hS2 hI2 (lv_sub hl [2, 3, 4, 5, 6, 7] rfl)
  · have hC := zK1 c9
    obtain ⟨f9, hf9, hPo9⟩ := hval hC
    refine lv_aload_n hx hb dL_law_1394 rfl (lv_at hl 5 rfl) ?_
    refine lv_iconst (v := zI (0)) hx hb dL_law_1395 rfl ?_
    refine z_lald (x := (zI ((xSet (fun j => xHit n m9 τ ζ (j : Int) (x1)) n.toNat : Nat))).toInt64) (D := D) hx hb hK hPo9 0 2 rfl rfl (by omega) (by omega) hf9 dL_law_1396 ?_
    refine lv_iload hx hb dL_law_1397 (lv_at hl 0 rfl) ?_
    refine lv_i2l (v := (zI (if 0 ≤ (x1) ∧ (x1) ≤ 99999 then ((xSet (fun j => xHit n m9 τ ζ (j : Int) (x1)) n.toNat : Nat)) else 0)).toInt64) hx hb dL_law_1399 rfl ?_
    refine W.lcmp hx hb dL_law_1400 ?_
    refine lv_if_eq (tgt := 1406) hx hb dL_law_1401 (by decide) (fun _ => ?_) (fun c8 => absurd (by rw [if_pos hC]; exact z_cmp_self _) c8)
    refine lv_goto (tgt := 1999) hx hb dL_law_1406 (by decide) ?_
    refine W.widen (k := cells + 20) (n := slots + 3000) (by omega) (by omega) ?_
    exact kk _ _ _ _ hS2 hI2 (lv_sub hl [2, 3, 4, 5, 6, 7] rfl)

set_option maxHeartbeats 4000000 in
set_option maxRecDepth 100000 in
theorem lc_18 (l : Launch) (hl9 : l.stackTraces = false) {p : Program} {e : Env} {s : State} {m : MethodId} {below : List Frame} {meth : Method} {c : Code} {H : Heap} {locs : List Loc} {cells slots : Nat} {Q : State → Prop} {D : va_G} {G : Nat → ClassId} {b L : Nat} {xs : Nat → Int32} {ax am o1 o2 : Nat} {h : Nat → Nat} {th : Int} {ls : Array Slot} (hx : p.tables.exec = Jvm.exec) (hb : c.code = cL_law) (hml : c.maxLocals = 9) (hown : s.vm.findClass RL = some m.cls) (hts : ∀ w ∈ wsL_law, w.before #[Value.ref b] s = true) (hK : va_K D vwCl (zTy G) s) (hN : zN s) (hT0 : zT s s.heap) (hX : va_X b L xs s s.heap) (hbl : b < s.heap.size) (hL9 : L ≤ 2560) (hce : cells + 20 ≤ 601024) (hsl : slots + 3000 ≤ 7293034) (hS : va_S (fun q => s.heap.size ≤ q) s.heap H locs) (hI : LI D G ax am o1 o2 s.heap.size h th H) (i : Int) (hi : 0 ≤ i ∧ i + 5 ≤ L) (x1 : Int) (hv1 : xs (i + 1).toNat = zI x1) (hr1 : -2147483648 ≤ x1 ∧ x1 ≤ 2147483647) (x2 : Int) (hv2 : xs (i + 2).toNat = zI x2) (hr2 : -2147483648 ≤ x2 ∧ x2 ≤ 2147483647) (x3 : Int) (hv3 : xs (i + 3).toNat = zI x3) (hr3 : -2147483648 ≤ x3 ∧ x3 ≤ 2147483647) (x4 : Int) (hv4 : xs (i + 4).toNat = zI x4) (hr4 : -2147483648 ≤ x4 ∧ x4 ≤ 2147483647) (hl : lv_has ls 9 [(0, .ref b), (1, .ref ax), (2, .ref am), (3, .ref o1), (4, .ref o2), (5, .int (zI (i)))]) (kk : ∀ (H1 : Heap) (locs1 : List Loc) (th1 : Int) (ls1 : Array Slot), va_S (fun q => s.heap.size ≤ q) s.heap H1 locs1 → LI D G ax am o1 o2 s.heap.size h th1 H1 → lv_has ls1 9 [(0, .ref b), (1, .ref ax), (2, .ref am), (3, .ref o1), (4, .ref o2), (5, .int (zI (i)))] → W p l e room_1 s m #[Value.ref b] below meth c H1 locs1 (cells + 20) (slots + 3000) Q (F0 m 1999 ls1 [])) : W p l e room_1 s m #[Value.ref b] below meth c H locs cells slots Q (F0 m 1409 ls []) := by
  obtain ⟨lab, n, m9, sp, τ, ζ, g, cs, ss, M, hOK, hM, hXL, hML, ho1, ho2, hz0, hW, hPm, ⟨f1, hO1⟩, ⟨f2, hO2⟩⟩ := id hI
  refine lv_aload_n hx hb dL_law_1409 rfl (lv_at hl 1 rfl) ?_
  refine lv_aload_n hx hb dL_law_1410 rfl (lv_at hl 0 rfl) ?_
  refine lv_iload hx hb dL_law_1411 (lv_at hl 5 rfl) ?_
  refine lv_iconst (v := zI (1)) hx hb dL_law_1413 rfl ?_
  refine z_iadd hx hb dL_law_1414 ?_
  refine z_sld hx hb hX hbl (Nat.not_le.mpr hbl) hS (i := i + 1) (x := x1) (by omega) (by omega) hv1 dL_law_1415 ?_
  refine lv_aload_n hx hb dL_law_1416 rfl (lv_at hl 3 rfl) ?_
  have hAL : ∀ q : Nat, LA lab o1 H.size q → s.heap.size ≤ q := fun q h9 => Nat.not_lt.mp (fun h8 => by have h7 := hz0 q h8; have h6 := hS.1; rcases h9 with h9 | h9 | h9 <;> first | omega | (rw [h9] at h7; omega))
  refine z_callM (vx_runSW (As := [.ref ax, .int (zI (x1)), .ref o1]) (rest := []) ⟨hx, hb, hml, hown, hts⟩ (kL_sounding l D G hl9 ax n m9 sp τ ζ g cs ss hOK lab hXL o1 H.size f1 (by omega) (x1) hr1) (vx_cwSW 3 hts gL_law_L_sounding rfl rfl rfl (by decide +kernel) ⟨Nat.le_of_ble_eq_true rfl, Nat.le_of_ble_eq_true rfl⟩) (zPTreS hK hN (zT.kp hT0 hS) ⟨rfl, hW, hO1⟩) rfl rfl hl.1 rfl (lv_room (Nat.le_of_ble_eq_true rfl)) dL_law_1417 ⟨z_rc (by omega), z_rs (by omega)⟩) hS (fun q _ h9 => hAL q h9) hAL (fun H1 locs1 hp1 hz1 hk1 hS1 => ?_)
  obtain ⟨g', lab', cs', ss', hqC, hqN, hlb⟩ := hp1
  have hMLn := hML.same hPm hlb
  have ho1n : lab' o1 = 200 := (hlb _ (o_lt hO1)).trans ho1
  have ho2n : lab' o2 = 201 := (hlb _ (o_lt hO2)).trans ho2
  have hz0n : ∀ q : Nat, q < s.heap.size → lab' q = 300 := fun q hq => (hlb q (Nat.lt_of_lt_of_le hq hS.1)).trans (hz0 q hq)
  have hPm1 := mW.kp hPm hML (fun q hq h1 h2 => hk1 q hq (fun h9 => by rcases h9 with h9 | h9 | h9 <;> first | omega | (rw [h9] at h2; omega)))
  have hOx := o_kp hO2 (fun hq => hk1 o2 hq (fun h9 => by rcases h9 with h9 | h9 | h9 <;> first | omega | (rw [h9] at ho2; omega)))
  refine lv_istore (lv' := [(6, .int (zI (if 0 ≤ (x1) ∧ (x1) ≤ 99999 then 0 else 1))), (0, .ref b), (1, .ref ax), (2, .ref am), (3, .ref o1), (4, .ref o2), (5, .int (zI (i)))]) hx hb dL_law_1420 hl (by decide) rfl (fun ls hl => ?_)
  refine lv_aload_n hx hb dL_law_1422 rfl (lv_at hl 3 rfl) ?_
  refine lv_aload_n hx hb dL_law_1423 rfl (lv_at hl 1 rfl) ?_
  refine lv_iload hx hb dL_law_1424 (lv_at hl 6 rfl) ?_
  refine lv_iconst (v := zI (1)) hx hb dL_law_1426 rfl ?_
  refine z_iadd hx hb dL_law_1427 ?_
  refine z_sld hx hb hX hbl (Nat.not_le.mpr hbl) hS1 (i := i + 1) (x := x1) (by omega) (by omega) hv1 dL_law_1428 ?_
  have hAM : ∀ q : Nat, zA [am, h 0, h 1, h 2, h 3, h 4, h 5, h 6, h 7, h 8, h 9] q → s.heap.size ≤ q := fun q h9 => Nat.not_lt.mp (fun h8 => by have h7 := hz0n q h8; have h6 := hMLn.in h9; omega)
  refine z_callM (va_runV (As := [.int (zI (x1))]) (rest := []) ⟨hx, hb, hml, hown, hts⟩ (kX3_sounding l D G am th n m9 sp τ ζ h M hOK hM hMLn.nd (x1) hr1) (cwV 1 hts gL_law_X3_sounding rfl rfl rfl (by decide +kernel) ⟨Nat.le_of_ble_eq_true rfl, Nat.le_of_ble_eq_true rfl⟩) (zPreV (va_recv hK hPm1 (ci := 3) (q0 := 0) rfl rfl) hK hN (hPm1)) rfl rfl hl.1 rfl (lv_room (Nat.le_of_ble_eq_true rfl)) dL_law_1429 ⟨z_rc (by omega), z_rs (by omega)⟩) hS1 (fun q _ h9 => hAM q h9) hAM (fun H2 locs2 hp2 hz2 hk2 hS2 => ?_)
  have hfr : ∀ q : Nat, q < H1.size → (lab' q < 100 ∨ 200 ≤ lab' q) → H2[q]? = H1[q]? := fun q hq hl8 => hk2 q hq (fun h9 => by have h6 := hMLn.in h9; omega)
  have hPm2 := hp2
  have hMC : (0 ≤ (x1) ∧ (x1) ≤ 99999) → MR (n) (m9) (τ) (ζ) M := fun _ => hM
  have hMN : ¬ (0 ≤ (x1) ∧ (x1) ≤ 99999) → M = M := fun _ => rfl
  have hfin := LI.fin (D := D) (G := G) (C := 0 ≤ (x1) ∧ (x1) ≤ 99999) (v := (zI ((xSet (fun j => xSnd n m9 τ ζ (x1) (j : Int)) n.toNat : Nat))).toInt64) hOK (fun hC => hOK) hM hMC hMN hMLn ho1n ho2n hz0n hqC hqN ⟨f2, hOx⟩ hPm2 (fun hC => ⟨rfl, rfl, rfl⟩) (fun hC => ⟨rfl, rfl, rfl⟩) hfr
  obtain ⟨hI2, hval⟩ := hfin
  obtain ⟨lab2, n2, m2, sp2, τ2, ζ2, g2, cs2, ss2, M2, hOK2, hM2, hXL2, hML2, -, -, -, -, hPm3, -, -⟩ := id hI2
  refine lv_istore (lv' := [(7, .int (zI (if 0 ≤ (x1) ∧ (x1) ≤ 99999 then ((xSet (fun j => xSnd n m9 τ ζ (x1) (j : Int)) n.toNat : Nat)) else 0))), (6, .int (zI (if 0 ≤ (x1) ∧ (x1) ≤ 99999 then 0 else 1))), (0, .ref b), (1, .ref ax), (2, .ref am), (3, .ref o1), (4, .ref o2), (5, .int (zI (i)))]) hx hb dL_law_1432 hl (by decide) rfl (fun ls hl => ?_)
  refine lv_aload_n hx hb dL_law_1434 rfl (lv_at hl 4 rfl) ?_
  refine z_call (va_runV (As := []) (rest := []) ⟨hx, hb, hml, hown, hts⟩ (kX3_thrown l D G am (if 0 ≤ (x1) ∧ (x1) ≤ 99999 then 0 else 1) n2 m2 sp2 τ2 ζ2 h M2 hOK2 hM2) (cwV 0 hts gL_law_X3_thrown rfl rfl rfl (by decide +kernel) ⟨Nat.le_of_ble_eq_true rfl, Nat.le_of_ble_eq_true rfl⟩) (zPreV (va_recv hK hPm3 (ci := 3) (q0 := 0) rfl rfl) hK hN (hPm3)) rfl rfl hl.1 rfl (lv_room (Nat.le_of_ble_eq_true rfl)) dL_law_1435 ⟨z_rc (by omega), z_rs (by omega)⟩) ?_
  refine lv_iload hx hb dL_law_1438 (lv_at hl 1 rfl) ?_
  refine lv_icmp_eq (tgt := 1445) hx hb dL_law_1440 (by decide) (fun _ => ?_) (fun c9 => absurd rfl c9)
  refine lv_iload hx hb dL_law_1445 (lv_at hl 1 rfl) ?_
  refine lv_if_ne (tgt := 1462) hx hb dL_law_1447 (by decide) (fun _ => ?_) (fun c9 => ?_)
  · refine lv_goto (tgt := 1999) hx hb dL_law_1462 (by decide) ?_
    refine W.widen (k := cells + 20) (n := slots + 3000) (by omega) (by omega) ?_
    exact kk _ _ _ _ hS2 hI2 (lv_sub hl [2, 3, 4, 5, 6, 7] rfl)
  · have hC := zK1 c9
    obtain ⟨f9, hf9, hPo9⟩ := hval hC
    refine lv_aload_n hx hb dL_law_1450 rfl (lv_at hl 5 rfl) ?_
    refine lv_iconst (v := zI (0)) hx hb dL_law_1451 rfl ?_
    refine z_lald (x := (zI ((xSet (fun j => xSnd n m9 τ ζ (x1) (j : Int)) n.toNat : Nat))).toInt64) (D := D) hx hb hK hPo9 0 2 rfl rfl (by omega) (by omega) hf9 dL_law_1452 ?_
    refine lv_iload hx hb dL_law_1453 (lv_at hl 0 rfl) ?_
    refine lv_i2l (v := (zI (if 0 ≤ (x1) ∧ (x1) ≤ 99999 then ((xSet (fun j => xSnd n m9 τ ζ (x1) (j : Int)) n.toNat : Nat)) else 0)).toInt64) hx hb dL_law_1455 rfl ?_
    refine W.lcmp hx hb dL_law_1456 ?_
    refine lv_if_eq (tgt := 1462) hx hb dL_law_1457 (by decide) (fun _ => ?_) (fun c8 => absurd (by rw [if_pos hC]; exact z_cmp_self _) c8)
    refine lv_goto (tgt := 1999) hx hb dL_law_1462 (by decide) ?_
    refine W.widen (k := cells + 20) (n := slots + 3000) (by omega) (by omega) ?_
    exact kk _ _ _ _ hS2 hI2 (lv_sub hl [2, 3, 4, 5, 6, 7] rfl)

set_option maxHeartbeats 4000000 in
set_option maxRecDepth 100000 in
theorem lc_19 (l : Launch) (hl9 : l.stackTraces = false) {p : Program} {e : Env} {s : State} {m : MethodId} {below : List Frame} {meth : Method} {c : Code} {H : Heap} {locs : List Loc} {cells slots : Nat} {Q : State → Prop} {D : va_G} {G : Nat → ClassId} {b L : Nat} {xs : Nat → Int32} {ax am o1 o2 : Nat} {h : Nat → Nat} {th : Int} {ls : Array Slot} (hx : p.tables.exec = Jvm.exec) (hb : c.code = cL_law) (hml : c.maxLocals = 9) (hown : s.vm.findClass RL = some m.cls) (hts : ∀ w ∈ wsL_law, w.before #[Value.ref b] s = true) (hK : va_K D vwCl (zTy G) s) (hN : zN s) (hT0 : zT s s.heap) (hX : va_X b L xs s s.heap) (hbl : b < s.heap.size) (hL9 : L ≤ 2560) (hce : cells + 20 ≤ 601024) (hsl : slots + 3000 ≤ 7293034) (hS : va_S (fun q => s.heap.size ≤ q) s.heap H locs) (hI : LI D G ax am o1 o2 s.heap.size h th H) (i : Int) (hi : 0 ≤ i ∧ i + 5 ≤ L) (x1 : Int) (hv1 : xs (i + 1).toNat = zI x1) (hr1 : -2147483648 ≤ x1 ∧ x1 ≤ 2147483647) (x2 : Int) (hv2 : xs (i + 2).toNat = zI x2) (hr2 : -2147483648 ≤ x2 ∧ x2 ≤ 2147483647) (x3 : Int) (hv3 : xs (i + 3).toNat = zI x3) (hr3 : -2147483648 ≤ x3 ∧ x3 ≤ 2147483647) (x4 : Int) (hv4 : xs (i + 4).toNat = zI x4) (hr4 : -2147483648 ≤ x4 ∧ x4 ≤ 2147483647) (hl : lv_has ls 9 [(0, .ref b), (1, .ref ax), (2, .ref am), (3, .ref o1), (4, .ref o2), (5, .int (zI (i)))]) (kk : ∀ (H1 : Heap) (locs1 : List Loc) (th1 : Int) (ls1 : Array Slot), va_S (fun q => s.heap.size ≤ q) s.heap H1 locs1 → LI D G ax am o1 o2 s.heap.size h th1 H1 → lv_has ls1 9 [(0, .ref b), (1, .ref ax), (2, .ref am), (3, .ref o1), (4, .ref o2), (5, .int (zI (i)))] → W p l e room_1 s m #[Value.ref b] below meth c H1 locs1 (cells + 20) (slots + 3000) Q (F0 m 1999 ls1 [])) : W p l e room_1 s m #[Value.ref b] below meth c H locs cells slots Q (F0 m 1465 ls []) := by
  obtain ⟨lab, n, m9, sp, τ, ζ, g, cs, ss, M, hOK, hM, hXL, hML, ho1, ho2, hz0, hW, hPm, ⟨f1, hO1⟩, ⟨f2, hO2⟩⟩ := id hI
  refine lv_aload_n hx hb dL_law_1465 rfl (lv_at hl 1 rfl) ?_
  refine lv_aload_n hx hb dL_law_1466 rfl (lv_at hl 0 rfl) ?_
  refine lv_iload hx hb dL_law_1467 (lv_at hl 5 rfl) ?_
  refine lv_iconst (v := zI (1)) hx hb dL_law_1469 rfl ?_
  refine z_iadd hx hb dL_law_1470 ?_
  refine z_sld hx hb hX hbl (Nat.not_le.mpr hbl) hS (i := i + 1) (x := x1) (by omega) (by omega) hv1 dL_law_1471 ?_
  refine lv_aload_n hx hb dL_law_1472 rfl (lv_at hl 0 rfl) ?_
  refine lv_iload hx hb dL_law_1473 (lv_at hl 5 rfl) ?_
  refine lv_iconst (v := zI (2)) hx hb dL_law_1475 rfl ?_
  refine z_iadd hx hb dL_law_1476 ?_
  refine z_sld hx hb hX hbl (Nat.not_le.mpr hbl) hS (i := i + 2) (x := x2) (by omega) (by omega) hv2 dL_law_1477 ?_
  refine lv_aload_n hx hb dL_law_1478 rfl (lv_at hl 3 rfl) ?_
  have hAL : ∀ q : Nat, LA lab o1 H.size q → s.heap.size ≤ q := fun q h9 => Nat.not_lt.mp (fun h8 => by have h7 := hz0 q h8; have h6 := hS.1; rcases h9 with h9 | h9 | h9 <;> first | omega | (rw [h9] at h7; omega))
  refine z_callM (vx_runSW (As := [.ref ax, .int (zI (x1)), .int (zI (x2)), .ref o1]) (rest := []) ⟨hx, hb, hml, hown, hts⟩ (kL_next l D G hl9 ax n m9 sp τ ζ g cs ss hOK lab hXL o1 H.size f1 (by omega) (x1) (x2) hr1 hr2) (vx_cwSW 4 hts gL_law_L_next rfl rfl rfl (by decide +kernel) ⟨Nat.le_of_ble_eq_true rfl, Nat.le_of_ble_eq_true rfl⟩) (zPTreS hK hN (zT.kp hT0 hS) ⟨rfl, hW, hO1⟩) rfl rfl hl.1 rfl (lv_room (Nat.le_of_ble_eq_true rfl)) dL_law_1479 ⟨z_rc (by omega), z_rs (by omega)⟩) hS (fun q _ h9 => hAL q h9) hAL (fun H1 locs1 hp1 hz1 hk1 hS1 => ?_)
  obtain ⟨g', lab', cs', ss', hqC, hqN, hlb⟩ := hp1
  have hMLn := hML.same hPm hlb
  have ho1n : lab' o1 = 200 := (hlb _ (o_lt hO1)).trans ho1
  have ho2n : lab' o2 = 201 := (hlb _ (o_lt hO2)).trans ho2
  have hz0n : ∀ q : Nat, q < s.heap.size → lab' q = 300 := fun q hq => (hlb q (Nat.lt_of_lt_of_le hq hS.1)).trans (hz0 q hq)
  have hPm1 := mW.kp hPm hML (fun q hq h1 h2 => hk1 q hq (fun h9 => by rcases h9 with h9 | h9 | h9 <;> first | omega | (rw [h9] at h2; omega)))
  have hOx := o_kp hO2 (fun hq => hk1 o2 hq (fun h9 => by rcases h9 with h9 | h9 | h9 <;> first | omega | (rw [h9] at ho2; omega)))
  refine lv_istore (lv' := [(6, .int (zI (if 0 ≤ (x1) ∧ (x1) < n then (if 0 ≤ (x2) ∧ (x2) ≤ 99999 then 0 else 2) else 1))), (0, .ref b), (1, .ref ax), (2, .ref am), (3, .ref o1), (4, .ref o2), (5, .int (zI (i)))]) hx hb dL_law_1482 hl (by decide) rfl (fun ls hl => ?_)
  refine lv_aload_n hx hb dL_law_1484 rfl (lv_at hl 3 rfl) ?_
  refine lv_aload_n hx hb dL_law_1485 rfl (lv_at hl 1 rfl) ?_
  refine lv_iload hx hb dL_law_1486 (lv_at hl 6 rfl) ?_
  refine lv_iconst (v := zI (1)) hx hb dL_law_1488 rfl ?_
  refine z_iadd hx hb dL_law_1489 ?_
  refine z_sld hx hb hX hbl (Nat.not_le.mpr hbl) hS1 (i := i + 1) (x := x1) (by omega) (by omega) hv1 dL_law_1490 ?_
  refine lv_aload_n hx hb dL_law_1491 rfl (lv_at hl 1 rfl) ?_
  refine lv_iload hx hb dL_law_1492 (lv_at hl 6 rfl) ?_
  refine lv_iconst (v := zI (2)) hx hb dL_law_1494 rfl ?_
  refine z_iadd hx hb dL_law_1495 ?_
  refine z_sld hx hb hX hbl (Nat.not_le.mpr hbl) hS1 (i := i + 2) (x := x2) (by omega) (by omega) hv2 dL_law_1496 ?_
  have hAM : ∀ q : Nat, zA [am, h 0, h 1, h 2, h 3, h 4, h 5, h 6, h 7, h 8, h 9] q → s.heap.size ≤ q := fun q h9 => Nat.not_lt.mp (fun h8 => by have h7 := hz0n q h8; have h6 := hMLn.in h9; omega)
  refine z_callM (va_runV (As := [.int (zI (x1)), .int (zI (x2))]) (rest := []) ⟨hx, hb, hml, hown, hts⟩ (kX3_next l D G am th n m9 sp τ ζ h M hOK hM hMLn.nd (x1) (x2) hr1 hr2) (cwV 2 hts gL_law_X3_next rfl rfl rfl (by decide +kernel) ⟨Nat.le_of_ble_eq_true rfl, Nat.le_of_ble_eq_true rfl⟩) (zPreV (va_recv hK hPm1 (ci := 3) (q0 := 0) rfl rfl) hK hN (hPm1)) rfl rfl hl.1 rfl (lv_room (Nat.le_of_ble_eq_true rfl)) dL_law_1497 ⟨z_rc (by omega), z_rs (by omega)⟩) hS1 (fun q _ h9 => hAM q h9) hAM (fun H2 locs2 hp2 hz2 hk2 hS2 => ?_)
  have hfr : ∀ q : Nat, q < H1.size → (lab' q < 100 ∨ 200 ≤ lab' q) → H2[q]? = H1[q]? := fun q hq hl8 => hk2 q hq (fun h9 => by have h6 := hMLn.in h9; omega)
  have hPm2 := hp2
  have hMC : ((0 ≤ (x1) ∧ (x1) < n) ∧ (0 ≤ (x2) ∧ (x2) ≤ 99999)) → MR (n) (m9) (τ) (ζ) M := fun _ => hM
  have hMN : ¬ ((0 ≤ (x1) ∧ (x1) < n) ∧ (0 ≤ (x2) ∧ (x2) ≤ 99999)) → M = M := fun _ => rfl
  have hfin := LI.fin (D := D) (G := G) (C := (0 ≤ (x1) ∧ (x1) < n) ∧ (0 ≤ (x2) ∧ (x2) ≤ 99999)) (v := (zI (xNx (fun t => xHit n m9 τ ζ (x1) t) (x2) ((if 99999 < (x2) + 3000 then 99999 else (x2) + 3000) + 1 - (x2)).toNat)).toInt64) hOK (fun hC => hOK) hM hMC hMN hMLn ho1n ho2n hz0n hqC hqN ⟨f2, hOx⟩ hPm2 (fun hC => ⟨rfl, rfl, rfl⟩) (fun hC => ⟨rfl, rfl, rfl⟩) hfr
  obtain ⟨hI2, hval⟩ := hfin
  obtain ⟨lab2, n2, m2, sp2, τ2, ζ2, g2, cs2, ss2, M2, hOK2, hM2, hXL2, hML2, -, -, -, -, hPm3, -, -⟩ := id hI2
  refine lv_istore (lv' := [(7, .int (zI (if 0 ≤ (x1) ∧ (x1) < n then (if 0 ≤ (x2) ∧ (x2) ≤ 99999 then (xNx (fun t => xHit n m9 τ ζ (x1) t) (x2) ((if 99999 < (x2) + 3000 then 99999 else (x2) + 3000) + 1 - (x2)).toNat) else 0) else 0))), (6, .int (zI (if 0 ≤ (x1) ∧ (x1) < n then (if 0 ≤ (x2) ∧ (x2) ≤ 99999 then 0 else 2) else 1))), (0, .ref b), (1, .ref ax), (2, .ref am), (3, .ref o1), (4, .ref o2), (5, .int (zI (i)))]) hx hb dL_law_1500 hl (by decide) rfl (fun ls hl => ?_)
  refine lv_aload_n hx hb dL_law_1502 rfl (lv_at hl 4 rfl) ?_
  refine z_call (va_runV (As := []) (rest := []) ⟨hx, hb, hml, hown, hts⟩ (kX3_thrown l D G am (if 0 ≤ (x1) ∧ (x1) < n then (if 0 ≤ (x2) ∧ (x2) ≤ 99999 then 0 else 2) else 1) n2 m2 sp2 τ2 ζ2 h M2 hOK2 hM2) (cwV 0 hts gL_law_X3_thrown rfl rfl rfl (by decide +kernel) ⟨Nat.le_of_ble_eq_true rfl, Nat.le_of_ble_eq_true rfl⟩) (zPreV (va_recv hK hPm3 (ci := 3) (q0 := 0) rfl rfl) hK hN (hPm3)) rfl rfl hl.1 rfl (lv_room (Nat.le_of_ble_eq_true rfl)) dL_law_1503 ⟨z_rc (by omega), z_rs (by omega)⟩) ?_
  refine lv_iload hx hb dL_law_1506 (lv_at hl 1 rfl) ?_
  refine lv_icmp_eq (tgt := 1513) hx hb dL_law_1508 (by decide) (fun _ => ?_) (fun c9 => absurd rfl c9)
  refine lv_iload hx hb dL_law_1513 (lv_at hl 1 rfl) ?_
  refine lv_if_ne (tgt := 1530) hx hb dL_law_1515 (by decide) (fun _ => ?_) (fun c9 => ?_)
  · refine lv_goto (tgt := 1999) hx hb dL_law_1530 (by decide) ?_
    refine W.widen (k := cells + 20) (n := slots + 3000) (by omega) (by omega) ?_
    exact kk _ _ _ _ hS2 hI2 (lv_sub hl [2, 3, 4, 5, 6, 7] rfl)
  · have hC := zK2 c9
    obtain ⟨f9, hf9, hPo9⟩ := hval hC
    refine lv_aload_n hx hb dL_law_1518 rfl (lv_at hl 5 rfl) ?_
    refine lv_iconst (v := zI (0)) hx hb dL_law_1519 rfl ?_
    refine z_lald (x := (zI (xNx (fun t => xHit n m9 τ ζ (x1) t) (x2) ((if 99999 < (x2) + 3000 then 99999 else (x2) + 3000) + 1 - (x2)).toNat)).toInt64) (D := D) hx hb hK hPo9 0 2 rfl rfl (by omega) (by omega) hf9 dL_law_1520 ?_
    refine lv_iload hx hb dL_law_1521 (lv_at hl 0 rfl) ?_
    refine lv_i2l (v := (zI (if 0 ≤ (x1) ∧ (x1) < n then (if 0 ≤ (x2) ∧ (x2) ≤ 99999 then (xNx (fun t => xHit n m9 τ ζ (x1) t) (x2) ((if 99999 < (x2) + 3000 then 99999 else (x2) + 3000) + 1 - (x2)).toNat) else 0) else 0)).toInt64) hx hb dL_law_1523 rfl ?_
    refine W.lcmp hx hb dL_law_1524 ?_
    refine lv_if_eq (tgt := 1530) hx hb dL_law_1525 (by decide) (fun _ => ?_) (fun c8 => absurd (by rw [if_pos hC.1, if_pos hC.2]; exact z_cmp_self _) c8)
    refine lv_goto (tgt := 1999) hx hb dL_law_1530 (by decide) ?_
    refine W.widen (k := cells + 20) (n := slots + 3000) (by omega) (by omega) ?_
    exact kk _ _ _ _ hS2 hI2 (lv_sub hl [2, 3, 4, 5, 6, 7] rfl)

set_option maxHeartbeats 4000000 in
set_option maxRecDepth 100000 in
theorem lc_20 (l : Launch) (hl9 : l.stackTraces = false) {p : Program} {e : Env} {s : State} {m : MethodId} {below : List Frame} {meth : Method} {c : Code} {H : Heap} {locs : List Loc} {cells slots : Nat} {Q : State → Prop} {D : va_G} {G : Nat → ClassId} {b L : Nat} {xs : Nat → Int32} {ax am o1 o2 : Nat} {h : Nat → Nat} {th : Int} {ls : Array Slot} (hx : p.tables.exec = Jvm.exec) (hb : c.code = cL_law) (hml : c.maxLocals = 9) (hown : s.vm.findClass RL = some m.cls) (hts : ∀ w ∈ wsL_law, w.before #[Value.ref b] s = true) (hK : va_K D vwCl (zTy G) s) (hN : zN s) (hT0 : zT s s.heap) (hX : va_X b L xs s s.heap) (hbl : b < s.heap.size) (hL9 : L ≤ 2560) (hce : cells + 20 ≤ 601024) (hsl : slots + 3000 ≤ 7293034) (hS : va_S (fun q => s.heap.size ≤ q) s.heap H locs) (hI : LI D G ax am o1 o2 s.heap.size h th H) (i : Int) (hi : 0 ≤ i ∧ i + 5 ≤ L) (x1 : Int) (hv1 : xs (i + 1).toNat = zI x1) (hr1 : -2147483648 ≤ x1 ∧ x1 ≤ 2147483647) (x2 : Int) (hv2 : xs (i + 2).toNat = zI x2) (hr2 : -2147483648 ≤ x2 ∧ x2 ≤ 2147483647) (x3 : Int) (hv3 : xs (i + 3).toNat = zI x3) (hr3 : -2147483648 ≤ x3 ∧ x3 ≤ 2147483647) (x4 : Int) (hv4 : xs (i + 4).toNat = zI x4) (hr4 : -2147483648 ≤ x4 ∧ x4 ≤ 2147483647) (hl : lv_has ls 9 [(0, .ref b), (1, .ref ax), (2, .ref am), (3, .ref o1), (4, .ref o2), (5, .int (zI (i)))]) (kk : ∀ (H1 : Heap) (locs1 : List Loc) (th1 : Int) (ls1 : Array Slot), va_S (fun q => s.heap.size ≤ q) s.heap H1 locs1 → LI D G ax am o1 o2 s.heap.size h th1 H1 → lv_has ls1 9 [(0, .ref b), (1, .ref ax), (2, .ref am), (3, .ref o1), (4, .ref o2), (5, .int (zI (i)))] → W p l e room_1 s m #[Value.ref b] below meth c H1 locs1 (cells + 20) (slots + 3000) Q (F0 m 1999 ls1 [])) : W p l e room_1 s m #[Value.ref b] below meth c H locs cells slots Q (F0 m 1533 ls []) := by
  obtain ⟨lab, n, m9, sp, τ, ζ, g, cs, ss, M, hOK, hM, hXL, hML, ho1, ho2, hz0, hW, hPm, ⟨f1, hO1⟩, ⟨f2, hO2⟩⟩ := id hI
  refine lv_aload_n hx hb dL_law_1533 rfl (lv_at hl 1 rfl) ?_
  refine lv_aload_n hx hb dL_law_1534 rfl (lv_at hl 0 rfl) ?_
  refine lv_iload hx hb dL_law_1535 (lv_at hl 5 rfl) ?_
  refine lv_iconst (v := zI (1)) hx hb dL_law_1537 rfl ?_
  refine z_iadd hx hb dL_law_1538 ?_
  refine z_sld hx hb hX hbl (Nat.not_le.mpr hbl) hS (i := i + 1) (x := x1) (by omega) (by omega) hv1 dL_law_1539 ?_
  refine lv_aload_n hx hb dL_law_1540 rfl (lv_at hl 0 rfl) ?_
  refine lv_iload hx hb dL_law_1541 (lv_at hl 5 rfl) ?_
  refine lv_iconst (v := zI (2)) hx hb dL_law_1543 rfl ?_
  refine z_iadd hx hb dL_law_1544 ?_
  refine z_sld hx hb hX hbl (Nat.not_le.mpr hbl) hS (i := i + 2) (x := x2) (by omega) (by omega) hv2 dL_law_1545 ?_
  refine lv_aload_n hx hb dL_law_1546 rfl (lv_at hl 0 rfl) ?_
  refine lv_iload hx hb dL_law_1547 (lv_at hl 5 rfl) ?_
  refine lv_iconst (v := zI (3)) hx hb dL_law_1549 rfl ?_
  refine z_iadd hx hb dL_law_1550 ?_
  refine z_sld hx hb hX hbl (Nat.not_le.mpr hbl) hS (i := i + 3) (x := x3) (by omega) (by omega) hv3 dL_law_1551 ?_
  refine lv_aload_n hx hb dL_law_1552 rfl (lv_at hl 3 rfl) ?_
  have hAL : ∀ q : Nat, LA lab o1 H.size q → s.heap.size ≤ q := fun q h9 => Nat.not_lt.mp (fun h8 => by have h7 := hz0 q h8; have h6 := hS.1; rcases h9 with h9 | h9 | h9 <;> first | omega | (rw [h9] at h7; omega))
  refine z_callM (vx_runSW (As := [.ref ax, .int (zI (x1)), .int (zI (x2)), .int (zI (x3)), .ref o1]) (rest := []) ⟨hx, hb, hml, hown, hts⟩ (kL_count l D G hl9 ax n m9 sp τ ζ g cs ss hOK lab hXL o1 H.size f1 (by omega) (x1) (x2) (x3) hr1 hr2 hr3) (vx_cwSW 5 hts gL_law_L_count rfl rfl rfl (by decide +kernel) ⟨Nat.le_of_ble_eq_true rfl, Nat.le_of_ble_eq_true rfl⟩) (zPTreS hK hN (zT.kp hT0 hS) ⟨rfl, hW, hO1⟩) rfl rfl hl.1 rfl (lv_room (Nat.le_of_ble_eq_true rfl)) dL_law_1553 ⟨z_rc (by omega), z_rs (by omega)⟩) hS (fun q _ h9 => hAL q h9) hAL (fun H1 locs1 hp1 hz1 hk1 hS1 => ?_)
  obtain ⟨g', lab', cs', ss', hqC, hqN, hlb⟩ := hp1
  have hMLn := hML.same hPm hlb
  have ho1n : lab' o1 = 200 := (hlb _ (o_lt hO1)).trans ho1
  have ho2n : lab' o2 = 201 := (hlb _ (o_lt hO2)).trans ho2
  have hz0n : ∀ q : Nat, q < s.heap.size → lab' q = 300 := fun q hq => (hlb q (Nat.lt_of_lt_of_le hq hS.1)).trans (hz0 q hq)
  have hPm1 := mW.kp hPm hML (fun q hq h1 h2 => hk1 q hq (fun h9 => by rcases h9 with h9 | h9 | h9 <;> first | omega | (rw [h9] at h2; omega)))
  have hOx := o_kp hO2 (fun hq => hk1 o2 hq (fun h9 => by rcases h9 with h9 | h9 | h9 <;> first | omega | (rw [h9] at ho2; omega)))
  refine lv_istore (lv' := [(6, .int (zI (if 0 ≤ (x1) ∧ (x1) < n then (if (0 ≤ (x2) ∧ (x2) ≤ 99999) ∧ (0 ≤ (x3) ∧ (x3) ≤ 99999) ∧ (x2) ≤ (x3) ∧ (x3) - (x2) ≤ 3000 then 0 else 2) else 1))), (0, .ref b), (1, .ref ax), (2, .ref am), (3, .ref o1), (4, .ref o2), (5, .int (zI (i)))]) hx hb dL_law_1556 hl (by decide) rfl (fun ls hl => ?_)
  refine lv_aload_n hx hb dL_law_1558 rfl (lv_at hl 3 rfl) ?_
  refine lv_aload_n hx hb dL_law_1559 rfl (lv_at hl 1 rfl) ?_
  refine lv_iload hx hb dL_law_1560 (lv_at hl 6 rfl) ?_
  refine lv_iconst (v := zI (1)) hx hb dL_law_1562 rfl ?_
  refine z_iadd hx hb dL_law_1563 ?_
  refine z_sld hx hb hX hbl (Nat.not_le.mpr hbl) hS1 (i := i + 1) (x := x1) (by omega) (by omega) hv1 dL_law_1564 ?_
  refine lv_aload_n hx hb dL_law_1565 rfl (lv_at hl 1 rfl) ?_
  refine lv_iload hx hb dL_law_1566 (lv_at hl 6 rfl) ?_
  refine lv_iconst (v := zI (2)) hx hb dL_law_1568 rfl ?_
  refine z_iadd hx hb dL_law_1569 ?_
  refine z_sld hx hb hX hbl (Nat.not_le.mpr hbl) hS1 (i := i + 2) (x := x2) (by omega) (by omega) hv2 dL_law_1570 ?_
  refine lv_aload_n hx hb dL_law_1571 rfl (lv_at hl 1 rfl) ?_
  refine lv_iload hx hb dL_law_1572 (lv_at hl 6 rfl) ?_
  refine lv_iconst (v := zI (3)) hx hb dL_law_1574 rfl ?_
  refine z_iadd hx hb dL_law_1575 ?_
  refine z_sld hx hb hX hbl (Nat.not_le.mpr hbl) hS1 (i := i + 3) (x := x3) (by omega) (by omega) hv3 dL_law_1576 ?_
  have hAM : ∀ q : Nat, zA [am, h 0, h 1, h 2, h 3, h 4, h 5, h 6, h 7, h 8, h 9] q → s.heap.size ≤ q := fun q h9 => Nat.not_lt.mp (fun h8 => by have h7 := hz0n q h8; have h6 := hMLn.in h9; omega)
  refine z_callM (va_runV (As := [.int (zI (x1)), .int (zI (x2)), .int (zI (x3))]) (rest := []) ⟨hx, hb, hml, hown, hts⟩ (kX3_count l D G am th n m9 sp τ ζ h M hOK hM hMLn.nd (x1) (x2) (x3) hr1 hr2 hr3) (cwV 3 hts gL_law_X3_count rfl rfl rfl (by decide +kernel) ⟨Nat.le_of_ble_eq_true rfl, Nat.le_of_ble_eq_true rfl⟩) (zPreV (va_recv hK hPm1 (ci := 3) (q0 := 0) rfl rfl) hK hN (hPm1)) rfl rfl hl.1 rfl (lv_room (Nat.le_of_ble_eq_true rfl)) dL_law_1577 ⟨z_rc (by omega), z_rs (by omega)⟩) hS1 (fun q _ h9 => hAM q h9) hAM (fun H2 locs2 hp2 hz2 hk2 hS2 => ?_)
  have hfr : ∀ q : Nat, q < H1.size → (lab' q < 100 ∨ 200 ≤ lab' q) → H2[q]? = H1[q]? := fun q hq hl8 => hk2 q hq (fun h9 => by have h6 := hMLn.in h9; omega)
  have hPm2 := hp2
  have hMC : ((0 ≤ (x1) ∧ (x1) < n) ∧ ((0 ≤ (x2) ∧ (x2) ≤ 99999) ∧ (0 ≤ (x3) ∧ (x3) ≤ 99999) ∧ (x2) ≤ (x3) ∧ (x3) - (x2) ≤ 3000)) → MR (n) (m9) (τ) (ζ) M := fun _ => hM
  have hMN : ¬ ((0 ≤ (x1) ∧ (x1) < n) ∧ ((0 ≤ (x2) ∧ (x2) ≤ 99999) ∧ (0 ≤ (x3) ∧ (x3) ≤ 99999) ∧ (x2) ≤ (x3) ∧ (x3) - (x2) ≤ 3000)) → M = M := fun _ => rfl
  have hfin := LI.fin (D := D) (G := G) (C := (0 ≤ (x1) ∧ (x1) < n) ∧ ((0 ≤ (x2) ∧ (x2) ≤ 99999) ∧ (0 ≤ (x3) ∧ (x3) ≤ 99999) ∧ (x2) ≤ (x3) ∧ (x3) - (x2) ≤ 3000)) (v := (zI (xCnt (fun t => xHit n m9 τ ζ (x1) t ∧ xHit n m9 τ ζ (x1) t) (x2) ((x3) - (x2)).toNat)).toInt64) hOK (fun hC => hOK) hM hMC hMN hMLn ho1n ho2n hz0n hqC hqN ⟨f2, hOx⟩ hPm2 (fun hC => ⟨rfl, rfl, rfl⟩) (fun hC => ⟨rfl, rfl, rfl⟩) hfr
  obtain ⟨hI2, hval⟩ := hfin
  obtain ⟨lab2, n2, m2, sp2, τ2, ζ2, g2, cs2, ss2, M2, hOK2, hM2, hXL2, hML2, -, -, -, -, hPm3, -, -⟩ := id hI2
  refine lv_istore (lv' := [(7, .int (zI (if 0 ≤ (x1) ∧ (x1) < n then (if (0 ≤ (x2) ∧ (x2) ≤ 99999) ∧ (0 ≤ (x3) ∧ (x3) ≤ 99999) ∧ (x2) ≤ (x3) ∧ (x3) - (x2) ≤ 3000 then (xCnt (fun t => xHit n m9 τ ζ (x1) t ∧ xHit n m9 τ ζ (x1) t) (x2) ((x3) - (x2)).toNat) else 0) else 0))), (6, .int (zI (if 0 ≤ (x1) ∧ (x1) < n then (if (0 ≤ (x2) ∧ (x2) ≤ 99999) ∧ (0 ≤ (x3) ∧ (x3) ≤ 99999) ∧ (x2) ≤ (x3) ∧ (x3) - (x2) ≤ 3000 then 0 else 2) else 1))), (0, .ref b), (1, .ref ax), (2, .ref am), (3, .ref o1), (4, .ref o2), (5, .int (zI (i)))]) hx hb dL_law_1580 hl (by decide) rfl (fun ls hl => ?_)
  refine lv_aload_n hx hb dL_law_1582 rfl (lv_at hl 4 rfl) ?_
  refine z_call (va_runV (As := []) (rest := []) ⟨hx, hb, hml, hown, hts⟩ (kX3_thrown l D G am (if 0 ≤ (x1) ∧ (x1) < n then (if (0 ≤ (x2) ∧ (x2) ≤ 99999) ∧ (0 ≤ (x3) ∧ (x3) ≤ 99999) ∧ (x2) ≤ (x3) ∧ (x3) - (x2) ≤ 3000 then 0 else 2) else 1) n2 m2 sp2 τ2 ζ2 h M2 hOK2 hM2) (cwV 0 hts gL_law_X3_thrown rfl rfl rfl (by decide +kernel) ⟨Nat.le_of_ble_eq_true rfl, Nat.le_of_ble_eq_true rfl⟩) (zPreV (va_recv hK hPm3 (ci := 3) (q0 := 0) rfl rfl) hK hN (hPm3)) rfl rfl hl.1 rfl (lv_room (Nat.le_of_ble_eq_true rfl)) dL_law_1583 ⟨z_rc (by omega), z_rs (by omega)⟩) ?_
  refine lv_iload hx hb dL_law_1586 (lv_at hl 1 rfl) ?_
  refine lv_icmp_eq (tgt := 1593) hx hb dL_law_1588 (by decide) (fun _ => ?_) (fun c9 => absurd rfl c9)
  refine lv_iload hx hb dL_law_1593 (lv_at hl 1 rfl) ?_
  refine lv_if_ne (tgt := 1610) hx hb dL_law_1595 (by decide) (fun _ => ?_) (fun c9 => ?_)
  · refine lv_goto (tgt := 1999) hx hb dL_law_1610 (by decide) ?_
    refine W.widen (k := cells + 20) (n := slots + 3000) (by omega) (by omega) ?_
    exact kk _ _ _ _ hS2 hI2 (lv_sub hl [2, 3, 4, 5, 6, 7] rfl)
  · have hC := zK2 c9
    obtain ⟨f9, hf9, hPo9⟩ := hval hC
    refine lv_aload_n hx hb dL_law_1598 rfl (lv_at hl 5 rfl) ?_
    refine lv_iconst (v := zI (0)) hx hb dL_law_1599 rfl ?_
    refine z_lald (x := (zI (xCnt (fun t => xHit n m9 τ ζ (x1) t ∧ xHit n m9 τ ζ (x1) t) (x2) ((x3) - (x2)).toNat)).toInt64) (D := D) hx hb hK hPo9 0 2 rfl rfl (by omega) (by omega) hf9 dL_law_1600 ?_
    refine lv_iload hx hb dL_law_1601 (lv_at hl 0 rfl) ?_
    refine lv_i2l (v := (zI (if 0 ≤ (x1) ∧ (x1) < n then (if (0 ≤ (x2) ∧ (x2) ≤ 99999) ∧ (0 ≤ (x3) ∧ (x3) ≤ 99999) ∧ (x2) ≤ (x3) ∧ (x3) - (x2) ≤ 3000 then (xCnt (fun t => xHit n m9 τ ζ (x1) t ∧ xHit n m9 τ ζ (x1) t) (x2) ((x3) - (x2)).toNat) else 0) else 0)).toInt64) hx hb dL_law_1603 rfl ?_
    refine W.lcmp hx hb dL_law_1604 ?_
    refine lv_if_eq (tgt := 1610) hx hb dL_law_1605 (by decide) (fun _ => ?_) (fun c8 => absurd (by rw [if_pos hC.1, if_pos hC.2]; exact z_cmp_self _) c8)
    refine lv_goto (tgt := 1999) hx hb dL_law_1610 (by decide) ?_
    refine W.widen (k := cells + 20) (n := slots + 3000) (by omega) (by omega) ?_
    exact kk _ _ _ _ hS2 hI2 (lv_sub hl [2, 3, 4, 5, 6, 7] rfl)
