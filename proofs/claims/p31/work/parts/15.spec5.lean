/-! ===== rows of a track that change ===== -/
def xPut (f : Nat → Int) (k w x : Int) : Nat → Int := va_up f (8 + 4 * k + w).toNat x
theorem xPut_lo {f : Nat → Int} {k w x : Int} (hk : 0 ≤ k) (hw : 0 ≤ w) {i : Nat} (hi : i < 8) : xPut f k w x i = f i := va_up_ne _ _ (by omega)
theorem xC_put {f : Nat → Int} {k w x t v : Int} (hk : 0 ≤ k) (hw : 0 ≤ w ∧ w < 4) (ht : 0 ≤ t) (hv : 0 ≤ v ∧ v < 4) : xC (xPut f k w x) t v = if t = k ∧ v = w then x else xC f t v := by
  unfold xC xPut va_up
  by_cases h : t = k ∧ v = w
  · rw [if_pos h, if_pos (by rw [h.1, h.2])]
  · rw [if_neg h, if_neg (by omega)]
theorem x_putTR {f : Nat → Int} {cn : Nat → Int32} {k w x : Int} (hR : TR f cn) (hk : 0 ≤ k) (hw : 0 ≤ w ∧ w < 4) : TR (xPut f k w x) (upd cn (k * 4 + w).toNat (zI x)) := by
  intro t v h1 h2 h3 h4
  rw [xPut_lo hk hw.1 (by omega)] at h2
  rw [xC_put hk hw h1 ⟨h3, h4⟩]
  unfold upd
  by_cases h : t = k ∧ v = w
  · rw [if_pos h, if_pos (by omega)]
  · rw [if_neg h, if_neg (by omega)]
    exact hR t v h1 h2 h3 h4
theorem xTw_congr {G : Nat → ClassId} {f f' : Nat → Int} (h : ∀ i, i < 8 → f' i = f i) (ta ca pa : Nat) (cn sn : Nat → Int32) : xTw G f' ta ca pa cn sn = xTw G f ta ca pa cn sn := by
  unfold xTw
  rw [h 0 (by omega), h 1 (by omega), h 2 (by omega), h 3 (by omega), h 4 (by omega), h 5 (by omega), h 6 (by omega), h 7 (by omega)]
theorem TOK_of {f f' : Nat → Int} (hf : TOK f) (h8 : ∀ i, i < 8 → f' i = f i) (hs : ∀ s : Int, 0 ≤ s → s < f 0 → 0 ≤ xC f' s 0 ∧ xC f' s 0 ≤ 127 ∧ 1 ≤ xC f' s 1 ∧ xC f' s 1 ≤ 4 ∧ 0 ≤ xC f' s 2 ∧ xC f' s 2 < xC f' s 3 ∧ xC f' s 3 ≤ 8) : TOK f' := by
  unfold TOK at hf ⊢
  rw [h8 0 (by omega), h8 1 (by omega), h8 2 (by omega), h8 3 (by omega), h8 4 (by omega), h8 5 (by omega), h8 6 (by omega), h8 7 (by omega)]
  obtain ⟨h1, h2, h3, h4, h5, h6, h7, h9, h10, h11, h12, h13, h14, -⟩ := hf
  exact ⟨h1, h2, h3, h4, h5, h6, h7, h9, h10, h11, h12, h13, h14, hs⟩
def xFs (f : Nat → Int) (k v r : Int) : Nat → Int := xPut (xPut f k 0 v) k 1 r
def xFt (f : Nat → Int) (k a b : Int) : Nat → Int := xPut (xPut f k 2 a) k 3 b
theorem xFs_lo {f : Nat → Int} {k v r : Int} (hk : 0 ≤ k) : ∀ i, i < 8 → xFs f k v r i = f i := fun i hi => by unfold xFs; rw [xPut_lo hk (by omega) hi, xPut_lo hk (by omega) hi]
theorem xFt_lo {f : Nat → Int} {k v r : Int} (hk : 0 ≤ k) : ∀ i, i < 8 → xFt f k v r i = f i := fun i hi => by unfold xFt; rw [xPut_lo hk (by omega) hi, xPut_lo hk (by omega) hi]
theorem xFs_tr {f : Nat → Int} {cn : Nat → Int32} {k v r : Int} (hR : TR f cn) (hk : 0 ≤ k) : TR (xFs f k v r) (upd (upd cn (k * 4 + 0).toNat (zI v)) (k * 4 + 1).toNat (zI r)) := x_putTR (x_putTR hR hk (by omega)) hk (by omega)
theorem xFt_tr {f : Nat → Int} {cn : Nat → Int32} {k v r : Int} (hR : TR f cn) (hk : 0 ≤ k) : TR (xFt f k v r) (upd (upd cn (k * 4 + 2).toNat (zI v)) (k * 4 + 3).toNat (zI r)) := x_putTR (x_putTR hR hk (by omega)) hk (by omega)
theorem xFs_ok {f : Nat → Int} (hf : TOK f) {k v r : Int} (hk : 0 ≤ k) (hv : 0 ≤ v ∧ v ≤ 127) (hr : 1 ≤ r ∧ r ≤ 4) : TOK (xFs f k v r) := by
  refine TOK_of hf (xFs_lo hk) (fun s h1 h2 => ?_)
  have h3 := hf.2.2.2.2.2.2.2.2.2.2.2.2.2 s h1 h2
  unfold xFs
  rw [xC_put hk (by omega) h1 (by omega), xC_put hk (by omega) h1 (by omega), xC_put hk (by omega) h1 (by omega), xC_put hk (by omega) h1 (by omega), xC_put hk (by omega) h1 (by omega), xC_put hk (by omega) h1 (by omega), xC_put hk (by omega) h1 (by omega), xC_put hk (by omega) h1 (by omega)]
  by_cases e : s = k
  · subst e; simp; omega
  · simp [e]; omega
theorem xFt_ok {f : Nat → Int} (hf : TOK f) {k a b : Int} (hk : 0 ≤ k) (hb : 1 ≤ b ∧ b ≤ 8) (ha : 0 ≤ a ∧ a ≤ b - 1) : TOK (xFt f k a b) := by
  refine TOK_of hf (xFt_lo hk) (fun s h1 h2 => ?_)
  have h3 := hf.2.2.2.2.2.2.2.2.2.2.2.2.2 s h1 h2
  unfold xFt
  rw [xC_put hk (by omega) h1 (by omega), xC_put hk (by omega) h1 (by omega), xC_put hk (by omega) h1 (by omega), xC_put hk (by omega) h1 (by omega), xC_put hk (by omega) h1 (by omega), xC_put hk (by omega) h1 (by omega), xC_put hk (by omega) h1 (by omega), xC_put hk (by omega) h1 (by omega)]
  by_cases e : s = k
  · subst e; simp; omega
  · simp [e]; omega
theorem xFp_ok {f : Nat → Int} (hf : TOK f) {k v : Int} (hk : 0 ≤ k) (hv : 0 ≤ v ∧ v ≤ 127) : TOK (xPut f k 0 v) := by
  refine TOK_of hf (fun i hi => xPut_lo hk (by omega) hi) (fun s h1 h2 => ?_)
  have h3 := hf.2.2.2.2.2.2.2.2.2.2.2.2.2 s h1 h2
  rw [xC_put hk (by omega) h1 (by omega), xC_put hk (by omega) h1 (by omega), xC_put hk (by omega) h1 (by omega), xC_put hk (by omega) h1 (by omega)]
  by_cases e : s = k
  · subst e; simp; omega
  · simp [e]; omega
/-- one of the first eight numbers changes -/
theorem xC_up {f : Nat → Int} {i : Nat} {x : Int} (hi : i < 8) {s w : Int} (hs : 0 ≤ s) (hw : 0 ≤ w) : xC (va_up f i x) s w = xC f s w := va_up_ne _ _ (by omega)
theorem x_upTR {f : Nat → Int} {cn : Nat → Int32} {i : Nat} {x : Int} (hR : TR f cn) (hi : 1 ≤ i ∧ i < 8) : TR (va_up f i x) cn := by
  intro t v h1 h2 h3 h4
  rw [va_up_ne _ _ (by omega)] at h2
  rw [xC_up hi.2 h1 h3]
  exact hR t v h1 h2 h3 h4
def xFu (f : Nat → Int) (sw rg gp : Int) : Nat → Int := va_up (va_up (va_up f 2 sw) 3 rg) 4 gp
theorem xFu_ok {f : Nat → Int} (hf : TOK f) {sw rg gp : Int} (h1 : 0 ≤ sw ∧ sw ≤ f 1 - 1) (h2 : 1 ≤ rg ∧ rg ≤ 200) (h3 : 0 ≤ gp ∧ gp ≤ 3) : TOK (xFu f sw rg gp) := by
  have e0 : xFu f sw rg gp 0 = f 0 := rfl
  have e1 : xFu f sw rg gp 1 = f 1 := rfl
  have e2 : xFu f sw rg gp 2 = sw := rfl
  have e3 : xFu f sw rg gp 3 = rg := rfl
  have e4 : xFu f sw rg gp 4 = gp := rfl
  have e5 : xFu f sw rg gp 5 = f 5 := rfl
  have e6 : xFu f sw rg gp 6 = f 6 := rfl
  have e7 : xFu f sw rg gp 7 = f 7 := rfl
  have ec : ∀ s w : Int, 0 ≤ s → 0 ≤ w → xC (xFu f sw rg gp) s w = xC f s w := fun s w hs hw => by
    unfold xFu
    rw [xC_up (by omega) hs hw, xC_up (by omega) hs hw, xC_up (by omega) hs hw]
  unfold TOK at hf ⊢
  rw [e0, e1, e2, e3, e4, e5, e6, e7]
  obtain ⟨a1, a2, a3, a4, a5, a6, a7, a9, a10, a11, a12, a13, a14, a15⟩ := hf
  refine ⟨a1, a2, a3, a4, by omega, by omega, by omega, by omega, by omega, by omega, a12, a13, a14, fun s b1 b2 => ?_⟩
  rw [ec s 0 b1 (by omega), ec s 1 b1 (by omega), ec s 2 b1 (by omega), ec s 3 b1 (by omega)]
  exact a15 s b1 b2
theorem xFw_ok {f : Nat → Int} (hf : TOK f) {i : Nat} (hi : i = 5 ∨ i = 6 ∨ i = 7) {v : Int} (hv : v = 0 ∨ v = 1) : TOK (va_up f i v) := by
  have ec : ∀ s w : Int, 0 ≤ s → 0 ≤ w → xC (va_up f i v) s w = xC f s w := fun s w hs hw => xC_up (by omega) hs hw
  obtain ⟨a1, a2, a3, a4, a5, a6, a7, a9, a10, a11, a12, a13, a14, a15⟩ := hf
  refine ⟨?_, ?_, ?_, ?_, ?_, ?_, ?_, ?_, ?_, ?_, ?_, ?_, ?_, fun s b1 b2 => ?_⟩
  all_goals try rw [va_up_ne _ _ (by omega)]
  all_goals try rw [va_up_ne _ _ (by omega)]
  all_goals try assumption
  · unfold va_up; split <;> omega
  · unfold va_up; split <;> omega
  · unfold va_up; split <;> omega
  · rw [ec s 0 b1 (by omega), ec s 1 b1 (by omega), ec s 2 b1 (by omega), ec s 3 b1 (by omega)]
    rw [va_up_ne _ _ (by omega)] at b2
    exact a15 s b1 b2
/-- hits spread over a track -/
def xSpr (f : Nat → Int) (h v : Int) : Nat → Int := fun i => if i < 8 then f i else if i % 4 = 0 then (if (((i - 8) / 4 : Nat) : Int) * h % f 0 < h then v else 0) else if i % 4 = 2 then 0 else 1
theorem xSpr_lo {f : Nat → Int} {h v : Int} : ∀ i, i < 8 → xSpr f h v i = f i := fun i hi => if_pos hi
theorem xSpr_c {f : Nat → Int} {h v k : Int} (hk : 0 ≤ k) : xC (xSpr f h v) k 0 = (if k * h % f 0 < h then v else 0) ∧ xC (xSpr f h v) k 1 = 1 ∧ xC (xSpr f h v) k 2 = 0 ∧ xC (xSpr f h v) k 3 = 1 := by
  unfold xC xSpr
  refine ⟨?_, ?_, ?_, ?_⟩
  · rw [if_neg (by omega), if_pos (by omega), show ((((8 + 4 * k + 0).toNat - 8) / 4 : Nat) : Int) = k by omega]
  · rw [if_neg (by omega), if_neg (by omega), if_neg (by omega)]
  · rw [if_neg (by omega), if_neg (by omega), if_pos (by omega)]
  · rw [if_neg (by omega), if_neg (by omega), if_neg (by omega)]
theorem xSpr_tr {f : Nat → Int} {dn : Nat → Int32} {h v : Int} (hd : ∀ k : Int, 0 ≤ k → k < f 0 → dn (4 * k + 0).toNat = zI (if k * h % f 0 < h then v else 0) ∧ dn (4 * k + 1).toNat = zI 1 ∧ dn (4 * k + 2).toNat = zI 0 ∧ dn (4 * k + 3).toNat = zI 1) : TR (xSpr f h v) dn := by
  intro s w h1 h2 h3 h4
  have h5 := hd s h1 h2
  obtain ⟨g0, g1, g2, g3⟩ := xSpr_c (f := f) (h := h) (v := v) h1
  rcases (show w = 0 ∨ w = 1 ∨ w = 2 ∨ w = 3 by omega) with rfl | rfl | rfl | rfl
  · rw [g0]; exact h5.1
  · rw [g1]; exact h5.2.1
  · rw [g2]; exact h5.2.2.1
  · rw [g3]; exact h5.2.2.2
theorem xSpr_ok {f : Nat → Int} (hf : TOK f) {h v : Int} (hv : 1 ≤ v ∧ v ≤ 127) : TOK (xSpr f h v) := by
  refine TOK_of hf xSpr_lo (fun s h1 h2 => ?_)
  obtain ⟨g0, g1, g2, g3⟩ := xSpr_c (f := f) (h := h) (v := v) h1
  rw [g0, g1, g2, g3]
  split <;> omega
/-- steps moved on -/
def xRot (f : Nat → Int) (q : Int) : Nat → Int := fun i => if i < 8 then f i else f (8 + 4 * ((f 0 - q % f 0 + ((i - 8) / 4 : Nat)) % f 0) + (i % 4 : Nat)).toNat
theorem xRot_lo {f : Nat → Int} {q : Int} : ∀ i, i < 8 → xRot f q i = f i := fun i hi => if_pos hi
theorem xRot_c {f : Nat → Int} {q k w : Int} (hk : 0 ≤ k) (hw : 0 ≤ w ∧ w < 4) : xC (xRot f q) k w = xC f ((f 0 - q % f 0 + k) % f 0) w := by
  unfold xC xRot
  rw [if_neg (by omega), show ((((8 + 4 * k + w).toNat - 8) / 4 : Nat) : Int) = k by omega, show (((8 + 4 * k + w).toNat % 4 : Nat) : Int) = w by omega]
theorem xRot_tr {f : Nat → Int} {cn dn : Nat → Int32} {q : Int} (hf0 : 1 ≤ f 0) (hR : TR f cn) (hq : 0 ≤ q) (hd : ∀ k w : Int, 0 ≤ k → k < f 0 → 0 ≤ w → w < 4 → dn (4 * ((k + q) % f 0) + w).toNat = cn (4 * k + w).toNat) : TR (xRot f q) dn := by
  intro s w h1 h2 h3 h4
  rw [xRot_lo 0 (by omega)] at h2
  have hb := x_modb (a := f 0 - q % f 0 + s) (r := f 0) (by omega)
  rw [xRot_c h1 ⟨h3, h4⟩, ← hR _ w hb.1 hb.2 h3 h4, ← hd _ w hb.1 hb.2 h3 h4]
  congr 3
  have hm := Int.emod_add_mul_ediv q (f 0)
  rw [Int.emod_add_emod, show f 0 - q % f 0 + s + q = s + f 0 * (1 + q / f 0) by rw [Int.mul_add]; omega, Int.add_mul_emod_self_left, Int.emod_eq_of_lt h1 h2]
theorem xRot_ok {f : Nat → Int} (hf : TOK f) (q : Int) : TOK (xRot f q) := by
  have h0 : 1 ≤ f 0 := hf.1
  refine TOK_of hf xRot_lo (fun s h1 h2 => ?_)
  have hb := x_modb (a := f 0 - q % f 0 + s) (r := f 0) (by omega)
  rw [xRot_c h1 (by omega), xRot_c h1 (by omega), xRot_c h1 (by omega), xRot_c h1 (by omega)]
  exact hf.2.2.2.2.2.2.2.2.2.2.2.2.2 _ hb.1 hb.2
/-- another number of steps -/
def xStc (f : Nat → Int) (n : Int) : Nat → Int := fun i => if i = 0 then n else if i < 8 then f i else f (8 + 4 * ((((i - 8) / 4 : Nat) : Int) % f 0) + (i % 4 : Nat)).toNat
theorem xStc_c {f : Nat → Int} {n k w : Int} (hk : 0 ≤ k) (hw : 0 ≤ w ∧ w < 4) : xC (xStc f n) k w = xC f (k % f 0) w := by
  unfold xC xStc
  rw [if_neg (by omega), if_neg (by omega), show ((((8 + 4 * k + w).toNat - 8) / 4 : Nat) : Int) = k by omega, show (((8 + 4 * k + w).toNat % 4 : Nat) : Int) = w by omega]
theorem xStc_tr {f : Nat → Int} {cn dn : Nat → Int32} {n : Int} (hf0 : 1 ≤ f 0) (hR : TR f cn) (hd : ∀ k w : Int, 0 ≤ k → k < n → 0 ≤ w → w < 4 → dn (4 * k + w).toNat = cn (4 * (k % f 0) + w).toNat) : TR (xStc f n) dn := by
  intro s w h1 h2 h3 h4
  have hb := x_modb (a := s) (r := f 0) (by omega)
  rw [xStc_c h1 ⟨h3, h4⟩, hd s w h1 h2 h3 h4]
  exact hR _ w hb.1 hb.2 h3 h4
theorem xStc_ok {f : Nat → Int} (hf : TOK f) {n : Int} (hn : 1 ≤ n ∧ n ≤ 32) : TOK (xStc f n) := by
  have h0 : 1 ≤ f 0 := hf.1
  obtain ⟨a1, a2, a3, a4, a5, a6, a7, a9, a10, a11, a12, a13, a14, a15⟩ := hf
  refine ⟨hn.1, hn.2, a3, a4, a5, a6, a7, a9, a10, a11, a12, a13, a14, fun s h1 h2 => ?_⟩
  have hb := x_modb (a := s) (r := f 0) (by omega)
  rw [xStc_c h1 (by omega), xStc_c h1 (by omega), xStc_c h1 (by omega), xStc_c h1 (by omega)]
  exact a15 _ hb.1 hb.2
theorem XOK.up {n m sp : Int} {τ ζ : Nat → Nat → Int} (h : XOK n m sp τ ζ) {k : Nat} {f' : Nat → Int} (hf : TOK f') : XOK n m sp (va_up τ k f') ζ := by
  obtain ⟨h1, h2, h3, h4, h5, h6, h7, h8⟩ := h
  refine ⟨h1, h2, h3, h4, h5, h6, fun j hj => ?_, h8⟩
  by_cases e : j = k
  · subst e; rw [va_up_self]; exact hf
  · rw [va_up_ne _ _ e]; exact h7 j hj
