theorem m_rot {f : Nat → Int} {cn dn : Nat → Int32} {q : Int} (hf0 : 1 ≤ f 0) (hR : TR f cn) (hd : ∀ t w : Int, 0 ≤ t → t < f 0 → 0 ≤ w → w < 4 → dn (4 * t + w).toNat = cn (4 * ((f 0 - q % f 0 + t) % f 0) + w).toNat) : TR (xRot f q) dn := by
  intro s w h1 h2 h3 h4
  rw [xRot_lo 0 (by omega)] at h2
  have hb := x_modb (a := f 0 - q % f 0 + s) (r := f 0) (by omega)
  rw [xRot_c h1 ⟨h3, h4⟩, ← hR _ w hb.1 hb.2 h3 h4]
  exact hd s w h1 h2 h3 h4
theorem MR.sc {n m sp : Int} {τ ζ : Nat → Nat → Int} {M : Nat → Nat → Int32} (h : MR n m τ ζ M) (hO : XOK n m sp τ ζ) {k : Nat} (hk : (k : Int) < n) {q : Int} {S : Nat → Int32} (hf0 : 1 ≤ τ k 0)
    (hd : ∀ t w : Int, 0 ≤ t → t < q → 0 ≤ w → w < 4 → mSh S k (4 * t + w).toNat = mSh (M 6) k (4 * ((0 + t) % τ k 0) + w).toNat) (hout : ∀ i, ¬ (128 * k ≤ i ∧ i < 128 * k + 128) → S i = M 6 i) : MR n m (va_up τ k (xStc (τ k) q)) ζ (va_up (va_up M 0 (upd (M 0) k (zI q))) 6 S) := by
  refine MR.gen h hO hk (fun i hi => ?_) (fun i j hi hj => ?_) (fun i hi => ?_) (fun _ _ _ _ => rfl) ?_ hout rfl rfl rfl
  · match i, hi with
    | 0, _ => exact if_pos rfl
    | 1, _ => exact h.1 k hk 1 (by omega)
    | 2, _ => exact h.1 k hk 2 (by omega)
    | 3, _ => exact h.1 k hk 3 (by omega)
    | 4, _ => exact h.1 k hk 4 (by omega)
  · match i, hi with
    | 0, _ => exact upd_out hj
    | 1, _ => rfl
    | 2, _ => rfl
    | 3, _ => rfl
    | 4, _ => rfl
  · have := h.2.1 k hk i hi
    match i, hi with
    | 0, _ => exact this
    | 1, _ => exact this
    | 2, _ => exact this
  · exact xStc_tr hf0 (h.tr hk) (fun t w h1 h2 h3 h4 => by have h9 := hd t w h1 h2 h3 h4; rw [Int.zero_add] at h9; exact h9)
theorem z_last9 {L : List Nat} {q : Nat} (h : (L ++ [q]).Nodup) : q ∉ L := fun hq => (List.nodup_append.mp h).2.2 q hq q (List.mem_singleton.mpr rfl) rfl
theorem z_in29 {L : List Nat} {q sz x : Nat} (hs : sz ≤ q) (h : x ∈ L ++ [q]) : zAn L sz x := (List.mem_append.mp h).elim Or.inl (fun h => Or.inr (by rw [List.mem_singleton.mp h]; exact hs))
theorem m_fitI {cA : ClassId} {n : Nat} (f : Nat → Int32) : ∀ (i : Nat) (v : Value), (vp_cell cA (n, .inl f)).slots[i]? = some v → fits .int v = true := fun i v hv => va_fit (cA := cA) (n := n) (F := fun k => .int (f k)) (fun _ _ => rfl) i v hv
