/-! the sheet: the class's panels in order of their numbers against the reference's 36 places -/
theorem p_isp {nC nR k : Nat} (hC : nC ≤ 6) (hR : nR ≤ 6) (hk : k < 36) : s_X5_isPanel (nI nC) (nI nR) (nI k) = if k / 6 < nC ∧ k % 6 < nR then 1 else 0 := by
  unfold s_X5_isPanel
  have e1 : nI k / 6 = nI (k / 6) := pk_div (a := k) (d := 6) (by omega) (by omega) (by omega)
  have e2 : nI k - nI k / 6 * 6 = nI (k % 6) := pk_rem (a := k) (d := 6) (by omega) (by omega) (by omega)
  rw [e2, e1]
  by_cases c1 : k / 6 < nC
  · rw [if_neg (nI_ge c1 (by omega))]
    by_cases c2 : k % 6 < nR
    · rw [if_neg (nI_ge c2 (by omega)), if_pos ⟨c1, c2⟩]
    · rw [if_pos (nI_le (by omega) (by omega)), if_neg (fun h => c2 h.2)]
  · rw [if_pos (nI_le (by omega) (by omega)), if_neg (fun h => c1 h.1)]
theorem p_simR {α : Type} {nC nR : Nat} (hR : nR ≤ 6) (A B : Nat → α) (c : Nat) (h0 : A (c * nR) = B (6 * c)) (step : ∀ r : Nat, r < nR → A (c * nR + r) = B (6 * c + r) → A (c * nR + r + 1) = B (6 * c + r + 1)) : ∀ r : Nat, r ≤ nR → A (c * nR + r) = B (6 * c + r)
  | 0, _ => h0
  | r + 1, hr => step r (by omega) (p_simR (nC := nC) hR A B c h0 step r (by omega))
theorem p_skip {α : Type} (B : Nat → α) (a : Nat) : ∀ n : Nat, (∀ k : Nat, a ≤ k → k < a + n → B (k + 1) = B k) → B (a + n) = B a
  | 0, _ => rfl
  | n + 1, h => by
    rw [← Nat.add_assoc, h (a + n) (by omega) (by omega)]
    exact p_skip B a n (fun k h1 h2 => h k h1 (by omega))
theorem p_sim {α : Type} {nC nR : Nat} (hC : nC ≤ 6) (hR : nR ≤ 6) (A B : Nat → α) (h0 : A 0 = B 0) (step : ∀ c r : Nat, c < nC → r < nR → A (c * nR + r) = B (6 * c + r) → A (c * nR + r + 1) = B (6 * c + r + 1)) (skip : ∀ k : Nat, k < 36 → ¬ (k / 6 < nC ∧ k % 6 < nR) → B (k + 1) = B k) : A (nC * nR) = B 36 := by
  have row : ∀ c : Nat, c ≤ nC → A (c * nR) = B (6 * c) := by
    intro c
    induction c with
    | zero => intro _; rw [Nat.zero_mul]; exact h0
    | succ c ih =>
      intro hc
      have q := p_simR (nC := nC) hR A B c (ih (by omega)) (fun r hr => step c r (by omega) hr) nR (Nat.le_refl _)
      have s := p_skip B (6 * c + nR) (6 - nR) (fun k h1 h2 => skip k (by omega) (fun h => by omega))
      rw [show 6 * c + nR + (6 - nR) = 6 * (c + 1) by omega] at s
      rw [Nat.add_mul, Nat.one_mul, q, s]
  have s := p_skip B (6 * nC) (36 - 6 * nC) (fun k h1 h2 => skip k (by omega) (fun h => by omega))
  rw [show 6 * nC + (36 - 6 * nC) = 36 by omega] at s
  rw [row nC (Nat.le_refl _), s]
/-- the same array, read by the class's numbers and by the reference's places -/
def p_Sm (nC nR : Nat) (f g : Nat → Int32) : Prop := ∀ c r : Nat, c < nC → r < nR → f (c * nR + r) = g (6 * c + r)
theorem p_lt {nC nR c r : Nat} (hC : nC ≤ 6) (hR : nR ≤ 6) (hc : c < nC) (hr : r < nR) : c * nR + r < 36 := Nat.lt_of_lt_of_le (z_idx hc hr) (Nat.mul_le_mul hC hR)
theorem p_div6 {c r : Nat} (hr : r < 6) : (6 * c + r) / 6 = c ∧ (6 * c + r) % 6 = r := by omega
theorem p_isp1 {nC nR c r : Nat} (hC : nC ≤ 6) (hR : nR ≤ 6) (hc : c < nC) (hr : r < nR) : ¬ s_X5_isPanel (nI nC) (nI nR) (nI (6 * c + r)) = 0 := by
  have e := p_div6 (c := c) (r := r) (by omega)
  rw [p_isp hC hR (by omega), e.1, e.2, if_pos ⟨hc, hr⟩]
  decide
theorem p_isp0 {nC nR k : Nat} (hC : nC ≤ 6) (hR : nR ≤ 6) (hk : k < 36) (h : ¬ (k / 6 < nC ∧ k % 6 < nR)) : s_X5_isPanel (nI nC) (nI nR) (nI k) = 0 := by
  rw [p_isp hC hR hk, if_neg h]
theorem p_below {nC nR : Nat} {nf : Int32} {f g gx gy : Nat → Int32} (hC : nC ≤ 6) (hR : nR ≤ 6) (h : p_Sm nC nR f g) (b bc : Int32) (hg : ∀ k : Nat, g k = if bc = 0 then gy k else gx k) : s_X1_placesBelow nC nR nf f b = s_X5_ahead (nI nC) (nI nR) gx gy b bc := by
  refine p_sim hC hR (lp_X1_placesBelow_5 nC nR nf f b) (lp_X5_ahead_5 (nI nC) (nI nR) gx gy b bc) rfl (fun c r hc hr ih => ?_) (fun k hk hp => ?_)
  · have l := p_lt hC hR hc hr
    rw [lp_X1_placesBelow_5, lp_X5_ahead_5, ih, if_neg (p_isp1 hC hR hc hr), nI_clamp (by omega), nI_clamp (by omega), ← hg, h c r hc hr]
    by_cases q : b ≤ g (6 * c + r)
    · rw [if_pos q, if_pos q, Int32.add_zero]
    · rw [if_neg q, if_neg q]
  · rw [lp_X5_ahead_5, if_pos (p_isp0 hC hR hk hp), Int32.add_zero]
theorem p_top {nC nR : Nat} {nf : Int32} {f g : Nat → Int32} (hC : nC ≤ 6) (hR : nR ≤ 6) (h : p_Sm nC nR f g) : s_X1_highestLayer nC nR nf f = lp_X5_fold_44 (nI nC) (nI nR) g 36 := by
  refine p_sim hC hR (lp_X1_highestLayer_4 nC nR nf f) (lp_X5_fold_44 (nI nC) (nI nR) g) rfl (fun c r hc hr ih => ?_) (fun k hk hp => ?_)
  · have l := p_lt hC hR hc hr
    rw [lp_X1_highestLayer_4, lp_X5_fold_44, ih, if_neg (p_isp1 hC hR hc hr), nI_clamp (by omega), nI_clamp (by omega), h c r hc hr]
    by_cases q : g (6 * c + r) ≤ lp_X5_fold_44 (nI nC) (nI nR) g (6 * c + r)
    · rw [if_pos q, if_neg (by rw [Int32.lt_iff_toInt_lt]; rw [Int32.le_iff_toInt_le] at q; omega)]
    · rw [if_neg q, if_pos (by rw [Int32.lt_iff_toInt_lt]; rw [Int32.le_iff_toInt_le] at q; omega)]
  · rw [lp_X5_fold_44, if_pos (p_isp0 hC hR hk hp)]
theorem p_higher {nC nR : Nat} {nf : Int32} {fx fy fz gx gy gz : Nat → Int32} (hC : nC ≤ 6) (hR : nR ≤ 6) (hx : p_Sm nC nR fx gx) (hy : p_Sm nC nR fy gy) (hz : p_Sm nC nR fz gz) {c0 r0 : Nat} (hc0 : c0 < nC) (hr0 : r0 < nR) : s_X1_higherThan nC nR nf fx fy fz (nI (c0 * nR + r0)) = s_X5_stacked (nI nC) (nI nR) gx gy gz (nI (6 * c0 + r0)) 0 := by
  have l0 := p_lt hC hR hc0 hr0
  refine p_sim hC hR (lp_X1_higherThan_4 nC nR nf fx fy fz (nI (c0 * nR + r0))) (lp_X5_stacked_5 (nI nC) (nI nR) gx gy gz (nI (6 * c0 + r0)) 0) rfl (fun c r hc hr ih => ?_) (fun k hk hp => ?_)
  · have l := p_lt hC hR hc hr
    rw [lp_X1_higherThan_4, lp_X5_stacked_5, ih, if_neg (p_isp1 hC hR hc hr), nI_clamp (by omega), nI_clamp (by omega), nI_clamp (by omega), nI_clamp (by omega), hx c r hc hr, hy c r hc hr, hz c r hc hr, hx c0 r0 hc0 hr0, hy c0 r0 hc0 hr0, hz c0 r0 hc0 hr0]
    by_cases q1 : gx (6 * c + r) = gx (6 * c0 + r0) <;> by_cases q2 : gy (6 * c + r) = gy (6 * c0 + r0) <;> by_cases q3 : gz (6 * c + r) ≤ gz (6 * c0 + r0) <;> simp [q1, q2, q3]
  · rw [lp_X5_stacked_5, if_pos (p_isp0 hC hR hk hp)]
    simp
theorem zx_readable_1 {nC nR : Nat} {nf : Int32} {fx fy fz fu gx gy gz gu : Nat → Int32} (hC : nC ≤ 6) (hR : nR ≤ 6) (hx : p_Sm nC nR fx gx) (hy : p_Sm nC nR fy gy) (hz : p_Sm nC nR fz gz) (hu : p_Sm nC nR fu gu) : s_X4_readable nC nR nf fx fy fz fu = s_X5_readable (nI nC) (nI nR) gx gy gz gu := by
  refine p_sim hC hR (lp_X1_readablePanels_4 nC nR nf fx fy fz fu) (lp_X5_readable_9 (nI nC) (nI nR) gx gy gz gu) rfl (fun c r hc hr ih => ?_) (fun k hk hp => ?_)
  · have l := p_lt hC hR hc hr
    rw [lp_X1_readablePanels_4, lp_X5_readable_9, ih, if_neg (p_isp1 hC hR hc hr), nI_clamp (by omega), nI_clamp (by omega), hu c r hc hr, p_higher hC hR hx hy hz hc hr]
    by_cases q1 : gu (6 * c + r) = 0 <;> by_cases q2 : s_X5_stacked (nI nC) (nI nR) gx gy gz (nI (6 * c + r)) 0 = 0 <;> simp [q1, q2]
  · rw [lp_X5_readable_9, if_pos (p_isp0 hC hR hk hp)]
    simp
/-! one panel's place -/
theorem p_pan {nC nR : Nat} {nf co ro : Int32} (hC : nC ≤ 6) (hR : nR ≤ 6) (h : ¬ s_X1_hasPanel nC nR nf co ro = 0) : ∃ c r : Nat, c < nC ∧ r < nR ∧ co = nI c ∧ ro = nI r ∧ s_X1_number nC nR nf co ro = nI (c * nR + r) ∧ c * nR + r < 36 ∧ (6 * co) + ro = nI (6 * c + r) := by
  obtain ⟨c, r, h1, h2, h3, h4, -, h6⟩ := z_num (Nat.mul_le_mul hC hR) (by omega) (by omega) h
  refine ⟨c, r, h1, h2, h3, h4, h6, p_lt hC hR h1 h2, ?_⟩
  rw [h3, h4, show (6 : Int32) * nI c = nI (6 * c) from pk_mul 6 c, nI_add]
theorem zx_placeX_2 {nC nR : Nat} {nf co ro : Int32} {f g : Nat → Int32} (hC : nC ≤ 6) (hR : nR ≤ 6) (hx : p_Sm nC nR f g) (fo : Nat → Int64) (c5 : s_L_placeX nC nR nf f co ro fo = 0) : (n_L_placeX_qout nC nR nf f co ro fo) (0 : Int32).toNatClampNeg = (s_X5_placeX (nI nC) (nI nR) g co ro).toInt64 := by
  have h0 := p_k0 c5
  unfold n_L_placeX_qout
  rw [p_v0 fo _ c5]
  unfold k_X4_placeX k_X4_requirePanel at h0
  unfold s_X4_placeX s_X5_placeX k_X4_requirePanel s_X1_columnPlace
  rw [← z_hasp nC nR nf _ _ co ro rfl rfl]
  by_cases h : s_X1_hasPanel nC nR nf co ro = 0
  · simp [h] at h0
  · obtain ⟨c, r, h1, h2, h3, h4, h5, h6, h7⟩ := p_pan hC hR h
    simp only [h, if_false, if_true]
    rw [h5, h7, nI_clamp (by omega), nI_clamp (by omega), hx c r h1 h2]
theorem zx_placeY_2 {nC nR : Nat} {nf co ro : Int32} {f g : Nat → Int32} (hC : nC ≤ 6) (hR : nR ≤ 6) (hx : p_Sm nC nR f g) (fo : Nat → Int64) (c5 : s_L_placeY nC nR nf f co ro fo = 0) : (n_L_placeY_qout nC nR nf f co ro fo) (0 : Int32).toNatClampNeg = (s_X5_placeY (nI nC) (nI nR) g co ro).toInt64 := by
  have h0 := p_k0 c5
  unfold n_L_placeY_qout
  rw [p_v0 fo _ c5]
  unfold k_X4_placeY k_X4_requirePanel at h0
  unfold s_X4_placeY s_X5_placeY k_X4_requirePanel s_X1_rowPlace
  rw [← z_hasp nC nR nf _ _ co ro rfl rfl]
  by_cases h : s_X1_hasPanel nC nR nf co ro = 0
  · simp [h] at h0
  · obtain ⟨c, r, h1, h2, h3, h4, h5, h6, h7⟩ := p_pan hC hR h
    simp only [h, if_false, if_true]
    rw [h5, h7, nI_clamp (by omega), nI_clamp (by omega), hx c r h1 h2]
theorem zx_isUp_2 {nC nR : Nat} {nf co ro : Int32} {f g : Nat → Int32} (hC : nC ≤ 6) (hR : nR ≤ 6) (hx : p_Sm nC nR f g) (fo : Nat → Int64) (c5 : s_L_isUp nC nR nf f co ro fo = 0) : (n_L_isUp_qout nC nR nf f co ro fo) (0 : Int32).toNatClampNeg = (if (s_X5_isUp (nI nC) (nI nR) g co ro) = 0 then 0 else 1) := by
  have h0 := p_k0 c5
  unfold n_L_isUp_qout
  rw [p_v0 fo _ c5]
  unfold k_X4_isUp k_X4_requirePanel at h0
  unfold s_X4_isUp s_X5_isUp k_X4_requirePanel s_X1_liesFaceUp
  rw [← z_hasp nC nR nf _ _ co ro rfl rfl]
  by_cases h : s_X1_hasPanel nC nR nf co ro = 0
  · simp [h] at h0
  · obtain ⟨c, r, h1, h2, h3, h4, h5, h6, h7⟩ := p_pan hC hR h
    simp only [h, if_false, if_true]
    rw [h5, h7, nI_clamp (by omega), nI_clamp (by omega), hx c r h1 h2]
theorem zx_above_2 {nC nR : Nat} {nf co ro : Int32} {fx fy fz gx gy gz : Nat → Int32} (hC : nC ≤ 6) (hR : nR ≤ 6) (hx : p_Sm nC nR fx gx) (hy : p_Sm nC nR fy gy) (hz : p_Sm nC nR fz gz) (fo : Nat → Int64) (c5 : s_L_above nC nR nf fx fy fz co ro fo = 0) : (n_L_above_qout nC nR nf fx fy fz co ro fo) (0 : Int32).toNatClampNeg = (s_X5_above (nI nC) (nI nR) gx gy gz co ro).toInt64 := by
  have h0 := p_k0 c5
  unfold n_L_above_qout
  rw [p_v0 fo _ c5]
  unfold k_X4_above k_X4_requirePanel at h0
  unfold s_X4_above s_X5_above k_X4_requirePanel s_X1_panelsAbove
  rw [← z_hasp nC nR nf _ _ co ro rfl rfl]
  by_cases h : s_X1_hasPanel nC nR nf co ro = 0
  · simp [h] at h0
  · obtain ⟨c, r, h1, h2, h3, h4, h5, h6, h7⟩ := p_pan hC hR h
    simp only [h, if_false, if_true]
    rw [h5, h7, p_higher hC hR hx hy hz h1 h2]
theorem p_v01 {fo : Nat → Int64} : True := trivial
theorem zx_panel_2 {nC nR : Nat} {nf a1 a2 : Int32} (hC : nC ≤ 6) (hR : nR ≤ 6) (hR1 : 1 ≤ nR) (fo : Nat → Int64) (c5 : s_L_panel nC nR nf a1 a2 fo = 0) : (n_L_panel_qout nC nR nf a1 a2 fo) (0 : Int32).toNatClampNeg = (s_X5_panel (nI nC) (nI nR) a1 a2).toInt64 := by
  have h0 := p_k0 c5
  unfold n_L_panel_qout
  rw [p_v0 fo _ c5]
  unfold k_X4_panel at h0
  unfold s_X4_panel s_X5_panel s_X5_may s_X1_columnOf s_X1_rowOf
  rcases p_lat a1 with ⟨h1, h2, h5, h6⟩ | ⟨h1, h2, -⟩ <;> rcases p_lon a2 with ⟨h3, h4, h7, h8⟩ | ⟨h3, h4, -⟩
  · simp only [h1, h2, h3, h4, if_true]
    rw [if_neg (show ¬ (if (1 : Int32) = 0 then (0 : Int32) else if (1 : Int32) = 0 then 0 else 1) = 0 by decide), Int32.sub_neg]
    obtain ⟨r, rfl⟩ : ∃ r, nR = r + 1 := ⟨nR - 1, by omega⟩
    rw [nI_pred]
    have e : (nI r < (90 - a1) * nI (r + 1) / 180) ↔ nI (r + 1) ≤ (90 - a1) * nI (r + 1) / 180 := by
      rw [Int32.lt_iff_toInt_lt, Int32.le_iff_toInt_le, nI_toInt (by omega), nI_toInt (by omega)]
      omega
    by_cases c : nI (r + 1) ≤ (90 - a1) * nI (r + 1) / 180
    · rw [if_pos c, if_pos (e.mpr c)]
    · rw [if_neg c, if_neg (fun q => c (e.mp q))]
  · simp [h1, h3] at h0
  · simp [h1, h3] at h0
  · simp [h1, h3] at h0
