/-- ten times the value between two rows of a table, d degrees out -/
def p_T (f : Nat → Int32) (d : Nat) : Int32 := nI (10 - d % 10) * f (d / 10) + (if d % 10 = 0 then 0 else nI (d % 10) * f (d / 10 + 1))
theorem p_sub {a b : Nat} (h : b ≤ a) : nI a - nI b = nI (a - b) := (Int32.ofNat_sub a b h).symm
theorem p_ten (f : Nat → Int32) (n : Nat) (h : n ≤ 90) : s_X2_tenTimesAt f (nI n) = p_T f n := by
  unfold s_X2_tenTimesAt p_T
  rw [z_r10 n h, z_d10 n h, show (10 : Int32) - nI (n % 10) = nI (10 - n % 10) from p_sub (a := 10) (by omega), nI_1]
  have v1 : s_X2_valueAt f (nI (n / 10)) = f (n / 10) := by
    unfold s_X2_valueAt
    rw [if_neg (nI_pos (by omega)), if_neg (show ¬ (10 : Int32) ≤ nI (n / 10) from nI_ge (b := 10) (by omega) (by omega)), nI_clamp (by omega)]
  rw [v1]
  by_cases hr : n % 10 = 0
  · rw [if_pos hr, hr, nI_0, Int32.zero_mul]
  · rw [if_neg hr]
    have v2 : s_X2_valueAt f (nI (n / 10 + 1)) = f (n / 10 + 1) := by
      unfold s_X2_valueAt
      rw [if_neg (nI_pos (by omega)), if_neg (show ¬ (10 : Int32) ≤ nI (n / 10 + 1) from nI_ge (b := 10) (by omega) (by omega)), nI_clamp (by omega)]
    rw [v2]
theorem p_guard (f : Nat → Int32) (n : Nat) (h : n ≤ 90) : (10 - nI (n % 10)) * f (nI (n / 10)).toNatClampNeg + (if nI (n % 10) ≤ 0 then 0 else nI (n % 10) * f (nI (n / 10) + 1).toNatClampNeg) = p_T f n := by
  unfold p_T
  rw [show (10 : Int32) - nI (n % 10) = nI (10 - n % 10) from p_sub (a := 10) (by omega), nI_1, nI_clamp (by omega), nI_clamp (by omega)]
  by_cases hr : n % 10 = 0
  · rw [if_pos hr, hr, if_pos (by rw [nI_0]; decide)]
  · rw [if_neg hr, if_neg (nI_nle (by omega) (by omega))]
theorem p_wide (f : Nat → Int32) {lat : Int32} (h : -90 ≤ lat.toInt ∧ lat.toInt ≤ 90) : s_X5_wide f lat = p_T f lat.toInt.natAbs := by
  obtain ⟨n, hn, hm, e⟩ := z_abs h
  unfold s_X5_wide
  rw [e, ← hm, z_r10 n hn, z_d10 n hn]
  exact p_guard f n hn
theorem p_high (f : Nat → Int32) {lat : Int32} (h : -90 ≤ lat.toInt ∧ lat.toInt ≤ 90) : s_X5_high f lat = if 0 ≤ lat then p_T f lat.toInt.natAbs else -(p_T f lat.toInt.natAbs) := by
  obtain ⟨n, hn, hm, e⟩ := z_abs h
  unfold s_X5_high
  rw [e, ← hm, z_r10 n hn, z_d10 n hn, p_guard f n hn]
theorem p_tw (f fh : Nat → Int32) {lat : Int32} (h : -90 ≤ lat.toInt ∧ lat.toInt ≤ 90) : s_X2_tenWidths f fh lat = p_T f lat.toInt.natAbs := by
  obtain ⟨n, hn, hm, e⟩ := z_abs h
  unfold s_X2_tenWidths
  rw [Int32.zero_sub, e, p_ten f n hn, ← hm]
theorem p_th (fw f : Nat → Int32) {lat : Int32} (h : -90 ≤ lat.toInt ∧ lat.toInt ≤ 90) : s_X2_tenHeights fw f lat = if 0 ≤ lat then p_T f lat.toInt.natAbs else -(p_T f lat.toInt.natAbs) := by
  obtain ⟨n, hn, hm, e⟩ := z_abs h
  unfold s_X2_tenHeights
  rw [Int32.zero_sub, e, p_ten f n hn, ← hm]
theorem p_Tc {f g : Nat → Int32} (h : ∀ j : Nat, j < 10 → f j = g j) {n : Nat} (hn : n ≤ 90) : p_T f n = p_T g n := by
  unfold p_T
  rw [h (n / 10) (by omega)]
  by_cases hr : n % 10 = 0
  · rw [if_pos hr, if_pos hr]
  · rw [if_neg hr, if_neg hr, h (n / 10 + 1) (by omega)]
theorem p_wE {fw fh gw gh : Nat → Int32} (hT : zTabI fw fh gw gh) {lat : Int32} (h : -90 ≤ lat.toInt ∧ lat.toInt ≤ 90) : s_X2_tenWidths fw fh lat = s_X5_wide gw lat := by
  rw [p_tw fw fh h, p_wide gw h]
  exact p_Tc (fun j hj => (hT.1 j hj).1) (by omega)
theorem p_hE {fw fh gw gh : Nat → Int32} (hT : zTabI fw fh gw gh) {lat : Int32} (h : -90 ≤ lat.toInt ∧ lat.toInt ≤ 90) : s_X2_tenHeights fw fh lat = s_X5_high gh lat := by
  rw [p_th fw fh h, p_high gh h, p_Tc (fun j hj => (hT.1 j hj).2) (n := lat.toInt.natAbs) (by omega)]
theorem p_v0 (fo : Nat → Int64) (v : Int64) {k : Nat} (h : (if k = 0 then (0 : Int32) else 1) = 0) : (if k = 0 then vp_updL fo (0 : Int32).toNatClampNeg v else fo) (0 : Int32).toNatClampNeg = v := by
  by_cases hk : k = 0
  · rw [if_pos hk]
    exact z_out0 fo v
  · rw [if_neg hk] at h
    exact absurd h (by decide)
theorem p_k0 {k : Nat} (h : (if k = 0 then (0 : Int32) else 1) = 0) : k = 0 := by
  by_cases hk : k = 0
  · exact hk
  · rw [if_neg hk] at h
    exact absurd h (by decide)
theorem zx_x_2 {fw fh gw gh : Nat → Int32} (hT : zTabI fw fh gw gh) (a1 a2 : Int32) (fo : Nat → Int64) (c5 : s_L_x fw fh a1 a2 fo = 0) : (n_L_x_qout fw fh a1 a2 fo) (0 : Int32).toNatClampNeg = (s_X5_x gw a1 a2).toInt64 := by
  have h0 := p_k0 c5
  unfold n_L_x_qout
  rw [p_v0 fo _ c5]
  unfold k_X4_x at h0
  unfold s_X4_x s_X5_x s_X5_may
  rcases p_lat a1 with ⟨h1, h2, h5, h6⟩ | ⟨h1, h2, -⟩ <;> rcases p_lon a2 with ⟨h3, h4, -⟩ | ⟨h3, h4, -⟩ <;> simp_all [p_wE hT]
theorem zx_y_2 {fw fh gw gh : Nat → Int32} (hT : zTabI fw fh gw gh) (a1 : Int32) (fo : Nat → Int64) (c5 : s_L_y fw fh a1 fo = 0) : (n_L_y_qout fw fh a1 fo) (0 : Int32).toNatClampNeg = (s_X5_y gh a1).toInt64 := by
  have h0 := p_k0 c5
  unfold n_L_y_qout
  rw [p_v0 fo _ c5]
  unfold k_X4_y at h0
  unfold s_X4_y s_X5_y s_X5_may
  rcases p_lat a1 with ⟨h1, h2, h5, h6⟩ | ⟨h1, h2, -⟩ <;> simp_all [p_hE hT]
theorem p_short {o1 o2 : Int32} (h1 : -180 ≤ o1.toInt ∧ o1.toInt ≤ 179) (h2 : -180 ≤ o2.toInt ∧ o2.toInt ≤ 179) : s_X4_degreesEast o1 o2 = s_X5_east o1 o2 ∧ (s_X5_east o1 o2).toInt = (o2.toInt - o1.toInt) % 360 := by
  have e0 : (0 : Int32).toInt = 0 := rfl
  have e3 : (360 : Int32).toInt = 360 := rfl
  have es := z_subI (x := o2) (y := o1) (by omega) (by omega)
  have ea : (o2 - o1 + 360).toInt = o2.toInt - o1.toInt + 360 := by
    rw [z_addI (by omega) (by omega), es, e3]
  unfold s_X4_degreesEast s_X5_east
  simp only [Int32.le_iff_toInt_le, e0, es]
  by_cases c : o1.toInt ≤ o2.toInt
  · rw [if_pos (by omega), if_pos c, es]
    exact ⟨rfl, by omega⟩
  · rw [if_neg (by omega), if_neg c, ea]
    exact ⟨rfl, by omega⟩
theorem p_shorter {o1 o2 : Int32} (h1 : -180 ≤ o1.toInt ∧ o1.toInt ≤ 179) (h2 : -180 ≤ o2.toInt ∧ o2.toInt ≤ 179) : s_X4_shorterWay o1 o2 = s_X5_shorter o1 o2 := by
  obtain ⟨e1, e2⟩ := p_short h1 h2
  unfold s_X4_shorterWay s_X5_shorter
  rw [e1]
  have e3 : (360 : Int32).toInt = 360 := rfl
  have e8 : (180 : Int32).toInt = 180 := rfl
  have e4 : (360 - s_X5_east o1 o2).toInt = 360 - (s_X5_east o1 o2).toInt := by
    rw [z_subI (by omega) (by omega), e3]
  simp only [Int32.lt_iff_toInt_lt, e4, e8]
  by_cases c : 180 < (s_X5_east o1 o2).toInt
  · rw [if_pos (by omega), if_pos c]
  · rw [if_neg (by omega), if_neg c]
theorem zx_apart_2 (a1 a2 : Int32) (fo : Nat → Int64) (c5 : s_L_apart a1 a2 fo = 0) : (n_L_apart_qout a1 a2 fo) (0 : Int32).toNatClampNeg = (s_X5_apart a1 a2).toInt64 := by
  have h0 := p_k0 c5
  unfold n_L_apart_qout
  rw [p_v0 fo _ c5]
  unfold k_X4_apart at h0
  unfold s_X4_apart s_X5_apart s_X5_may
  rcases p_lon a1 with ⟨h1, h2, h5, h6⟩ | ⟨h1, h2, -⟩ <;> rcases p_lon a2 with ⟨h3, h4, h7, h8⟩ | ⟨h3, h4, -⟩ <;> simp_all [p_shorter]
theorem zx_ringWay_2 {fw fh gw gh : Nat → Int32} (hT : zTabI fw fh gw gh) (a1 a2 a3 : Int32) (fo : Nat → Int64) (c5 : s_L_ringWay fw fh a1 a2 a3 fo = 0) : (n_L_ringWay_qout fw fh a1 a2 a3 fo) (0 : Int32).toNatClampNeg = (s_X5_ringWay gw a1 a2 a3).toInt64 := by
  have h0 := p_k0 c5
  unfold n_L_ringWay_qout
  rw [p_v0 fo _ c5]
  unfold k_X4_ringWay at h0
  unfold s_X4_ringWay s_X5_ringWay s_X5_may
  rcases p_lat a1 with ⟨k1, k2, k3, k4⟩ | ⟨k1, k2, -⟩ <;> rcases p_lon a2 with ⟨h1, h2, h5, h6⟩ | ⟨h1, h2, -⟩ <;> rcases p_lon a3 with ⟨h3, h4, h7, h8⟩ | ⟨h3, h4, -⟩ <;> simp_all [p_shorter, p_wE hT]
/-! area -/
theorem p_area {fw fh gw gh : Nat → Int32} (hT : zTabI fw fh gw gh) (so no dw : Int32) (h1 : -90 ≤ so.toInt) (h2 : no.toInt ≤ 90) : ∀ k : Nat, so.toInt + k ≤ no.toInt → lp_X2_fieldArea_6 fw fh so no dw k = lp_X5_areaOf_6 gw gh so dw k
  | 0, _ => rfl
  | k + 1, hk => by
    have ih := p_area hT so no dw h1 h2 k (by omega)
    have e0 : (so + nI k).toInt = so.toInt + k := z_fadd h1 (by omega)
    have e1 : (so + nI k + 1).toInt = so.toInt + k + 1 := by
      rw [z_addI (by rw [e0, show (1 : Int32).toInt = 1 from rfl]; omega) (by rw [e0, show (1 : Int32).toInt = 1 from rfl]; omega), e0]
      rfl
    simp only [lp_X2_fieldArea_6, lp_X5_areaOf_6, s_X2_cellArea]
    rw [ih, p_wE hT (by omega), p_wE hT (by omega), p_hE hT (by omega), p_hE hT (by omega), Int64.mul_assoc]
theorem p_fa {fw fh gw gh : Nat → Int32} (hT : zTabI fw fh gw gh) {so no dw : Int32} (h1 : -90 ≤ so.toInt) (h2 : no.toInt ≤ 90) (h3 : so.toInt ≤ no.toInt) : s_X2_fieldArea fw fh so no dw = s_X5_areaOf gw gh so no dw := p_area hT so no dw h1 h2 _ (by omega)
theorem p_areaV {fw fh gw gh : Nat → Int32} (hT : zTabI fw fh gw gh) (a1 a2 a3 a4 : Int32) (h0 : k_X4_area fw fh a1 a2 a3 a4 = 0) : s_X4_area fw fh a1 a2 a3 a4 = s_X5_area gw gh a1 a2 a3 a4 := by
  unfold k_X4_area at h0
  unfold s_X4_area s_X5_area s_X5_may s_X5_isLatitude
  have e1 : (-90 : Int32).toInt = -90 := rfl
  have e2 : (90 : Int32).toInt = 90 := rfl
  have e3 : (-180 : Int32).toInt = -180 := rfl
  have e4 : (180 : Int32).toInt = 180 := rfl
  simp only [Int32.lt_iff_toInt_lt, Int32.le_iff_toInt_le, e1, e2, e3, e4] at h0 ⊢
  by_cases c1 : a1.toInt < -90
  · simp [c1] at h0
  by_cases c2 : a2.toInt < a1.toInt
  · simp [c1, c2] at h0
  by_cases c3 : a2.toInt ≤ 90
  case neg => simp [c1, c2, c3] at h0
  by_cases c4 : a3.toInt < -180
  · simp [c1, c2, c3, c4] at h0
  by_cases c5 : a4.toInt < a3.toInt
  · simp [c1, c2, c3, c4, c5] at h0
  by_cases c6 : a4.toInt ≤ 180
  case neg => simp [c1, c2, c3, c4, c5, c6] at h0
  have d1 : ¬ 90 < a1.toInt := by omega
  have d2 : ¬ a2.toInt < -90 := by omega
  have d3 : ¬ 90 < a2.toInt := by omega
  have d4 : ¬ 180 < a4.toInt := by omega
  simp [c1, c2, c3, c4, c5, c6, d1, d2, d3, d4]
  exact p_fa hT (by omega) c3 (by omega)
theorem zx_area_2 {fw fh gw gh : Nat → Int32} (hT : zTabI fw fh gw gh) (a1 a2 a3 a4 : Int32) (fo : Nat → Int64) (c5 : s_L_area fw fh a1 a2 a3 a4 fo = 0) : (n_L_area_qout fw fh a1 a2 a3 a4 fo) (0 : Int32).toNatClampNeg = s_X5_area gw gh a1 a2 a3 a4 := by
  unfold n_L_area_qout
  rw [p_v0 fo _ c5]
  exact p_areaV hT a1 a2 a3 a4 (p_k0 c5)
theorem zx_areaByCells_2 {fw fh gw gh : Nat → Int32} (hT : zTabI fw fh gw gh) (a1 a2 a3 a4 : Int32) (fo : Nat → Int64) (c5 : s_L_areaByCells fw fh a1 a2 a3 a4 fo = 0) : (n_L_areaByCells_qout fw fh a1 a2 a3 a4 fo) (0 : Int32).toNatClampNeg = s_X5_areaByCells gw gh a1 a2 a3 a4 := by
  unfold n_L_areaByCells_qout
  rw [p_v0 fo _ c5]
  have h0 := p_k0 c5
  unfold k_X4_areaByCells at h0
  have h1 : k_X4_area fw fh a1 a2 a3 a4 = 0 := by
    by_cases h : k_X4_area fw fh a1 a2 a3 a4 = 0
    · exact h
    · rw [if_neg h] at h0
      exact h0
  unfold s_X4_areaByCells s_X5_areaByCells
  rw [if_pos h1]
  exact p_areaV hT a1 a2 a3 a4 h1
