theorem p_lat (x : Int32) : (k_X4_requireLatitude x = 0 ∧ s_X5_isLatitude x = 1 ∧ -90 ≤ x.toInt ∧ x.toInt ≤ 90) ∨ (k_X4_requireLatitude x = 2 ∧ s_X5_isLatitude x = 0 ∧ (x.toInt < -90 ∨ 90 < x.toInt)) := by
  unfold k_X4_requireLatitude s_X5_isLatitude
  have e1 : (-90 : Int32).toInt = -90 := rfl
  have e2 : (90 : Int32).toInt = 90 := rfl
  simp only [Int32.lt_iff_toInt_lt, Int32.le_iff_toInt_le, e1, e2]
  by_cases h1 : x.toInt < -90
  · right; simp [h1]
  · by_cases h2 : x.toInt ≤ 90
    · left; simp [h1, h2, show ¬ 90 < x.toInt by omega]; omega
    · right; simp [h1, h2, show 90 < x.toInt by omega]
theorem p_lon (x : Int32) : (k_X4_requireLongitude x = 0 ∧ s_X5_isLongitude x = 1 ∧ -180 ≤ x.toInt ∧ x.toInt ≤ 179) ∨ (k_X4_requireLongitude x = 2 ∧ s_X5_isLongitude x = 0 ∧ (x.toInt < -180 ∨ 179 < x.toInt)) := by
  unfold k_X4_requireLongitude s_X5_isLongitude
  have e1 : (-180 : Int32).toInt = -180 := rfl
  have e2 : (179 : Int32).toInt = 179 := rfl
  simp only [Int32.lt_iff_toInt_lt, Int32.le_iff_toInt_le, e1, e2]
  by_cases h1 : x.toInt < -180
  · right; simp [h1]
  · by_cases h2 : x.toInt ≤ 179
    · left; simp [h1, h2, show ¬ 179 < x.toInt by omega]; omega
    · right; simp [h1, h2, show 179 < x.toInt by omega]
theorem p_band (x : Int32) : (k_X4_requireBand x = 0 ∧ s_X5_isBand x = 1 ∧ ∃ j : Nat, j < 9 ∧ x = nI j) ∨ (k_X4_requireBand x = 1 ∧ s_X5_isBand x = 0) := by
  unfold k_X4_requireBand s_X5_isBand
  by_cases h1 : x < 0
  · right; simp [h1]
  · obtain ⟨j, hj, rfl⟩ := nI_of h1
    by_cases h2 : j < 9
    · left
      have h3 : nI j < 9 := nI_lt (b := 9) h2 (by omega)
      have h4 : ¬ 8 < nI j := nI_nlt (a := 8) (by omega) (by omega)
      rw [if_neg h1, if_neg h1, if_pos h3, if_neg h4]
      exact ⟨rfl, rfl, j, h2, rfl⟩
    · right
      have h3 : ¬ nI j < 9 := nI_nlt (b := 9) (by omega) hj
      have h4 : 8 < nI j := nI_lt (a := 8) (by omega) hj
      rw [if_neg h1, if_neg h1, if_neg h3, if_pos h4]
      exact ⟨rfl, rfl⟩
theorem z_out0 (fo : Nat → Int64) (v : Int64) : vp_updL fo (0 : Int32).toNatClampNeg v (0 : Int32).toNatClampNeg = v := by
  simp [vp_updL]
theorem zx_x_1 (fw fh : Nat → Int32) (a1 a2 : Int32) (fo : Nat → Int64) : s_X5_thrown (n_X5_x_qg_11 a1 a2) = s_L_x fw fh a1 a2 fo := by
  unfold s_X5_thrown n_X5_x_qg_11 s_L_x k_X4_x n_X5_may_qg_11
  rcases p_lat a1 with ⟨h1, h2, -⟩ | ⟨h1, h2, -⟩ <;> rcases p_lon a2 with ⟨h3, h4, -⟩ | ⟨h3, h4, -⟩ <;> simp [h1, h2, h3, h4]
theorem zx_y_1 (fw fh : Nat → Int32) (a1 : Int32) (fo : Nat → Int64) : s_X5_thrown (n_X5_y_qg_11 a1) = s_L_y fw fh a1 fo := by
  unfold s_X5_thrown n_X5_y_qg_11 s_L_y k_X4_y n_X5_may_qg_11
  rcases p_lat a1 with ⟨h1, h2, -⟩ | ⟨h1, h2, -⟩ <;> simp [h1, h2]
theorem zx_apart_1 (a1 a2 : Int32) (fo : Nat → Int64) : s_X5_thrown (n_X5_apart_qg_11 a1 a2) = s_L_apart a1 a2 fo := by
  unfold s_X5_thrown n_X5_apart_qg_11 s_L_apart k_X4_apart n_X5_may_qg_11
  rcases p_lon a1 with ⟨h1, h2, -⟩ | ⟨h1, h2, -⟩ <;> rcases p_lon a2 with ⟨h3, h4, -⟩ | ⟨h3, h4, -⟩ <;> simp [h1, h2, h3, h4]
theorem zx_ringWay_1 (fw fh : Nat → Int32) (a1 a2 a3 : Int32) (fo : Nat → Int64) : s_X5_thrown (n_X5_ringWay_qg_11 a1 a2 a3) = s_L_ringWay fw fh a1 a2 a3 fo := by
  unfold s_X5_thrown n_X5_ringWay_qg_11 s_L_ringWay k_X4_ringWay n_X5_may_qg_11
  rcases p_lat a1 with ⟨h1, h2, -⟩ | ⟨h1, h2, -⟩ <;> rcases p_lon a2 with ⟨h3, h4, -⟩ | ⟨h3, h4, -⟩ <;> rcases p_lon a3 with ⟨h5, h6, -⟩ | ⟨h5, h6, -⟩ <;> simp [h1, h2, h3, h4, h5, h6]
theorem zx_zone_1 (br a1 : Int32) (fo : Nat → Int64) : s_X5_thrown (n_X5_zone_qg_11 a1) = s_L_zone br a1 fo := by
  unfold s_X5_thrown n_X5_zone_qg_11 s_L_zone k_X4_zone n_X5_may_qg_11
  rcases p_lon a1 with ⟨h1, h2, -⟩ | ⟨h1, h2, -⟩ <;> simp [h1, h2]
theorem zx_seams_1 (br a1 a2 : Int32) (fo : Nat → Int64) : s_X5_thrown (n_X5_seams_qg_11 a1 a2) = s_L_seams br a1 a2 fo := by
  unfold s_X5_thrown n_X5_seams_qg_11 s_L_seams k_X4_seams n_X5_may_qg_11
  rcases p_lon a1 with ⟨h1, h2, -⟩ | ⟨h1, h2, -⟩ <;> rcases p_lon a2 with ⟨h3, h4, -⟩ | ⟨h3, h4, -⟩ <;> simp [h1, h2, h3, h4]
theorem zx_dateLine_1 (a1 a2 : Int32) (fo : Nat → Int64) : s_X5_thrown (n_X5_dateLine_qg_11 a1 a2) = s_L_dateLine a1 a2 fo := by
  unfold s_X5_thrown n_X5_dateLine_qg_11 s_L_dateLine k_X4_dateLine n_X5_may_qg_11
  rcases p_lon a1 with ⟨h1, h2, -⟩ | ⟨h1, h2, -⟩ <;> rcases p_lon a2 with ⟨h3, h4, -⟩ | ⟨h3, h4, -⟩ <;> simp [h1, h2, h3, h4]
theorem zx_panel_1 (nC nR : Nat) (nf a1 a2 : Int32) (fo : Nat → Int64) : s_X5_thrown (n_X5_panel_qg_11 a1 a2) = s_L_panel nC nR nf a1 a2 fo := by
  unfold s_X5_thrown n_X5_panel_qg_11 s_L_panel k_X4_panel n_X5_may_qg_11
  rcases p_lat a1 with ⟨h1, h2, -⟩ | ⟨h1, h2, -⟩ <;> rcases p_lon a2 with ⟨h3, h4, -⟩ | ⟨h3, h4, -⟩ <;> simp [h1, h2, h3, h4]
theorem zx_zones_1 (br a1 : Int32) (fo : Nat → Int64) : s_X5_thrown (n_X5_zones_qg_11 a1) = s_L_zones br a1 fo := by
  unfold s_X5_thrown n_X5_zones_qg_11 s_L_zones k_X4_zones n_X5_may_qg_11
  by_cases h1 : a1 < 1 <;> by_cases h2 : 360 < a1 <;> by_cases h3 : 360 - 360 / a1 * a1 = 0 <;> simp [h1, h2, h3]
theorem zx_sheet_1 (jC jR nf : Int32) (fx fy fz fu : Nat → Int32) (a1 a2 : Int32) : s_X5_thrown (n_X5_sheet_qg_11 a1 a2) = s_L_sheet jC jR nf fx fy fz fu a1 a2 := by
  unfold s_X5_thrown n_X5_sheet_qg_11 s_L_sheet k_X4_sheet n_X5_may_qg_11 s_X5_may
  have e : (6 < a2) ↔ ¬ a2 ≤ 6 := by rw [Int32.lt_iff_toInt_lt, Int32.le_iff_toInt_le]; omega
  by_cases h1 : a1 < 1 <;> by_cases h2 : 6 < a1 <;> by_cases h3 : a2 < 1 <;> by_cases h4 : a2 ≤ 6 <;> simp [h1, h2, h3, h4, e]
theorem zx_stretch_1 (ft fw fh : Nat → Int32) (a1 : Int32) (fd : Nat → UInt64) : s_X5_thrown (n_X5_stretch_qg_11 a1) = s_L_stretch ft fw fh a1 fd := by
  unfold s_X5_thrown n_X5_stretch_qg_11 s_L_stretch k_X4_stretch n_X5_may_qg_11
  rcases p_band a1 with ⟨h1, h2, -⟩ | ⟨h1, h2⟩ <;> simp [h1, h2]
theorem zx_truth_1 (ft : Nat → Int32) (a1 a2 : Int32) (fo : Nat → Int64) : s_X5_thrown (n_X5_truth_qg_11 a1 a2) = s_L_truth ft a1 a2 fo := by
  unfold s_X5_thrown n_X5_truth_qg_11 s_L_truth k_X4_truth n_X5_mayBoth_qg_11
  have e : (99999 < a2) ↔ ¬ a2 ≤ 99999 := by rw [Int32.lt_iff_toInt_lt, Int32.le_iff_toInt_le]; omega
  rcases p_band a1 with ⟨h1, h2, -⟩ | ⟨h1, h2⟩ <;> by_cases h3 : a2 < 1 <;> by_cases h4 : a2 ≤ 99999 <;> simp [h1, h2, h3, h4, e]
theorem z_hasp (nC nR : Nat) (nf jC jR co ro : Int32) (e1 : jC = nI nC) (e2 : jR = nI nR) : s_X1_hasPanel nC nR nf co ro = s_X5_has jC jR co ro := by
  unfold s_X1_hasPanel s_X5_has s_X5_may
  rw [e1, e2]
theorem z_hasv (nC nR : Nat) (nf jC jR co ro : Int32) (e1 : jC = nI nC) (e2 : jR = nI nR) : n_X5_has_qg_11 jC jR co ro = if s_X1_hasPanel nC nR nf co ro = 0 then 1 else 0 := by
  unfold s_X1_hasPanel n_X5_has_qg_11 n_X5_may_qg_11
  rw [e1, e2]
theorem zx_placeX_1 (nC nR : Nat) (nf jC jR co ro : Int32) (fx : Nat → Int32) (fo : Nat → Int64) (e1 : jC = nI nC) (e2 : jR = nI nR) : s_X5_thrown (n_X5_placeX_qg_11 jC jR co ro) = s_L_placeX nC nR nf fx co ro fo := by
  unfold s_X5_thrown n_X5_placeX_qg_11 s_L_placeX k_X4_placeX k_X4_requirePanel
  rw [z_hasv nC nR nf jC jR co ro e1 e2]
  by_cases h : s_X1_hasPanel nC nR nf co ro = 0 <;> simp [h]
theorem zx_placeY_1 (nC nR : Nat) (nf jC jR co ro : Int32) (fx : Nat → Int32) (fo : Nat → Int64) (e1 : jC = nI nC) (e2 : jR = nI nR) : s_X5_thrown (n_X5_placeY_qg_11 jC jR co ro) = s_L_placeY nC nR nf fx co ro fo := by
  unfold s_X5_thrown n_X5_placeY_qg_11 s_L_placeY k_X4_placeY k_X4_requirePanel
  rw [z_hasv nC nR nf jC jR co ro e1 e2]
  by_cases h : s_X1_hasPanel nC nR nf co ro = 0 <;> simp [h]
theorem zx_above_1 (nC nR : Nat) (nf jC jR co ro : Int32) (fx fy fz : Nat → Int32) (fo : Nat → Int64) (e1 : jC = nI nC) (e2 : jR = nI nR) : s_X5_thrown (n_X5_above_qg_11 jC jR co ro) = s_L_above nC nR nf fx fy fz co ro fo := by
  unfold s_X5_thrown n_X5_above_qg_11 s_L_above k_X4_above k_X4_requirePanel
  rw [z_hasv nC nR nf jC jR co ro e1 e2]
  by_cases h : s_X1_hasPanel nC nR nf co ro = 0 <;> simp [h]
theorem zx_isUp_1 (nC nR : Nat) (nf jC jR co ro : Int32) (fu : Nat → Int32) (fo : Nat → Int64) (e1 : jC = nI nC) (e2 : jR = nI nR) : s_X5_thrown (n_X5_isUp_qg_11 jC jR co ro) = s_L_isUp nC nR nf fu co ro fo := by
  unfold s_X5_thrown n_X5_isUp_qg_11 s_L_isUp k_X4_isUp k_X4_requirePanel
  rw [z_hasv nC nR nf jC jR co ro e1 e2]
  by_cases h : s_X1_hasPanel nC nR nf co ro = 0 <;> simp [h]
theorem zx_area_1 (fw fh : Nat → Int32) (a1 a2 a3 a4 : Int32) (fo : Nat → Int64) : s_X5_thrown (n_X5_area_qg_11 a1 a2 a3 a4) = s_L_area fw fh a1 a2 a3 a4 fo := by
  unfold s_X5_thrown n_X5_area_qg_11 s_L_area k_X4_area n_X5_may_qg_11 s_X5_isLatitude
  have e1 : (-90 : Int32).toInt = -90 := rfl
  have e2 : (90 : Int32).toInt = 90 := rfl
  have e3 : (-180 : Int32).toInt = -180 := rfl
  have e4 : (180 : Int32).toInt = 180 := rfl
  simp only [Int32.lt_iff_toInt_lt, Int32.le_iff_toInt_le, e1, e2, e3, e4]
  repeat' split
  all_goals first | rfl | (exfalso; omega) | simp_all
theorem zx_areaByCells_1 (fw fh : Nat → Int32) (a1 a2 a3 a4 : Int32) (fo : Nat → Int64) : s_X5_thrown (n_X5_areaByCells_qg_11 a1 a2 a3 a4) = s_L_areaByCells fw fh a1 a2 a3 a4 fo := by
  have h := zx_area_1 fw fh a1 a2 a3 a4 fo
  unfold s_L_area at h
  unfold n_X5_areaByCells_qg_11 s_L_areaByCells k_X4_areaByCells
  rw [h]
  by_cases h1 : k_X4_area fw fh a1 a2 a3 a4 = 0 <;> simp [h1]
