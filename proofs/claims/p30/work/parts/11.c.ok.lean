theorem sh_l20 {nC nR : Nat} {gp gq gz gu : Nat → Int32} (hN : nC * nR ≤ 36) : ∀ k : Nat, k ≤ nC * nR → lp_L_sheets_20 nC nR gp gq gz gu k = (nI (p_mx (fun q => p_ct (p_at gp gq q) (nC * nR)) k), nI (p_ct (fun q => decide (p_ct (p_up gp gq gz q) (nC * nR) = 0) && decide (gu q = 1)) k))
  | 0, _ => rfl
  | k + 1, hk => by
    have ih := sh_l20 (gp := gp) (gq := gq) (gz := gz) (gu := gu) hN k (by omega)
    have l := sh_l36 (gp := gp) (gq := gq) (gz := gz) (k := k) (by omega) (nC * nR) hN
    have b1 := p_ctle (p_at gp gq k) (nC * nR)
    have b3 := p_ctle (p_up gp gq gz k) (nC * nR)
    have b2 := p_mxle (fun q => p_ct (p_at gp gq q) (nC * nR)) 36 k (fun q hq => by
      have := p_ctle (p_at gp gq q) (nC * nR)
      show p_ct (p_at gp gq q) (nC * nR) ≤ 36
      omega)
    show (v_L_sheets_155 nC nR gp gq gz ((lp_L_sheets_20 nC nR gp gq gz gu k).1) k, v_L_sheets_179 nC nR gp gq gz gu ((lp_L_sheets_20 nC nR gp gq gz gu k).2) k) = _
    rw [ih]
    unfold v_L_sheets_155 v_L_sheets_179
    rw [l, nI_clamp (by omega)]
    refine z_pe ?_ ?_
    · show (if nI (p_ct (p_at gp gq k) (nC * nR)) ≤ nI (p_mx (fun q => p_ct (p_at gp gq q) (nC * nR)) k) then nI (p_mx (fun q => p_ct (p_at gp gq q) (nC * nR)) k) else nI (p_ct (p_at gp gq k) (nC * nR))) = nI (if p_mx (fun q => p_ct (p_at gp gq q) (nC * nR)) k < p_ct (p_at gp gq k) (nC * nR) then p_ct (p_at gp gq k) (nC * nR) else p_mx (fun q => p_ct (p_at gp gq q) (nC * nR)) k)
      by_cases c : p_mx (fun q => p_ct (p_at gp gq q) (nC * nR)) k < p_ct (p_at gp gq k) (nC * nR)
      · rw [if_neg (nI_ge c (by omega)), if_pos c]
      · rw [if_pos (nI_le (by omega) (by omega)), if_neg c]
    · show nI (p_ct (fun q => decide (p_ct (p_up gp gq gz q) (nC * nR) = 0) && decide (gu q = 1)) k) + (if nI (p_ct (p_up gp gq gz k) (nC * nR)) = 0 then (if gu k = 1 then 1 else 0) else 0) = nI (p_ct (fun q => decide (p_ct (p_up gp gq gz q) (nC * nR) = 0) && decide (gu q = 1)) k + (if (decide (p_ct (p_up gp gq gz k) (nC * nR) = 0) && decide (gu k = 1)) = true then 1 else 0))
      by_cases c : p_ct (p_up gp gq gz k) (nC * nR) = 0
      · rw [c, if_pos nI_0]
        by_cases d : gu k = 1
        · rw [if_pos d, if_pos (by simp [d]), nI_1]
        · rw [if_neg d, if_neg (by simp [d]), Int32.add_zero, Nat.add_zero]
      · rw [if_neg (nI_ne0 (by omega) (by omega)), if_neg (by simp [c]), Int32.add_zero, Nat.add_zero]
theorem sh_rd {nC nR : Nat} {nf : Int32} {fx fy fz fu : Nat → Int32} (hN : nC * nR ≤ 36) : ∀ k : Nat, k ≤ nC * nR → lp_X1_readablePanels_4 nC nR nf fx fy fz fu k = nI (p_ct (fun q => decide (p_ct (p_up fx fy fz q) (nC * nR) = 0) && !decide (fu q = 0)) k)
  | 0, _ => rfl
  | k + 1, hk => by
    have ih := sh_rd (nf := nf) (fx := fx) (fy := fy) (fz := fz) (fu := fu) hN k (by omega)
    have e : s_X1_higherThan nC nR nf fx fy fz (nI k) = nI (p_ct (p_up fx fy fz k) (nC * nR)) := p_hct (by omega) (nC * nR) hN
    have b3 := p_ctle (p_up fx fy fz k) (nC * nR)
    rw [lp_X1_readablePanels_4, p_ct, ih, e, nI_clamp (by omega)]
    by_cases c : fu k = 0
    · rw [if_pos c, if_neg (by simp [c]), Nat.add_zero]
    · rw [if_neg c]
      by_cases d : p_ct (p_up fx fy fz k) (nC * nR) = 0
      · rw [d, if_pos nI_0, if_pos (by simp [c]), nI_1]
      · rw [if_neg (nI_ne0 (by omega) (by omega)), if_neg (by simp [d]), Nat.add_zero]
theorem sh_th {nC nR : Nat} {nf : Int32} {fx fy fz fu gp gq gz gu : Nat → Int32} (hS : zShL nC nR fx fy fz fu gp gq gz gu) (hN1 : 1 ≤ nC ∧ nC ≤ 6 ∧ 1 ≤ nR ∧ nR ≤ 6) (hF : zFoI (nC * nR) fx fy fz) : s_X4_thickness nC nR nf fx fy fz = (lp_L_sheets_20 nC nR gp gq gz gu (nC * nR)).1 := by
  have h36 := sh_36 hN1
  rw [sh_l20 h36 _ (Nat.le_refl _)]
  show lp_X1_mostPanels_4 nC nR nf fx fy fz (nC * nR) = nI (p_mx (fun q => p_ct (p_at gp gq q) (nC * nR)) (nC * nR))
  rw [p_thA h36 _ (Nat.le_refl _), p_th1 hF, ← p_mxp hN1]
  exact congrArg nI (p_mxcg _ (fun q hq => (sh_at hS hN1 hq).1.symm))
theorem sh_re {nC nR : Nat} {nf : Int32} {fx fy fz fu gp gq gz gu : Nat → Int32} (hS : zShL nC nR fx fy fz fu gp gq gz gu) (hN1 : 1 ≤ nC ∧ nC ≤ 6 ∧ 1 ≤ nR ∧ nR ≤ 6) : s_X4_readable nC nR nf fx fy fz fu = (lp_L_sheets_20 nC nR gp gq gz gu (nC * nR)).2 := by
  have h36 := sh_36 hN1
  rw [sh_l20 h36 _ (Nat.le_refl _)]
  show lp_X1_readablePanels_4 nC nR nf fx fy fz fu (nC * nR) = nI (p_ct (fun q => decide (p_ct (p_up gp gq gz q) (nC * nR) = 0) && decide (gu q = 1)) (nC * nR))
  rw [sh_rd h36 _ (Nat.le_refl _), ← p_ctp hN1]
  refine congrArg nI (p_ctcg _ (fun q hq => ?_))
  have a := sh_k hS hN1 hq
  rw [(sh_at hS hN1 hq).2, a.2.2.2.1]
  rcases a.2.2.2.2 with h | h <;> simp [h]
theorem sh_no {nC nR : Nat} {nf : Int32} {co ro : Int32} (h : s_X1_hasPanel nC nR nf co ro = 0) (fx fy fz fu : Nat → Int32) : s_L_of nC nR nf fx fy fz fu 0 co ro = -1001 ∧ s_L_of nC nR nf fx fy fz fu 1 co ro = -1001 ∧ s_L_of nC nR nf fx fy fz fu 2 co ro = -1001 ∧ s_L_of nC nR nf fx fy fz fu 3 co ro = -1001 := by
  have q : k_X4_requirePanel nC nR nf co ro = 1 := if_pos h
  refine ⟨?_, ?_, ?_, ?_⟩
  · show (if k_X4_placeX nC nR nf fx co ro = 0 then s_X4_placeX nC nR nf fx co ro else (-1001)) = _
    unfold k_X4_placeX
    rw [q]
    rfl
  · show (if k_X4_placeY nC nR nf fy co ro = 0 then s_X4_placeY nC nR nf fy co ro else (-1001)) = _
    unfold k_X4_placeY
    rw [q]
    rfl
  · show (if k_X4_above nC nR nf fx fy fz co ro = 0 then s_X4_above nC nR nf fx fy fz co ro else (-1001)) = _
    unfold k_X4_above
    rw [q]
    rfl
  · show (if k_X4_isUp nC nR nf fu co ro = 0 then (if (s_X4_isUp nC nR nf fu co ro) = 0 then 0 else 1) else (-1001)) = _
    unfold k_X4_isUp
    rw [q]
    rfl
theorem sh_by7 (fw fh : Nat → Int32) (br : Int32) {nC nR : Nat} (nf y : Int32) (hN1 : 1 ≤ nC ∧ nC ≤ 6 ∧ 1 ≤ nR ∧ nR ≤ 6) : s_L_by fw fh br nC nR nf 7 (v_L_sheets_263 y) (v_L_sheets_295 y) 0 = (if (-180) ≤ (v_L_sheets_295 y) then (10 * (nI (sh_c nC (v_L_sheets_295 y)))) + (nI (sh_r nR (v_L_sheets_263 y))) else (-9000001)) := by
  have he := sh_e y
  have hn := sh_n y
  have q1 := q_lat hn.1 hn.2
  rw [by_7]
  unfold k_X4_panel s_X4_panel
  by_cases c : -180 ≤ v_L_sheets_295 y
  · have c2 := Int32.le_iff_toInt_le.mp c
    rw [show (-180 : Int32).toInt = -180 from rfl] at c2
    have q2 := q_lon c2 he.2
    rw [if_pos c, q1, q2, if_pos rfl, if_pos rfl, if_pos rfl, if_pos rfl, if_pos rfl]
    unfold s_X1_columnOf s_X1_rowOf
    have m1 := sh_mc ⟨hN1.1, hN1.2.1⟩ he
    have m2 := (sh_mr hN1.2.2 hn).1
    have e1 : ((v_L_sheets_295 y - -180) * nI nC) / 360 = nI (sh_c nC (v_L_sheets_295 y)) := by
      have e : (v_L_sheets_295 y + 180) * nI nC = nI (((v_L_sheets_295 y).toInt + 180).toNat * nC) := by
        apply Int32.toInt_inj.mp
        have : ((v_L_sheets_295 y).toInt + 180).toNat * nC ≤ 359 * 6 := Nat.mul_le_mul (by omega) hN1.2.1
        rw [m1, nI_toInt (by omega), Int.natCast_mul]
        congr 1
        omega
      rw [Int32.sub_neg, e]
      have : ((v_L_sheets_295 y).toInt + 180).toNat * nC ≤ 359 * 6 := Nat.mul_le_mul (by omega) hN1.2.1
      exact pk_div (by omega) (by decide) (by decide)
    have e2 : ((90 - v_L_sheets_263 y) * nI nR) / 180 = nI ((90 - (v_L_sheets_263 y).toInt).toNat * nR / 180) := by
      have h5 : (90 - (v_L_sheets_263 y).toInt).toNat * nR ≤ 180 * 6 := Nat.mul_le_mul (by omega) hN1.2.2.2
      have e : (90 - v_L_sheets_263 y) * nI nR = nI ((90 - (v_L_sheets_263 y).toInt).toNat * nR) := by
        apply Int32.toInt_inj.mp
        rw [m2, nI_toInt (by omega), Int.natCast_mul]
        congr 1
        omega
      rw [e]
      exact pk_div (by omega) (by decide) (by decide)
    have e3 : nI nR - 1 = nI (nR - 1) := pk_sub (b := 1) hN1.2.2.1
    rw [e1, e2, e3]
    congr 1
    unfold sh_r
    have h5 : (90 - (v_L_sheets_263 y).toInt).toNat * nR ≤ 180 * 6 := Nat.mul_le_mul (by omega) hN1.2.2.2
    by_cases d : (90 - (v_L_sheets_263 y).toInt).toNat * nR / 180 < nR - 1
    · rw [if_pos d, if_neg]
      intro h
      rw [Int32.lt_iff_toInt_lt, nI_toInt (by omega), nI_toInt (by omega)] at h
      omega
    · rw [if_neg d]
      split
      · rfl
      · rename_i h
        rw [Int32.lt_iff_toInt_lt, nI_toInt (by omega), nI_toInt (by omega)] at h
        exact congrArg nI (by omega)
  · have c2 : ¬ (-180 : Int32).toInt ≤ (v_L_sheets_295 y).toInt := fun h => c (Int32.le_iff_toInt_le.mpr h)
    rw [show (-180 : Int32).toInt = -180 from rfl] at c2
    have q2 := q_lonn (x := v_L_sheets_295 y) (by omega)
    simp [c, q1, q2]
theorem sheets_ok (fw fh : Nat → Int32) (br : Int32) {nC nR : Nat} (nf : Int32) {fx fy fz fu gp gq gz gu : Nat → Int32} (y : Int32) (hS : zShL nC nR fx fy fz fu gp gq gz gu) (hN1 : 1 ≤ nC ∧ nC ≤ 6 ∧ 1 ≤ nR ∧ nR ≤ 6) (hF : zFoI (nC * nR) fx fy fz) : s_L_sheets fw fh br nC nR nf fx fy fz fu gp gq gz gu y = 1 := by
  have n1 : s_X1_hasPanel nC nR nf (nI nC) 0 = 0 := by
    unfold s_X1_hasPanel
    rw [if_neg (nI_pos (by omega)), if_pos (Int32.le_refl _)]
  have n2 : s_X1_hasPanel nC nR nf 0 (nI nR) = 0 := by
    unfold s_X1_hasPanel
    have : ¬ nI nC ≤ 0 := nI_nle hN1.1 (by omega)
    rw [if_neg (by decide), if_neg this, if_neg (nI_pos (by omega)), if_pos (Int32.le_refl _)]
  have n3 : s_X1_hasPanel nC nR nf (-1) 0 = 0 := rfl
  have n4 : s_X1_hasPanel nC nR nf 0 (-1) = 0 := by
    unfold s_X1_hasPanel
    have : ¬ nI nC ≤ 0 := nI_nle hN1.1 (by omega)
    rw [if_neg (by decide), if_neg this, if_pos (by decide)]
  unfold s_L_sheets
  rw [if_pos (sh_th hS hN1 hF), if_pos (sh_re hS hN1), if_pos (sh_by7 fw fh br nf y hN1), if_pos (sh_no n1 fx fy fz fu).1, if_pos (sh_no n2 fx fy fz fu).2.1, if_pos (sh_no n3 fx fy fz fu).2.2.1, if_pos (sh_no n4 fx fy fz fu).2.2.2]
