theorem acts_ok {fw : Nat → Int32} {fh : Nat → Int32} {ft : Nat → Int32} {br : Int32} {nC : Nat} {nR : Nat} {nf : Int32} {fx : Nat → Int32} {fy : Nat → Int32} {fz : Nat → Int32} {fu : Nat → Int32} {gt : Nat → Int32} {gp : Nat → Int32} {gq : Nat → Int32} {gz : Nat → Int32} {gu : Nat → Int32} (hI : zLI fw fh ft br nC nR nf fx fy fz fu gt gp gq gz gu) (kd y : Int32) : s_L_acts fw fh ft br nC nR nf fx fy fz fu gt gp gq gz kd y = 1 ∧ ∃ mC mR : Nat, n_L_acts_qf_4 nC nR nf fx fy fz fu kd y = nI mC ∧ n_L_acts_qf_5 nC nR nf fx fy fz fu kd y = nI mR ∧ zLI (n_L_acts_qw fw fh gt kd y) (n_L_acts_qh fw fh gt kd y) (n_L_acts_qt ft kd y) (n_L_acts_qr_0 br kd y) mC mR (n_L_acts_qf_6 nC nR nf fx fy fz fu gp gq gz kd y) (n_L_acts_qx nC nR nf fx fy fz fu gp gq gz kd y) (n_L_acts_qy nC nR nf fx fy fz fu gp gq gz kd y) (n_L_acts_qz nC nR nf fx fy fz fu gp gq gz kd y) (n_L_acts_qu nC nR nf fx fy fz fu gp gq gz kd y) (n_L_acts_qT br nC nR nf gt gp gq gz kd y) (n_L_acts_qP nC nR gp gq gz kd y) (n_L_acts_qQ nC nR gp gq gz kd y) (n_L_acts_qZ nC nR gp gq gz kd y) (n_L_acts_qU nC nR gp gq gz gu kd y) := by
  unfold s_L_acts n_L_acts_qw n_L_acts_qh n_L_acts_qt n_L_acts_qr_0 n_L_acts_qf_4 n_L_acts_qf_5 n_L_acts_qf_6 n_L_acts_qx n_L_acts_qy n_L_acts_qz n_L_acts_qu n_L_acts_qT n_L_acts_qP n_L_acts_qQ n_L_acts_qZ n_L_acts_qU
  by_cases c0 : 3 ≤ kd
  · by_cases c3 : kd = 3
    · simp only [if_pos c0, if_pos c3]
      obtain ⟨h1, h2⟩ := ac_ok3 hI y
      exact ⟨if_pos h1, nC, nR, rfl, rfl, h2⟩
    · by_cases c4 : kd = 4
      · simp only [if_pos c0, if_neg c3, if_pos c4]
        obtain ⟨h1, h2⟩ := ac_ok4 hI y
        exact ⟨if_pos h1, nC, nR, rfl, rfl, h2⟩
      · by_cases c5 : kd = 5
        · simp only [if_pos c0, if_neg c3, if_neg c4, if_pos c5]
          obtain ⟨h1, mC, mR, e4, e5, h2⟩ := ac_ok5 hI y
          exact ⟨if_pos h1, mC, mR, e4, e5, h2⟩
        · by_cases c6 : kd = 6
          · simp only [if_pos c0, if_neg c3, if_neg c4, if_neg c5, if_pos c6]
            exact ⟨if_pos rfl, nC, nR, rfl, rfl, ac_ok6 hI⟩
          · simp only [if_pos c0, if_neg c3, if_neg c4, if_neg c5, if_neg c6]
            obtain ⟨h1, h2⟩ := ac_ok7 hI y
            exact ⟨if_pos h1, nC, nR, rfl, rfl, h2⟩
  · simp only [if_neg c0]
    obtain ⟨h1, h2⟩ := ac_ok0 hI y
    exact ⟨if_pos h1, nC, nR, rfl, rfl, h2⟩
theorem li_pre {fw : Nat → Int32} {fh : Nat → Int32} {ft : Nat → Int32} {br : Int32} {nC : Nat} {nR : Nat} {nf : Int32} {fx : Nat → Int32} {fy : Nat → Int32} {fz : Nat → Int32} {fu : Nat → Int32} {gt : Nat → Int32} {gp : Nat → Int32} {gq : Nat → Int32} {gz : Nat → Int32} {gu : Nat → Int32} (hI : zLI fw fh ft br nC nR nf fx fy fz fu gt gp gq gz gu) : (nC * nR ≤ 36 ∧ nC ≤ 36 ∧ nR ≤ 36 ∧ gt 30 = nI nC ∧ gt 31 = nI nR ∧ 1 ≤ nC ∧ nC ≤ 6 ∧ 1 ≤ nR ∧ nR ≤ 6) ∧ gt 29 = br ∧ gt 32 = nf ∧ (∀ j : Nat, j < nC * nR → (0 ≤ (gp j).toInt ∧ (gp j).toInt ≤ 60) ∧ 0 ≤ (gq j).toInt ∧ (gq j).toInt ≤ 60) ∧ zLT gt fw fh ∧ zWB fw ∧ zTb fw fh ∧ (∀ j : Nat, j < 9 → gt (20 + j) = ft j) ∧ (∀ j : Nat, j < 9 → ¬ ft j = 0) ∧ ¬ br = 0 ∧ zShL nC nR fx fy fz fu gp gq gz gu ∧ zTr ft ∧ zZn br ∧ zFoI (nC * nR) fx fy fz := by
  obtain ⟨⟨hT, hU, hZ, hN⟩, hF, ⟨hL, h20, h29, h30, h31, h32⟩, hS⟩ := hI
  refine ⟨⟨sh_36 hN, by omega, by omega, h30, h31, hN⟩, h29, h32, fun j hj => ?_, hL, fun j hj => ?_, hT, h20, fun j hj e => ?_, ?_, hS, hU, hZ, hF⟩
  · have a := sh_k hS hN hj
    obtain ⟨⟨n, x0, k, y0, k2, h1, h2, h3, h4, h5, h6⟩, -⟩ := hF
    obtain ⟨x, y, z, c1, c2, c3, c4, c5, c6, -⟩ := h6 _ (sg_lt hN hj).2.2
    rw [a.1, a.2.1, c1, c4, nI_toInt (by omega), nI_toInt (by omega)]
    omega
  · have := hT.1 j hj
    omega
  · have t := hU j hj
    rw [e] at t
    exact absurd t.1 (by decide)
  · obtain ⟨d, hd, hd2, -, e⟩ := hZ
    rw [e]
    exact nI_ne0 (by omega) (by omega)
theorem z_rc {x : Nat} (h : x ≤ 666688) : x ≤ room_1.cells := h
theorem z_rs {x : Nat} (h : x ≤ 7101560) : x ≤ room_1.slots := h
