theorem p_nofold {nC nR : Nat} {nf : Int32} {f fz fu : Nat → Int32} {b : Int32} (h : s_X1_placesBelow nC nR nf f b = 0 ∨ ¬ s_X1_placesBelow nC nR nf f b = 0 ∧ s_X1_placesBelow nC nR nf f b = s_X1_panels nC nR nf) : s_X1_turnOver nC nR nf f fz fu b = 0 ∧ n_X1_turnOver_qf_6 nC nR nf f fz fu b = nf ∧ n_X1_turnOver_qa nC nR nf f fz fu b = f ∧ n_X1_turnOver_qz nC nR nf f fz fu b = fz ∧ n_X1_turnOver_qu nC nR nf f fz fu b = fu := by
  unfold s_X1_turnOver n_X1_turnOver_qf_6 n_X1_turnOver_qa n_X1_turnOver_qz n_X1_turnOver_qu
  rcases h with h | ⟨h1, h2⟩
  · simp only [if_pos h, and_self]
  · simp only [if_neg h1, if_pos h2, and_self]
theorem p_dofold {nC nR : Nat} {nf : Int32} {f fz fu : Nat → Int32} {b : Int32} (h1 : ¬ s_X1_placesBelow nC nR nf f b = 0) (h2 : ¬ s_X1_placesBelow nC nR nf f b = s_X1_panels nC nR nf) : s_X1_turnOver nC nR nf f fz fu b = s_X1_placesBelow nC nR nf f b ∧ n_X1_turnOver_qf_6 nC nR nf f fz fu b = nf + 1 ∧ n_X1_turnOver_qa nC nR nf f fz fu b = zt f b (fun p => 2 * b - 1 - f p) f (nC * nR) ∧ n_X1_turnOver_qz nC nR nf f fz fu b = zt f b (fun p => 2 * (s_X1_highestLayer nC nR nf fz) + 1 - fz p) fz (nC * nR) ∧ n_X1_turnOver_qu nC nR nf f fz fu b = zt f b (fun p => if fu p = 0 then 1 else 0) fu (nC * nR) := by
  unfold s_X1_turnOver n_X1_turnOver_qf_6 n_X1_turnOver_qa n_X1_turnOver_qz n_X1_turnOver_qu
  simp only [if_neg h1, if_neg h2]
  exact ⟨trivial, trivial, trivial, trivial, trivial⟩
theorem p_f6 (jC jR nf : Int32) (fx fy : Nat → Int32) (b bc : Int32) : n_X5_fold_qg_6 jC jR nf fx fy b bc = if p_FV jC jR fx fy b bc = 0 then nf else nf + 1 := rfl
theorem p_f11 (jC jR : Int32) (fx fy : Nat → Int32) (b bc : Int32) : n_X5_fold_qg_11 jC jR fx fy b bc = if p_FV jC jR fx fy b bc = 0 then 1 else 0 := rfl
theorem p_fs (jC jR : Int32) (fx fy : Nat → Int32) (b bc : Int32) : s_X5_fold jC jR fx fy b bc = if p_FV jC jR fx fy b bc = 0 then 0 else s_X5_ahead jC jR fx fy b bc := rfl
theorem p_fx (jC jR : Int32) (fx fy : Nat → Int32) (b bc : Int32) : n_X5_fold_qgx jC jR fx fy b bc = if p_FV jC jR fx fy b bc = 0 then fx else zs (fun p => !decide ((s_X5_isPanel jC jR (nI p)) = 0) && !decide (b ≤ (if bc = 0 then fy p else fx p))) (fun p => if bc = 0 then fx p else 2 * b - 1 - fx p) fx 36 := rfl
theorem p_fy (jC jR : Int32) (fx fy : Nat → Int32) (b bc : Int32) : n_X5_fold_qgy jC jR fx fy b bc = if p_FV jC jR fx fy b bc = 0 then fy else zs (fun p => !decide ((s_X5_isPanel jC jR (nI p)) = 0) && !decide (b ≤ (if bc = 0 then fy p else fx p))) (fun p => if bc = 0 then 2 * b - 1 - fy p else fy p) fy 36 := rfl
theorem p_fz (jC jR : Int32) (fx fy fz : Nat → Int32) (b bc : Int32) : n_X5_fold_qgz jC jR fx fy fz b bc = if p_FV jC jR fx fy b bc = 0 then fz else zs (fun p => !decide ((s_X5_isPanel jC jR (nI p)) = 0) && !decide (b ≤ (if bc = 0 then fy p else fx p))) (fun p => 2 * (lp_X5_fold_44 jC jR fz 36) + 1 - fz p) fz 36 := rfl
theorem p_fu (jC jR : Int32) (fx fy fu : Nat → Int32) (b bc : Int32) : n_X5_fold_qgu jC jR fx fy fu b bc = if p_FV jC jR fx fy b bc = 0 then fu else zs (fun p => !decide ((s_X5_isPanel jC jR (nI p)) = 0) && !decide (b ≤ (if bc = 0 then fy p else fx p))) (fun p => if fu p = 0 then 1 else 0) fu 36 := rfl
theorem p_zsame (c : Nat → Bool) (f : Nat → Int32) (k : Nat) : zs c f f k = f := by
  funext p
  unfold zs
  by_cases h : p < k ∧ c p = true
  · rw [if_pos h]
  · rw [if_neg h]
/-- the sheet, as the invariant has it, taken apart -/
theorem p_sm {nC nR : Nat} {nf : Int32} {fx fy fz fu : Nat → Int32} {jC jR mf : Int32} {gx gy gz gu : Nat → Int32} (h : zShI nC nR nf fx fy fz fu jC jR mf gx gy gz gu) : nC ≤ 6 ∧ nR ≤ 6 ∧ jC = nI nC ∧ jR = nI nR ∧ p_Sm nC nR fx gx ∧ p_Sm nC nR fy gy ∧ p_Sm nC nR fz gz ∧ p_Sm nC nR fu gu ∧ zFoI (nC * nR) fx fy fz :=
  ⟨h.1.2.1, h.1.2.2.2, h.2.1, h.2.2.1, fun c r hc hr => (h.2.2.2.2.1 c r hc hr).1, fun c r hc hr => (h.2.2.2.2.1 c r hc hr).2.1, fun c r hc hr => (h.2.2.2.2.1 c r hc hr).2.2.1, fun c r hc hr => (h.2.2.2.2.1 c r hc hr).2.2.2, h.2.2.2.2.2⟩
theorem p_f1 {nC nR : Nat} {nf : Int32} {f fz fu g gx gy : Nat → Int32} (hC : nC ≤ 6) (hR : nR ≤ 6) (h : p_Sm nC nR f g) (b bc : Int32) (hg : ∀ k : Nat, g k = if bc = 0 then gy k else gx k) : n_X5_fold_qg_11 (nI nC) (nI nR) gx gy b bc = (if (if k_X4_someTurned (s_X1_turnOver nC nR nf f fz fu b) = 0 then 0 else k_X4_someTurned (s_X1_turnOver nC nR nf f fz fu b)) = 0 then (0 : Int32) else 1) := by
  obtain ⟨e, h1 | h1⟩ := p_fc (nf := nf) hC hR h b bc hg
  · have q := (p_nofold (fz := fz) (fu := fu) h1.2).1
    rw [p_f11, h1.1, q]
    decide
  · have q := (p_dofold (fz := fz) (fu := fu) h1.2.1 h1.2.2.1).1
    have k0 : k_X4_someTurned (s_X1_placesBelow nC nR nf f b) = 0 := by
      unfold k_X4_someTurned
      rw [if_neg h1.2.1]
    rw [p_f11, h1.1, q, k0]
    decide
theorem p_f3 {nC nR : Nat} {nf : Int32} {f fz fu g gx gy : Nat → Int32} (hC : nC ≤ 6) (hR : nR ≤ 6) (h : p_Sm nC nR f g) (b bc : Int32) (hg : ∀ k : Nat, g k = if bc = 0 then gy k else gx k) : (if k_X4_someTurned (s_X1_turnOver nC nR nf f fz fu b) = 0 then s_X4_someTurned (s_X1_turnOver nC nR nf f fz fu b) else 0) = s_X5_fold (nI nC) (nI nR) gx gy b bc := by
  obtain ⟨e, h1 | h1⟩ := p_fc (nf := nf) hC hR h b bc hg
  · have q := (p_nofold (fz := fz) (fu := fu) h1.2).1
    rw [p_fs, h1.1, q, if_pos (rfl : (0 : Int32) = 0)]
    decide
  · have q := (p_dofold (fz := fz) (fu := fu) h1.2.1 h1.2.2.1).1
    have k0 : k_X4_someTurned (s_X1_placesBelow nC nR nf f b) = 0 := by
      unfold k_X4_someTurned
      rw [if_neg h1.2.1]
    rw [p_fs, h1.1, q, k0, if_pos rfl, if_neg (by decide), ← e]
    unfold s_X4_someTurned
    rw [if_neg h1.2.1]
theorem zx_foldColumns_1 {nC nR : Nat} {nf : Int32} {fx fy fz fu : Nat → Int32} {jC jR mf : Int32} {gx gy gz gu : Nat → Int32} (h : zShI nC nR nf fx fy fz fu jC jR mf gx gy gz gu) (b : Int32) (fo : Nat → Int64) : s_X5_thrown (n_X5_foldColumns_qg_11 jC jR gx gy b) = s_L_foldColumns nC nR nf fx fz fu b fo := by
  obtain ⟨hC, hR, rfl, rfl, hx, hy, hz, hu, hF⟩ := p_sm h
  exact p_f1 hC hR hx b 1 (fun k => by rw [if_neg (by decide)])
theorem zx_foldRows_1 {nC nR : Nat} {nf : Int32} {fx fy fz fu : Nat → Int32} {jC jR mf : Int32} {gx gy gz gu : Nat → Int32} (h : zShI nC nR nf fx fy fz fu jC jR mf gx gy gz gu) (b : Int32) (fo : Nat → Int64) : s_X5_thrown (n_X5_foldRows_qg_11 jC jR gx gy b) = s_L_foldRows nC nR nf fy fz fu b fo := by
  obtain ⟨hC, hR, rfl, rfl, hx, hy, hz, hu, hF⟩ := p_sm h
  exact p_f1 hC hR hy b 0 (fun k => by rw [if_pos rfl])
theorem zx_foldColumns_3 {nC nR : Nat} {nf : Int32} {fx fy fz fu : Nat → Int32} {jC jR mf : Int32} {gx gy gz gu : Nat → Int32} (h : zShI nC nR nf fx fy fz fu jC jR mf gx gy gz gu) (b : Int32) (fo : Nat → Int64) (c5 : s_L_foldColumns nC nR nf fx fz fu b fo = 0) : (n_L_foldColumns_qout nC nR nf fx fz fu b fo) (0 : Int32).toNatClampNeg = (s_X5_foldColumns jC jR gx gy b).toInt64 := by
  obtain ⟨hC, hR, rfl, rfl, hx, hy, hz, hu, hF⟩ := p_sm h
  unfold n_L_foldColumns_qout
  rw [p_v0 fo _ c5]
  exact congrArg Int32.toInt64 (p_f3 hC hR hx b 1 (fun k => by rw [if_neg (by decide)]))
theorem zx_foldRows_3 {nC nR : Nat} {nf : Int32} {fx fy fz fu : Nat → Int32} {jC jR mf : Int32} {gx gy gz gu : Nat → Int32} (h : zShI nC nR nf fx fy fz fu jC jR mf gx gy gz gu) (b : Int32) (fo : Nat → Int64) (c5 : s_L_foldRows nC nR nf fy fz fu b fo = 0) : (n_L_foldRows_qout nC nR nf fy fz fu b fo) (0 : Int32).toNatClampNeg = (s_X5_foldRows jC jR gx gy b).toInt64 := by
  obtain ⟨hC, hR, rfl, rfl, hx, hy, hz, hu, hF⟩ := p_sm h
  unfold n_L_foldRows_qout
  rw [p_v0 fo _ c5]
  exact congrArg Int32.toInt64 (p_f3 hC hR hy b 0 (fun k => by rw [if_pos rfl]))
theorem zx_foldColumns_2 {nC nR : Nat} {nf : Int32} {fx fy fz fu : Nat → Int32} {jC jR mf : Int32} {gx gy gz gu : Nat → Int32} (h : zShI nC nR nf fx fy fz fu jC jR mf gx gy gz gu) (b : Int32) (fo : Nat → Int64) : zShI nC nR (n_L_foldColumns_qf_6 nC nR nf fx fz fu b fo) (n_L_foldColumns_qx nC nR nf fx fz fu b fo) fy (n_L_foldColumns_qz nC nR nf fx fz fu b fo) (n_L_foldColumns_qu nC nR nf fx fz fu b fo) jC jR (n_X5_foldColumns_qg_6 jC jR mf gx gy b) (n_X5_foldColumns_qgx jC jR gx gy b) (n_X5_foldColumns_qgy jC jR gx gy b) (n_X5_foldColumns_qgz jC jR gx gy gz b) (n_X5_foldColumns_qgu jC jR gx gy gu b) := by
  obtain ⟨hC, hR, rfl, rfl, hx, hy, hz, hu, hF⟩ := p_sm h
  have hg : ∀ k : Nat, gx k = if (1 : Int32) = 0 then gy k else gx k := fun k => by rw [if_neg (by decide)]
  obtain ⟨h01, -, -, h04, h05, -⟩ := id h
  show zShI nC nR (n_X1_turnOver_qf_6 nC nR nf fx fz fu b) (n_X1_turnOver_qa nC nR nf fx fz fu b) fy (n_X1_turnOver_qz nC nR nf fx fz fu b) (n_X1_turnOver_qu nC nR nf fx fz fu b) (nI nC) (nI nR) (n_X5_fold_qg_6 (nI nC) (nI nR) mf gx gy b 1) (n_X5_fold_qgx (nI nC) (nI nR) gx gy b 1) (n_X5_fold_qgy (nI nC) (nI nR) gx gy b 1) (n_X5_fold_qgz (nI nC) (nI nR) gx gy gz b 1) (n_X5_fold_qgu (nI nC) (nI nR) gx gy gu b 1)
  rw [p_f6, p_fx, p_fy, p_fz, p_fu]
  obtain ⟨e, h1 | h1⟩ := p_fc (nf := nf) hC hR hx b 1 hg
  · obtain ⟨-, q2, q3, q4, q5⟩ := p_nofold (fz := fz) (fu := fu) h1.2
    rw [q2, q3, q4, q5, h1.1]
    exact h
  · obtain ⟨-, q2, q3, q4, q5⟩ := p_dofold (fz := fz) (fu := fu) h1.2.1 h1.2.2.1
    have n0 : ¬ p_FV (nI nC) (nI nR) gx gy b 1 = 0 := by
      rw [h1.1]
      decide
    rw [q2, q3, q4, q5, if_neg n0, if_neg n0, if_neg n0, if_neg n0, if_neg n0]
    have sx := p_zts (gx := gx) (gy := gy) (F := fun p => 2 * b - 1 - fx p) (F' := fun p => if (1 : Int32) = 0 then gx p else 2 * b - 1 - gx p) hC hR hx b 1 hg (fun c r hc hr => by
      show 2 * b - 1 - fx (c * nR + r) = if (1 : Int32) = 0 then gx (6 * c + r) else 2 * b - 1 - gx (6 * c + r)
      rw [if_neg (by decide), hx c r hc hr]) hx
    have sz := p_zts (gx := gx) (gy := gy) (F := fun p => 2 * (s_X1_highestLayer nC nR nf fz) + 1 - fz p) (F' := fun p => 2 * (lp_X5_fold_44 (nI nC) (nI nR) gz 36) + 1 - gz p) hC hR hx b 1 hg (fun c r hc hr => by
      show 2 * (s_X1_highestLayer nC nR nf fz) + 1 - fz (c * nR + r) = 2 * (lp_X5_fold_44 (nI nC) (nI nR) gz 36) + 1 - gz (6 * c + r)
      rw [p_top hC hR hz, hz c r hc hr]) hz
    have su := p_zts (gx := gx) (gy := gy) (F := fun p => if fu p = 0 then 1 else 0) (F' := fun p => if gu p = 0 then 1 else 0) hC hR hx b 1 hg (fun c r hc hr => by
      show (if fu (c * nR + r) = 0 then (1 : Int32) else 0) = if gu (6 * c + r) = 0 then 1 else 0
      rw [hu c r hc hr]) hu
    have ey : (fun p => if (1 : Int32) = 0 then 2 * b - 1 - gy p else gy p) = gy := funext fun p => if_neg (by decide)
    rw [ey, p_zsame]
    exact ⟨h01, rfl, rfl, by rw [h04], fun c r hc hr => ⟨sx c r hc hr, hy c r hc hr, sz c r hc hr, su c r hc hr⟩, p_foT (Nat.mul_le_mul hC hR) hF h1.2.2.2.1 h1.2.2.2.2⟩
theorem zx_foldRows_2 {nC nR : Nat} {nf : Int32} {fx fy fz fu : Nat → Int32} {jC jR mf : Int32} {gx gy gz gu : Nat → Int32} (h : zShI nC nR nf fx fy fz fu jC jR mf gx gy gz gu) (b : Int32) (fo : Nat → Int64) : zShI nC nR (n_L_foldRows_qf_6 nC nR nf fy fz fu b fo) fx (n_L_foldRows_qy nC nR nf fy fz fu b fo) (n_L_foldRows_qz nC nR nf fy fz fu b fo) (n_L_foldRows_qu nC nR nf fy fz fu b fo) jC jR (n_X5_foldRows_qg_6 jC jR mf gx gy b) (n_X5_foldRows_qgx jC jR gx gy b) (n_X5_foldRows_qgy jC jR gx gy b) (n_X5_foldRows_qgz jC jR gx gy gz b) (n_X5_foldRows_qgu jC jR gx gy gu b) := by
  obtain ⟨hC, hR, rfl, rfl, hx, hy, hz, hu, hF⟩ := p_sm h
  have hg : ∀ k : Nat, gy k = if (0 : Int32) = 0 then gy k else gx k := fun k => by rw [if_pos rfl]
  obtain ⟨h01, -, -, h04, h05, -⟩ := id h
  show zShI nC nR (n_X1_turnOver_qf_6 nC nR nf fy fz fu b) fx (n_X1_turnOver_qa nC nR nf fy fz fu b) (n_X1_turnOver_qz nC nR nf fy fz fu b) (n_X1_turnOver_qu nC nR nf fy fz fu b) (nI nC) (nI nR) (n_X5_fold_qg_6 (nI nC) (nI nR) mf gx gy b 0) (n_X5_fold_qgx (nI nC) (nI nR) gx gy b 0) (n_X5_fold_qgy (nI nC) (nI nR) gx gy b 0) (n_X5_fold_qgz (nI nC) (nI nR) gx gy gz b 0) (n_X5_fold_qgu (nI nC) (nI nR) gx gy gu b 0)
  rw [p_f6, p_fx, p_fy, p_fz, p_fu]
  obtain ⟨e, h1 | h1⟩ := p_fc (nf := nf) hC hR hy b 0 hg
  · obtain ⟨-, q2, q3, q4, q5⟩ := p_nofold (fz := fz) (fu := fu) h1.2
    rw [q2, q3, q4, q5, h1.1]
    exact h
  · obtain ⟨-, q2, q3, q4, q5⟩ := p_dofold (fz := fz) (fu := fu) h1.2.1 h1.2.2.1
    have n0 : ¬ p_FV (nI nC) (nI nR) gx gy b 0 = 0 := by
      rw [h1.1]
      decide
    rw [q2, q3, q4, q5, if_neg n0, if_neg n0, if_neg n0, if_neg n0, if_neg n0]
    have sy := p_zts (gx := gx) (gy := gy) (F := fun p => 2 * b - 1 - fy p) (F' := fun p => if (0 : Int32) = 0 then 2 * b - 1 - gy p else gy p) hC hR hy b 0 hg (fun c r hc hr => by
      show 2 * b - 1 - fy (c * nR + r) = if (0 : Int32) = 0 then 2 * b - 1 - gy (6 * c + r) else gy (6 * c + r)
      rw [if_pos rfl, hy c r hc hr]) hy
    have sz := p_zts (gx := gx) (gy := gy) (F := fun p => 2 * (s_X1_highestLayer nC nR nf fz) + 1 - fz p) (F' := fun p => 2 * (lp_X5_fold_44 (nI nC) (nI nR) gz 36) + 1 - gz p) hC hR hy b 0 hg (fun c r hc hr => by
      show 2 * (s_X1_highestLayer nC nR nf fz) + 1 - fz (c * nR + r) = 2 * (lp_X5_fold_44 (nI nC) (nI nR) gz 36) + 1 - gz (6 * c + r)
      rw [p_top hC hR hz, hz c r hc hr]) hz
    have su := p_zts (gx := gx) (gy := gy) (F := fun p => if fu p = 0 then 1 else 0) (F' := fun p => if gu p = 0 then 1 else 0) hC hR hy b 0 hg (fun c r hc hr => by
      show (if fu (c * nR + r) = 0 then (1 : Int32) else 0) = if gu (6 * c + r) = 0 then 1 else 0
      rw [hu c r hc hr]) hu
    have ex : (fun p => if (0 : Int32) = 0 then gx p else 2 * b - 1 - gx p) = gx := funext fun p => if_pos rfl
    rw [ex, p_zsame]
    exact ⟨h01, rfl, rfl, by rw [h04], fun c r hc hr => ⟨hx c r hc hr, sy c r hc hr, sz c r hc hr, su c r hc hr⟩, p_foSwap (p_foT (Nat.mul_le_mul hC hR) (p_foSwap hF) h1.2.2.2.1 h1.2.2.2.2)⟩
/-! laying out -/
theorem p_zg {f g : Nat → Int32} {m p : Nat} (h : p < m) : zg f g m p = g p := if_pos h
theorem p_lay {mC mR : Nat} (h : 1 ≤ mC ∧ mC ≤ 6 ∧ 1 ≤ mR ∧ mR ≤ 6) (nf : Int32) (fx fy fz fu gx gy gz gu : Nat → Int32) : zShI mC mR (n_X1_spread_qf_6 mC mR nf fx fy fz fu) (n_X1_spread_qx mC mR nf fx fy fz fu) (n_X1_spread_qy mC mR nf fx fy fz fu) (n_X1_spread_qz mC mR nf fx fy fz fu) (n_X1_spread_qu mC mR nf fx fy fz fu) (nI mC) (nI mR) n_X5_lay_qg_6 (n_X5_lay_qgx gx) (n_X5_lay_qgy gy) (n_X5_lay_qgz gz) (n_X5_lay_qgu gu) := by
  refine ⟨h, rfl, rfl, rfl, fun c r hc hr => ?_, ⟨0, 0, 5, 0, 5, by omega, by omega, by omega, by omega, by omega, fun q hq => ?_⟩, fun q r hq hr e1 e2 e3 => ?_⟩
  · have l := p_lt h.2.1 h.2.2.2 hc hr
    have l2 := z_idx hc hr
    have e := p_div6 (c := c) (r := r) (by omega)
    unfold n_X1_spread_qx n_X1_spread_qy n_X1_spread_qz n_X1_spread_qu n_X5_lay_qgx n_X5_lay_qgy n_X5_lay_qgz n_X5_lay_qgu
    rw [p_zg l2, p_zg l2, p_zg l2, p_zg l2, p_zg (by omega), p_zg (by omega), p_zg (by omega), p_zg (by omega), z_dv hr, z_md hr]
    have e1 : nI (6 * c + r) / 6 = nI ((6 * c + r) / 6) := pk_div (a := 6 * c + r) (d := 6) (by omega) (by omega) (by omega)
    have e2 : nI (6 * c + r) - nI (6 * c + r) / 6 * 6 = nI ((6 * c + r) % 6) := pk_rem (a := 6 * c + r) (d := 6) (by omega) (by omega) (by omega)
    rw [e2, e1, e.1, e.2]
    exact ⟨rfl, rfl, rfl, rfl⟩
  · have d1 : q / mR < mC := Nat.div_lt_of_lt_mul (by rw [Nat.mul_comm]; exact hq)
    have d2 : q % mR < mR := Nat.mod_lt _ (by omega)
    exact ⟨q / mR, q % mR, 0, p_zg hq, Nat.zero_le _, by omega, p_zg hq, Nat.zero_le _, by omega, p_zg hq, by decide⟩
  · have hN : mC * mR ≤ 36 := Nat.mul_le_mul h.2.1 h.2.2.2
    have a1 : n_X1_spread_qx mC mR nf fx fy fz fu q = nI (q / mR) := p_zg hq
    have a2 : n_X1_spread_qx mC mR nf fx fy fz fu r = nI (r / mR) := p_zg hr
    have a3 : n_X1_spread_qy mC mR nf fx fy fz fu q = nI (q % mR) := p_zg hq
    have a4 : n_X1_spread_qy mC mR nf fx fy fz fu r = nI (r % mR) := p_zg hr
    have b1 : q / mR ≤ q := Nat.div_le_self _ _
    have b2 : r / mR ≤ r := Nat.div_le_self _ _
    have b3 : q % mR ≤ q := Nat.mod_le _ _
    have b4 : r % mR ≤ r := Nat.mod_le _ _
    rw [a1, a2, nI_eq (by omega) (by omega)] at e1
    rw [a3, a4, nI_eq (by omega) (by omega)] at e2
    have c1 := Nat.div_add_mod q mR
    have c2 := Nat.div_add_mod r mR
    rw [e1, e2] at c1
    omega
theorem zx_unfold_2 {nC nR : Nat} {nf : Int32} {fx fy fz fu : Nat → Int32} {jC jR mf : Int32} {gx gy gz gu : Nat → Int32} (h : zShI nC nR nf fx fy fz fu jC jR mf gx gy gz gu) : zShI nC nR (n_X4_unfold_qf_6 nC nR nf fx fy fz fu) (n_X4_unfold_qx nC nR nf fx fy fz fu) (n_X4_unfold_qy nC nR nf fx fy fz fu) (n_X4_unfold_qz nC nR nf fx fy fz fu) (n_X4_unfold_qu nC nR nf fx fy fz fu) jC jR n_X5_unfold_qg_6 (n_X5_unfold_qgx gx) (n_X5_unfold_qgy gy) (n_X5_unfold_qgz gz) (n_X5_unfold_qgu gu) := by
  obtain ⟨h01, e1, e2, -⟩ := id h
  rw [e1, e2]
  exact p_lay h01 nf fx fy fz fu gx gy gz gu
theorem zx_sheet_2 {nC nR : Nat} {nf : Int32} {fx fy fz fu : Nat → Int32} {jC jR mf : Int32} {gx gy gz gu : Nat → Int32} (h : zShI nC nR nf fx fy fz fu jC jR mf gx gy gz gu) (a1 a2 : Int32) : ∃ mC mR : Nat, n_L_sheet_qf_4 (nI nC) (nI nR) nf fx fy fz fu a1 a2 = nI mC ∧ n_L_sheet_qf_5 (nI nC) (nI nR) nf fx fy fz fu a1 a2 = nI mR ∧ zShI mC mR (n_L_sheet_qf_6 (nI nC) (nI nR) nf fx fy fz fu a1 a2) (n_L_sheet_qx (nI nC) (nI nR) nf fx fy fz fu a1 a2) (n_L_sheet_qy (nI nC) (nI nR) nf fx fy fz fu a1 a2) (n_L_sheet_qz (nI nC) (nI nR) nf fx fy fz fu a1 a2) (n_L_sheet_qu (nI nC) (nI nR) nf fx fy fz fu a1 a2) (n_X5_sheet_qg_4 jC a1 a2) (n_X5_sheet_qg_5 jR a1 a2) (n_X5_sheet_qg_6 mf a1 a2) (n_X5_sheet_qgx gx a1 a2) (n_X5_sheet_qgy gy a1 a2) (n_X5_sheet_qgz gz a1 a2) (n_X5_sheet_qgu gu a1 a2) := by
  unfold n_L_sheet_qf_4 n_L_sheet_qf_5 n_L_sheet_qf_6 n_L_sheet_qx n_L_sheet_qy n_L_sheet_qz n_L_sheet_qu n_X5_sheet_qg_4 n_X5_sheet_qg_5 n_X5_sheet_qg_6 n_X5_sheet_qgx n_X5_sheet_qgy n_X5_sheet_qgz n_X5_sheet_qgu n_X4_sheet_qf_4 n_X4_sheet_qf_5 n_X4_sheet_qf_6 n_X4_sheet_qx n_X4_sheet_qy n_X4_sheet_qz n_X4_sheet_qu s_X5_may
  have e : (6 < a2) ↔ ¬ a2 ≤ 6 := by rw [Int32.lt_iff_toInt_lt, Int32.le_iff_toInt_le]; omega
  by_cases c1 : a1 < 1
  · refine ⟨nC, nR, by simp [c1], by simp [c1], ?_⟩
    simp only [c1, if_true]
    exact h
  by_cases c2 : 6 < a1
  · refine ⟨nC, nR, by simp [c1, c2], by simp [c1, c2], ?_⟩
    simp only [c1, c2, if_true, if_false]
    exact h
  by_cases c3 : a2 < 1
  · refine ⟨nC, nR, by simp [c1, c2, c3], by simp [c1, c2, c3], ?_⟩
    simp only [c1, c2, c3, if_true, if_false]
    exact h
  by_cases c4 : a2 ≤ 6
  case neg =>
    refine ⟨nC, nR, by simp [c1, c2, c3, c4], by simp [c1, c2, c3, c4], ?_⟩
    simp only [c1, c2, c3, c4, e, if_true, if_false, not_false_eq_true]
    exact h
  have n1 := z_nIc c1
  have n2 := z_nIc c3
  have b1 := z_c6 c2
  have b2 := z_c6' c4
  have l1 : 1 ≤ a1.toNatClampNeg := by
    rcases Nat.lt_or_ge a1.toNatClampNeg 1 with q | q
    · rw [n1] at c1
      exact absurd (nI_lt (b := 1) q (by omega)) c1
    · exact q
  have l2 : 1 ≤ a2.toNatClampNeg := by
    rcases Nat.lt_or_ge a2.toNatClampNeg 1 with q | q
    · rw [n2] at c3
      exact absurd (nI_lt (b := 1) q (by omega)) c3
    · exact q
  refine ⟨a1.toNatClampNeg, a2.toNatClampNeg, by simp [c1, c2, c3, c4]; rfl, by simp [c1, c2, c3, c4]; rfl, ?_⟩
  have q := p_lay (mC := a1.toNatClampNeg) (mR := a2.toNatClampNeg) ⟨l1, b1, l2, b2⟩ nf fx fy fz fu gx gy gz gu
  rw [← n1, ← n2] at q
  simp only [c1, c2, c3, c4, e, if_true, if_false, not_true_eq_false]
  rw [if_neg (by decide), if_neg (by decide), if_neg (by decide), if_neg (by decide), if_neg (by decide), if_neg (by decide), if_neg (by decide)]
  exact q
