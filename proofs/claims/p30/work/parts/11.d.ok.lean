theorem p_foSwap {N : Nat} {fx fy fz : Nat → Int32} (h : zFoI N fx fy fz) : zFoI N fy fx fz := by
  obtain ⟨⟨n, a, k, a2, k2, h1, h2, h3, h4, h5, h6⟩, h7⟩ := h
  refine ⟨⟨n, a2, k2, a, k, by omega, h3, h2, h5, h4, fun q hq => ?_⟩, fun q r hq hr e1 e2 e3 => h7 q r hq hr e2 e1 e3⟩
  obtain ⟨x, y, z, c1, c2, c3, c4, c5, c6, c7, c8⟩ := h6 q hq
  exact ⟨y, x, z, c4, c5, c6, c1, c2, c3, c7, c8⟩
theorem p_hl {nC nR : Nat} {nf : Int32} {fz : Nat → Int32} {n : Nat} (hn : n ≤ 10) : ∀ k : Nat, k ≤ 36 → (∀ q : Nat, q < k → ∃ z : Nat, fz q = nI z ∧ z < 2 ^ n) → ∃ t : Nat, lp_X1_highestLayer_4 nC nR nf fz k = nI t ∧ t < 2 ^ n ∧ ∀ q : Nat, q < k → ∀ z : Nat, fz q = nI z → z < 2 ^ n → z ≤ t
  | 0, _, _ => ⟨0, rfl, Nat.two_pow_pos n, fun q hq => absurd hq (Nat.not_lt_zero q)⟩
  | k + 1, hk, h => by
    obtain ⟨t, e, ht, hm⟩ := p_hl (nC := nC) (nR := nR) (nf := nf) hn k (by omega) (fun q hq => h q (by omega))
    obtain ⟨z, ez, hz⟩ := h k (by omega)
    have hp := p_pow hn
    rw [lp_X1_highestLayer_4, e, nI_clamp (by omega), ez]
    by_cases c : t < z
    · rw [if_pos (nI_lt c (by omega))]
      refine ⟨z, rfl, hz, fun q hq w ew hw => ?_⟩
      by_cases cq : q = k
      · rw [cq, ez, nI_eq (by omega) (by omega)] at ew
        omega
      · have := hm q (by omega) w ew hw
        omega
    · rw [if_neg (nI_nlt (by omega) (by omega))]
      refine ⟨t, rfl, ht, fun q hq w ew hw => ?_⟩
      by_cases cq : q = k
      · rw [cq, ez, nI_eq (by omega) (by omega)] at ew
        omega
      · exact hm q (by omega) w ew hw
theorem p_foT {nC nR : Nat} {nf : Int32} {f o fz : Nat → Int32} {b : Int32} (hN : nC * nR ≤ 36) (h : zFoI (nC * nR) f o fz) (hs : ∃ q : Nat, q < nC * nR ∧ f q < b) (hn : ∃ q : Nat, q < nC * nR ∧ ¬ f q < b) : zFoI (nC * nR) (zt f b (fun p => 2 * b - 1 - f p) f (nC * nR)) o (zt f b (fun p => 2 * (s_X1_highestLayer nC nR nf fz) + 1 - fz p) fz (nC * nR)) := by
  obtain ⟨⟨n, a, k, a2, k2, h1, h2, h3, h4, h5, h6⟩, h7⟩ := h
  have hp := p_pow (n := n) (by omega)
  obtain ⟨t, et, ht, hm⟩ := p_hl (nC := nC) (nR := nR) (nf := nf) (fz := fz) (n := n) (by omega) (nC * nR) hN (fun q hq => by
    obtain ⟨x, y, z, -, -, -, -, -, -, c7, c8⟩ := h6 q hq
    exact ⟨z, c7, c8⟩)
  have et : s_X1_highestLayer nC nR nf fz = nI t := et
  rw [et]
  obtain ⟨q1, hq1, l1⟩ := hs
  obtain ⟨q2, hq2, l2⟩ := hn
  obtain ⟨x1, y1, z1, c1, c2, c3, -⟩ := h6 q1 hq1
  obtain ⟨x2, y2, z2, d1, d2, d3, -⟩ := h6 q2 hq2
  rw [c1] at l1
  rw [d1] at l2
  have b0 : ¬ b < 0 := by
    rw [Int32.lt_iff_toInt_lt, nI_toInt (by omega)] at l1
    rw [Int32.lt_iff_toInt_lt, show (0 : Int32).toInt = 0 from rfl]
    omega
  obtain ⟨β, hβ, rfl⟩ := nI_of b0
  rw [nI_ltI (by omega) hβ] at l1 l2
  have eT : ∀ x : Nat, x < β → 2 * nI β - 1 - nI x = nI (2 * β - 1 - x) := fun x hx => by
    rw [show (2 : Int32) * nI β = nI (2 * β) from pk_mul 2 β, show nI (2 * β) - 1 = nI (2 * β - 1) from p_sub (b := 1) (by omega), p_sub (by omega)]
  have eZ : ∀ z : Nat, z ≤ t → 2 * nI t + 1 - nI z = nI (2 * t + 1 - z) := fun z hz => by
    rw [show (2 : Int32) * nI t = nI (2 * t) from pk_mul 2 t, nI_1, p_sub (by omega)]
  have hpw : 2 ^ (n + 1) = 2 * 2 ^ n := by rw [Nat.pow_succ, Nat.mul_comm]
  have key : ∀ q : Nat, q < nC * nR → ∃ x y z x' z' : Nat, f q = nI x ∧ o q = nI y ∧ fz q = nI z ∧ a ≤ x ∧ x ≤ a + k ∧ a2 ≤ y ∧ y ≤ a2 + k2 ∧ z < 2 ^ n ∧ z ≤ t ∧ zt f (nI β) (fun p => 2 * nI β - 1 - f p) f (nC * nR) q = nI x' ∧ zt f (nI β) (fun p => 2 * nI t + 1 - fz p) fz (nC * nR) q = nI z' ∧ ((x < β ∧ x' = 2 * β - 1 - x ∧ z' = 2 * t + 1 - z) ∨ (β ≤ x ∧ x' = x ∧ z' = z)) := by
    intro q hq
    obtain ⟨x, y, z, g1, g2, g3, g4, g5, g6, g7, g8⟩ := h6 q hq
    have hz := hm q hq z g7 g8
    by_cases c : x < β
    · refine ⟨x, y, z, 2 * β - 1 - x, 2 * t + 1 - z, g1, g4, g7, g2, g3, g5, g6, g8, hz, ?_, ?_, Or.inl ⟨c, rfl, rfl⟩⟩
      · show (if q < nC * nR ∧ f q < nI β then _ else _) = _
        rw [if_pos ⟨hq, by rw [g1]; exact nI_lt c hβ⟩]
        show 2 * nI β - 1 - f q = _
        rw [g1, eT x c]
      · show (if q < nC * nR ∧ f q < nI β then _ else _) = _
        rw [if_pos ⟨hq, by rw [g1]; exact nI_lt c hβ⟩]
        show 2 * nI t + 1 - fz q = _
        rw [g7, eZ z hz]
    · have cc : ¬ (q < nC * nR ∧ f q < nI β) := fun hh => by
        have h9 := hh.2
        rw [g1, nI_ltI (by omega) hβ] at h9
        exact c h9
      refine ⟨x, y, z, x, z, g1, g4, g7, g2, g3, g5, g6, g8, hz, ?_, ?_, Or.inr ⟨by omega, rfl, rfl⟩⟩
      · show (if q < nC * nR ∧ f q < nI β then _ else _) = _
        rw [if_neg cc, g1]
      · show (if q < nC * nR ∧ f q < nI β then _ else _) = _
        rw [if_neg cc, g7]
  refine ⟨⟨n + 1, β, k - 1, a2, k2, by omega, by omega, h3, by omega, h5, fun q hq => ?_⟩, fun q r hq hr e1 e2 e3 => ?_⟩
  · obtain ⟨x, y, z, x', z', g1, g2, g3, g4, g5, g6, g7, g8, g9, g10, g11, g12⟩ := key q hq
    refine ⟨x', y, z', g10, ?_, ?_, g2, g6, g7, g11, ?_⟩
    · omega
    · omega
    · rw [hpw]
      omega
  · obtain ⟨x, y, z, x', z', g1, g2, g3, g4, g5, g6, g7, g8, g9, g10, g11, g12⟩ := key q hq
    obtain ⟨u, v, w, u', w', j1, j2, j3, j4, j5, j6, j7, j8, j9, j10, j11, j12⟩ := key r hr
    rw [g10, j10, nI_eq (by omega) (by omega)] at e1
    rw [g11, j11, nI_eq (by omega) (by omega)] at e3
    have s1 : x = u := by omega
    have s2 : z = w := by omega
    exact h7 q r hq hr (by rw [g1, j1, s1]) e2 (by rw [g3, j3, s2])
theorem p_pb {nC nR : Nat} {nf : Int32} {f : Nat → Int32} {b : Int32} : ∀ k : Nat, k ≤ 36 → ∃ m : Nat, m ≤ k ∧ lp_X1_placesBelow_5 nC nR nf f b k = nI m ∧ (m ≠ 0 → ∃ q : Nat, q < k ∧ f q < b) ∧ (m ≠ k → ∃ q : Nat, q < k ∧ ¬ f q < b)
  | 0, _ => ⟨0, Nat.le_refl 0, rfl, fun h => absurd rfl h, fun h => absurd rfl h⟩
  | k + 1, hk => by
    obtain ⟨m, hm, e, h1, h2⟩ := p_pb (nC := nC) (nR := nR) (nf := nf) (f := f) (b := b) k (by omega)
    rw [lp_X1_placesBelow_5, e, nI_clamp (by omega)]
    by_cases c : b ≤ f k
    · have c2 : ¬ f k < b := by
        rw [Int32.lt_iff_toInt_lt]
        rw [Int32.le_iff_toInt_le] at c
        omega
      rw [if_pos c]
      refine ⟨m, by omega, rfl, fun h => ?_, fun _ => ⟨k, by omega, c2⟩⟩
      obtain ⟨q, hq, l⟩ := h1 h
      exact ⟨q, by omega, l⟩
    · have c2 : f k < b := by
        rw [Int32.lt_iff_toInt_lt]
        rw [Int32.le_iff_toInt_le] at c
        omega
      rw [if_neg c, nI_1]
      refine ⟨m + 1, by omega, rfl, fun _ => ⟨k, by omega, c2⟩, fun h => ?_⟩
      obtain ⟨q, hq, l⟩ := h2 (by omega)
      exact ⟨q, by omega, l⟩
theorem p_rise {fw fh : Nat → Int32} (hT : zTb fw fh) {j : Nat} (hj : j < 10) {hgt : Int32} (h : ¬ s_X2_wouldRise fw fh (nI j) hgt = 0) : (j = 0 → hgt = 0) ∧ (∀ i : Nat, j = i + 1 → (fh i).toInt < hgt.toInt) ∧ (j < 9 → hgt.toInt < (fh (j + 1)).toInt) := by
  unfold s_X2_wouldRise at h
  by_cases h0 : j = 0
  · subst h0
    rw [if_pos (show nI 0 = 0 by decide)] at h
    have hz : hgt = 0 := by
      by_cases hz : hgt = 0
      · exact hz
      · rw [if_neg hz] at h
        exact absurd rfl h
    refine ⟨fun _ => hz, fun i hi => absurd hi (by omega), fun _ => ?_⟩
    have s0 := hT.2.2 0 (by omega)
    rw [hT.2.1] at s0
    rw [hz]
    exact s0
  · rw [if_neg (nI_ne0 (by omega) (by omega))] at h
    obtain ⟨i, rfl⟩ : ∃ i, j = i + 1 := ⟨j - 1, by omega⟩
    rw [nI_pred, p_va fh (by omega)] at h
    by_cases hz : hgt ≤ fh i
    · rw [if_pos hz] at h
      exact absurd rfl h
    · rw [if_neg hz] at h
      rw [Int32.le_iff_toInt_le] at hz
      refine ⟨fun h => absurd h (by omega), fun k hk => ?_, fun h9 => ?_⟩
      · obtain rfl : i = k := by omega
        omega
      · rw [if_neg (show ¬ nI (i + 1) = 9 from fun e => absurd ((nI_eq (b := 9) (by omega) (by omega)).mp e) (by omega)), nI_1, p_va fh (by omega)] at h
        by_cases hy : fh (i + 1 + 1) ≤ hgt
        · rw [if_pos hy] at h
          exact absurd rfl h
        · rw [Int32.le_iff_toInt_le] at hy
          omega
/-- the law's table t against the class's numbers -/
def zLG (gt fw fh ft : Nat → Int32) (br : Int32) (nC nR : Nat) (nf : Int32) : Prop := zLT gt fw fh ∧ (∀ j : Nat, j < 9 → gt (20 + j) = ft j) ∧ gt 29 = br ∧ gt 30 = nI nC ∧ gt 31 = nI nR ∧ gt 32 = nf
/-- what holds between the class and the law from call to call -/
def zLI (fw fh ft : Nat → Int32) (br : Int32) (nC nR : Nat) (nf : Int32) (fx fy fz fu gt gp gq gz gu : Nat → Int32) : Prop := (zTb fw fh ∧ zTr ft ∧ zZn br ∧ 1 ≤ nC ∧ nC ≤ 6 ∧ 1 ≤ nR ∧ nR ≤ 6) ∧ zFoI (nC * nR) fx fy fz ∧ zLG gt fw fh ft br nC nR nf ∧ zShL nC nR fx fy fz fu gp gq gz gu
theorem ac_wd (y : Int32) : ∃ w : Nat, w ≤ 1001 ∧ v_L_acts_64 y = nI w := by
  unfold v_L_acts_64
  split
  · exact ⟨1001, by omega, rfl⟩
  · obtain ⟨j, hj, e⟩ := l_some (y >>> ((3 : Int32) &&& 31)) (n := 1001) 1001 rfl (by decide) (by decide)
    exact ⟨j, by omega, e⟩
theorem ac_199 {gt fw fh : Nat → Int32} (hT : zTb fw fh) (hL : zLT gt fw fh) {y : Int32} {j : Nat} (hj : j < 10) (e : v_L_acts_36 y = nI j) : v_L_acts_199 gt y = s_X2_wouldRise fw fh (nI j) (v_L_acts_141 gt y) := by
  have t0 := hT.2.2 0 (by omega)
  rw [hT.2.1, show (0 : Int32).toInt = 0 from rfl] at t0
  unfold v_L_acts_199 s_X2_wouldRise
  rw [e, if_neg (show ¬ (10 : Int32) ≤ nI j from nI_ge (b := 10) hj (by omega))]
  generalize v_L_acts_141 gt y = h
  have e11 : gt (11 + nI j).toNatClampNeg = if j = 9 then gt 20 else fh (j + 1) := by
    rw [show (11 : Int32) = nI 11 from rfl, nI_add, nI_clamp (by omega)]
    by_cases c : j = 9
    · subst c
      rw [if_pos rfl]
    · rw [if_neg c, show 11 + j = 10 + (j + 1) by omega]
      exact (hL (j + 1) (by omega)).2
  by_cases h0 : j = 0
  · subst h0
    rw [if_neg (show ¬ 0 = 9 by decide)] at e11
    rw [e11, show nI 0 = (0 : Int32) from rfl, if_pos (rfl : (0 : Int32) = 0), if_pos (rfl : (0 : Int32) = 0)]
    by_cases c : h = 0
    · rw [if_pos c, if_pos c, if_neg (by decide), if_neg]
      rw [c, Int32.le_iff_toInt_le, show (0 : Int32).toInt = 0 from rfl]
      omega
    · rw [if_neg c, if_neg c]
  · have n0 : ¬ nI j = 0 := nI_ne0 (by omega) (by omega)
    rw [if_neg n0, if_neg n0]
    obtain ⟨i, rfl⟩ : ∃ i, j = i + 1 := ⟨j - 1, by omega⟩
    have e9 : gt (9 + nI (i + 1)).toNatClampNeg = fh i := by
      rw [show (9 : Int32) = nI 9 from rfl, nI_add, nI_clamp (by omega), show 9 + (i + 1) = 10 + i by omega]
      exact (hL i (by omega)).2
    rw [e9, nI_pred, p_va fh (by omega)]
    by_cases c9 : i + 1 = 9
    · have h9 : nI (i + 1) = 9 := by rw [c9]; rfl
      rw [if_pos h9, if_pos h9]
    · have n9 : ¬ nI (i + 1) = 9 := fun q => c9 ((nI_eq (b := 9) (by omega) (by omega)).mp q)
      rw [if_neg n9, e11, if_neg c9, nI_1, p_va fh (by omega), if_neg n9]
theorem ac_tab {gt fw fh : Nat → Int32} (hT : zTb fw fh) (hL : zLT gt fw fh) (y : Int32) : s_L_tabled fw fh (v_L_acts_36 y) (v_L_acts_64 y) (v_L_acts_141 gt y) = v_L_acts_249 gt y ∧ ((¬ v_L_acts_249 gt y = 0 ∧ n_X4_table_qw fw fh (v_L_acts_36 y) (v_L_acts_64 y) (v_L_acts_141 gt y) = fw ∧ n_X4_table_qh fw fh (v_L_acts_36 y) (v_L_acts_64 y) (v_L_acts_141 gt y) = fh) ∨ (v_L_acts_249 gt y = 0 ∧ ∃ j w : Nat, j < 10 ∧ v_L_acts_36 y = nI j ∧ v_L_acts_64 y = nI w ∧ w ≤ 1000 ∧ 0 ≤ (v_L_acts_141 gt y).toInt ∧ (v_L_acts_141 gt y).toInt ≤ 9999 ∧ ¬ s_X2_wouldRise fw fh (nI j) (v_L_acts_141 gt y) = 0 ∧ n_X4_table_qw fw fh (v_L_acts_36 y) (v_L_acts_64 y) (v_L_acts_141 gt y) = upd fw j (nI w) ∧ n_X4_table_qh fw fh (v_L_acts_36 y) (v_L_acts_64 y) (v_L_acts_141 gt y) = upd fh j (v_L_acts_141 gt y))) := by
  obtain ⟨j, hj, e⟩ := ac_row y
  obtain ⟨w, hw, ew⟩ := ac_wd y
  have r0 : ¬ nI j < 0 := nI_pos (by omega)
  have w0 : ¬ nI w < 0 := nI_pos (by omega)
  by_cases c10 : j = 10
  · subst c10
    unfold s_L_tabled k_X4_table v_L_acts_249 n_X4_table_qw n_X4_table_qh
    rw [e]
    have r1 : ¬ nI 10 < 10 := by decide
    have r2 : nI 10 = 10 := rfl
    simp [r0, r1, r2]
  · have r1 : nI j < 10 := nI_lt (b := 10) (by omega) (by omega)
    have r2 : ¬ nI j = 10 := fun q => c10 ((nI_eq (b := 10) (by omega) (by omega)).mp q)
    have h9 := ac_199 hT hL (show j < 10 by omega) e
    unfold s_L_tabled k_X4_table v_L_acts_249 n_X4_table_qw n_X4_table_qh
    rw [h9, e, ew]
    generalize v_L_acts_141 gt y = h
    by_cases d1 : 1000 < nI w
    · simp [r0, r1, r2, w0, d1]
    · by_cases d2 : h < 0
      · simp [r0, r1, r2, w0, d1, d2]
      · by_cases d3 : h ≤ 9999
        · by_cases d4 : s_X2_wouldRise fw fh (nI j) h = 0
          · simp [r0, r1, r2, w0, d1, d2, d3, d4]
          · have g1 : w ≤ 1000 := by
              rcases Nat.lt_or_ge 1000 w with q | q
              · exact absurd (nI_lt (a := 1000) q (by omega)) d1
              · exact q
            have g2 := d2
            have g3 := d3
            rw [Int32.lt_iff_toInt_lt, show (0 : Int32).toInt = 0 from rfl] at g2
            rw [Int32.le_iff_toInt_le, show (9999 : Int32).toInt = 9999 from rfl] at g3
            have k1 : n_X2_setRow_qw fw fh (nI j) (nI w) h = upd fw j (nI w) := by
              unfold n_X2_setRow_qw
              rw [if_neg r0, if_neg (show ¬ (10 : Int32) ≤ nI j from nI_ge (b := 10) (by omega) (by omega)), nI_clamp (by omega)]
            have k2 : n_X2_setRow_qh fw fh (nI j) (nI w) h = upd fh j h := by
              unfold n_X2_setRow_qh
              rw [if_neg r0, if_neg (show ¬ (10 : Int32) ≤ nI j from nI_ge (b := 10) (by omega) (by omega)), nI_clamp (by omega)]
            refine ⟨by simp [r0, r1, r2, w0, d1, d2, d3, d4], Or.inr ⟨by simp [r2, d1, d2, d3, d4], j, w, by omega, rfl, rfl, g1, by omega, by omega, d4, ?_, ?_⟩⟩
            · simp [r0, r1, w0, d1, d2, d3, d4, k1]
            · simp [r0, r1, w0, d1, d2, d3, d4, k2]
        · simp [r0, r1, r2, w0, d1, d2, d3]
theorem ac_ok0 {fw fh ft : Nat → Int32} {br : Int32} {nC nR : Nat} {nf : Int32} {fx fy fz fu gt gp gq gz gu : Nat → Int32} (hI : zLI fw fh ft br nC nR nf fx fy fz fu gt gp gq gz gu) (y : Int32) : s_L_tabled fw fh (v_L_acts_36 y) (v_L_acts_64 y) (v_L_acts_141 gt y) = v_L_acts_249 gt y ∧ zLI (n_L_tabled_qw fw fh (v_L_acts_36 y) (v_L_acts_64 y) (v_L_acts_141 gt y)) (n_L_tabled_qh fw fh (v_L_acts_36 y) (v_L_acts_64 y) (v_L_acts_141 gt y)) ft br nC nR nf fx fy fz fu (if (v_L_acts_249 gt y) = 0 then upd (upd gt (v_L_acts_36 y).toNatClampNeg (v_L_acts_64 y)) (10 + (v_L_acts_36 y)).toNatClampNeg (v_L_acts_141 gt y) else gt) gp gq gz gu := by
  obtain ⟨⟨hT, hU, hZ, hN⟩, hF, ⟨hL, h20, h29, h30, h31, h32⟩, hS⟩ := id hI
  obtain ⟨h1, h2⟩ := ac_tab hT hL y
  refine ⟨h1, ?_⟩
  unfold n_L_tabled_qw n_L_tabled_qh
  rcases h2 with ⟨n0, e1, e2⟩ | ⟨e0, j, w, hj, ej, ew, hw, g1, g2, hr, e1, e2⟩
  · rw [if_neg n0, e1, e2]
    exact hI
  · rw [if_pos e0, e1, e2, ej, ew]
    generalize v_L_acts_141 gt y = h at g1 g2 hr ⊢
    rw [show (10 : Int32) = nI 10 from rfl, nI_add, nI_clamp (by omega), nI_clamp (by omega)]
    obtain ⟨r1, r2, r3⟩ := p_rise hT hj hr
    obtain ⟨t2, t3, t4⟩ := hT
    have ewi : (nI w).toInt = (w : Int) := nI_toInt (by omega)
    refine ⟨⟨⟨fun i hi => ?_, ?_, fun i hi => ?_⟩, hU, hZ, hN⟩, hF, ⟨fun i hi => ?_, fun i hi => ?_, ?_, ?_, ?_, ?_⟩, hS⟩
    · have t := t2 i hi
      unfold upd
      by_cases c : i = j
      · rw [if_pos c, if_pos c, ewi]
        omega
      · rw [if_neg c, if_neg c]
        exact t
    · unfold upd
      by_cases c : 0 = j
      · rw [if_pos c]
        exact r1 c.symm
      · rw [if_neg c]
        exact t3
    · unfold upd
      have t := t4 i hi
      by_cases c : i = j
      · rw [if_pos c, if_neg (by omega)]
        subst c
        exact r3 (by omega)
      · rw [if_neg c]
        by_cases c2 : i + 1 = j
        · rw [if_pos c2]
          exact r2 i c2.symm
        · rw [if_neg c2]
          exact t
    · have l := hL i hi
      unfold upd
      rw [if_neg (show ¬ i = 10 + j by omega)]
      by_cases c : i = j
      · subst c
        rw [if_pos rfl, if_pos rfl, if_pos rfl, if_pos rfl]
        exact ⟨rfl, rfl⟩
      · rw [if_neg c, if_neg c, if_neg (show ¬ 10 + i = 10 + j by omega), if_neg (show ¬ 10 + i = j by omega), if_neg c]
        exact l
    · unfold upd
      rw [if_neg (by omega), if_neg (by omega)]
      exact h20 i hi
    · unfold upd
      rw [if_neg (by omega), if_neg (by omega)]
      exact h29
    · unfold upd
      rw [if_neg (by omega), if_neg (by omega)]
      exact h30
    · unfold upd
      rw [if_neg (by omega), if_neg (by omega)]
      exact h31
    · unfold upd
      rw [if_neg (by omega), if_neg (by omega)]
      exact h32
theorem ac_tr (y : Int32) : ∃ w : Nat, w ≤ 2000 ∧ v_L_acts_345 y = nI w := by
  unfold v_L_acts_345
  split
  · exact ⟨0, by omega, rfl⟩
  · obtain ⟨j, hj, e⟩ := l_some (y >>> ((4 : Int32) &&& 31)) (n := 2000) 2000 rfl (by decide) (by decide)
    refine ⟨1 + j, by omega, ?_⟩
    rw [e, show (1 : Int32) = nI 1 from rfl, nI_add]
theorem ac_ok3 {fw fh ft : Nat → Int32} {br : Int32} {nC nR : Nat} {nf : Int32} {fx fy fz fu gt gp gq gz gu : Nat → Int32} (hI : zLI fw fh ft br nC nR nf fx fy fz fu gt gp gq gz gu) (y : Int32) : s_L_truth ft (v_L_acts_317 y) (v_L_acts_345 y) = v_L_acts_376 gt y ∧ zLI fw fh (n_L_truth_qt ft (v_L_acts_317 y) (v_L_acts_345 y)) br nC nR nf fx fy fz fu (if (v_L_acts_376 gt y) ≤ 0 then gt else upd gt (20 + (v_L_acts_317 y)).toNatClampNeg (v_L_acts_345 y)) gp gq gz gu := by
  obtain ⟨⟨hT, hU, hZ, hN⟩, hF, ⟨hL, h20, h29, h30, h31, h32⟩, hS⟩ := id hI
  obtain ⟨j, hj, e⟩ := ac_bnd y
  obtain ⟨w, hw, ew⟩ := ac_tr y
  unfold s_L_truth k_X4_truth s_X4_truth n_L_truth_qt n_X4_truth_qt v_L_acts_376 s_X0_replaceTruth n_X0_replaceTruth_qt
  rw [e, ew]
  by_cases c9 : j = 9
  · subst c9
    have q1 : k_X4_requireBand (nI 9) = 1 := by decide
    have q2 : ¬ nI 9 ≤ 8 := by decide
    rw [q1, if_neg q2]
    refine ⟨by simp, ?_⟩
    rw [if_neg (show ¬ 1 = 0 by decide), if_pos (by decide)]
    exact hI
  · have q1 := bd_rb (j := j) (by omega)
    have q2 : nI j ≤ 8 := nI_le (b := 8) (by omega) (by omega)
    have q3 : ¬ nI j < 0 := nI_pos (by omega)
    have q4 : ¬ (9 : Int32) ≤ nI j := nI_ge (b := 9) (by omega) (by omega)
    rw [q1, if_pos q2]
    by_cases c1 : w = 0
    · subst c1
      have d1 : nI 0 < 1 := by decide
      have d2 : ¬ (1 : Int32) ≤ nI 0 := by decide
      rw [if_neg d2]
      refine ⟨by simp [d1], ?_⟩
      rw [if_pos rfl, if_pos d1, if_pos (by decide)]
      exact hI
    · have d1 : ¬ nI w < 1 := nI_nlt (b := 1) (by omega) (by omega)
      have d2 : (1 : Int32) ≤ nI w := nI_le (a := 1) (by omega) (by omega)
      have d3 : nI w ≤ 99999 := nI_le (b := 99999) (by omega) (by omega)
      have t := hU j (by omega)
      have eg : gt (20 + nI j).toNatClampNeg = ft j := by
        rw [show (20 : Int32) = nI 20 from rfl, nI_add, nI_clamp (by omega)]
        exact h20 j (by omega)
      have d4 : ¬ ft j ≤ 0 := by
        rw [Int32.le_iff_toInt_le, show (0 : Int32).toInt = 0 from rfl]
        omega
      rw [if_pos d2, eg, if_neg d4]
      refine ⟨by simp [d1, d3, p_tro (ft := ft) (show j < 9 by omega)], ?_⟩
      rw [if_pos rfl, if_neg d1, if_pos d3, if_neg q3, if_neg q4, nI_clamp (by omega), show (20 : Int32) = nI 20 from rfl, nI_add, nI_clamp (by omega)]
      have ewi : (nI w).toInt = (w : Int) := nI_toInt (by omega)
      refine ⟨⟨hT, fun i hi => ?_, hZ, hN⟩, hF, ⟨fun i hi => ?_, fun i hi => ?_, ?_, ?_, ?_, ?_⟩, hS⟩
      · have u := hU i hi
        unfold upd
        by_cases c : i = j
        · rw [if_pos c, ewi]
          omega
        · rw [if_neg c]
          exact u
      · unfold upd
        rw [if_neg (by omega), if_neg (by omega)]
        exact hL i hi
      · unfold upd
        by_cases c : i = j
        · rw [if_pos c, if_pos (by omega)]
        · rw [if_neg c, if_neg (by omega)]
          exact h20 i hi
      · unfold upd
        rw [if_neg (by omega)]
        exact h29
      · unfold upd
        rw [if_neg (by omega)]
        exact h30
      · unfold upd
        rw [if_neg (by omega)]
        exact h31
      · unfold upd
        rw [if_neg (by omega)]
        exact h32
theorem ac_zn (br : Int32) (nb : Int32) : (¬ k_X4_zones br nb = 0 ∧ n_X4_zones_qr_0 br nb = br) ∨ (k_X4_zones br nb = 0 ∧ s_X4_zones br nb = br ∧ n_X4_zones_qr_0 br nb = nb ∧ ¬ nb < 1 ∧ ¬ 360 < nb ∧ 360 - 360 / nb * nb = 0) := by
  unfold k_X4_zones n_X4_zones_qr_0 s_X4_zones n_X3_replaceBreadth_qz_0 s_X3_replaceBreadth
  by_cases h1 : nb < 1 <;> by_cases h2 : 360 < nb <;> by_cases h3 : 360 - 360 / nb * nb = 0 <;> simp [h1, h2, h3]
theorem ac_znb {nb : Int32} (h3 : ¬ nb < 1) (h4 : ¬ 360 < nb) (h5 : 360 - 360 / nb * nb = 0) : zZn nb := by
  have h0 : ¬ nb < 0 := by
    rw [Int32.lt_iff_toInt_lt] at h3 ⊢
    have z0 : (1 : Int32).toInt = 1 := rfl
    have z1 : (0 : Int32).toInt = 0 := rfl
    omega
  obtain ⟨d, hd, rfl⟩ := nI_of h0
  have g1 : 1 ≤ d := by
    rcases Nat.lt_or_ge d 1 with q | q
    · exact absurd (nI_lt (b := 1) q (by omega)) h3
    · exact q
  have g2 : d ≤ 360 := by
    rcases Nat.lt_or_ge 360 d with q | q
    · exact absurd (nI_lt (a := 360) q hd) h4
    · exact q
  refine ⟨d, g1, g2, ?_, rfl⟩
  have q := pk_rem (a := 360) (d := d) (by omega) (by omega) hd
  have h5 : nI 360 - nI 360 / nI d * nI d = nI 0 := h5
  rw [q] at h5
  exact (nI_eq (Nat.lt_of_lt_of_le (Nat.mod_lt _ (by omega)) (by omega)) (by omega)).mp h5
theorem ac_479 (br y : Int32) : (v_L_acts_479 y = 0 ∧ ¬ k_X4_zones br (v_L_acts_450 y) = 0) ∨ (¬ v_L_acts_479 y = 0 ∧ k_X4_zones br (v_L_acts_450 y) = 0) := by
  unfold v_L_acts_479 k_X4_zones
  generalize v_L_acts_450 y = n
  have e1 : n ≤ 0 ↔ n < 1 := by
    rw [Int32.le_iff_toInt_le, Int32.lt_iff_toInt_lt, show (0 : Int32).toInt = 0 from rfl, show (1 : Int32).toInt = 1 from rfl]
    omega
  have e2 : 361 ≤ n ↔ 360 < n := by
    rw [Int32.le_iff_toInt_le, Int32.lt_iff_toInt_lt, show (361 : Int32).toInt = 361 from rfl, show (360 : Int32).toInt = 360 from rfl]
    omega
  by_cases h1 : n < 1
  · rw [if_pos (e1.mpr h1), if_pos h1]
    exact Or.inl ⟨rfl, by decide⟩
  · rw [if_neg (fun q => h1 (e1.mp q)), if_neg h1]
    by_cases h2 : 360 < n
    · rw [if_pos (e2.mpr h2), if_pos h2]
      exact Or.inl ⟨rfl, by decide⟩
    · rw [if_neg (fun q => h2 (e2.mp q)), if_neg h2]
      by_cases h3 : 360 - 360 / n * n = 0
      · rw [if_pos h3, if_pos h3]
        exact Or.inr ⟨by decide, rfl⟩
      · rw [if_neg h3, if_neg h3]
        exact Or.inl ⟨rfl, by decide⟩
theorem ac_ok4 {fw fh ft : Nat → Int32} {br : Int32} {nC nR : Nat} {nf : Int32} {fx fy fz fu gt gp gq gz gu : Nat → Int32} (hI : zLI fw fh ft br nC nR nf fx fy fz fu gt gp gq gz gu) (y : Int32) : s_L_by fw fh br nC nR nf 8 (v_L_acts_450 y) 0 0 = (if (v_L_acts_479 y) = 0 then (-9000001) else br) ∧ zLI fw fh ft (n_L_by_qr_0 br 8 (v_L_acts_450 y)) nC nR nf fx fy fz fu (upd gt (29 : Int32).toNatClampNeg (if (v_L_acts_479 y) = 0 then br else v_L_acts_450 y)) gp gq gz gu := by
  obtain ⟨⟨hT, hU, hZ, hN⟩, hF, ⟨hL, h20, h29, h30, h31, h32⟩, hS⟩ := id hI
  rw [by_8, show n_L_by_qr_0 br 8 (v_L_acts_450 y) = n_X4_zones_qr_0 br (v_L_acts_450 y) from rfl, show (29 : Int32).toNatClampNeg = 29 from rfl]
  have key : ∀ x : Int32, zZn x → zLI fw fh ft x nC nR nf fx fy fz fu (upd gt 29 x) gp gq gz gu := by
    intro x hx
    refine ⟨⟨hT, hU, hx, hN⟩, hF, ⟨fun i hi => ?_, fun i hi => ?_, ?_, ?_, ?_, ?_⟩, hS⟩
    · unfold upd
      rw [if_neg (by omega), if_neg (by omega)]
      exact hL i hi
    · unfold upd
      rw [if_neg (by omega)]
      exact h20 i hi
    · exact if_pos rfl
    · exact h30
    · exact h31
    · exact h32
  rcases ac_479 br y with ⟨c, d⟩ | ⟨c, d⟩
  · rcases ac_zn br (v_L_acts_450 y) with ⟨-, e⟩ | ⟨f, -⟩
    · rw [if_neg d, if_pos c, if_pos c, e]
      exact ⟨rfl, key br hZ⟩
    · exact absurd f d
  · rcases ac_zn br (v_L_acts_450 y) with ⟨f, -⟩ | ⟨-, e1, e2, e3, e4, e5⟩
    · exact absurd d f
    · rw [if_pos d, if_neg c, if_neg c, e1, e2]
      exact ⟨rfl, key _ (ac_znb e3 e4 e5)⟩
theorem p_zg {f g : Nat → Int32} {m p : Nat} (h : p < m) : zg f g m p = g p := if_pos h
theorem lay_fo {mC mR : Nat} (h : 1 ≤ mC ∧ mC ≤ 6 ∧ 1 ≤ mR ∧ mR ≤ 6) (nf : Int32) (fx fy fz fu : Nat → Int32) : zFoI (mC * mR) (n_X1_spread_qx mC mR nf fx fy fz fu) (n_X1_spread_qy mC mR nf fx fy fz fu) (n_X1_spread_qz mC mR nf fx fy fz fu) := by
  refine ⟨⟨0, 0, 5, 0, 5, by omega, by omega, by omega, by omega, by omega, fun q hq => ?_⟩, fun q r hq hr e1 e2 e3 => ?_⟩
  · have d1 : q / mR < mC := Nat.div_lt_of_lt_mul (by rw [Nat.mul_comm]; exact hq)
    have d2 : q % mR < mR := Nat.mod_lt _ (by omega)
    exact ⟨q / mR, q % mR, 0, p_zg hq, Nat.zero_le _, by omega, p_zg hq, Nat.zero_le _, by omega, p_zg hq, by decide⟩
  · have hN : mC * mR ≤ 36 := Nat.mul_le_mul h.2.1 h.2.2.2
    have a1 : n_X1_spread_qx mC mR nf fx fy fz fu q = nI (q / mR) := p_zg hq
    have a2 : n_X1_spread_qx mC mR nf fx fy fz fu r = nI (r / mR) := p_zg hr
    have a3 : n_X1_spread_qy mC mR nf fx fy fz fu q = nI (q % mR) := p_zg hq
    have a4 : n_X1_spread_qy mC mR nf fx fy fz fu r = nI (r % mR) := p_zg hr
    have b1 : q / mR ≤ q := Nat.div_le_self _ _
    have b2 : r / mR ≤ r := Nat.div_le_self _ _
    have b3 : q % mR ≤ q := Nat.mod_le _ _
    have b4 : r % mR ≤ r := Nat.mod_le _ _
    rw [a1, a2, nI_eq (by omega) (by omega)] at e1
    rw [a3, a4, nI_eq (by omega) (by omega)] at e2
    have c1 := Nat.div_add_mod q mR
    have c2 := Nat.div_add_mod r mR
    rw [e1, e2] at c1
    omega
theorem lay_sh {mC mR : Nat} (h : 1 ≤ mC ∧ mC ≤ 6 ∧ 1 ≤ mR ∧ mR ≤ 6) (nf : Int32) (fx fy fz fu gp gq gz gu : Nat → Int32) : zShL mC mR (n_X1_spread_qx mC mR nf fx fy fz fu) (n_X1_spread_qy mC mR nf fx fy fz fu) (n_X1_spread_qz mC mR nf fx fy fz fu) (n_X1_spread_qu mC mR nf fx fy fz fu) (n_L_flat_qP gp mC) (n_L_flat_qQ gq mC) (n_L_flat_qZ gz) (n_L_flat_qU gu) := by
  intro c r hc hr
  have l2 := z_idx hc hr
  have l3 := z_idx hr hc
  have h36 := sh_36 h
  rw [Nat.mul_comm mR mC] at l3
  unfold n_X1_spread_qx n_X1_spread_qy n_X1_spread_qz n_X1_spread_qu n_L_flat_qP n_L_flat_qQ n_L_flat_qZ n_L_flat_qU
  rw [p_zg l2, p_zg l2, p_zg l2, p_zg l2, p_zg (by omega), p_zg (by omega), p_zg (by omega), p_zg (by omega), z_dv hr, z_md hr, z_dv hc, z_md hc]
  exact ⟨rfl, rfl, rfl, rfl, Or.inr rfl⟩
theorem ac_ok5 {fw fh ft : Nat → Int32} {br : Int32} {nC nR : Nat} {nf : Int32} {fx fy fz fu gt gp gq gz gu : Nat → Int32} (hI : zLI fw fh ft br nC nR nf fx fy fz fu gt gp gq gz gu) (y : Int32) : s_L_sheet (nI nC) (nI nR) nf fx fy fz fu (v_L_acts_561 y) (v_L_acts_588 y) = (if (v_L_acts_607 y) = 0 then (-1) else 0) ∧ ∃ mC mR : Nat, n_L_sheet_qf_4 (nI nC) (nI nR) nf fx fy fz fu (v_L_acts_561 y) (v_L_acts_588 y) = nI mC ∧ n_L_sheet_qf_5 (nI nC) (nI nR) nf fx fy fz fu (v_L_acts_561 y) (v_L_acts_588 y) = nI mR ∧ zLI fw fh ft br mC mR (n_L_sheet_qf_6 (nI nC) (nI nR) nf fx fy fz fu (v_L_acts_561 y) (v_L_acts_588 y)) (n_L_sheet_qx (nI nC) (nI nR) nf fx fy fz fu (v_L_acts_561 y) (v_L_acts_588 y)) (n_L_sheet_qy (nI nC) (nI nR) nf fx fy fz fu (v_L_acts_561 y) (v_L_acts_588 y)) (n_L_sheet_qz (nI nC) (nI nR) nf fx fy fz fu (v_L_acts_561 y) (v_L_acts_588 y)) (n_L_sheet_qu (nI nC) (nI nR) nf fx fy fz fu (v_L_acts_561 y) (v_L_acts_588 y)) (if (v_L_acts_607 y) = 0 then gt else n_L_flat_qT (upd (upd gt (30 : Int32).toNatClampNeg (v_L_acts_561 y)) (31 : Int32).toNatClampNeg (v_L_acts_588 y))) (if (v_L_acts_607 y) = 0 then gp else n_L_flat_qP gp ((v_L_acts_561 y).toNatClampNeg)) (if (v_L_acts_607 y) = 0 then gq else n_L_flat_qQ gq ((v_L_acts_561 y).toNatClampNeg)) (if (v_L_acts_607 y) = 0 then gz else n_L_flat_qZ gz) (if (v_L_acts_607 y) = 0 then gu else n_L_flat_qU gu) := by
  obtain ⟨⟨hT, hU, hZ, hN⟩, hF, ⟨hL, h20, h29, h30, h31, h32⟩, hS⟩ := id hI
  obtain ⟨j, hj1, hj7, ej⟩ := ac_co y
  obtain ⟨i, hi6, ei⟩ := ac_ro y
  have e607 : v_L_acts_607 y = if 7 ≤ nI j then 0 else if nI i ≤ 0 then 0 else 1 := by
    unfold v_L_acts_607
    rw [ej, ei]
  rw [e607, ej, ei]
  unfold s_L_sheet k_X4_sheet n_L_sheet_qf_4 n_L_sheet_qf_5 n_L_sheet_qf_6 n_L_sheet_qx n_L_sheet_qy n_L_sheet_qz n_L_sheet_qu n_X4_sheet_qf_4 n_X4_sheet_qf_5 n_X4_sheet_qf_6 n_X4_sheet_qx n_X4_sheet_qy n_X4_sheet_qz n_X4_sheet_qu
  have c1 : ¬ nI j < 1 := nI_nlt (b := 1) (by omega) (by omega)
  by_cases c7 : j = 7
  · have d1 : (7 : Int32) ≤ nI j := nI_le (a := 7) (by omega) (by omega)
    have d2 : (6 : Int32) < nI j := nI_lt (a := 6) (by omega) (by omega)
    simp only [if_pos d1, if_pos d2, if_neg c1, if_true]
    exact ⟨by decide, nC, nR, rfl, rfl, hI⟩
  · have d1 : ¬ (7 : Int32) ≤ nI j := nI_ge (b := 7) (by omega) (by omega)
    have d2 : ¬ (6 : Int32) < nI j := nI_nlt (a := 6) (by omega) (by omega)
    by_cases c0 : i = 0
    · have d3 : nI i ≤ 0 := by rw [c0]; decide
      have d4 : nI i < 1 := by rw [c0]; decide
      simp only [if_neg d1, if_neg d2, if_neg c1, if_pos d3, if_pos d4, if_true]
      exact ⟨by decide, nC, nR, rfl, rfl, hI⟩
    · have d3 : ¬ nI i ≤ 0 := nI_nle (by omega) (by omega)
      have d4 : ¬ nI i < 1 := nI_nlt (b := 1) (by omega) (by omega)
      have d5 : nI i ≤ 6 := nI_le (b := 6) (by omega) (by omega)
      have h10 : ¬ (1 : Int32) = 0 := by decide
      simp only [if_neg d1, if_neg d2, if_neg c1, if_neg d3, if_neg d4, if_pos d5, if_neg h10, if_true]
      have kj : (nI j).toNatClampNeg = j := nI_clamp (by omega)
      have ki : (nI i).toNatClampNeg = i := nI_clamp (by omega)
      rw [kj, ki]
      have hm : 1 ≤ j ∧ j ≤ 6 ∧ 1 ≤ i ∧ i ≤ 6 := by omega
      refine ⟨by decide, j, i, rfl, rfl, ⟨hT, hU, hZ, hm⟩, lay_fo hm nf fx fy fz fu, ⟨fun q hq => ?_, fun q hq => ?_, ?_, ?_, ?_, ?_⟩, lay_sh hm nf fx fy fz fu gp gq gz gu⟩
      · rw [show (30 : Int32).toNatClampNeg = 30 from rfl, show (31 : Int32).toNatClampNeg = 31 from rfl]
        unfold n_L_flat_qT upd
        rw [show (32 : Int32).toNatClampNeg = 32 from rfl, if_neg (by omega), if_neg (by omega), if_neg (by omega), if_neg (by omega), if_neg (by omega), if_neg (by omega)]
        exact hL q hq
      · rw [show (30 : Int32).toNatClampNeg = 30 from rfl, show (31 : Int32).toNatClampNeg = 31 from rfl]
        unfold n_L_flat_qT upd
        rw [show (32 : Int32).toNatClampNeg = 32 from rfl, if_neg (by omega), if_neg (by omega), if_neg (by omega)]
        exact h20 q hq
      · exact h29
      · rfl
      · rfl
      · rfl
theorem ac_ok6 {fw fh ft : Nat → Int32} {br : Int32} {nC nR : Nat} {nf : Int32} {fx fy fz fu gt gp gq gz gu : Nat → Int32} (hI : zLI fw fh ft br nC nR nf fx fy fz fu gt gp gq gz gu) : zLI fw fh ft br nC nR (n_X4_unfold_qf_6 nC nR nf fx fy fz fu) (n_X4_unfold_qx nC nR nf fx fy fz fu) (n_X4_unfold_qy nC nR nf fx fy fz fu) (n_X4_unfold_qz nC nR nf fx fy fz fu) (n_X4_unfold_qu nC nR nf fx fy fz fu) (n_L_flat_qT gt) (n_L_flat_qP gp nC) (n_L_flat_qQ gq nC) (n_L_flat_qZ gz) (n_L_flat_qU gu) := by
  obtain ⟨⟨hT, hU, hZ, hN⟩, hF, ⟨hL, h20, h29, h30, h31, h32⟩, hS⟩ := hI
  refine ⟨⟨hT, hU, hZ, hN⟩, lay_fo hN nf fx fy fz fu, ⟨fun q hq => ?_, fun q hq => ?_, ?_, ?_, ?_, ?_⟩, lay_sh hN nf fx fy fz fu gp gq gz gu⟩
  · unfold n_L_flat_qT upd
    rw [show (32 : Int32).toNatClampNeg = 32 from rfl, if_neg (by omega), if_neg (by omega)]
    exact hL q hq
  · unfold n_L_flat_qT upd
    rw [show (32 : Int32).toNatClampNeg = 32 from rfl, if_neg (by omega)]
    exact h20 q hq
  · exact h29
  · exact h30
  · exact h31
  · rfl
/-! folds -/
theorem zShL.swap {nC nR : Nat} {fx fy fz fu gp gq gz gu : Nat → Int32} (h : zShL nC nR fx fy fz fu gp gq gz gu) : zShL nC nR fy fx fz fu gq gp gz gu := fun c r hc hr => by
  have q := h c r hc hr
  exact ⟨q.2.1, q.1, q.2.2⟩
theorem fo_pb {nC nR : Nat} {nf : Int32} {f : Nat → Int32} {b : Int32} : ∀ k : Nat, k ≤ 36 → lp_X1_placesBelow_5 nC nR nf f b k = nI (p_ct (fun q => decide (f q < b)) k)
  | 0, _ => rfl
  | k + 1, hk => by
    rw [lp_X1_placesBelow_5, fo_pb k (by omega), p_ct, nI_clamp (by omega)]
    by_cases c : b ≤ f k
    · rw [if_pos c, if_neg (by simp [Int32.not_lt.mpr c]), Nat.add_zero]
    · rw [if_neg c, if_pos (by simp [Int32.not_le.mp c]), nI_1]
theorem fo_tn {nC nR : Nat} {gp gq gz : Nat → Int32} {y : Int32} : ∀ k : Nat, k ≤ 36 → lp_L_acts_873 nC nR gp gq gz y k = nI (p_ct (fun q => decide ((if v_L_acts_717 y = 0 then gq q else gp q) < v_L_acts_865 nC nR gp gq gz y)) k)
  | 0, _ => rfl
  | k + 1, hk => by
    show v_L_acts_911 nC nR gp gq gz y (lp_L_acts_873 nC nR gp gq gz y k) k = _
    unfold v_L_acts_911
    rw [fo_tn k (by omega), p_ct, nI_clamp (by omega)]
    by_cases c : v_L_acts_865 nC nR gp gq gz y ≤ (if v_L_acts_717 y = 0 then gq k else gp k)
    · rw [if_pos c, if_neg (by simp only [decide_eq_true_eq]; exact Int32.not_lt.mpr c), Nat.add_zero, Int32.add_zero]
    · rw [if_neg c, if_pos (by simp only [decide_eq_true_eq]; exact Int32.not_le.mp c), nI_1]
/-- how many turn over: the law's count is the class's -/
theorem fo_eq {nC nR : Nat} {nf : Int32} {F O fz fu A B gz gu : Nat → Int32} {b : Int32} (hS : zShL nC nR F O fz fu A B gz gu) (hN1 : 1 ≤ nC ∧ nC ≤ 6 ∧ 1 ≤ nR ∧ nR ≤ 6) : s_X1_placesBelow nC nR nf F b = nI (p_ct (fun q => decide (A q < b)) (nC * nR)) := by
  show lp_X1_placesBelow_5 nC nR nf F b (nC * nR) = _
  rw [fo_pb _ (sh_36 hN1), ← p_ctp hN1]
  refine congrArg nI (p_ctcg _ (fun q hq => ?_))
  rw [(sh_k hS hN1 hq).1]
theorem fo_hl {nC nR : Nat} {nf : Int32} {fz : Nat → Int32} : ∀ k : Nat, k ≤ 36 → (∀ q : Nat, q < k → ∃ z : Nat, fz q = nI z ∧ z < 1024) → lp_X1_highestLayer_4 nC nR nf fz k = nI (p_mx (fun q => (fz q).toNatClampNeg) k)
  | 0, _, _ => rfl
  | k + 1, hk, h => by
    obtain ⟨z, e, hz⟩ := h k (by omega)
    have b := p_mxle (fun q => (fz q).toNatClampNeg) 1024 k (fun q hq => by
      obtain ⟨w, ew, hw⟩ := h q (by omega)
      show (fz q).toNatClampNeg ≤ 1024
      rw [ew, nI_clamp (by omega)]
      omega)
    rw [lp_X1_highestLayer_4, fo_hl k (by omega) (fun q hq => h q (by omega)), p_mx, nI_clamp (by omega), e, nI_clamp (by omega)]
    by_cases c : p_mx (fun q => (fz q).toNatClampNeg) k < z
    · rw [if_pos (nI_lt c (by omega)), if_pos c]
    · rw [if_neg (nI_nlt (by omega) (by omega)), if_neg c]
theorem fo_tp {gp gq gz : Nat → Int32} {y : Int32} : ∀ k : Nat, k ≤ 36 → (∀ q : Nat, q < k → ∃ z : Nat, gz q = nI z ∧ z < 1024) → (lp_L_acts_733 gp gq gz y k).2.2 = nI (p_mx (fun q => (gz q).toNatClampNeg) k)
  | 0, _, _ => rfl
  | k + 1, hk, h => by
    obtain ⟨z, e, hz⟩ := h k (by omega)
    have b := p_mxle (fun q => (gz q).toNatClampNeg) 1024 k (fun q hq => by
      obtain ⟨w, ew, hw⟩ := h q (by omega)
      show (gz q).toNatClampNeg ≤ 1024
      rw [ew, nI_clamp (by omega)]
      omega)
    show v_L_acts_812 gz ((lp_L_acts_733 gp gq gz y k).2.2) k = _
    unfold v_L_acts_812
    rw [fo_tp k (by omega) (fun q hq => h q (by omega)), p_mx, nI_clamp (by omega), e, nI_clamp (by omega)]
    by_cases c : p_mx (fun q => (gz q).toNatClampNeg) k < z
    · rw [if_neg (nI_ge c (by omega)), if_pos c]
    · rw [if_pos (nI_le (by omega) (by omega)), if_neg c]
theorem fo_z {N : Nat} {fx fy fz : Nat → Int32} (hF : zFoI N fx fy fz) {q : Nat} (hq : q < N) : ∃ z : Nat, fz q = nI z ∧ z < 1024 := by
  obtain ⟨⟨n, a, k, a2, k2, h1, h2, h3, h4, h5, h6⟩, -⟩ := hF
  obtain ⟨x, y, z, -, -, -, -, -, -, c7, c8⟩ := h6 q hq
  have := p_pow (n := n) (by omega)
  exact ⟨z, c7, by omega⟩
theorem fo_top {nC nR : Nat} {nf : Int32} {fx fy fz fu gp gq gz gu : Nat → Int32} {y : Int32} (hS : zShL nC nR fx fy fz fu gp gq gz gu) (hN1 : 1 ≤ nC ∧ nC ≤ 6 ∧ 1 ≤ nR ∧ nR ≤ 6) (hF : zFoI (nC * nR) fx fy fz) : (lp_L_acts_733 gp gq gz y (nC * nR)).2.2 = s_X1_highestLayer nC nR nf fz := by
  have h36 := sh_36 hN1
  rw [fo_tp _ h36 (fun q hq => by
    rw [(sh_k hS hN1 hq).2.2.1]
    exact fo_z hF (sg_lt hN1 hq).2.2)]
  show _ = lp_X1_highestLayer_4 nC nR nf fz (nC * nR)
  rw [fo_hl _ h36 (fun q hq => fo_z hF hq), ← p_mxp hN1 (fun q => (fz q).toNatClampNeg)]
  refine congrArg nI (p_mxcg _ (fun q hq => ?_))
  rw [(sh_k hS hN1 hq).2.2.1]
theorem fo_2b (b x : Int32) : 2 * b - 1 - x = b + (b - 1 - x) := by
  have e : (2 : Int32) * b = b + b := by
    rw [show (2 : Int32) = 1 + 1 from rfl, Int32.add_mul, Int32.one_mul]
  rw [e, Int32.sub_eq_add_neg, Int32.sub_eq_add_neg, Int32.sub_eq_add_neg, Int32.sub_eq_add_neg, Int32.add_assoc, Int32.add_assoc, Int32.add_assoc]
theorem fo_2t (t x : Int32) : 2 * t + 1 - x = t + 1 + (t - x) := by
  have e : (2 : Int32) * t = t + t := by
    rw [show (2 : Int32) = 1 + 1 from rfl, Int32.add_mul, Int32.one_mul]
  rw [e, Int32.sub_eq_add_neg, Int32.sub_eq_add_neg, Int32.add_assoc, Int32.add_assoc, Int32.add_assoc, ← Int32.add_assoc t 1, Int32.add_comm t 1, Int32.add_assoc]
theorem fo_same (f : Nat → Int32) (b : Int32) (g : Nat → Int32) (k : Nat) : zt f b g g k = g := by
  funext p
  unfold zt
  split <;> rfl
/-- a fold that is allowed, along one of the two -/
theorem fo_gen {nC nR : Nat} {nf : Int32} {F O fz fu A B gz gu : Nat → Int32} {b top : Int32} (hS : zShL nC nR F O fz fu A B gz gu) (hN1 : 1 ≤ nC ∧ nC ≤ 6 ∧ 1 ≤ nR ∧ nR ≤ 6) (htop : top = s_X1_highestLayer nC nR nf fz) : zShL nC nR (zt F b (fun p => 2 * b - 1 - F p) F (nC * nR)) O (zt F b (fun p => 2 * (s_X1_highestLayer nC nR nf fz) + 1 - fz p) fz (nC * nR)) (zt F b (fun p => if fu p = 0 then 1 else 0) fu (nC * nR)) (zt A b (fun p => b + ((b - 1) - A p)) A (nC * nR)) B (zt A b (fun p => (top + 1) + (top - gz p)) gz (nC * nR)) (zt A b (fun p => 1 - gu p) gu (nC * nR)) := by
  intro c r hc hr
  obtain ⟨e1, e2, e3, e4, e5⟩ := hS c r hc hr
  have l2 := z_idx hc hr
  have l3 := z_idx hr hc
  rw [Nat.mul_comm nR nC] at l3
  unfold zt
  by_cases q : F (c * nR + r) < b
  · have p1 : r * nC + c < nC * nR ∧ A (r * nC + c) < b := ⟨l3, by rw [e1]; exact q⟩
    have p2 : c * nR + r < nC * nR ∧ F (c * nR + r) < b := ⟨l2, q⟩
    simp only [if_pos p1, if_pos p2]
    rw [e1, e3, e4, htop]
    refine ⟨(fo_2b _ _).symm, e2, (fo_2t _ _).symm, ?_, ?_⟩
    · rcases e5 with h | h <;> rw [h] <;> decide
    · split
      · exact Or.inr rfl
      · exact Or.inl rfl
  · have p1 : ¬ (r * nC + c < nC * nR ∧ A (r * nC + c) < b) := fun h => q (by rw [← e1]; exact h.2)
    have p2 : ¬ (c * nR + r < nC * nR ∧ F (c * nR + r) < b) := fun h => q h.2
    simp only [if_neg p1, if_neg p2]
    exact ⟨e1, e2, e3, e4, e5⟩
/-- whether a fold is allowed, by the number that would turn over -/
theorem fo_can {nC nR : Nat} {gp gq gz : Nat → Int32} {y : Int32} {m : Nat} (hN1 : 1 ≤ nC ∧ nC ≤ 6 ∧ 1 ≤ nR ∧ nR ≤ 6) (hm : m ≤ nC * nR) (e : lp_L_acts_873 nC nR gp gq gz y (nC * nR) = nI m) : v_L_acts_936 nC nR gp gq gz y = 0 ↔ m = 0 ∨ m = nC * nR := by
  have h36 := sh_36 hN1
  unfold v_L_acts_936
  rw [e, pk_mul]
  by_cases c : m = 0
  · subst c
    rw [if_pos (by decide)]
    exact ⟨fun _ => Or.inl rfl, fun _ => rfl⟩
  · rw [if_neg (nI_nle (by omega) (by omega))]
    by_cases d : m = nC * nR
    · rw [if_pos (by rw [d]; exact Int32.le_refl _)]
      exact ⟨fun _ => Or.inr d, fun _ => rfl⟩
    · rw [if_neg (nI_ge (by omega) (by omega))]
      exact ⟨fun h => absurd h (by decide), fun h => by omega⟩
theorem fo_r0 {nC nR : Nat} {nf : Int32} {F fz fu : Nat → Int32} {b : Int32} {m : Nat} (e : s_X1_placesBelow nC nR nf F b = nI m) (h : m = 0 ∨ m = nC * nR) : s_X1_turnOver nC nR nf F fz fu b = 0 ∧ n_X1_turnOver_qf_6 nC nR nf F fz fu b = nf ∧ n_X1_turnOver_qa nC nR nf F fz fu b = F ∧ n_X1_turnOver_qz nC nR nf F fz fu b = fz ∧ n_X1_turnOver_qu nC nR nf F fz fu b = fu := by
  unfold s_X1_turnOver n_X1_turnOver_qf_6 n_X1_turnOver_qa n_X1_turnOver_qz n_X1_turnOver_qu
  rw [e]
  rcases h with h | h
  · subst h
    rw [if_pos (by decide), if_pos (by decide), if_pos (by decide), if_pos (by decide), if_pos (by decide)]
    exact ⟨rfl, rfl, rfl, rfl, rfl⟩
  · have e2 : nI m = s_X1_panels nC nR nf := by
      rw [h]
      exact (pk_mul nC nR).symm
    have : ∀ {α : Type} (x z : α), (if nI m = 0 then x else if nI m = s_X1_panels nC nR nf then x else z) = x := fun x z => by
      by_cases c : nI m = 0
      · rw [if_pos c]
      · rw [if_neg c, if_pos e2]
    exact ⟨this _ _, this _ _, this _ _, this _ _, this _ _⟩
theorem fo_r1 {nC nR : Nat} {nf : Int32} {F fz fu : Nat → Int32} {b : Int32} {m : Nat} (hN1 : 1 ≤ nC ∧ nC ≤ 6 ∧ 1 ≤ nR ∧ nR ≤ 6) (e : s_X1_placesBelow nC nR nf F b = nI m) (hm : m ≤ nC * nR) (h : ¬ (m = 0 ∨ m = nC * nR)) : s_X1_turnOver nC nR nf F fz fu b = nI m ∧ n_X1_turnOver_qf_6 nC nR nf F fz fu b = nf + 1 ∧ n_X1_turnOver_qa nC nR nf F fz fu b = zt F b (fun p => 2 * b - 1 - F p) F (nC * nR) ∧ n_X1_turnOver_qz nC nR nf F fz fu b = zt F b (fun p => 2 * (s_X1_highestLayer nC nR nf fz) + 1 - fz p) fz (nC * nR) ∧ n_X1_turnOver_qu nC nR nf F fz fu b = zt F b (fun p => if fu p = 0 then 1 else 0) fu (nC * nR) := by
  have h36 := sh_36 hN1
  unfold s_X1_turnOver n_X1_turnOver_qf_6 n_X1_turnOver_qa n_X1_turnOver_qz n_X1_turnOver_qu
  rw [e]
  have c1 : ¬ nI m = 0 := nI_ne0 (by omega) (by omega)
  have c2 : ¬ nI m = s_X1_panels nC nR nf := by
    rw [show s_X1_panels nC nR nf = nI (nC * nR) from pk_mul nC nR, nI_eq (by omega) (by omega)]
    omega
  rw [if_neg c1, if_neg c1, if_neg c1, if_neg c1, if_neg c1, if_neg c2, if_neg c2, if_neg c2, if_neg c2, if_neg c2]
  exact ⟨rfl, rfl, rfl, rfl, rfl⟩
theorem fo_ex {N : Nat} {A : Nat → Int32} {b : Int32} : ∀ k : Nat, k ≤ N → (p_ct (fun q => decide (A q < b)) k ≠ 0 → ∃ q : Nat, q < k ∧ A q < b) ∧ (p_ct (fun q => decide (A q < b)) k ≠ k → ∃ q : Nat, q < k ∧ ¬ A q < b)
  | 0, _ => ⟨fun h => absurd rfl h, fun h => absurd rfl h⟩
  | k + 1, hk => by
    have ih := fo_ex (N := N) (A := A) (b := b) k (by omega)
    rw [p_ct]
    by_cases c : A k < b
    · rw [if_pos (by simp [c])]
      refine ⟨fun _ => ⟨k, by omega, c⟩, fun h => ?_⟩
      obtain ⟨q, hq, l⟩ := ih.2 (by omega)
      exact ⟨q, by omega, l⟩
    · rw [if_neg (by simp [c])]
      refine ⟨fun h => ?_, fun _ => ⟨k, by omega, c⟩⟩
      obtain ⟨q, hq, l⟩ := ih.1 (by omega)
      exact ⟨q, by omega, l⟩
theorem fo_fo {nC nR : Nat} {nf : Int32} {F O fz : Nat → Int32} {b : Int32} {m : Nat} (hN1 : 1 ≤ nC ∧ nC ≤ 6 ∧ 1 ≤ nR ∧ nR ≤ 6) (hF : zFoI (nC * nR) F O fz) (e : s_X1_placesBelow nC nR nf F b = nI m) (hm : m ≤ nC * nR) (h : ¬ (m = 0 ∨ m = nC * nR)) : zFoI (nC * nR) (zt F b (fun p => 2 * b - 1 - F p) F (nC * nR)) O (zt F b (fun p => 2 * (s_X1_highestLayer nC nR nf fz) + 1 - fz p) fz (nC * nR)) := by
  have h36 := sh_36 hN1
  have e2 : nI (p_ct (fun q => decide (F q < b)) (nC * nR)) = nI m := (fo_pb (nf := nf) _ h36).symm.trans e
  have l := p_ctle (fun q => decide (F q < b)) (nC * nR)
  rw [nI_eq (by omega) (by omega)] at e2
  have n0 : p_ct (fun q => decide (F q < b)) (nC * nR) ≠ 0 := fun z => h (Or.inl (by omega))
  have nN : p_ct (fun q => decide (F q < b)) (nC * nR) ≠ nC * nR := fun z => h (Or.inr (by omega))
  have x := fo_ex (N := nC * nR) (A := F) (b := b) (nC * nR) (Nat.le_refl _)
  exact p_foT h36 hF (x.1 n0) (x.2 nN)
theorem ac_717 (y : Int32) : v_L_acts_717 y = 0 ∨ v_L_acts_717 y = 1 := by
  unfold v_L_acts_717
  split
  · exact Or.inr rfl
  · exact Or.inl rfl
/-- the class's answer to a fold -/
theorem fo_ans {T0 : Int32} {m N : Nat} (hm : m ≤ N) (hN : N ≤ 36) (h0 : (m = 0 ∨ m = N) → T0 = 0) (h1 : ¬ (m = 0 ∨ m = N) → T0 = nI m) : (if (if k_X4_someTurned T0 = 0 then 0 else k_X4_someTurned T0) = 0 then (if k_X4_someTurned T0 = 0 then s_X4_someTurned T0 else 0) else (-1)) = if (m = 0 ∨ m = N) then (-1) else nI m := by
  by_cases c : m = 0 ∨ m = N
  · rw [if_pos c, h0 c]
    decide
  · rw [if_neg c, h1 c]
    have n0 : ¬ nI m = 0 := nI_ne0 (by omega) (by omega)
    unfold k_X4_someTurned s_X4_someTurned
    simp [n0]
theorem ac_lg {fw fh ft gt : Nat → Int32} {br : Int32} {nC nR : Nat} {nf : Int32} (h : zLG gt fw fh ft br nC nR nf) (x : Int32) : zLG (upd gt (32 : Int32).toNatClampNeg x) fw fh ft br nC nR x := by
  obtain ⟨hL, h20, h29, h30, h31, h32⟩ := h
  rw [show (32 : Int32).toNatClampNeg = 32 from rfl]
  refine ⟨fun q hq => ?_, fun q hq => ?_, h29, h30, h31, if_pos rfl⟩
  · unfold upd
    rw [if_neg (by omega), if_neg (by omega)]
    exact hL q hq
  · unfold upd
    rw [if_neg (by omega)]
    exact h20 q hq
theorem ac_ok7 {fw fh ft : Nat → Int32} {br : Int32} {nC nR : Nat} {nf : Int32} {fx fy fz fu gt gp gq gz gu : Nat → Int32} (hI : zLI fw fh ft br nC nR nf fx fy fz fu gt gp gq gz gu) (y : Int32) : s_L_folded nC nR nf fx fy fz fu (v_L_acts_717 y) (v_L_acts_865 nC nR gp gq gz y) = (if (v_L_acts_936 nC nR gp gq gz y) = 0 then (-1) else lp_L_acts_873 nC nR gp gq gz y (nC * nR)) ∧ zLI fw fh ft br nC nR (n_L_folded_qf_6 nC nR nf fx fy fz fu (v_L_acts_717 y) (v_L_acts_865 nC nR gp gq gz y)) (n_L_folded_qx nC nR nf fx fz fu (v_L_acts_717 y) (v_L_acts_865 nC nR gp gq gz y)) (n_L_folded_qy nC nR nf fy fz fu (v_L_acts_717 y) (v_L_acts_865 nC nR gp gq gz y)) (n_L_folded_qz nC nR nf fx fy fz fu (v_L_acts_717 y) (v_L_acts_865 nC nR gp gq gz y)) (n_L_folded_qu nC nR nf fx fy fz fu (v_L_acts_717 y) (v_L_acts_865 nC nR gp gq gz y)) (upd gt (32 : Int32).toNatClampNeg (nf + (if (v_L_acts_936 nC nR gp gq gz y) = 0 then 0 else 1))) (if (v_L_acts_936 nC nR gp gq gz y) = 0 then gp else zt (fun p => if (v_L_acts_717 y) = 0 then gq p else gp p) (v_L_acts_865 nC nR gp gq gz y) (fun p => if (v_L_acts_717 y) = 0 then gp p else (v_L_acts_865 nC nR gp gq gz y) + (((v_L_acts_865 nC nR gp gq gz y) - 1) - gp p)) gp (nC * nR)) (if (v_L_acts_936 nC nR gp gq gz y) = 0 then gq else zt (fun p => if (v_L_acts_717 y) = 0 then gq p else gp p) (v_L_acts_865 nC nR gp gq gz y) (fun p => if (v_L_acts_717 y) = 0 then (v_L_acts_865 nC nR gp gq gz y) + (((v_L_acts_865 nC nR gp gq gz y) - 1) - gq p) else gq p) gq (nC * nR)) (if (v_L_acts_936 nC nR gp gq gz y) = 0 then gz else zt (fun p => if (v_L_acts_717 y) = 0 then gq p else gp p) (v_L_acts_865 nC nR gp gq gz y) (fun p => (((lp_L_acts_733 gp gq gz y (nC * nR)).2.2) + 1) + (((lp_L_acts_733 gp gq gz y (nC * nR)).2.2) - gz p)) gz (nC * nR)) (if (v_L_acts_936 nC nR gp gq gz y) = 0 then gu else zt (fun p => if (v_L_acts_717 y) = 0 then gq p else gp p) (v_L_acts_865 nC nR gp gq gz y) (fun p => 1 - gu p) gu (nC * nR)) := by
  obtain ⟨⟨hT, hU, hZ, hN⟩, hF, hG, hS⟩ := id hI
  have h36 := sh_36 hN
  have htop := fo_top (nf := nf) (y := y) hS hN hF
  have htn := fo_tn (nC := nC) (nR := nR) (gp := gp) (gq := gq) (gz := gz) (y := y) (nC * nR) h36
  unfold s_L_folded n_L_folded_qf_6 n_L_folded_qx n_L_folded_qy n_L_folded_qz n_L_folded_qu
  by_cases cl : v_L_acts_717 y = 0
  · simp only [if_pos cl] at htn ⊢
    generalize v_L_acts_865 nC nR gp gq gz y = b at htn ⊢
    have e := fo_eq (nf := nf) (b := b) hS.swap hN
    obtain ⟨m, hm⟩ : ∃ m, m = p_ct (fun q => decide (gq q < b)) (nC * nR) := ⟨_, rfl⟩
    have hm2 := p_ctle (fun q => decide (gq q < b)) (nC * nR)
    rw [← hm] at htn e hm2
    have can := fo_can hN hm2 htn
    have r0 := fo_r0 (fz := fz) (fu := fu) e
    have r1 := fo_r1 (fz := fz) (fu := fu) hN e hm2
    have ans := fo_ans (T0 := s_X1_turnOver nC nR nf fy fz fu b) hm2 h36 (fun h => (r0 h).1) (fun h => (r1 h).1)
    refine ⟨?_, ?_⟩
    · show (if (if k_X4_someTurned (s_X1_turnOver nC nR nf fy fz fu b) = 0 then 0 else k_X4_someTurned (s_X1_turnOver nC nR nf fy fz fu b)) = 0 then (if k_X4_someTurned (s_X1_turnOver nC nR nf fy fz fu b) = 0 then s_X4_someTurned (s_X1_turnOver nC nR nf fy fz fu b) else 0) else (-1)) = _
      rw [ans, htn]
      by_cases c : m = 0 ∨ m = nC * nR
      · rw [if_pos c, if_pos (can.mpr c)]
      · rw [if_neg c, if_neg (fun h => c (can.mp h))]
    · show zLI fw fh ft br nC nR (n_X1_turnOver_qf_6 nC nR nf fy fz fu b) fx (n_X1_turnOver_qa nC nR nf fy fz fu b) (n_X1_turnOver_qz nC nR nf fy fz fu b) (n_X1_turnOver_qu nC nR nf fy fz fu b) _ _ _ _ _
      by_cases c : m = 0 ∨ m = nC * nR
      · obtain ⟨-, g1, g2, g3, g4⟩ := r0 c
        have cc := can.mpr c
        simp only [if_pos cc]
        rw [g1, g2, g3, g4, Int32.add_zero]
        exact ⟨⟨hT, hU, hZ, hN⟩, hF, ac_lg hG nf, hS⟩
      · obtain ⟨-, g1, g2, g3, g4⟩ := r1 c
        have cc : ¬ v_L_acts_936 nC nR gp gq gz y = 0 := fun h => c (can.mp h)
        simp only [if_neg cc]
        rw [g1, g2, g3, g4, fo_same]
        exact ⟨⟨hT, hU, hZ, hN⟩, p_foSwap (fo_fo hN (p_foSwap hF) e hm2 c), ac_lg hG (nf + 1), (fo_gen (nf := nf) (b := b) hS.swap hN htop).swap⟩
  · simp only [if_neg cl] at htn ⊢
    generalize v_L_acts_865 nC nR gp gq gz y = b at htn ⊢
    have e := fo_eq (nf := nf) (b := b) hS hN
    obtain ⟨m, hm⟩ : ∃ m, m = p_ct (fun q => decide (gp q < b)) (nC * nR) := ⟨_, rfl⟩
    have hm2 := p_ctle (fun q => decide (gp q < b)) (nC * nR)
    rw [← hm] at htn e hm2
    have can := fo_can hN hm2 htn
    have r0 := fo_r0 (fz := fz) (fu := fu) e
    have r1 := fo_r1 (fz := fz) (fu := fu) hN e hm2
    have ans := fo_ans (T0 := s_X1_turnOver nC nR nf fx fz fu b) hm2 h36 (fun h => (r0 h).1) (fun h => (r1 h).1)
    refine ⟨?_, ?_⟩
    · show (if (if k_X4_someTurned (s_X1_turnOver nC nR nf fx fz fu b) = 0 then 0 else k_X4_someTurned (s_X1_turnOver nC nR nf fx fz fu b)) = 0 then (if k_X4_someTurned (s_X1_turnOver nC nR nf fx fz fu b) = 0 then s_X4_someTurned (s_X1_turnOver nC nR nf fx fz fu b) else 0) else (-1)) = _
      rw [ans, htn]
      by_cases c : m = 0 ∨ m = nC * nR
      · rw [if_pos c, if_pos (can.mpr c)]
      · rw [if_neg c, if_neg (fun h => c (can.mp h))]
    · show zLI fw fh ft br nC nR (n_X1_turnOver_qf_6 nC nR nf fx fz fu b) (n_X1_turnOver_qa nC nR nf fx fz fu b) fy (n_X1_turnOver_qz nC nR nf fx fz fu b) (n_X1_turnOver_qu nC nR nf fx fz fu b) _ _ _ _ _
      by_cases c : m = 0 ∨ m = nC * nR
      · obtain ⟨-, g1, g2, g3, g4⟩ := r0 c
        have cc := can.mpr c
        simp only [if_pos cc]
        rw [g1, g2, g3, g4, Int32.add_zero]
        exact ⟨⟨hT, hU, hZ, hN⟩, hF, ac_lg hG nf, hS⟩
      · obtain ⟨-, g1, g2, g3, g4⟩ := r1 c
        have cc : ¬ v_L_acts_936 nC nR gp gq gz y = 0 := fun h => c (can.mp h)
        simp only [if_neg cc]
        rw [g1, g2, g3, g4, fo_same]
        exact ⟨⟨hT, hU, hZ, hN⟩, fo_fo hN hF e hm2 c, ac_lg hG (nf + 1), fo_gen (nf := nf) (b := b) hS hN htop⟩
