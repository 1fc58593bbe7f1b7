theorem p_TI {f : Nat → Int32} (hf : ∀ j : Nat, j < 10 → 0 ≤ (f j).toInt ∧ (f j).toInt ≤ 9999) {n : Nat} (h : n ≤ 90) : (p_T f n).toInt = (10 - (n % 10 : Nat) : Int) * (f (n / 10)).toInt + (n % 10 : Nat) * (if n % 10 = 0 then 0 else (f (n / 10 + 1)).toInt) := by
  have b1 := hf (n / 10) (by omega)
  have hr : n % 10 < 10 := Nat.mod_lt _ (by omega)
  unfold p_T
  by_cases h0 : n % 10 = 0
  · rw [if_pos h0, if_pos h0, h0, Int32.add_zero, z_mulI (by rw [nI_toInt (by omega)]; omega) (by rw [nI_toInt (by omega)]; omega), nI_toInt (by omega)]
    omega
  · have b2 := hf (n / 10 + 1) (by omega)
    rw [if_neg h0, if_neg h0]
    generalize (f (n / 10 + 1)) = y at b2 ⊢
    generalize (f (n / 10)) = x at b1 ⊢
    generalize n % 10 = r at hr h0 ⊢
    have ea : (nI (10 - r) * x).toInt = (10 - (r : Int)) * x.toInt := by
      rcases (show r = 1 ∨ r = 2 ∨ r = 3 ∨ r = 4 ∨ r = 5 ∨ r = 6 ∨ r = 7 ∨ r = 8 ∨ r = 9 by omega) with rfl | rfl | rfl | rfl | rfl | rfl | rfl | rfl | rfl <;> (rw [z_mulI (by rw [nI_toInt (by omega)]; omega) (by rw [nI_toInt (by omega)]; omega), nI_toInt (by omega)]; omega)
    have eb : (nI r * y).toInt = (r : Int) * y.toInt := by
      rcases (show r = 1 ∨ r = 2 ∨ r = 3 ∨ r = 4 ∨ r = 5 ∨ r = 6 ∨ r = 7 ∨ r = 8 ∨ r = 9 by omega) with rfl | rfl | rfl | rfl | rfl | rfl | rfl | rfl | rfl <;> (rw [z_mulI (by rw [nI_toInt (by omega)]; omega) (by rw [nI_toInt (by omega)]; omega), nI_toInt (by omega)])
    have hs : -2147483648 ≤ (10 - (r : Int)) * x.toInt + (r : Int) * y.toInt ∧ (10 - (r : Int)) * x.toInt + (r : Int) * y.toInt < 2147483648 := by
      rcases (show r = 1 ∨ r = 2 ∨ r = 3 ∨ r = 4 ∨ r = 5 ∨ r = 6 ∨ r = 7 ∨ r = 8 ∨ r = 9 by omega) with rfl | rfl | rfl | rfl | rfl | rfl | rfl | rfl | rfl <;> omega
    rw [z_addI (by rw [ea, eb]; exact hs.1) (by rw [ea, eb]; exact hs.2), ea, eb]
theorem p_rH {fw fh gw gh : Nat → Int32} (hT : zTabI fw fh gw gh) : ∀ j : Nat, j < 10 → 0 ≤ (gh j).toInt ∧ (gh j).toInt ≤ 9999 := fun j hj => by
  have := hT.2.1 j hj
  rw [← (hT.1 j hj).2]
  omega
theorem p_rW {fw fh gw gh : Nat → Int32} (hT : zTabI fw fh gw gh) : ∀ j : Nat, j < 10 → 0 ≤ (gw j).toInt ∧ (gw j).toInt ≤ 1000 := fun j hj => by
  have := hT.2.1 j hj
  rw [← (hT.1 j hj).1]
  omega
theorem p_rS {fw fh gw gh : Nat → Int32} (hT : zTabI fw fh gw gh) : ∀ j : Nat, j < 9 → (gh j).toInt < (gh (j + 1)).toInt := fun j hj => by
  have := hT.2.2.2 j hj
  rw [← (hT.1 j (by omega)).2, ← (hT.1 (j + 1) (by omega)).2]
  exact this
theorem p_r9 {fw fh gw gh : Nat → Int32} (hT : zTabI fw fh gw gh) : ∀ j : Nat, j < 10 → (gh j).toInt ≤ (gh 9).toInt := by
  have h := p_rS hT
  have h0 := h 0 (by omega)
  have h1 := h 1 (by omega)
  have h2 := h 2 (by omega)
  have h3 := h 3 (by omega)
  have h4 := h 4 (by omega)
  have h5 := h 5 (by omega)
  have h6 := h 6 (by omega)
  have h7 := h 7 (by omega)
  have h8 := h 8 (by omega)
  simp only [Nat.reduceAdd] at h0 h1 h2 h3 h4 h5 h6 h7 h8
  intro j hj
  rcases (show j = 0 ∨ j = 1 ∨ j = 2 ∨ j = 3 ∨ j = 4 ∨ j = 5 ∨ j = 6 ∨ j = 7 ∨ j = 8 ∨ j = 9 by omega) with rfl | rfl | rfl | rfl | rfl | rfl | rfl | rfl | rfl | rfl <;> omega
theorem p_T9 {f : Nat → Int32} (hf : ∀ j : Nat, j < 10 → 0 ≤ (f j).toInt ∧ (f j).toInt ≤ 9999) (h9 : ∀ j : Nat, j < 10 → (f j).toInt ≤ (f 9).toInt) {n : Nat} (h : n ≤ 90) : 0 ≤ (p_T f n).toInt ∧ (p_T f n).toInt ≤ 10 * (f 9).toInt := by
  rw [p_TI hf h]
  have b1 := hf (n / 10) (by omega)
  have c1 := h9 (n / 10) (by omega)
  have hr : n % 10 < 10 := Nat.mod_lt _ (by omega)
  by_cases h0 : n % 10 = 0
  · rw [if_pos h0, h0]
    omega
  · have b2 := hf (n / 10 + 1) (by omega)
    have c2 := h9 (n / 10 + 1) (by omega)
    rw [if_neg h0]
    generalize (f (n / 10 + 1)).toInt = y at b2 c2 ⊢
    generalize (f (n / 10)).toInt = x at b1 c1 ⊢
    generalize (f 9).toInt = z at c1 c2 ⊢
    generalize n % 10 = r at hr h0 ⊢
    rcases (show r = 1 ∨ r = 2 ∨ r = 3 ∨ r = 4 ∨ r = 5 ∨ r = 6 ∨ r = 7 ∨ r = 8 ∨ r = 9 by omega) with rfl | rfl | rfl | rfl | rfl | rfl | rfl | rfl | rfl <;> omega
theorem p_hmin {fw fh gw gh : Nat → Int32} (hT : zTabI fw fh gw gh) {lat : Int32} (h : -90 ≤ lat.toInt ∧ lat.toInt ≤ 90) : (s_X5_high gh (-90)).toInt ≤ (s_X5_high gh lat).toInt := by
  have e9 : (s_X5_high gh (-90)).toInt = -(10 * (gh 9).toInt) := by
    rw [p_high gh (by decide), if_neg (by decide)]
    have q := p_TI (p_rH hT) (n := 90) (by omega)
    have e : ((-90 : Int32).toInt).natAbs = 90 := rfl
    have b := p_rH hT 9 (by omega)
    simp only [Nat.reduceMod, Nat.reduceDiv, if_true] at q
    rw [e, Int32.toInt_neg, z_bm (by omega) (by omega), q]
    omega
  have b := p_T9 (p_rH hT) (p_r9 hT) (n := lat.toInt.natAbs) (by omega)
  have b9 := p_rH hT 9 (by omega)
  rw [e9, p_high gh h]
  by_cases c : 0 ≤ lat
  · rw [if_pos c]
    omega
  · rw [if_neg c, Int32.toInt_neg, z_bm (by omega) (by omega)]
    omega
/-! the latitude at a height -/
theorem p_gna {fw fh gw gh : Nat → Int32} (hT : zTabI fw fh gw gh) {h : Int32} (hh : s_X5_high gh (-90) ≤ h) : ∀ n k : Nat, n + k = 180 → lp_gna fw fh h (n + 1) k = lp_la gh h n k
  | 0, k, hk => by
    have hk : k = 180 := by omega
    subst hk
    have e : (90 : Int32) - nI 180 = -90 := by decide
    simp only [lp_gna, lp_la]
    rw [e, p_hE hT (by decide), if_pos hh]
  | n + 1, k, hk => by
    have ih := p_gna hT hh n (k + 1) (by omega)
    have b := z_k180 (k := k) (by omega)
    rw [lp_gna, lp_la, p_hE hT b, ih]
theorem p_gnb {fw fh gw gh : Nat → Int32} (hT : zTabI fw fh gw gh) {h : Int32} (hh : ¬ s_X5_high gh (-90) ≤ h) : ∀ n k : Nat, n + k = 181 → lp_gna fw fh h n k = 90 - nI 181
  | 0, k, hk => by
    have hk : k = 181 := by omega
    subst hk
    rfl
  | n + 1, k, hk => by
    have ih := p_gnb hT hh n (k + 1) (by omega)
    have b := z_k180 (k := k) (by omega)
    rw [lp_gna, p_hE hT b, ih, if_neg]
    have := p_hmin hT b
    rw [Int32.le_iff_toInt_le] at hh ⊢
    omega
theorem p_la90 (gh : Nat → Int32) (h : Int32) : ∀ n k : Nat, n + k = 180 → -90 ≤ lp_la gh h n k
  | 0, k, hk => by
    have hk : k = 180 := by omega
    subst hk
    show (-90 : Int32) ≤ 90 - nI 180
    decide
  | n + 1, k, hk => by
    have ih := p_la90 gh h n (k + 1) (by omega)
    have b := z_k180 (k := k) (by omega)
    rw [lp_la]
    by_cases c : s_X5_high gh (90 - nI k) ≤ h
    · rw [if_pos c, Int32.le_iff_toInt_le]
      exact b.1
    · rw [if_neg c]
      exact ih
theorem p_latAt {fw fh gw gh : Nat → Int32} (hT : zTabI fw fh gw gh) (a1 : Int32) : (k_X4_latitudeAt fw fh a1 = 2 ∧ n_X5_latitudeAt_qg_11 gh a1 = 1) ∨ (k_X4_latitudeAt fw fh a1 = 3 ∧ n_X5_latitudeAt_qg_11 gh a1 = 2) ∨ (k_X4_latitudeAt fw fh a1 = 0 ∧ n_X5_latitudeAt_qg_11 gh a1 = 0 ∧ s_X4_latitudeAt fw fh a1 = s_X5_latitudeAt gh a1) := by
  unfold k_X4_latitudeAt n_X5_latitudeAt_qg_11 s_X4_latitudeAt s_X5_latitudeAt n_X5_mayBoth_qg_11 s_X5_mayBoth s_X2_greatestNotAbove
  by_cases c1 : a1 < -99990
  · left; simp [c1]
  by_cases c2 : a1 ≤ 99990
  case neg =>
    have c3 : 99990 < a1 := by rw [Int32.lt_iff_toInt_lt]; rw [Int32.le_iff_toInt_le] at c2; omega
    left; simp [c1, c2, c3]
  have c3 : ¬ 99990 < a1 := by rw [Int32.lt_iff_toInt_lt]; rw [Int32.le_iff_toInt_le] at c2; omega
  right
  by_cases c4 : s_X5_high gh (-90) ≤ a1
  · have c5 : ¬ a1 < s_X5_high gh (-90) := by rw [Int32.lt_iff_toInt_lt]; rw [Int32.le_iff_toInt_le] at c4; omega
    have e := p_gna hT c4 180 0 rfl
    have l := p_la90 gh a1 180 0 rfl
    simp only [Nat.reduceAdd] at e
    right
    simp [c1, c2, c3, c5, e, l]
  · have c5 : a1 < s_X5_high gh (-90) := by rw [Int32.lt_iff_toInt_lt]; rw [Int32.le_iff_toInt_le] at c4; omega
    have e := p_gnb hT c4 181 0 rfl
    have l : ¬ (-90 : Int32) ≤ 90 - nI 181 := by decide
    left
    simp only [e, c1, c2, c3, c5, l, if_true, if_false]
    decide
theorem zx_latitudeAt_1 {fw fh gw gh : Nat → Int32} (hT : zTabI fw fh gw gh) (a1 : Int32) (fo : Nat → Int64) : s_X5_thrown (n_X5_latitudeAt_qg_11 gh a1) = s_L_latitudeAt fw fh a1 fo := by
  unfold s_X5_thrown s_L_latitudeAt
  rcases p_latAt hT a1 with ⟨h1, h2⟩ | ⟨h1, h2⟩ | ⟨h1, h2, -⟩ <;> simp [h1, h2]
theorem zx_latitudeAt_2 {fw fh gw gh : Nat → Int32} (hT : zTabI fw fh gw gh) (a1 : Int32) (fo : Nat → Int64) (c5 : s_L_latitudeAt fw fh a1 fo = 0) : (n_L_latitudeAt_qout fw fh a1 fo) (0 : Int32).toNatClampNeg = (s_X5_latitudeAt gh a1).toInt64 := by
  unfold s_L_latitudeAt at c5
  unfold n_L_latitudeAt_qout
  rcases p_latAt hT a1 with ⟨h1, h2⟩ | ⟨h1, h2⟩ | ⟨h1, h2, h3⟩
  · simp [h1] at c5
  · simp [h1] at c5
  · rw [if_pos h1, z_out0, h3]
