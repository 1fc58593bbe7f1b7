theorem p_ofI (x : Int32) : x.toInt64 = Int64.ofInt x.toInt := by
  rw [← Int32.toInt_toInt64, Int64.ofInt_toInt]
theorem p_TB {f : Nat → Int32} (hf : ∀ j : Nat, j < 10 → 0 ≤ (f j).toInt ∧ (f j).toInt ≤ 9999) {b t : Nat} (hb : b < 9) (ht : t ≤ 10) : (p_T f (10 * b + t)).toInt = (10 - (t : Int)) * (f b).toInt + (t : Int) * (f (b + 1)).toInt := by
  rw [p_TI hf (by omega)]
  by_cases h10 : t = 10
  · subst h10
    rw [if_pos (by omega), show (10 * b + 10) % 10 = 0 by omega, show (10 * b + 10) / 10 = b + 1 by omega]
    omega
  · rw [show (10 * b + t) % 10 = t by omega, show (10 * b + t) / 10 = b by omega]
    by_cases h0 : t = 0
    · subst h0
      simp
    · rw [if_neg h0]
/-- the band's area, as a number -/
def p_E (gw gh : Nat → Int32) (b : Nat) : Int := 36000 * ((gw b).toInt + (gw (b + 1)).toInt) * ((gh (b + 1)).toInt - (gh b).toInt)
theorem p_stepI (w0 w1 D : Int) (k : Int) : 360 * ((20 * (k + 1) - (k + 1) * (k + 1)) * w0 + (k + 1) * (k + 1) * w1) * D = 360 * ((20 * k - k * k) * w0 + k * k * w1) * D + 360 * (((10 - k) * w0 + k * w1) + ((10 - (k + 1)) * w0 + (k + 1) * w1)) * D := by
  grind
theorem p_hs {f : Nat → Int32} {m : Nat} (hm : m ≤ 90) : s_X5_high f (nI m) = p_T f m := by
  have e : (nI m).toInt = m := nI_toInt (by omega)
  rw [p_high f (by omega), if_pos (nI_pos' (by omega)), e]
  rfl
theorem p_ws {f : Nat → Int32} {m : Nat} (hm : m ≤ 90) : s_X5_wide f (nI m) = p_T f m := by
  have e : (nI m).toInt = m := nI_toInt (by omega)
  rw [p_wide f (by omega), e]
  rfl
theorem p_lpB {fw fh gw gh : Nat → Int32} (hT : zTabI fw fh gw gh) {b : Nat} (hb : b < 9) : ∀ k : Nat, k ≤ 10 → lp_X5_areaOf_6 gw gh (nI (10 * b)) 360 k = Int64.ofInt (360 * ((20 * (k : Int) - k * k) * (gw b).toInt + k * k * (gw (b + 1)).toInt) * ((gh (b + 1)).toInt - (gh b).toInt))
  | 0, _ => by simp [lp_X5_areaOf_6]
  | k + 1, hk => by
    have ih := p_lpB hT hb k (by omega)
    have hw : ∀ j : Nat, j < 10 → 0 ≤ (gw j).toInt ∧ (gw j).toInt ≤ 9999 := fun j hj => by
      have := p_rW hT j hj
      omega
    have w0 := p_TB hw hb (t := k) (by omega)
    have w1 := p_TB hw hb (t := k + 1) (by omega)
    have h0 := p_TB (p_rH hT) hb (t := k) (by omega)
    have h1 := p_TB (p_rH hT) hb (t := k + 1) (by omega)
    have bw0 := hw b (by omega)
    have bw1 := hw (b + 1) (by omega)
    have bh0 := p_rH hT b (by omega)
    have bh1 := p_rH hT (b + 1) (by omega)
    have hs := p_rS hT b (by omega)
    have r0 := p_T9 (p_rH hT) (p_r9 hT) (n := 10 * b + k) (by omega)
    have r1 := p_T9 (p_rH hT) (p_r9 hT) (n := 10 * b + (k + 1)) (by omega)
    have r9 := p_rH hT 9 (by omega)
    have q0 : 0 ≤ (p_T gw (10 * b + k)).toInt ∧ (p_T gw (10 * b + k)).toInt ≤ 99990 := by
      rw [w0]
      rcases (show k = 0 ∨ k = 1 ∨ k = 2 ∨ k = 3 ∨ k = 4 ∨ k = 5 ∨ k = 6 ∨ k = 7 ∨ k = 8 ∨ k = 9 by omega) with rfl | rfl | rfl | rfl | rfl | rfl | rfl | rfl | rfl | rfl <;> omega
    have q1 : 0 ≤ (p_T gw (10 * b + (k + 1))).toInt ∧ (p_T gw (10 * b + (k + 1))).toInt ≤ 99990 := by
      rw [w1]
      rcases (show k = 0 ∨ k = 1 ∨ k = 2 ∨ k = 3 ∨ k = 4 ∨ k = 5 ∨ k = 6 ∨ k = 7 ∨ k = 8 ∨ k = 9 by omega) with rfl | rfl | rfl | rfl | rfl | rfl | rfl | rfl | rfl | rfl <;> omega
    have eW : (p_T gw (10 * b + k) + p_T gw (10 * b + (k + 1))).toInt = (p_T gw (10 * b + k)).toInt + (p_T gw (10 * b + (k + 1))).toInt := z_addI (by omega) (by omega)
    have eH : (p_T gh (10 * b + (k + 1)) - p_T gh (10 * b + k)).toInt = (gh (b + 1)).toInt - (gh b).toInt := by
      rw [z_subI (by omega) (by omega), h1, h0]
      rcases (show k = 0 ∨ k = 1 ∨ k = 2 ∨ k = 3 ∨ k = 4 ∨ k = 5 ∨ k = 6 ∨ k = 7 ∨ k = 8 ∨ k = 9 by omega) with rfl | rfl | rfl | rfl | rfl | rfl | rfl | rfl | rfl | rfl <;> omega
    have ek : ((k + 1 : Nat) : Int) = (k : Int) + 1 := by omega
    rw [lp_X5_areaOf_6, ih, nI_add, nI_1, Nat.add_assoc, p_ws (by omega), p_ws (by omega), p_hs (by omega), p_hs (by omega), p_ofI, p_ofI, p_ofI, eW, eH, w0, w1, show (360 : Int32).toInt = 360 from rfl, ← Int64.ofInt_mul, ← Int64.ofInt_mul, ← Int64.ofInt_add, ek, p_stepI]
theorem p_band5 {fw fh gw gh : Nat → Int32} (hT : zTabI fw fh gw gh) {b : Nat} (hb : b < 9) : s_X5_bandOf gw gh (nI b) = Int64.ofInt (p_E gw gh b) := by
  have e : (10 : Int32) * nI b = nI (10 * b) := pk_mul 10 b
  have e2 : nI (10 * b) + 10 = nI (10 * b + 10) := nI_add (10 * b) 10
  unfold s_X5_bandOf s_X5_areaOf
  rw [e, e2, nI_toInt (by omega), nI_toInt (by omega), show (((10 * b + 10 : Nat) : Int) - ((10 * b : Nat) : Int)).toNat = 10 by omega, p_lpB hT hb 10 (by omega)]
  congr 1
  unfold p_E
  grind
theorem p_band2 {fw fh gw gh : Nat → Int32} (hT : zTabI fw fh gw gh) {b : Nat} (hb : b < 9) : s_X2_bandArea fw fh (nI b) = Int64.ofInt (p_E gw gh b) := by
  have bw0 := p_rW hT b (by omega)
  have bw1 := p_rW hT (b + 1) (by omega)
  have bh0 := p_rH hT b (by omega)
  have bh1 := p_rH hT (b + 1) (by omega)
  have eW : (gw b + gw (b + 1)).toInt = (gw b).toInt + (gw (b + 1)).toInt := z_addI (by omega) (by omega)
  have eH : (gh (b + 1) - gh b).toInt = (gh (b + 1)).toInt - (gh b).toInt := z_subI (by omega) (by omega)
  unfold s_X2_bandArea
  rw [nI_1, p_va fw (by omega), p_va fw (by omega), p_va fh (by omega), p_va fh (by omega), (hT.1 b (by omega)).1, (hT.1 b (by omega)).2, (hT.1 (b + 1) (by omega)).1, (hT.1 (b + 1) (by omega)).2, p_ofI, p_ofI, eW, eH, show (36000 : Int64) = Int64.ofInt 36000 from rfl, ← Int64.ofInt_mul, ← Int64.ofInt_mul]
  rfl
theorem p_Eb {fw fh gw gh : Nat → Int32} (hT : zTabI fw fh gw gh) {b : Nat} (hb : b < 9) : 0 ≤ p_E gw gh b ∧ p_E gw gh b ≤ 719928000000 := by
  have bw0 := p_rW hT b (by omega)
  have bw1 := p_rW hT (b + 1) (by omega)
  have bh0 := p_rH hT b (by omega)
  have bh1 := p_rH hT (b + 1) (by omega)
  have hs := p_rS hT b (by omega)
  unfold p_E
  constructor
  · exact Int.mul_nonneg (by omega) (by omega)
  · exact Int.mul_le_mul (show 36000 * ((gw b).toInt + (gw (b + 1)).toInt) ≤ 72000000 by omega) (show (gh (b + 1)).toInt - (gh b).toInt ≤ 9999 by omega) (by omega) (by omega)
theorem p_bm64 {x : Int} (h1 : -9223372036854775808 ≤ x) (h2 : x < 9223372036854775808) : (Int64.ofInt x).toInt = x := by
  rw [Int64.toInt_ofInt]
  show x.bmod 18446744073709551616 = x
  exact Int.bmod_eq_of_le (by omega) (by omega)
theorem p_prod {fw fh gw gh ft gt : Nat → Int32} (hT : zTabI fw fh gw gh) (hU : zTruI ft gt) {b j : Nat} (hb : b < 9) (hj : j < 9) : (Int64.ofInt (p_E gw gh b) * (gt j).toInt64).toInt = p_E gw gh b * (gt j).toInt := by
  have e := p_Eb hT hb
  have t := hU j hj
  rw [t.1] at t
  rw [p_ofI, ← Int64.ofInt_mul]
  have h1 : 0 ≤ p_E gw gh b * (gt j).toInt := Int.mul_nonneg e.1 (by omega)
  have h2 : p_E gw gh b * (gt j).toInt ≤ 719928000000 * 99999 := Int.mul_le_mul e.2 t.2.2 (by omega) (by omega)
  exact p_bm64 (by omega) (by omega)
theorem p_lc0 (x y : Int64) : lg_cmp x y = 0 ↔ x.toInt = y.toInt := by
  unfold lg_cmp
  simp only [gt_iff_lt, Int64.lt_iff_toInt_lt, ← Int64.toInt_inj]
  repeat' split
  all_goals (constructor <;> intro hh <;> first | omega | decide | exact absurd hh (by decide))
theorem p_cmp0 (x y : Int64) : s_J13_compare_74951 x y = 0 ↔ lg_cmp x y = 0 := by
  unfold s_J13_compare_74951
  by_cases h : 0 ≤ lg_cmp x y <;> by_cases h2 : lg_cmp x y = 0 <;> simp [h, h2]
theorem p_lc3 (x y : Int64) : lg_cmp x y = 1 ∨ lg_cmp x y = 0 ∨ lg_cmp x y = -1 := by
  unfold lg_cmp
  repeat' split
  all_goals simp
theorem p_cmpl (x y : Int64) : s_J13_compare_74951 x y ≤ 0 ↔ lg_cmp x y ≤ 0 := by
  unfold s_J13_compare_74951
  rcases p_lc3 x y with h | h | h <;> rw [h] <;> decide
theorem p_tro {ft gt : Nat → Int32} (hU : zTruI ft gt) {j : Nat} (hj : j < 9) : s_X0_truthOf ft (nI j) = gt j := by
  unfold s_X0_truthOf
  rw [if_neg (nI_pos (by omega)), if_neg (show ¬ (9 : Int32) ≤ nI j from nI_ge (b := 9) hj (by omega)), nI_clamp (by omega), (hU j hj).1]
theorem p_cb {fw fh gw gh ft gt : Nat → Int32} (hT : zTabI fw fh gw gh) (hU : zTruI ft gt) {i j : Nat} (hi : i < 9) (hj : j < 9) : s_X0_compareBands ft fw fh (nI i) (nI j) = s_J13_compare_74951 (s_X5_bandOf gw gh (nI i) * (gt j).toInt64) (s_X5_bandOf gw gh (nI j) * (gt i).toInt64) := by
  unfold s_X0_compareBands
  rw [p_band2 hT hi, p_band2 hT hj, p_band5 hT hi, p_band5 hT hj, p_tro hU hi, p_tro hU hj]
theorem p_cb0 {fw fh gw gh ft gt : Nat → Int32} (hT : zTabI fw fh gw gh) (hU : zTruI ft gt) {i : Nat} (hi : i < 9) : s_X0_compareBands ft fw fh (nI i) 0 = s_J13_compare_74951 (s_X5_bandOf gw gh (nI i) * (gt 0).toInt64) (s_X5_bandOf gw gh (nI 0) * (gt i).toInt64) := p_cb hT hU hi (j := 0) (by omega)
theorem zx_keepsAreas_1 {fw fh gw gh ft gt : Nat → Int32} (hT : zTabI fw fh gw gh) (hU : zTruI ft gt) : s_X4_keepsAreas ft fw fh = s_X5_keepsAreas gw gh gt := by
  have key : (∀ j : Nat, j < 8 → s_X0_compareBands ft fw fh (nI (j + 1)) 0 = 0) ↔ (∀ i : Nat, i < 8 → ∀ j : Nat, j < i + 1 → lg_cmp ((s_X5_bandOf gw gh (nI (i + 1))) * (gt (nI j).toNatClampNeg).toInt64) ((s_X5_bandOf gw gh (nI j)) * (gt (nI (i + 1)).toNatClampNeg).toInt64) = 0) := by
    constructor
    · intro h i hi j hj
      have a : ∀ q : Nat, q < 9 → p_E gw gh q * (gt 0).toInt = p_E gw gh 0 * (gt q).toInt := by
        intro q hq
        by_cases c : q = 0
        · subst c
          rfl
        · obtain ⟨r, rfl⟩ : ∃ r, q = r + 1 := ⟨q - 1, by omega⟩
          have hh := h r (by omega)
          rw [p_cb0 hT hU hq, p_cmp0, p_lc0, p_band5 hT hq, p_band5 hT (by omega), p_prod hT hU hq (by omega), p_prod hT hU (by omega) hq] at hh
          exact hh
      have a1 := a (i + 1) (by omega)
      have a2 := a j (by omega)
      have t0 := hU 0 (by omega)
      rw [t0.1] at t0
      rw [p_lc0, nI_clamp (by omega), nI_clamp (by omega), p_band5 hT (by omega), p_band5 hT (by omega), p_prod hT hU (by omega) (by omega), p_prod hT hU (by omega) (by omega)]
      refine Int.eq_of_mul_eq_mul_right (a := (gt 0).toInt) (by omega) ?_
      calc p_E gw gh (i + 1) * (gt j).toInt * (gt 0).toInt = p_E gw gh (i + 1) * (gt 0).toInt * (gt j).toInt := by grind
        _ = p_E gw gh 0 * (gt (i + 1)).toInt * (gt j).toInt := by rw [a1]
        _ = p_E gw gh 0 * (gt j).toInt * (gt (i + 1)).toInt := by grind
        _ = p_E gw gh j * (gt 0).toInt * (gt (i + 1)).toInt := by rw [a2]
        _ = p_E gw gh j * (gt (i + 1)).toInt * (gt 0).toInt := by grind
    · intro h j hj
      have hh := h j hj 0 (by omega)
      rw [p_cb0 hT hU (by omega), p_cmp0]
      rw [nI_clamp (by omega), nI_clamp (by omega)] at hh
      exact hh
  unfold s_X4_keepsAreas s_X0_areAllAlike s_X5_keepsAreas
  by_cases c : (∀ j : Nat, j < 8 → s_X0_compareBands ft fw fh (nI (j + 1)) 0 = 0)
  · rw [if_pos c, if_pos (key.mp c)]
  · rw [if_neg c, if_neg (fun q => c (key.mpr q))]
theorem p_wid {fw fh gw gh ft gt : Nat → Int32} (hT : zTabI fw fh gw gh) (hU : zTruI ft gt) : ∀ k : Nat, k ≤ 8 → lp_X0_greatest_4 ft fw fh k = lp_X5_widest_9 gw gh gt k
  | 0, _ => rfl
  | k + 1, hk => by
    have ih := p_wid hT hU k (by omega)
    obtain ⟨j, hj, e⟩ := z_wb gw gh gt k (by omega)
    rw [lp_X0_greatest_4, lp_X5_widest_9, ih, e, p_cb hT hU (by omega) (by omega), nI_clamp (by omega), nI_clamp (by omega)]
    by_cases c : lg_cmp (s_X5_bandOf gw gh (nI (k + 1)) * (gt j).toInt64) (s_X5_bandOf gw gh (nI j) * (gt (k + 1)).toInt64) ≤ 0
    · rw [if_pos c, if_pos ((p_cmpl _ _).mpr c)]
    · rw [if_neg c, if_neg (fun q => c ((p_cmpl _ _).mp q))]
theorem zx_widest_1 {fw fh gw gh ft gt : Nat → Int32} (hT : zTabI fw fh gw gh) (hU : zTruI ft gt) : s_X4_widest ft fw fh = s_X5_widest gw gh gt := p_wid hT hU 8 (by omega)
