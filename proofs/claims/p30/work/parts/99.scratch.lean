theorem z_n1 {p : Prop} [Decidable p] {x : Int32} (h : ¬ (if p then 0 else x) = 0) : ¬ p := fun hp => h (if_pos hp)
theorem z_n2 {p : Prop} [Decidable p] {x : Int32} (h : ¬ (if p then 0 else x) = 0) : ¬ x = 0 := fun hx => by
  by_cases hp : p
  · exact h (if_pos hp)
  · exact h ((if_neg hp).trans hx)
theorem l_us (v : Int32) : ∃ a : Nat, a < 2 ^ 30 ∧ zus v 2 = nI a := by
  have h := pk_ushr v 2 2 (by decide)
  have hl := v.toBitVec.isLt
  refine ⟨v.toBitVec.toNat / 2 ^ 2, by omega, ?_⟩
  apply Int32.toBitVec_inj.mp
  apply BitVec.eq_of_toNat_eq
  rw [pk_tn (by omega)]
  exact h
theorem l_some (v : Int32) {n : Int32} (m : Nat) (hn : n = nI m) (h0 : 0 < m) (hm : m < 2 ^ 31) : ∃ j : Nat, j < m ∧ s_L_some v n = nI j := by
  obtain ⟨a, ha, e⟩ := l_us v
  refine ⟨a % m, Nat.mod_lt _ h0, ?_⟩
  unfold s_L_some
  rw [e, hn, pk_rem (by omega) h0 hm]
theorem l_off (v : Int32) {n c : Int32} (m q : Nat) (hn : n = nI m) (hc : c = nI q) (h0 : 0 < m) (hm : m < 2 ^ 20) (hq : q < 2 ^ 20) : -(q : Int) ≤ (s_L_some v n - c).toInt ∧ (s_L_some v n - c).toInt < (m : Int) - q := by
  obtain ⟨j, hj, e⟩ := l_some v m hn h0 (by omega)
  rw [e, hc, pk_sub_toInt (by omega) (by omega)]
  omega
theorem l_b (v : Int32) {n : Int32} (m : Nat) (hn : n = nI m) (h0 : 0 < m) (hm : m < 2 ^ 31) : 0 ≤ (s_L_some v n).toInt ∧ (s_L_some v n).toInt < (m : Int) := by
  obtain ⟨j, hj, e⟩ := l_some v m hn h0 hm
  rw [e, nI_toInt (by omega)]
  omega

/-- the class's table: in its ranges, its heights rising from 0 -/
def zTb (fw fh : Nat → Int32) : Prop := (∀ j : Nat, j < 10 → 0 ≤ (fw j).toInt ∧ (fw j).toInt ≤ 1000 ∧ 0 ≤ (fh j).toInt ∧ (fh j).toInt ≤ 9999) ∧ fh 0 = 0 ∧ ∀ j : Nat, j < 9 → (fh j).toInt < (fh (j + 1)).toInt
def zTr (ft : Nat → Int32) : Prop := ∀ j : Nat, j < 9 → 1 ≤ (ft j).toInt ∧ (ft j).toInt ≤ 99999
theorem zTb.w {fw fh : Nat → Int32} (h : zTb fw fh) : ∀ j : Nat, j < 10 → 0 ≤ (fw j).toInt ∧ (fw j).toInt ≤ 9999 := fun j hj => by
  have := h.1 j hj
  omega
theorem zTb.h {fw fh : Nat → Int32} (h : zTb fw fh) : ∀ j : Nat, j < 10 → 0 ≤ (fh j).toInt ∧ (fh j).toInt ≤ 9999 := fun j hj => by
  have := h.1 j hj
  omega
theorem p_ofI (x : Int32) : x.toInt64 = Int64.ofInt x.toInt := by
  rw [← Int32.toInt_toInt64, Int64.ofInt_toInt]
theorem p_TB {f : Nat → Int32} (hf : ∀ j : Nat, j < 10 → 0 ≤ (f j).toInt ∧ (f j).toInt ≤ 9999) {b t : Nat} (hb : b < 9) (ht : t ≤ 10) : (p_T f (10 * b + t)).toInt = (10 - (t : Int)) * (f b).toInt + (t : Int) * (f (b + 1)).toInt := by
  rw [p_TI hf (by omega)]
  by_cases h10 : t = 10
  · subst h10
    rw [if_pos (by omega), show (10 * b + 10) % 10 = 0 by omega, show (10 * b + 10) / 10 = b + 1 by omega]
    omega
  · rw [show (10 * b + t) % 10 = t by omega, show (10 * b + t) / 10 = b by omega]
    by_cases h0 : t = 0
    · subst h0
      simp
    · rw [if_neg h0]
/-- the band's area, as a number -/
def p_E (fw fh : Nat → Int32) (b : Nat) : Int := 36000 * ((fw b).toInt + (fw (b + 1)).toInt) * ((fh (b + 1)).toInt - (fh b).toInt)
theorem p_stepL (w0 w1 D : Int) (k : Int) : 360 * ((20 * k - k * k) * w0 + k * k * w1) * D + 360 * ((((10 - k) * w0 + k * w1) + ((10 - (k + 1)) * w0 + (k + 1) * w1)) * D) = 360 * ((20 * (k + 1) - (k + 1) * (k + 1)) * w0 + (k + 1) * (k + 1) * w1) * D := by
  grind
theorem p_hs {fw f : Nat → Int32} {m : Nat} (hm : m ≤ 90) : s_X2_tenHeights fw f (nI m) = p_T f m := by
  have e : (nI m).toInt = m := nI_toInt (by omega)
  rw [p_th fw f (by omega), if_pos (nI_pos' (by omega)), e]
  rfl
theorem p_ws {f fh : Nat → Int32} {m : Nat} (hm : m ≤ 90) : s_X2_tenWidths f fh (nI m) = p_T f m := by
  have e : (nI m).toInt = m := nI_toInt (by omega)
  rw [p_tw f fh (by omega), e]
  rfl
theorem p_lpB {fw fh : Nat → Int32} {no : Int32} (hT : zTb fw fh) {b : Nat} (hb : b < 9) : ∀ k : Nat, k ≤ 10 → lp_X2_fieldArea_6 fw fh (nI (10 * b)) no 360 k = Int64.ofInt (360 * ((20 * (k : Int) - k * k) * (fw b).toInt + k * k * (fw (b + 1)).toInt) * ((fh (b + 1)).toInt - (fh b).toInt))
  | 0, _ => by simp [lp_X2_fieldArea_6]
  | k + 1, hk => by
    have ih := p_lpB (no := no) hT hb k (by omega)
    have w0 := p_TB hT.w hb (t := k) (by omega)
    have w1 := p_TB hT.w hb (t := k + 1) (by omega)
    have h0 := p_TB hT.h hb (t := k) (by omega)
    have h1 := p_TB hT.h hb (t := k + 1) (by omega)
    have bw0 := hT.w b (by omega)
    have bw1 := hT.w (b + 1) (by omega)
    have bh0 := hT.h b (by omega)
    have bh1 := hT.h (b + 1) (by omega)
    have hs := hT.2.2 b (by omega)
    have q0 : 0 ≤ (p_T fw (10 * b + k)).toInt ∧ (p_T fw (10 * b + k)).toInt ≤ 99990 := by
      rw [w0]
      rcases (show k = 0 ∨ k = 1 ∨ k = 2 ∨ k = 3 ∨ k = 4 ∨ k = 5 ∨ k = 6 ∨ k = 7 ∨ k = 8 ∨ k = 9 by omega) with rfl | rfl | rfl | rfl | rfl | rfl | rfl | rfl | rfl | rfl <;> omega
    have q1 : 0 ≤ (p_T fw (10 * b + (k + 1))).toInt ∧ (p_T fw (10 * b + (k + 1))).toInt ≤ 99990 := by
      rw [w1]
      rcases (show k = 0 ∨ k = 1 ∨ k = 2 ∨ k = 3 ∨ k = 4 ∨ k = 5 ∨ k = 6 ∨ k = 7 ∨ k = 8 ∨ k = 9 by omega) with rfl | rfl | rfl | rfl | rfl | rfl | rfl | rfl | rfl | rfl <;> omega
    have r0 : 0 ≤ (p_T fh (10 * b + k)).toInt ∧ (p_T fh (10 * b + k)).toInt ≤ 99990 := by
      rw [h0]
      rcases (show k = 0 ∨ k = 1 ∨ k = 2 ∨ k = 3 ∨ k = 4 ∨ k = 5 ∨ k = 6 ∨ k = 7 ∨ k = 8 ∨ k = 9 by omega) with rfl | rfl | rfl | rfl | rfl | rfl | rfl | rfl | rfl | rfl <;> omega
    have r1 : 0 ≤ (p_T fh (10 * b + (k + 1))).toInt ∧ (p_T fh (10 * b + (k + 1))).toInt ≤ 99990 := by
      rw [h1]
      rcases (show k = 0 ∨ k = 1 ∨ k = 2 ∨ k = 3 ∨ k = 4 ∨ k = 5 ∨ k = 6 ∨ k = 7 ∨ k = 8 ∨ k = 9 by omega) with rfl | rfl | rfl | rfl | rfl | rfl | rfl | rfl | rfl | rfl <;> omega
    have eW : (p_T fw (10 * b + k) + p_T fw (10 * b + (k + 1))).toInt = (p_T fw (10 * b + k)).toInt + (p_T fw (10 * b + (k + 1))).toInt := z_addI (by omega) (by omega)
    have eH : (p_T fh (10 * b + (k + 1)) - p_T fh (10 * b + k)).toInt = (fh (b + 1)).toInt - (fh b).toInt := by
      rw [z_subI (by omega) (by omega), h1, h0]
      rcases (show k = 0 ∨ k = 1 ∨ k = 2 ∨ k = 3 ∨ k = 4 ∨ k = 5 ∨ k = 6 ∨ k = 7 ∨ k = 8 ∨ k = 9 by omega) with rfl | rfl | rfl | rfl | rfl | rfl | rfl | rfl | rfl | rfl <;> omega
    have ek : ((k + 1 : Nat) : Int) = (k : Int) + 1 := by omega
    have e360 : (360 : Int32).toInt64 = Int64.ofInt 360 := rfl
    rw [lp_X2_fieldArea_6, ih]
    unfold s_X2_cellArea
    rw [nI_add, nI_1, Nat.add_assoc, p_ws (by omega), p_ws (by omega), p_hs (by omega), p_hs (by omega), p_ofI (_ + _), p_ofI (_ - _), e360, eW, eH, w0, w1, ← Int64.ofInt_mul, ← Int64.ofInt_mul, ← Int64.ofInt_add, ek, p_stepL]
theorem p_la {fw fh : Nat → Int32} (hT : zTb fw fh) {b : Nat} (hb : b < 9) : s_L_area fw fh (10 * nI b) (10 * nI b + 10) 360 = Int64.ofInt (p_E fw fh b) := by
  have e : (10 : Int32) * nI b = nI (10 * b) := pk_mul 10 b
  have e2 : nI (10 * b) + 10 = nI (10 * b + 10) := nI_add (10 * b) 10
  unfold s_L_area s_X2_fieldArea
  rw [e, e2, nI_toInt (by omega), nI_toInt (by omega), show (((10 * b + 10 : Nat) : Int) - ((10 * b : Nat) : Int)).toNat = 10 by omega, p_lpB hT hb 10 (by omega)]
  congr 1
  unfold p_E
  grind
theorem p_la0 {fw fh : Nat → Int32} (hT : zTb fw fh) : s_L_area fw fh 0 10 360 = Int64.ofInt (p_E fw fh 0) := p_la hT (b := 0) (by omega)
theorem p_va (f : Nat → Int32) {j : Nat} (h : j < 10) : s_X2_valueAt f (nI j) = f j := by
  unfold s_X2_valueAt
  rw [if_neg (nI_pos (by omega)), if_neg (show ¬ (10 : Int32) ≤ nI j from nI_ge (b := 10) h (by omega)), nI_clamp (by omega)]
theorem p_band2 {fw fh : Nat → Int32} (hT : zTb fw fh) {b : Nat} (hb : b < 9) : s_X2_bandArea fw fh (nI b) = Int64.ofInt (p_E fw fh b) := by
  have bw0 := hT.w b (by omega)
  have bw1 := hT.w (b + 1) (by omega)
  have bh0 := hT.h b (by omega)
  have bh1 := hT.h (b + 1) (by omega)
  have eW : (fw b + fw (b + 1)).toInt = (fw b).toInt + (fw (b + 1)).toInt := z_addI (by omega) (by omega)
  have eH : (fh (b + 1) - fh b).toInt = (fh (b + 1)).toInt - (fh b).toInt := z_subI (by omega) (by omega)
  unfold s_X2_bandArea
  rw [nI_1, p_va fw (by omega), p_va fw (by omega), p_va fh (by omega), p_va fh (by omega), p_ofI (_ + _), p_ofI (_ - _), eW, eH, show (36000 : Int64) = Int64.ofInt 36000 from rfl, ← Int64.ofInt_mul, ← Int64.ofInt_mul]
  rfl
theorem p_tro {ft : Nat → Int32} {j : Nat} (hj : j < 9) : s_X0_truthOf ft (nI j) = ft j := by
  unfold s_X0_truthOf
  rw [if_neg (nI_pos (by omega)), if_neg (show ¬ (9 : Int32) ≤ nI j from nI_ge (b := 9) hj (by omega)), nI_clamp (by omega)]
theorem bd_rb {j : Nat} (hj : j < 9) : k_X4_requireBand (nI j) = 0 := by
  unfold k_X4_requireBand
  rw [if_neg (nI_pos (by omega)), if_pos (Int32.not_le.mp (show ¬ (9 : Int32) ≤ nI j from nI_ge (b := 9) hj (by omega)))]
theorem bd_str {ft fw fh : Nat → Int32} (hT : zTb fw fh) {k : Nat} (hk : k < 9) : s_L_stretch ft fw fh (nI k) = FP.fdiv (FP.l2f (Int64.ofInt (p_E fw fh k))) (FP.i2f (ft k)) := by
  unfold s_L_stretch k_X4_stretch s_X4_stretch s_X0_areaByTruth
  rw [bd_rb hk, p_band2 hT hk, p_tro hk]
  rfl
theorem bd_feq (a : Int64) (b : Int32) (h : ¬ b = 0) : FP.fcmp (FP.fdiv (FP.l2f a) (FP.i2f b)) (FP.fdiv (FP.l2f a) (FP.i2f b)) = some .eq := by
  refine FP.Core.fcmp_self (fun e => ?_)
  have h1 : FP.fIsNaN (FP.fdiv (FP.l2f a) (FP.i2f b)) = false := z_fnan a b h
  have h2 : FP.Core.fIsNaN (FP.fdiv (FP.l2f a) (FP.i2f b)) = true := (FP.Core.fIsNaN_iff _).mpr e
  exact absurd (h1.symm.trans h2) (by decide)
theorem xbd_dead {ft fw fh : Nat → Int32} (hTb : zTb fw fh) (htr : ∀ j : Nat, j < 9 → ¬ ft j = 0) {k : Nat} (hk : k < 9) : Op.cmpValue (FP.fcmp (s_L_stretch ft fw fh (nI k)) (FP.fdiv (FP.l2f (s_L_area fw fh (10 * (nI k)) ((10 * (nI k)) + 10) 360)) (FP.i2f (ft (nI k).toNatClampNeg)))) CmpOp.l = 0 := by
  rw [bd_str hTb hk, p_la hTb hk, nI_clamp (by omega), bd_feq _ _ (htr k hk)]
  rfl

theorem xbd_best (ft fw fh : Nat → Int32) : ∀ k : Nat, k < 9 → vp_in (lp_L_bands_7 ft fw fh k).2 9
  | 0, _ => vp_in_nI (n := 0) (by decide) (by decide)
  | k + 1, hk => by
    have ih := xbd_best ft fw fh k (by omega)
    show vp_in (v_L_bands_128 ft fw fh ((lp_L_bands_7 ft fw fh k).2) k) 9
    unfold v_L_bands_128
    split
    · exact ih
    · exact bd_k (by omega)

theorem p_Eb {fw fh : Nat → Int32} (hT : zTb fw fh) {b : Nat} (hb : b < 9) : 0 ≤ p_E fw fh b ∧ p_E fw fh b ≤ 719928000000 := by
  have bw0 := hT.1 b (by omega)
  have bw1 := hT.1 (b + 1) (by omega)
  have hs := hT.2.2 b (by omega)
  unfold p_E
  constructor
  · exact Int.mul_nonneg (by omega) (by omega)
  · exact Int.mul_le_mul (show 36000 * ((fw b).toInt + (fw (b + 1)).toInt) ≤ 72000000 by omega) (show (fh (b + 1)).toInt - (fh b).toInt ≤ 9999 by omega) (by omega) (by omega)
theorem p_bm64 {x : Int} (h1 : -9223372036854775808 ≤ x) (h2 : x < 9223372036854775808) : (Int64.ofInt x).toInt = x := by
  rw [Int64.toInt_ofInt]
  show x.bmod 18446744073709551616 = x
  exact Int.bmod_eq_of_le (by omega) (by omega)
theorem p_prod {fw fh ft : Nat → Int32} (hT : zTb fw fh) (hU : zTr ft) {b j : Nat} (hb : b < 9) (hj : j < 9) : (Int64.ofInt (p_E fw fh b) * (ft j).toInt64).toInt = p_E fw fh b * (ft j).toInt := by
  have e := p_Eb hT hb
  have t := hU j hj
  rw [p_ofI, ← Int64.ofInt_mul]
  have h1 : 0 ≤ p_E fw fh b * (ft j).toInt := Int.mul_nonneg e.1 (by omega)
  have h2 : p_E fw fh b * (ft j).toInt ≤ 719928000000 * 99999 := Int.mul_le_mul e.2 t.2 (by omega) (by omega)
  exact p_bm64 (by omega) (by omega)
theorem p_lc0 (x y : Int64) : lg_cmp x y = 0 ↔ x.toInt = y.toInt := by
  unfold lg_cmp
  simp only [gt_iff_lt, Int64.lt_iff_toInt_lt, ← Int64.toInt_inj]
  repeat' split
  all_goals (constructor <;> intro hh <;> first | omega | decide | exact absurd hh (by decide))
theorem p_cmp0 (x y : Int64) : s_J13_compare_74951 x y = 0 ↔ lg_cmp x y = 0 := by
  unfold s_J13_compare_74951
  by_cases h : 0 ≤ lg_cmp x y <;> by_cases h2 : lg_cmp x y = 0 <;> simp [h, h2]
theorem p_lc3 (x y : Int64) : lg_cmp x y = 1 ∨ lg_cmp x y = 0 ∨ lg_cmp x y = -1 := by
  unfold lg_cmp
  repeat' split
  all_goals simp
theorem p_cmpl (x y : Int64) : s_J13_compare_74951 x y ≤ 0 ↔ lg_cmp x y ≤ 0 := by
  unfold s_J13_compare_74951
  rcases p_lc3 x y with h | h | h <;> rw [h] <;> decide
theorem p_cb {fw fh ft : Nat → Int32} (hT : zTb fw fh) {i j : Nat} (hi : i < 9) (hj : j < 9) : s_X0_compareBands ft fw fh (nI i) (nI j) = s_J13_compare_74951 (Int64.ofInt (p_E fw fh i) * (ft j).toInt64) (Int64.ofInt (p_E fw fh j) * (ft i).toInt64) := by
  unfold s_X0_compareBands
  rw [p_band2 hT hi, p_band2 hT hj, p_tro hi, p_tro hj]
/-- two bands alike -/
abbrev bd_al (fw fh ft : Nat → Int32) (i j : Nat) : Prop := lg_cmp (Int64.ofInt (p_E fw fh i) * (ft j).toInt64) (Int64.ofInt (p_E fw fh j) * (ft i).toInt64) = 0
theorem bd_alI {fw fh ft : Nat → Int32} (hT : zTb fw fh) (hU : zTr ft) {i j : Nat} (hi : i < 9) (hj : j < 9) : bd_al fw fh ft i j ↔ p_E fw fh i * (ft j).toInt = p_E fw fh j * (ft i).toInt := by
  unfold bd_al
  rw [p_lc0, p_prod hT hU hi hj, p_prod hT hU hj hi]
theorem bd_all {fw fh ft : Nat → Int32} (hT : zTb fw fh) (hU : zTr ft) (h : ∀ q : Nat, q < 9 → bd_al fw fh ft q 0) {i j : Nat} (hi : i < 9) (hj : j < 9) : bd_al fw fh ft i j := by
  have a1 := (bd_alI hT hU hi (by omega)).mp (h i hi)
  have a2 := (bd_alI hT hU hj (by omega)).mp (h j hj)
  have t0 := hU 0 (by omega)
  rw [bd_alI hT hU hi hj]
  refine Int.eq_of_mul_eq_mul_right (a := (ft 0).toInt) (by omega) ?_
  calc p_E fw fh i * (ft j).toInt * (ft 0).toInt = p_E fw fh i * (ft 0).toInt * (ft j).toInt := by grind
    _ = p_E fw fh 0 * (ft i).toInt * (ft j).toInt := by rw [a1]
    _ = p_E fw fh 0 * (ft j).toInt * (ft i).toInt := by grind
    _ = p_E fw fh j * (ft 0).toInt * (ft i).toInt := by rw [a2]
    _ = p_E fw fh j * (ft i).toInt * (ft 0).toInt := by grind
theorem bd_80 {ft fw fh : Nat → Int32} (hT : zTb fw fh) (a : Int32) {k : Nat} (hk : k < 9) : v_L_bands_80 ft fw fh a k = if a = 0 then 0 else (if lg_cmp (Int64.ofInt (p_E fw fh k) * (ft 0).toInt64) (Int64.ofInt (p_E fw fh 0) * (ft k).toInt64) = 0 then 1 else 0) := by
  unfold v_L_bands_80 v_L_bands_34
  rw [p_la hT hk, p_la0 hT, nI_clamp (by omega)]
theorem bd_250 {ft fw fh : Nat → Int32} (hT : zTb fw fh) (a : Int32) {j k : Nat} (hk : k < 9) (hj : j < 9) : v_L_bands_250 ft fw fh a j k = if a = 0 then 0 else (if lg_cmp (Int64.ofInt (p_E fw fh k) * (ft j).toInt64) (Int64.ofInt (p_E fw fh j) * (ft k).toInt64) = 0 then 1 else 0) := by
  unfold v_L_bands_250
  rw [p_la hT hk, p_la hT hj, nI_clamp (by omega), nI_clamp (by omega)]
theorem bd_71 {ft fw fh : Nat → Int32} (hT : zTb fw fh) (h : ∀ q : Nat, q < 9 → bd_al fw fh ft q 0) : ∀ k : Nat, k ≤ 9 → (lp_L_bands_7 ft fw fh k).1 = 1
  | 0, _ => rfl
  | k + 1, hk => by
    show v_L_bands_80 ft fw fh ((lp_L_bands_7 ft fw fh k).1) k = 1
    rw [bd_71 hT h k (by omega), bd_80 hT _ (by omega), if_neg (by decide), if_pos (h k (by omega))]
theorem bd_70 {ft fw fh : Nat → Int32} (hT : zTb fw fh) {q : Nat} (h : ¬ bd_al fw fh ft q 0) : ∀ k : Nat, k ≤ 9 → q < k → (lp_L_bands_7 ft fw fh k).1 = 0
  | 0, _, hq => absurd hq (by omega)
  | k + 1, hk, hq => by
    show v_L_bands_80 ft fw fh ((lp_L_bands_7 ft fw fh k).1) k = 0
    rw [bd_80 hT _ (by omega)]
    by_cases c : q < k
    · rw [if_pos (bd_70 hT h k (by omega) c)]
    · have e : q = k := by omega
      subst e
      by_cases c2 : (lp_L_bands_7 ft fw fh q).1 = 0
      · rw [if_pos c2]
      · rw [if_neg c2, if_neg h]
theorem bd_172 {ft fw fh : Nat → Int32} (hT : zTb fw fh) {k : Nat} (hk : k < 9) : ∀ j : Nat, j ≤ k → lp_L_bands_172 ft fw fh k 0 j = 0 ∧ ((∀ q : Nat, q < k → bd_al fw fh ft k q) → lp_L_bands_172 ft fw fh k 1 j = 1)
  | 0, _ => ⟨rfl, fun _ => rfl⟩
  | j + 1, hj => by
    have ih := bd_172 (ft := ft) hT hk j (by omega)
    constructor
    · show v_L_bands_250 ft fw fh (lp_L_bands_172 ft fw fh k 0 j) j k = 0
      rw [ih.1, bd_250 hT _ hk (by omega), if_pos rfl]
    · intro h
      show v_L_bands_250 ft fw fh (lp_L_bands_172 ft fw fh k 1 j) j k = 1
      rw [ih.2 h, bd_250 hT _ hk (by omega), if_neg (by decide), if_pos (h j (by omega))]
theorem bd_1621 {ft fw fh : Nat → Int32} (hT : zTb fw fh) (hU : zTr ft) (h : ∀ q : Nat, q < 9 → bd_al fw fh ft q 0) : ∀ k : Nat, k ≤ 9 → lp_L_bands_162 ft fw fh k = 1
  | 0, _ => bd_71 hT h 9 (by omega)
  | k + 1, hk => by
    show lp_L_bands_172 ft fw fh k (lp_L_bands_162 ft fw fh k) k = 1
    rw [bd_1621 hT hU h k (by omega)]
    exact (bd_172 hT (by omega) k (Nat.le_refl k)).2 (fun q hq => bd_all hT hU h (by omega) (by omega))
theorem bd_1620 {ft fw fh : Nat → Int32} (hT : zTb fw fh) {q : Nat} (hq : q < 9) (h : ¬ bd_al fw fh ft q 0) : ∀ k : Nat, k ≤ 9 → lp_L_bands_162 ft fw fh k = 0
  | 0, _ => bd_70 hT h 9 (by omega) hq
  | k + 1, hk => by
    show lp_L_bands_172 ft fw fh k (lp_L_bands_162 ft fw fh k) k = 0
    rw [bd_1620 hT hq h k (by omega)]
    exact (bd_172 hT (by omega) k (Nat.le_refl k)).1
theorem bd_keeps {ft fw fh : Nat → Int32} (hT : zTb fw fh) (hU : zTr ft) : s_X4_keepsAreas ft fw fh = lp_L_bands_162 ft fw fh 9 := by
  unfold s_X4_keepsAreas s_X0_areAllAlike
  have hc : ∀ j : Nat, j < 8 → (s_X0_compareBands ft fw fh (nI (j + 1)) 0 = 0 ↔ bd_al fw fh ft (j + 1) 0) := fun j hj => by
    rw [show (0 : Int32) = nI 0 from rfl, p_cb hT (by omega) (by omega), show nI 0 = (0 : Int32) from rfl, p_cmp0]
  by_cases c : (∀ j : Nat, j < 8 → s_X0_compareBands ft fw fh (nI (j + 1)) 0 = 0)
  · rw [if_pos c]
    have h : ∀ q : Nat, q < 9 → bd_al fw fh ft q 0 := by
      intro q hq
      by_cases e : q = 0
      · subst e
        rw [bd_alI hT hU hq hq]
      · obtain ⟨r, rfl⟩ : ∃ r, q = r + 1 := ⟨q - 1, by omega⟩
        exact (hc r (by omega)).mp (c r (by omega))
    exact (bd_1621 hT hU h 9 (by omega)).symm
  · rw [if_neg c]
    obtain ⟨j, hj⟩ := Classical.not_forall.mp c
    obtain ⟨hj8, hj⟩ := Classical.not_imp.mp hj
    exact (bd_1620 hT (by omega) (fun q => hj ((hc j hj8).mpr q)) 9 (by omega)).symm
theorem bd_wid {ft fw fh : Nat → Int32} (hT : zTb fw fh) : ∀ k : Nat, k ≤ 8 → (lp_L_bands_7 ft fw fh (k + 1)).2 = lp_X0_greatest_4 ft fw fh k
  | 0, _ => by
    show v_L_bands_128 ft fw fh 0 0 = 0
    unfold v_L_bands_128
    split
    · rfl
    · rfl
  | k + 1, hk => by
    have ih := bd_wid (ft := ft) hT k (by omega)
    obtain ⟨j, hj, e⟩ := vp_in_of (xbd_best ft fw fh (k + 1) (by omega)) (by omega)
    show v_L_bands_128 ft fw fh ((lp_L_bands_7 ft fw fh (k + 1)).2) (k + 1) = _
    rw [lp_X0_greatest_4, ← ih, e, p_cb hT (by omega) hj]
    unfold v_L_bands_128 v_L_bands_34
    rw [p_la hT (by omega), p_la hT hj, nI_clamp (by omega), nI_clamp (by omega)]
    by_cases c : lg_cmp (Int64.ofInt (p_E fw fh (k + 1)) * (ft j).toInt64) (Int64.ofInt (p_E fw fh j) * (ft (k + 1)).toInt64) ≤ 0
    · rw [if_pos c, if_pos ((p_cmpl _ _).mpr c)]
    · rw [if_neg c, if_neg (fun q => c ((p_cmpl _ _).mp q))]
theorem bands_ok {ft fw fh : Nat → Int32} (hT : zTb fw fh) (hU : zTr ft) : s_L_bands ft fw fh = 1 := by
  unfold s_L_bands
  have e : s_X4_widest ft fw fh = lp_X0_greatest_4 ft fw fh 8 := by
    unfold s_X4_widest s_X0_greatest
    rfl
  have e9 := bd_wid (ft := ft) hT 8 (by omega)
  rw [show 8 + 1 = 9 from rfl] at e9
  rw [if_pos (bd_keeps hT hU), if_pos (e.trans e9.symm)]
  have e1 : s_L_stretch ft fw fh 9 = (3212836864 : UInt32) := rfl
  have e2 : s_L_stretch ft fw fh (-1) = (3212836864 : UInt32) := rfl
  rw [e1, e2, if_pos (by decide +kernel), if_pos (by decide +kernel)]

theorem xmp_n (y : Int32) : -90 ≤ (v_L_maps_24 y).toInt ∧ (v_L_maps_24 y).toInt ≤ 91 := by
  unfold v_L_maps_24
  split
  · decide
  · have := l_off y (n := 181) (c := 90) 181 90 rfl rfl (by decide) (by decide) (by decide)
    omega
theorem mp_e (y : Int32) : -180 ≤ (v_L_maps_55 y).toInt ∧ (v_L_maps_55 y).toInt ≤ 180 := by
  unfold v_L_maps_55
  split
  · decide
  · have := l_off (y >>> ((5 : Int32) &&& 31)) (n := 360) (c := 180) 360 180 rfl rfl (by decide) (by decide) (by decide)
    omega
theorem xmp_isn {y : Int32} (h : ¬ v_L_maps_68 y = 0) : -90 ≤ (v_L_maps_24 y).toInt ∧ (v_L_maps_24 y).toInt ≤ 90 := by
  have h1 := xmp_n y
  unfold v_L_maps_68 at h
  have h2 := z_n1 h
  rw [Int32.le_iff_toInt_le, show (91 : Int32).toInt = 91 from rfl] at h2
  omega
theorem xmp_fine {y : Int32} (h : ¬ v_L_maps_88 y = 0) : -90 ≤ (v_L_maps_24 y).toInt ∧ (v_L_maps_24 y).toInt ≤ 90 := by
  unfold v_L_maps_88 at h
  exact xmp_isn (z_n1 h)
theorem mp_t {k : Nat} (h : k ≤ 181) : (-90 + nI k).toInt = -90 + (k : Int) := by
  have e : (nI k).toInt = (k : Int) := nI_toInt (by omega)
  have e2 : (-90 : Int32).toInt = -90 := rfl
  rw [z_addI (by rw [e, e2]; omega) (by rw [e, e2]; omega), e, e2]
theorem xmp_lk {k : Nat} (h : k < 181) : -90 ≤ (-90 + nI k).toInt ∧ (-90 + nI k).toInt ≤ 90 := by
  rw [mp_t (by omega)]
  omega
theorem xmp_ge {k : Nat} (hk : k ≤ 181) (h : 91 ≤ -90 + nI k) : 181 ≤ k := by
  rw [Int32.le_iff_toInt_le, mp_t hk, show (91 : Int32).toInt = 91 from rfl] at h
  omega
theorem xmp_lt {k : Nat} (hk : k ≤ 181) (h : ¬ 91 ≤ -90 + nI k) : k < 181 := by
  rw [Int32.le_iff_toInt_le, mp_t hk, show (91 : Int32).toInt = 91 from rfl] at h
  omega
theorem mp_o (y : Int32) : -90 ≤ (v_L_maps_312 y).toInt ∧ (v_L_maps_312 y).toInt ≤ 90 := by
  unfold v_L_maps_312
  have := l_off (y >>> ((4 : Int32) &&& 31)) (n := 181) (c := 90) 181 90 rfl rfl (by decide) (by decide) (by decide)
  omega
theorem mp_r {y : Int32} (h : ¬ v_L_maps_383 y = 0) : ¬ v_L_maps_68 y = 0 := by
  unfold v_L_maps_383 at h
  exact z_n1 h
theorem mp_mm (y : Int32) : ((v_L_maps_326 y).toInt = (v_L_maps_312 y).toInt ∧ (v_L_maps_340 y).toInt = (v_L_maps_24 y).toInt ∨ (v_L_maps_326 y).toInt = (v_L_maps_24 y).toInt ∧ (v_L_maps_340 y).toInt = (v_L_maps_312 y).toInt) ∧ (v_L_maps_326 y).toInt ≤ (v_L_maps_340 y).toInt := by
  unfold v_L_maps_326 v_L_maps_340
  by_cases c : v_L_maps_312 y ≤ v_L_maps_24 y
  · rw [if_pos c, if_pos c]
    exact ⟨Or.inl ⟨rfl, rfl⟩, Int32.le_iff_toInt_le.mp c⟩
  · rw [if_neg c, if_neg c]
    rw [Int32.le_iff_toInt_le] at c
    exact ⟨Or.inr ⟨rfl, rfl⟩, by omega⟩
theorem xmp_a1 {y : Int32} (h : ¬ v_L_maps_383 y = 0) : -90 ≤ (v_L_maps_326 y).toInt := by
  have h1 := xmp_isn (mp_r h)
  have h2 := mp_o y
  have h3 := mp_mm y
  omega
theorem xmp_a2 (y : Int32) : (v_L_maps_326 y).toInt ≤ (v_L_maps_340 y).toInt := (mp_mm y).2
theorem xmp_a3 {y : Int32} (h : ¬ v_L_maps_383 y = 0) : (v_L_maps_340 y).toInt ≤ 90 := by
  have h1 := xmp_isn (mp_r h)
  have h2 := mp_o y
  have h3 := mp_mm y
  omega

/-! by, with each of its numbers -/
theorem by_0 (fw fh : Nat → Int32) (br : Int32) (nC nR : Nat) (nf a b c : Int32) : s_L_by fw fh br nC nR nf 0 a b c = if k_X4_x fw fh a b = 0 then s_X4_x fw fh a b else (-9000001) := rfl
theorem by_1 (fw fh : Nat → Int32) (br : Int32) (nC nR : Nat) (nf a b c : Int32) : s_L_by fw fh br nC nR nf 1 a b c = if k_X4_y fw fh a = 0 then s_X4_y fw fh a else (-9000001) := rfl
theorem by_2 (fw fh : Nat → Int32) (br : Int32) (nC nR : Nat) (nf a b c : Int32) : s_L_by fw fh br nC nR nf 2 a b c = if k_X4_apart a b = 0 then s_X4_apart a b else (-9000001) := rfl
theorem by_3 (fw fh : Nat → Int32) (br : Int32) (nC nR : Nat) (nf a b c : Int32) : s_L_by fw fh br nC nR nf 3 a b c = if k_X4_ringWay fw fh c a b = 0 then s_X4_ringWay fw fh c a b else (-9000001) := rfl
theorem by_4 (fw fh : Nat → Int32) (br : Int32) (nC nR : Nat) (nf a b c : Int32) : s_L_by fw fh br nC nR nf 4 a b c = if k_X4_zone br a = 0 then s_X4_zone br a else (-9000001) := rfl
theorem by_5 (fw fh : Nat → Int32) (br : Int32) (nC nR : Nat) (nf a b c : Int32) : s_L_by fw fh br nC nR nf 5 a b c = if k_X4_seams br a b = 0 then s_X4_seams br a b else (-9000001) := rfl
theorem by_6 (fw fh : Nat → Int32) (br : Int32) (nC nR : Nat) (nf a b c : Int32) : s_L_by fw fh br nC nR nf 6 a b c = if k_X4_dateLine a b = 0 then s_X4_dateLine a b else (-9000001) := rfl
theorem by_7 (fw fh : Nat → Int32) (br : Int32) (nC nR : Nat) (nf a b c : Int32) : s_L_by fw fh br nC nR nf 7 a b c = if k_X4_panel nC nR nf a b = 0 then s_X4_panel nC nR nf a b else (-9000001) := rfl
theorem by_8 (fw fh : Nat → Int32) (br : Int32) (nC nR : Nat) (nf a b c : Int32) : s_L_by fw fh br nC nR nf 8 a b c = if k_X4_zones br a = 0 then s_X4_zones br a else (-9000001) := rfl
theorem q_lat {x : Int32} (h1 : -90 ≤ x.toInt) (h2 : x.toInt ≤ 90) : k_X4_requireLatitude x = 0 := by
  unfold k_X4_requireLatitude
  rw [if_neg (by rw [Int32.lt_iff_toInt_lt, show (-90 : Int32).toInt = -90 from rfl]; omega), if_pos (by rw [Int32.le_iff_toInt_le, show (90 : Int32).toInt = 90 from rfl]; omega)]
theorem q_latn {x : Int32} (h : x.toInt < -90 ∨ 90 < x.toInt) : k_X4_requireLatitude x = 2 := by
  unfold k_X4_requireLatitude
  by_cases c : x < -90
  · rw [if_pos c]
  · rw [if_neg c]
    rw [Int32.lt_iff_toInt_lt, show (-90 : Int32).toInt = -90 from rfl] at c
    rw [if_neg (by rw [Int32.le_iff_toInt_le, show (90 : Int32).toInt = 90 from rfl]; omega)]
theorem q_lon {x : Int32} (h1 : -180 ≤ x.toInt) (h2 : x.toInt ≤ 179) : k_X4_requireLongitude x = 0 := by
  unfold k_X4_requireLongitude
  rw [if_neg (by rw [Int32.lt_iff_toInt_lt, show (-180 : Int32).toInt = -180 from rfl]; omega), if_pos (by rw [Int32.le_iff_toInt_le, show (179 : Int32).toInt = 179 from rfl]; omega)]
theorem q_lonn {x : Int32} (h : x.toInt < -180 ∨ 179 < x.toInt) : k_X4_requireLongitude x = 2 := by
  unfold k_X4_requireLongitude
  by_cases c : x < -180
  · rw [if_pos c]
  · rw [if_neg c]
    rw [Int32.lt_iff_toInt_lt, show (-180 : Int32).toInt = -180 from rfl] at c
    rw [if_neg (by rw [Int32.le_iff_toInt_le, show (179 : Int32).toInt = 179 from rfl]; omega)]
theorem mp_68 {y : Int32} (h : v_L_maps_68 y = 0) : (v_L_maps_24 y).toInt = 91 := by
  have h1 := xmp_n y
  unfold v_L_maps_68 at h
  by_cases c : 91 ≤ v_L_maps_24 y
  · rw [Int32.le_iff_toInt_le, show (91 : Int32).toInt = 91 from rfl] at c
    omega
  · rw [if_neg c] at h
    exact absurd h (by decide)
theorem mp_by0 (fw fh : Nat → Int32) (br : Int32) (nC nR : Nat) (nf y : Int32) : s_L_by fw fh br nC nR nf 0 (v_L_maps_24 y) (v_L_maps_55 y) 0 = (if (v_L_maps_88 y) = 0 then (-9000001) else (v_L_maps_55 y) * (s_L_wide fw fh (v_L_maps_24 y))) := by
  have h1 := xmp_n y
  have h2 := mp_e y
  rw [by_0]
  unfold k_X4_x s_X4_x v_L_maps_88
  by_cases c : v_L_maps_68 y = 0
  · have q := q_latn (x := v_L_maps_24 y) (by have := mp_68 c; omega)
    simp [c, q]
  · have hl := xmp_isn c
    have q := q_lat hl.1 hl.2
    by_cases c2 : 180 ≤ v_L_maps_55 y
    · have c3 := Int32.le_iff_toInt_le.mp c2
      rw [show (180 : Int32).toInt = 180 from rfl] at c3
      have q2 := q_lonn (x := v_L_maps_55 y) (by omega)
      simp [c, q, q2, c2]
    · have c3 : ¬ (180 : Int32).toInt ≤ (v_L_maps_55 y).toInt := fun h => c2 (Int32.le_iff_toInt_le.mpr h)
      rw [show (180 : Int32).toInt = 180 from rfl] at c3
      have q2 := q_lon (x := v_L_maps_55 y) h2.1 (by omega)
      simp [c, q, q2, c2, s_L_wide]
theorem mp_by1 (fw fh : Nat → Int32) (br : Int32) (nC nR : Nat) (nf y : Int32) : s_L_by fw fh br nC nR nf 1 (v_L_maps_24 y) 0 0 = (if (v_L_maps_68 y) = 0 then (-9000001) else s_L_high fw fh (v_L_maps_24 y)) := by
  rw [by_1]
  unfold k_X4_y s_X4_y
  by_cases c : v_L_maps_68 y = 0
  · have q := q_latn (x := v_L_maps_24 y) (by have := mp_68 c; omega)
    simp [c, q]
  · have hl := xmp_isn c
    have q := q_lat hl.1 hl.2
    simp [c, q, s_L_high]
theorem mp_gna (fw fh : Nat → Int32) (y : Int32) : ∀ n : Nat, n ≤ 181 → lp_L_maps_221 fw fh y n = lp_gna fw fh (v_L_maps_211 fw fh y) n (181 - n)
  | 0, _ => rfl
  | n + 1, hn => by
    have ih := mp_gna fw fh y n (by omega)
    have e : (90 : Int32) - nI (180 - n) = -90 + nI n := by
      apply Int32.toInt_inj.mp
      rw [z_s90 (by omega), mp_t (by omega)]
      omega
    show v_L_maps_246 fw fh y (lp_L_maps_221 fw fh y n) n = _
    rw [show 181 - (n + 1) = 180 - n by omega, lp_gna, e, ih, show 180 - n + 1 = 181 - n by omega]
    unfold v_L_maps_246 s_L_high
    by_cases c : v_L_maps_211 fw fh y < s_X2_tenHeights fw fh (-90 + nI n)
    · rw [if_pos c, if_neg (Int32.not_le.mpr c)]
    · rw [if_neg c, if_pos (Int32.not_lt.mp c)]
theorem mp_gnb (fw fh : Nat → Int32) (h : Int32) : ∀ n k : Nat, n + k = 181 → lp_gna fw fh h n k = -91 ∨ -90 ≤ lp_gna fw fh h n k
  | 0, k, hk => by
    left
    rw [show k = 181 by omega]
    show (90 : Int32) - nI 181 = -91
    decide
  | n + 1, k, hk => by
    rw [lp_gna]
    split
    · right
      rw [Int32.le_iff_toInt_le, z_s90 (by omega), show (-90 : Int32).toInt = -90 from rfl]
      omega
    · exact mp_gnb fw fh h n (k + 1) (by omega)
theorem mp_lat (fw fh : Nat → Int32) (y : Int32) : s_L_latitude fw fh (v_L_maps_211 fw fh y) = (if 99990 < (v_L_maps_211 fw fh y) then (-1001) else (if (-99990) ≤ (v_L_maps_211 fw fh y) then (if (lp_L_maps_221 fw fh y 181) = (-91) then (-1002) else lp_L_maps_221 fw fh y 181) else (-1001))) := by
  have hg := mp_gnb fw fh (v_L_maps_211 fw fh y) 181 0 rfl
  rw [mp_gna fw fh y 181 (by omega)]
  unfold s_L_latitude k_X4_latitudeAt s_X4_latitudeAt s_X2_greatestNotAbove
  generalize v_L_maps_211 fw fh y = h at hg ⊢
  rw [show 181 - 181 = 0 from rfl]
  generalize lp_gna fw fh h 181 0 = g at hg ⊢
  by_cases c1 : h < -99990
  · rw [if_pos c1]
    rw [Int32.lt_iff_toInt_lt, show (-99990 : Int32).toInt = -99990 from rfl] at c1
    rw [if_neg (by decide), if_pos rfl, if_neg (by rw [Int32.lt_iff_toInt_lt, show (99990 : Int32).toInt = 99990 from rfl]; omega), if_neg (by rw [Int32.le_iff_toInt_le, show (-99990 : Int32).toInt = -99990 from rfl]; omega)]
  · rw [if_neg c1, if_pos (Int32.not_lt.mp c1)]
    by_cases c2 : h ≤ 99990
    · rw [if_pos c2, if_neg (Int32.not_lt.mpr c2)]
      rcases hg with rfl | hg
      · rfl
      · have hn : ¬ g = -91 := fun e => absurd (e ▸ hg) (by decide)
        simp [hg, hn, c1, c2]
    · rw [if_neg c2, if_neg (by decide), if_pos rfl, if_pos (Int32.not_le.mp c2)]
theorem mp_area (fw fh : Nat → Int32) (y : Int32) (ce : Int32) : s_L_field fw fh ce (v_L_maps_326 y) (v_L_maps_340 y) (v_L_maps_356 y) (v_L_maps_55 y) = v_L_maps_409 fw fh y := by
  have h1 := xmp_n y
  have h2 := mp_e y
  have h3 := mp_mm y
  have h4 := mp_o y
  have key : (if k_X4_area fw fh (v_L_maps_326 y) (v_L_maps_340 y) (v_L_maps_356 y) (v_L_maps_55 y) = 0 then s_X4_area fw fh (v_L_maps_326 y) (v_L_maps_340 y) (v_L_maps_356 y) (v_L_maps_55 y) else (-1)) = v_L_maps_409 fw fh y := by
    unfold v_L_maps_409
    have e90 : (-90 : Int32).toInt = -90 := rfl
    have e9 : (90 : Int32).toInt = 90 := rfl
    have e18 : (180 : Int32).toInt = 180 := rfl
    unfold k_X4_area s_X4_area
    by_cases c : v_L_maps_383 y = 0
    · rw [if_pos c, if_neg]
      unfold v_L_maps_383 at c
      by_cases c1 : v_L_maps_68 y = 0
      · have := mp_68 c1
        by_cases d1 : v_L_maps_326 y < -90
        · rw [if_pos d1]; decide
        rw [if_neg d1]
        by_cases d2 : v_L_maps_340 y < v_L_maps_326 y
        · rw [if_pos d2]; decide
        rw [if_neg d2, if_neg (by rw [Int32.le_iff_toInt_le]; omega)]
        decide
      · rw [if_neg c1] at c
        by_cases d1 : v_L_maps_326 y < -90
        · rw [if_pos d1]; decide
        rw [if_neg d1]
        by_cases d2 : v_L_maps_340 y < v_L_maps_326 y
        · rw [if_pos d2]; decide
        rw [if_neg d2]
        by_cases d3 : v_L_maps_340 y ≤ 90
        · rw [if_pos d3]
          by_cases d4 : v_L_maps_356 y < -180
          · rw [if_pos d4]; decide
          rw [if_neg d4] at c ⊢
          by_cases d5 : v_L_maps_55 y < v_L_maps_356 y
          · rw [if_pos d5]; decide
          rw [if_neg d5] at c
          exact absurd c (by decide)
        · rw [if_neg d3]; decide
    · have a1 := xmp_a1 c
      have a3 := xmp_a3 c
      have a2 := xmp_a2 y
      rw [if_neg c]
      unfold v_L_maps_383 at c
      have c2 := z_n1 (z_n2 c)
      have c3 := z_n1 (z_n2 (z_n2 c))
      have d1 : ¬ v_L_maps_326 y < -90 := by rw [Int32.lt_iff_toInt_lt]; omega
      have d2 : ¬ v_L_maps_340 y < v_L_maps_326 y := by rw [Int32.lt_iff_toInt_lt]; omega
      have d3 : v_L_maps_340 y ≤ 90 := by rw [Int32.le_iff_toInt_le]; omega
      have d6 : v_L_maps_55 y ≤ 180 := by rw [Int32.le_iff_toInt_le]; omega
      rw [if_neg d1, if_neg d2, if_pos d3, if_neg c2, if_neg c3, if_pos d6, if_pos rfl, if_neg d1, if_neg d2, if_pos d3, if_neg c2, if_neg c3, if_pos d6]
      rfl
  unfold s_L_field k_X4_areaByCells s_X4_areaByCells
  by_cases c0 : ce = 0
  · rw [if_pos c0]
    exact key
  · rw [if_neg c0, ← key]
    by_cases k0 : k_X4_area fw fh (v_L_maps_326 y) (v_L_maps_340 y) (v_L_maps_356 y) (v_L_maps_55 y) = 0
    · rw [if_pos k0, if_pos rfl, if_pos k0, if_pos k0]
    · rw [if_neg k0, if_neg k0, if_neg k0]
theorem mp_54 (fw fh : Nat → Int32) : s_L_field fw fh 0 5 4 0 0 = -1 := rfl
theorem p_lcx (x : Int64) : lg_cmp x x = 0 := (p_lc0 x x).mpr rfl
theorem maps_ok (fw fh : Nat → Int32) (br : Int32) (nC nR : Nat) (nf y : Int32) : s_L_maps fw fh br nC nR nf y = 1 := by
  unfold s_L_maps
  rw [if_pos (mp_by0 fw fh br nC nR nf y), if_pos (mp_by1 fw fh br nC nR nf y), if_pos (mp_lat fw fh y), mp_area, mp_area, mp_54, p_lcx, p_lcx, if_pos rfl, if_pos rfl, if_pos rfl]

theorem z_pe {α β : Type} {a c : α} {b d : β} (h1 : a = c) (h2 : b = d) : (a, b) = (c, d) := by rw [h1, h2]

def p_ct (P : Nat → Bool) : Nat → Nat
  | 0 => 0
  | k + 1 => p_ct P k + (if P k = true then 1 else 0)
theorem p_ctle (P : Nat → Bool) : ∀ k : Nat, p_ct P k ≤ k
  | 0 => Nat.le_refl 0
  | k + 1 => by
    have := p_ctle P k
    rw [p_ct]
    split <;> omega
theorem p_ctcg {P Q : Nat → Bool} : ∀ k : Nat, (∀ q : Nat, q < k → P q = Q q) → p_ct P k = p_ct Q k
  | 0, _ => rfl
  | k + 1, h => by
    rw [p_ct, p_ct, p_ctcg k (fun q hq => h q (by omega)), h k (by omega)]
/-- one more: P holds where Q holds and at one more place -/
theorem p_ct1 {P Q : Nat → Bool} {j : Nat} : ∀ k : Nat, (∀ q : Nat, q < k → q ≠ j → P q = Q q) → P j = true → Q j = false → p_ct P k = p_ct Q k + (if j < k then 1 else 0)
  | 0, _, _, _ => by rw [if_neg (Nat.not_lt_zero j)]; rfl
  | k + 1, h, h1, h2 => by
    have ih := p_ct1 k (fun q hq => h q (by omega)) h1 h2
    rw [p_ct, p_ct, ih]
    by_cases c : k = j
    · subst c
      simp [h1, h2]
    · rw [h k (by omega) c]
      by_cases c2 : j < k
      · rw [if_pos c2, if_pos (show j < k + 1 by omega)]
        omega
      · rw [if_neg c2, if_neg (show ¬ j < k + 1 by omega), Nat.add_zero, Nat.add_zero]
theorem p_ctmono {P Q : Nat → Bool} : ∀ k : Nat, (∀ q : Nat, q < k → P q = true → Q q = true) → p_ct P k ≤ p_ct Q k
  | 0, _ => Nat.le_refl 0
  | k + 1, h => by
    have ih := p_ctmono k (fun q hq => h q (by omega))
    rw [p_ct, p_ct]
    by_cases c : P k = true
    · rw [if_pos c, if_pos (h k (by omega) c)]
      omega
    · rw [if_neg c]
      omega
def p_mx (a : Nat → Nat) : Nat → Nat
  | 0 => 0
  | k + 1 => if p_mx a k < a k then a k else p_mx a k
theorem p_mxge (a : Nat → Nat) : ∀ k q : Nat, q < k → a q ≤ p_mx a k
  | 0, q, h => absurd h (Nat.not_lt_zero q)
  | k + 1, q, h => by
    rw [p_mx]
    by_cases c : q = k
    · subst c
      split <;> omega
    · have := p_mxge a k q (by omega)
      split <;> omega
theorem p_mxle (a : Nat → Nat) (M : Nat) : ∀ k : Nat, (∀ q : Nat, q < k → a q ≤ M) → p_mx a k ≤ M
  | 0, _ => Nat.zero_le M
  | k + 1, h => by
    have := p_mxle a M k (fun q hq => h q (by omega))
    have := h k (by omega)
    rw [p_mx]
    split <;> omega
theorem p_mxeq (a b : Nat → Nat) (N : Nat) (h1 : ∀ q : Nat, q < N → a q ≤ b q) (h2 : ∀ q : Nat, q < N → ∃ r : Nat, r < N ∧ b q = a r) : p_mx a N = p_mx b N := by
  apply Nat.le_antisymm
  · exact p_mxle a _ N (fun q hq => Nat.le_trans (h1 q hq) (p_mxge b N q hq))
  · refine p_mxle b _ N (fun q hq => ?_)
    obtain ⟨r, hr, e⟩ := h2 q hq
    rw [e]
    exact p_mxge a N r hr
/-- at one place -/
def p_at (fx fy : Nat → Int32) (q p : Nat) : Bool := decide (fx p = fx q) && decide (fy p = fy q)
def p_up (fx fy fz : Nat → Int32) (q p : Nat) : Bool := p_at fx fy q p && !decide (fz p ≤ fz q)
theorem p_hct {nC nR : Nat} {nf : Int32} {fx fy fz : Nat → Int32} {q : Nat} (hq : q < 36) : ∀ k : Nat, k ≤ 36 → lp_X1_higherThan_4 nC nR nf fx fy fz (nI q) k = nI (p_ct (p_up fx fy fz q) k)
  | 0, _ => rfl
  | k + 1, hk => by
    have ih := p_hct (nC := nC) (nR := nR) (nf := nf) (fx := fx) (fy := fy) (fz := fz) hq k (by omega)
    rw [lp_X1_higherThan_4, p_ct, ih, nI_clamp (by omega), nI_clamp (by omega)]
    unfold p_up p_at
    by_cases c1 : fx k = fx q <;> by_cases c2 : fy k = fy q <;> by_cases c3 : fz k ≤ fz q <;> simp [c1, c2, c3, nI_1]
theorem p_thA {nC nR : Nat} {nf : Int32} {fx fy fz : Nat → Int32} (hN : nC * nR ≤ 36) : ∀ k : Nat, k ≤ nC * nR → lp_X1_mostPanels_4 nC nR nf fx fy fz k = nI (p_mx (fun q => p_ct (p_up fx fy fz q) (nC * nR) + 1) k)
  | 0, _ => rfl
  | k + 1, hk => by
    have ih := p_thA (nf := nf) (fx := fx) (fy := fy) (fz := fz) hN k (by omega)
    have e : s_X1_higherThan nC nR nf fx fy fz (nI k) = nI (p_ct (p_up fx fy fz k) (nC * nR)) := p_hct (by omega) (nC * nR) hN
    have b1 := p_ctle (p_up fx fy fz k) (nC * nR)
    have b2 := p_mxle (fun q => p_ct (p_up fx fy fz q) (nC * nR) + 1) 37 k (fun q hq => by
      have := p_ctle (p_up fx fy fz q) (nC * nR)
      show p_ct (p_up fx fy fz q) (nC * nR) + 1 ≤ 37
      omega)
    rw [lp_X1_mostPanels_4, p_mx, ih, e, nI_1]
    by_cases c : p_mx (fun q => p_ct (p_up fx fy fz q) (nC * nR) + 1) k < p_ct (p_up fx fy fz k) (nC * nR) + 1
    · rw [if_pos (nI_lt c (by omega)), if_pos c]
    · rw [if_neg (nI_nlt (by omega) (by omega)), if_neg c]
/-- where the panels lie: the places in a span that gets less with each fold, the layers below 2 ^ folds, no two panels at one place in one layer -/
def zFoI (N : Nat) (fx fy fz : Nat → Int32) : Prop := (∃ n a k a2 k2 : Nat, n + k + k2 ≤ 10 ∧ k ≤ 5 ∧ k2 ≤ 5 ∧ a + 5 * k ≤ 25 ∧ a2 + 5 * k2 ≤ 25 ∧ ∀ q : Nat, q < N → ∃ x y z : Nat, fx q = nI x ∧ a ≤ x ∧ x ≤ a + k ∧ fy q = nI y ∧ a2 ≤ y ∧ y ≤ a2 + k2 ∧ fz q = nI z ∧ z < 2 ^ n) ∧ ∀ q r : Nat, q < N → r < N → fx q = fx r → fy q = fy r → fz q = fz r → q = r
theorem p_pow {n : Nat} (h : n ≤ 10) : 2 ^ n ≤ 1024 := Nat.le_trans (Nat.pow_le_pow_right (by omega) h) (by decide)
theorem p_th1 {nC nR : Nat} {fx fy fz : Nat → Int32} (hF : zFoI (nC * nR) fx fy fz) : p_mx (fun q => p_ct (p_up fx fy fz q) (nC * nR) + 1) (nC * nR) = p_mx (fun q => p_ct (p_at fx fy q) (nC * nR)) (nC * nR) := by
  obtain ⟨⟨n, a, k, a2, k2, h1, h2, h3, h4, h5, h6⟩, h7⟩ := hF
  have hp := p_pow (n := n) (by omega)
  refine p_mxeq _ _ _ (fun q hq => ?_) (fun q hq => ?_)
  · -- a panel is at its own place, but not above itself
    have s1 : p_up fx fy fz q q = false := by
      unfold p_up
      have : fz q ≤ fz q := Int32.le_refl _
      simp [this]
    have s2 : p_at fx fy q q = true := by
      unfold p_at
      simp
    have m := p_ct1 (P := fun p => p_up fx fy fz q p || decide (p = q)) (Q := p_up fx fy fz q) (j := q) (nC * nR) (fun r hr hne => by simp [hne]) (by simp) s1
    rw [if_pos hq] at m
    show p_ct (p_up fx fy fz q) (nC * nR) + 1 ≤ p_ct (p_at fx fy q) (nC * nR)
    rw [← m]
    refine p_ctmono _ (fun r hr hh => ?_)
    have hh : (p_up fx fy fz q r || decide (r = q)) = true := hh
    by_cases c : r = q
    · rw [c]
      exact s2
    · simp only [c, decide_false, Bool.or_false] at hh
      unfold p_up at hh
      exact (Bool.and_eq_true_iff.mp hh).1
  · -- the lowest panel of the place
    obtain ⟨z0, ⟨q0, hq0, ha0, hz0⟩, hmin⟩ := pk_least (fun z => ∃ p : Nat, p < nC * nR ∧ p_at fx fy q p = true ∧ fz p = nI z ∧ z < 2 ^ n) (by
      obtain ⟨x, y, z, -, -, -, -, -, -, c7, c8⟩ := h6 q hq
      exact ⟨z, q, hq, by unfold p_at; simp, c7, c8⟩)
    refine ⟨q0, hq0, ?_⟩
    have at0 : ∀ p : Nat, p_at fx fy q p = p_at fx fy q0 p := fun p => by
      unfold p_at at ha0 ⊢
      have g := Bool.and_eq_true_iff.mp ha0
      rw [of_decide_eq_true g.1, of_decide_eq_true g.2]
    show p_ct (p_at fx fy q) (nC * nR) = p_ct (p_up fx fy fz q0) (nC * nR) + 1
    have s1 : p_up fx fy fz q0 q0 = false := by
      unfold p_up
      have : fz q0 ≤ fz q0 := Int32.le_refl _
      simp [this]
    have m := p_ct1 (P := p_at fx fy q) (Q := p_up fx fy fz q0) (j := q0) (nC * nR) (fun r hr hne => ?_) ha0 s1
    · rw [if_pos hq0] at m
      exact m
    · rw [at0 r]
      unfold p_up
      by_cases c : p_at fx fy q0 r = true
      · rw [c, Bool.true_and]
        obtain ⟨x, y, z, g1, g2, g3, g4, g5, g6, g7, g8⟩ := h6 r hr
        have hc := Bool.and_eq_true_iff.mp c
        have l1 : z0 ≤ z := by
          rcases Nat.lt_or_ge z z0 with qq | qq
          · exact absurd ⟨r, hr, by rw [at0 r]; exact c, g7, g8⟩ (hmin z qq)
          · exact qq
        have l2 : z ≠ z0 := fun ee => hne (h7 r q0 hr hq0 (of_decide_eq_true hc.1) (of_decide_eq_true hc.2) (by rw [g7, hz0.1, ee]))
        have l3 : ¬ fz r ≤ fz q0 := by
          rw [g7, hz0.1]
          exact nI_ge (by omega) (by omega)
        simp [l3]
      · rw [Bool.not_eq_true] at c
        rw [c, Bool.false_and]

/-- the class's number of the law's panel k -/
def sg (nC nR k : Nat) : Nat := k % nC * nR + k / nC
theorem sg_lt {nC nR k : Nat} (hN1 : 1 ≤ nC ∧ nC ≤ 6 ∧ 1 ≤ nR ∧ nR ≤ 6) (hk : k < nC * nR) : k % nC < nC ∧ k / nC < nR ∧ sg nC nR k < nC * nR := by
  have h1 : k % nC < nC := Nat.mod_lt _ hN1.1
  have h2 : k / nC < nR := Nat.div_lt_of_lt_mul hk
  exact ⟨h1, h2, z_idx h1 h2⟩
theorem sg_inv {nC nR q : Nat} (hN1 : 1 ≤ nC ∧ nC ≤ 6 ∧ 1 ≤ nR ∧ nR ≤ 6) (hq : q < nC * nR) : ∃ k : Nat, k < nC * nR ∧ sg nC nR k = q := by
  have h1 : q % nR < nR := Nat.mod_lt _ hN1.2.2.1
  have h2 : q / nR < nC := Nat.div_lt_of_lt_mul (by rw [Nat.mul_comm]; exact hq)
  refine ⟨q % nR * nC + q / nR, ?_, ?_⟩
  · rw [Nat.mul_comm nC nR]
    exact z_idx h1 h2
  · unfold sg
    rw [z_md h2, z_dv h2]
    have := Nat.div_add_mod q nR
    rw [Nat.mul_comm] at this
    exact this
theorem sg_perm : ∀ C : Nat, C < 7 → ∀ R : Nat, R < 7 → 1 ≤ C → ((List.range (C * R)).map (sg C R)).Perm (List.range (C * R)) := by decide +kernel
theorem p_ctL (P : Nat → Bool) : ∀ N : Nat, p_ct P N = (List.range N).countP P
  | 0 => rfl
  | N + 1 => by
    rw [p_ct, List.range_succ, List.countP_append, p_ctL P N, List.countP_singleton]
theorem p_ctp {nC nR : Nat} (hN1 : 1 ≤ nC ∧ nC ≤ 6 ∧ 1 ≤ nR ∧ nR ≤ 6) (P : Nat → Bool) : p_ct (fun k => P (sg nC nR k)) (nC * nR) = p_ct P (nC * nR) := by
  rw [p_ctL, p_ctL, ← (sg_perm nC (by omega) nR (by omega) hN1.1).countP_eq P, List.countP_map]
  rfl
theorem p_mxp {nC nR : Nat} (hN1 : 1 ≤ nC ∧ nC ≤ 6 ∧ 1 ≤ nR ∧ nR ≤ 6) (a : Nat → Nat) : p_mx (fun k => a (sg nC nR k)) (nC * nR) = p_mx a (nC * nR) := by
  apply Nat.le_antisymm
  · exact p_mxle _ _ _ (fun q hq => p_mxge a _ _ (sg_lt hN1 hq).2.2)
  · refine p_mxle _ _ _ (fun q hq => ?_)
    obtain ⟨k, hk, e⟩ := sg_inv hN1 hq
    have := p_mxge (fun k => a (sg nC nR k)) _ _ hk
    rw [← e]
    exact this
theorem p_mxcg {a b : Nat → Nat} : ∀ k : Nat, (∀ q : Nat, q < k → a q = b q) → p_mx a k = p_mx b k
  | 0, _ => rfl
  | k + 1, h => by
    rw [p_mx, p_mx, p_mxcg k (fun q hq => h q (by omega)), h k (by omega)]
/-- the relation, panel by panel -/
theorem sh_k {nC nR : Nat} {fx fy fz fu gp gq gz gu : Nat → Int32} (hS : zShL nC nR fx fy fz fu gp gq gz gu) (hN1 : 1 ≤ nC ∧ nC ≤ 6 ∧ 1 ≤ nR ∧ nR ≤ 6) {k : Nat} (hk : k < nC * nR) : gp k = fx (sg nC nR k) ∧ gq k = fy (sg nC nR k) ∧ gz k = fz (sg nC nR k) ∧ gu k = fu (sg nC nR k) ∧ (fu (sg nC nR k) = 0 ∨ fu (sg nC nR k) = 1) := by
  obtain ⟨h1, h2, -⟩ := sg_lt hN1 hk
  have h := hS (k % nC) (k / nC) h1 h2
  have e : k / nC * nC + k % nC = k := by
    have := Nat.div_add_mod k nC
    rw [Nat.mul_comm] at this
    exact this
  rw [e] at h
  exact h
theorem sh_36 {nC nR : Nat} (hN1 : 1 ≤ nC ∧ nC ≤ 6 ∧ 1 ≤ nR ∧ nR ≤ 6) : nC * nR ≤ 36 := Nat.mul_le_mul hN1.2.1 hN1.2.2.2
theorem sh_l36 {gp gq gz : Nat → Int32} {k : Nat} (hk : k < 36) : ∀ j : Nat, j ≤ 36 → lp_L_sheets_36 gp gq gz k j = (nI (p_ct (p_at gp gq k) j), nI (p_ct (p_up gp gq gz k) j))
  | 0, _ => rfl
  | j + 1, hj => by
    have ih := sh_l36 (gp := gp) (gq := gq) (gz := gz) hk j (by omega)
    show (v_L_sheets_87 gp gq ((lp_L_sheets_36 gp gq gz k j).1) j k, v_L_sheets_115 gp gq gz ((lp_L_sheets_36 gp gq gz k j).2) j k) = _
    rw [ih]
    unfold v_L_sheets_87 v_L_sheets_115 v_L_sheets_72
    rw [nI_clamp (by omega), nI_clamp (by omega), p_ct, p_ct]
    unfold p_up p_at
    by_cases c1 : gp j = gp k <;> by_cases c2 : gq j = gq k <;> by_cases c3 : gz j ≤ gz k <;> simp [c1, c2, c3, nI_1]
theorem sh_at {nC nR : Nat} {fx fy fz fu gp gq gz gu : Nat → Int32} (hS : zShL nC nR fx fy fz fu gp gq gz gu) (hN1 : 1 ≤ nC ∧ nC ≤ 6 ∧ 1 ≤ nR ∧ nR ≤ 6) {k : Nat} (hk : k < nC * nR) : p_ct (p_at gp gq k) (nC * nR) = p_ct (p_at fx fy (sg nC nR k)) (nC * nR) ∧ p_ct (p_up gp gq gz k) (nC * nR) = p_ct (p_up fx fy fz (sg nC nR k)) (nC * nR) := by
  have a := sh_k hS hN1 hk
  rw [← p_ctp hN1 (p_at fx fy (sg nC nR k)), ← p_ctp hN1 (p_up fx fy fz (sg nC nR k))]
  constructor
  · refine p_ctcg _ (fun q hq => ?_)
    have b := sh_k hS hN1 hq
    unfold p_at
    rw [a.1, a.2.1, b.1, b.2.1]
  · refine p_ctcg _ (fun q hq => ?_)
    have b := sh_k hS hN1 hq
    unfold p_up p_at
    rw [a.1, a.2.1, a.2.2.1, b.1, b.2.1, b.2.2.1]
/-- the panel that the law asks of -/
theorem sh_rc {nC nR : Nat} (hN1 : 1 ≤ nC ∧ nC ≤ 6 ∧ 1 ≤ nR ∧ nR ≤ 6) {k : Nat} (hk : k < nC * nR) : (nI k) - (nI k) / (nI nC) * (nI nC) = nI (k % nC) ∧ (nI k) / (nI nC) = nI (k / nC) := by
  have := sh_36 hN1
  exact ⟨pk_rem (by omega) hN1.1 (by omega), pk_div (by omega) hN1.1 (by omega)⟩
theorem sh_hp {nC nR : Nat} {nf : Int32} (hN1 : 1 ≤ nC ∧ nC ≤ 6 ∧ 1 ≤ nR ∧ nR ≤ 6) {c r : Nat} (hc : c < nC) (hr : r < nR) : s_X1_hasPanel nC nR nf (nI c) (nI r) = 1 := by
  unfold s_X1_hasPanel
  rw [if_neg (nI_pos (by omega)), if_neg (nI_ge hc (by omega)), if_neg (nI_pos (by omega)), if_neg (nI_ge hr (by omega))]
theorem sh_rp {nC nR : Nat} {nf : Int32} (hN1 : 1 ≤ nC ∧ nC ≤ 6 ∧ 1 ≤ nR ∧ nR ≤ 6) {c r : Nat} (hc : c < nC) (hr : r < nR) : k_X4_requirePanel nC nR nf (nI c) (nI r) = 0 := by
  unfold k_X4_requirePanel
  rw [sh_hp hN1 hc hr, if_neg (by decide)]
theorem sh_nm {nC nR c r : Nat} {nf : Int32} (hN1 : 1 ≤ nC ∧ nC ≤ 6 ∧ 1 ≤ nR ∧ nR ≤ 6) (hc : c < nC) (hr : r < nR) : (s_X1_number nC nR nf (nI c) (nI r)).toNatClampNeg = c * nR + r := z_ncl (sh_36 hN1) hc hr
theorem xsh_0 {nC nR : Nat} {nf : Int32} {fx fy fz fu gp gq gz gu : Nat → Int32} (hS : zShL nC nR fx fy fz fu gp gq gz gu) (hN1 : 1 ≤ nC ∧ nC ≤ 6 ∧ 1 ≤ nR ∧ nR ≤ 6) {k : Nat} (hk : k < nC * nR) : s_L_of nC nR nf fx fy fz fu 0 ((nI k) - (nI k) / (nI nC) * (nI nC)) ((nI k) / (nI nC)) = gp (nI k).toNatClampNeg := by
  obtain ⟨h1, h2, h3⟩ := sg_lt hN1 hk
  have h36 := sh_36 hN1
  obtain ⟨e1, e2⟩ := sh_rc hN1 hk
  rw [e1, e2, nI_clamp (by omega), (sh_k hS hN1 hk).1]
  show (if k_X4_placeX nC nR nf fx (nI (k % nC)) (nI (k / nC)) = 0 then s_X4_placeX nC nR nf fx (nI (k % nC)) (nI (k / nC)) else (-1001)) = _
  unfold k_X4_placeX s_X4_placeX s_X1_columnPlace
  rw [sh_rp hN1 h1 h2, if_pos rfl, if_pos rfl, if_pos rfl, sh_hp hN1 h1 h2, if_neg (by decide), sh_nm hN1 h1 h2]
  rfl
theorem xsh_1 {nC nR : Nat} {nf : Int32} {fx fy fz fu gp gq gz gu : Nat → Int32} (hS : zShL nC nR fx fy fz fu gp gq gz gu) (hN1 : 1 ≤ nC ∧ nC ≤ 6 ∧ 1 ≤ nR ∧ nR ≤ 6) {k : Nat} (hk : k < nC * nR) : s_L_of nC nR nf fx fy fz fu 1 ((nI k) - (nI k) / (nI nC) * (nI nC)) ((nI k) / (nI nC)) = gq (nI k).toNatClampNeg := by
  obtain ⟨h1, h2, h3⟩ := sg_lt hN1 hk
  have h36 := sh_36 hN1
  obtain ⟨e1, e2⟩ := sh_rc hN1 hk
  rw [e1, e2, nI_clamp (by omega), (sh_k hS hN1 hk).2.1]
  show (if k_X4_placeY nC nR nf fy (nI (k % nC)) (nI (k / nC)) = 0 then s_X4_placeY nC nR nf fy (nI (k % nC)) (nI (k / nC)) else (-1001)) = _
  unfold k_X4_placeY s_X4_placeY s_X1_rowPlace
  rw [sh_rp hN1 h1 h2, if_pos rfl, if_pos rfl, if_pos rfl, sh_hp hN1 h1 h2, if_neg (by decide), sh_nm hN1 h1 h2]
  rfl
theorem xsh_2 {nC nR : Nat} {nf : Int32} {fx fy fz fu gp gq gz gu : Nat → Int32} (hS : zShL nC nR fx fy fz fu gp gq gz gu) (hN1 : 1 ≤ nC ∧ nC ≤ 6 ∧ 1 ≤ nR ∧ nR ≤ 6) {k : Nat} (hk : k < nC * nR) : s_L_of nC nR nf fx fy fz fu 2 ((nI k) - (nI k) / (nI nC) * (nI nC)) ((nI k) / (nI nC)) = (lp_L_sheets_36 gp gq gz k (nC * nR)).2 := by
  obtain ⟨h1, h2, h3⟩ := sg_lt hN1 hk
  have h36 := sh_36 hN1
  obtain ⟨e1, e2⟩ := sh_rc hN1 hk
  rw [e1, e2, sh_l36 (by omega) _ h36, (sh_at hS hN1 hk).2]
  show (if k_X4_above nC nR nf fx fy fz (nI (k % nC)) (nI (k / nC)) = 0 then s_X4_above nC nR nf fx fy fz (nI (k % nC)) (nI (k / nC)) else (-1001)) = _
  unfold k_X4_above s_X4_above s_X1_panelsAbove
  rw [sh_rp hN1 h1 h2, if_pos rfl, if_pos rfl, if_pos rfl, sh_hp hN1 h1 h2, if_neg (by decide), z_nmb]
  exact p_hct (show sg nC nR k < 36 by omega) (nC * nR) h36
theorem xsh_3 {nC nR : Nat} {nf : Int32} {fx fy fz fu gp gq gz gu : Nat → Int32} (hS : zShL nC nR fx fy fz fu gp gq gz gu) (hN1 : 1 ≤ nC ∧ nC ≤ 6 ∧ 1 ≤ nR ∧ nR ≤ 6) {k : Nat} (hk : k < nC * nR) : s_L_of nC nR nf fx fy fz fu 3 ((nI k) - (nI k) / (nI nC) * (nI nC)) ((nI k) / (nI nC)) = gu (nI k).toNatClampNeg := by
  obtain ⟨h1, h2, h3⟩ := sg_lt hN1 hk
  have h36 := sh_36 hN1
  obtain ⟨e1, e2⟩ := sh_rc hN1 hk
  have hu := (sh_k hS hN1 hk).2.2.2
  rw [e1, e2, nI_clamp (by omega), hu.1]
  show (if k_X4_isUp nC nR nf fu (nI (k % nC)) (nI (k / nC)) = 0 then (if (s_X4_isUp nC nR nf fu (nI (k % nC)) (nI (k / nC))) = 0 then 0 else 1) else (-1001)) = _
  unfold k_X4_isUp s_X4_isUp s_X1_liesFaceUp
  rw [sh_rp hN1 h1 h2, if_pos rfl, if_pos rfl, if_pos rfl, sh_hp hN1 h1 h2, if_neg (show ¬ (1 : Int32) = 0 by decide), sh_nm hN1 h1 h2]
  show (if (if fu (sg nC nR k) = 0 then (0 : Int32) else 1) = 0 then (0 : Int32) else 1) = _
  rcases hu.2 with h | h <;> rw [h] <;> decide
theorem sh_e (y : Int32) : -181 ≤ (v_L_sheets_295 y).toInt ∧ (v_L_sheets_295 y).toInt ≤ 179 := by
  unfold v_L_sheets_295
  split
  · decide
  · have := l_off (y >>> ((5 : Int32) &&& 31)) (n := 360) (c := 180) 360 180 rfl rfl (by decide) (by decide) (by decide)
    omega
theorem sh_n (y : Int32) : -90 ≤ (v_L_sheets_263 y).toInt ∧ (v_L_sheets_263 y).toInt ≤ 90 := by
  unfold v_L_sheets_263
  have := l_off y (n := 181) (c := 90) 181 90 rfl rfl (by decide) (by decide) (by decide)
  omega
theorem sh_mc {e : Int32} {nC : Nat} (h1 : 1 ≤ nC ∧ nC ≤ 6) (he : -181 ≤ e.toInt ∧ e.toInt ≤ 179) : ((e + 180) * nI nC).toInt = (e.toInt + 180) * nC := by
  have e8 : (180 : Int32).toInt = 180 := rfl
  have ea : (e + 180).toInt = e.toInt + 180 := by
    rw [z_addI (by rw [e8]; omega) (by rw [e8]; omega), e8]
  have ec : (nI nC).toInt = (nC : Int) := nI_toInt (by omega)
  rcases (show nC = 1 ∨ nC = 2 ∨ nC = 3 ∨ nC = 4 ∨ nC = 5 ∨ nC = 6 by omega) with rfl | rfl | rfl | rfl | rfl | rfl <;> rw [z_mulI (by rw [ea, ec]; omega) (by rw [ea, ec]; omega), ea, ec]
theorem sh_k1 {k : Nat} (m : Int32) (q : Nat) (hm : m = nI q) (hk : k ≤ 100) (hq : q ≤ 360) : ((nI k + 1) * m).toInt = ((k + 1) * q : Nat) := by
  rw [hm, nI_1, pk_mul, nI_toInt]
  have : (k + 1) * q ≤ 101 * 360 := Nat.mul_le_mul (by omega) hq
  omega
theorem sh_cl {nC : Nat} {e : Int32} (h1 : 1 ≤ nC ∧ nC ≤ 6) (he : -181 ≤ e.toInt ∧ e.toInt ≤ 179) : sh_c nC e ≤ 5 := by
  unfold sh_c
  have : (e.toInt + 180).toNat * nC ≤ 359 * 6 := Nat.mul_le_mul (by omega) h1.2
  omega
theorem sh_ciff {y : Int32} {nC k : Nat} (h1 : 1 ≤ nC ∧ nC ≤ 6) (hk : k ≤ sh_c nC (v_L_sheets_295 y)) : (((v_L_sheets_295 y) + 180) * (nI nC)) < (((nI k) + 1) * 360) ↔ sh_c nC (v_L_sheets_295 y) ≤ k := by
  have he := sh_e y
  have hl := sh_cl h1 he
  rw [Int32.lt_iff_toInt_lt, sh_mc h1 he, sh_k1 360 360 rfl (by omega) (by omega)]
  unfold sh_c at hk hl ⊢
  rcases (show nC = 1 ∨ nC = 2 ∨ nC = 3 ∨ nC = 4 ∨ nC = 5 ∨ nC = 6 by omega) with rfl | rfl | rfl | rfl | rfl | rfl <;> omega
theorem xsh_cge {y : Int32} {nC k : Nat} (h1 : 1 ≤ nC ∧ nC ≤ 6) (hk : k ≤ sh_c nC (v_L_sheets_295 y)) (h : (((v_L_sheets_295 y) + 180) * (nI nC)) < (((nI k) + 1) * 360)) : sh_c nC (v_L_sheets_295 y) ≤ k := (sh_ciff h1 hk).mp h
theorem xsh_clt {y : Int32} {nC k : Nat} (h1 : 1 ≤ nC ∧ nC ≤ 6) (hk : k ≤ sh_c nC (v_L_sheets_295 y)) (h : ¬ (((v_L_sheets_295 y) + 180) * (nI nC)) < (((nI k) + 1) * 360)) : k < sh_c nC (v_L_sheets_295 y) := Nat.lt_of_not_le (fun q => h ((sh_ciff h1 hk).mpr q))
theorem sh_mr {n : Int32} {nR : Nat} (h1 : 1 ≤ nR ∧ nR ≤ 6) (he : -90 ≤ n.toInt ∧ n.toInt ≤ 90) : ((90 - n) * nI nR).toInt = (90 - n.toInt) * nR ∧ (90 - n).toInt = 90 - n.toInt := by
  have e8 : (90 : Int32).toInt = 90 := rfl
  have ea : (90 - n).toInt = 90 - n.toInt := by
    rw [z_subI (by rw [e8]; omega) (by rw [e8]; omega), e8]
  have ec : (nI nR).toInt = (nR : Int) := nI_toInt (by omega)
  refine ⟨?_, ea⟩
  rcases (show nR = 1 ∨ nR = 2 ∨ nR = 3 ∨ nR = 4 ∨ nR = 5 ∨ nR = 6 by omega) with rfl | rfl | rfl | rfl | rfl | rfl <;> rw [z_mulI (by rw [ea, ec]; omega) (by rw [ea, ec]; omega), ea, ec]
theorem sh_rl {nR : Nat} {n : Int32} : sh_r nR n ≤ nR - 1 := by
  unfold sh_r
  split <;> omega
theorem xsh_rge1 {y : Int32} {nR k : Nat} (h1 : 1 ≤ nR ∧ nR ≤ 6) (hk : k ≤ sh_r nR (v_L_sheets_263 y)) (h : (nI nR) ≤ ((nI k) + 1)) : sh_r nR (v_L_sheets_263 y) ≤ k := by
  have hl := sh_rl (nR := nR) (n := v_L_sheets_263 y)
  rw [nI_1, nI_leI (by omega) (by omega)] at h
  omega
theorem xsh_rge2 {y : Int32} {nR k : Nat} (h1 : 1 ≤ nR ∧ nR ≤ 6) (hk : k ≤ sh_r nR (v_L_sheets_263 y)) (h : ((90 - (v_L_sheets_263 y)) * (nI nR)) < (((nI k) + 1) * 180)) : sh_r nR (v_L_sheets_263 y) ≤ k := by
  have he := sh_n y
  have hl := sh_rl (nR := nR) (n := v_L_sheets_263 y)
  rw [Int32.lt_iff_toInt_lt, (sh_mr h1 he).1, sh_k1 180 180 rfl (by omega) (by omega)] at h
  unfold sh_r at hk hl ⊢
  rcases (show nR = 1 ∨ nR = 2 ∨ nR = 3 ∨ nR = 4 ∨ nR = 5 ∨ nR = 6 by omega) with rfl | rfl | rfl | rfl | rfl | rfl <;> (split <;> omega)
theorem xsh_rlt {y : Int32} {nR k : Nat} (h1 : 1 ≤ nR ∧ nR ≤ 6) (hk : k ≤ sh_r nR (v_L_sheets_263 y)) (c1 : ¬ (nI nR) ≤ ((nI k) + 1)) (c2 : ¬ ((90 - (v_L_sheets_263 y)) * (nI nR)) < (((nI k) + 1) * 180)) : k < sh_r nR (v_L_sheets_263 y) := by
  have he := sh_n y
  have hl := sh_rl (nR := nR) (n := v_L_sheets_263 y)
  rw [Int32.lt_iff_toInt_lt, (sh_mr h1 he).1, sh_k1 180 180 rfl (by omega) (by omega)] at c2
  rw [nI_1, nI_leI (by omega) (by omega)] at c1
  unfold sh_r at hk hl ⊢
  rcases (show nR = 1 ∨ nR = 2 ∨ nR = 3 ∨ nR = 4 ∨ nR = 5 ∨ nR = 6 by omega) with rfl | rfl | rfl | rfl | rfl | rfl <;> (split <;> omega)

theorem sh_l20 {nC nR : Nat} {gp gq gz gu : Nat → Int32} (hN : nC * nR ≤ 36) : ∀ k : Nat, k ≤ nC * nR → lp_L_sheets_20 nC nR gp gq gz gu k = (nI (p_mx (fun q => p_ct (p_at gp gq q) (nC * nR)) k), nI (p_ct (fun q => decide (p_ct (p_up gp gq gz q) (nC * nR) = 0) && decide (gu q = 1)) k))
  | 0, _ => rfl
  | k + 1, hk => by
    have ih := sh_l20 (gp := gp) (gq := gq) (gz := gz) (gu := gu) hN k (by omega)
    have l := sh_l36 (gp := gp) (gq := gq) (gz := gz) (k := k) (by omega) (nC * nR) hN
    have b1 := p_ctle (p_at gp gq k) (nC * nR)
    have b3 := p_ctle (p_up gp gq gz k) (nC * nR)
    have b2 := p_mxle (fun q => p_ct (p_at gp gq q) (nC * nR)) 36 k (fun q hq => by
      have := p_ctle (p_at gp gq q) (nC * nR)
      show p_ct (p_at gp gq q) (nC * nR) ≤ 36
      omega)
    show (v_L_sheets_155 nC nR gp gq gz ((lp_L_sheets_20 nC nR gp gq gz gu k).1) k, v_L_sheets_179 nC nR gp gq gz gu ((lp_L_sheets_20 nC nR gp gq gz gu k).2) k) = _
    rw [ih]
    unfold v_L_sheets_155 v_L_sheets_179
    rw [l, nI_clamp (by omega)]
    refine z_pe ?_ ?_
    · show (if nI (p_ct (p_at gp gq k) (nC * nR)) ≤ nI (p_mx (fun q => p_ct (p_at gp gq q) (nC * nR)) k) then nI (p_mx (fun q => p_ct (p_at gp gq q) (nC * nR)) k) else nI (p_ct (p_at gp gq k) (nC * nR))) = nI (if p_mx (fun q => p_ct (p_at gp gq q) (nC * nR)) k < p_ct (p_at gp gq k) (nC * nR) then p_ct (p_at gp gq k) (nC * nR) else p_mx (fun q => p_ct (p_at gp gq q) (nC * nR)) k)
      by_cases c : p_mx (fun q => p_ct (p_at gp gq q) (nC * nR)) k < p_ct (p_at gp gq k) (nC * nR)
      · rw [if_neg (nI_ge c (by omega)), if_pos c]
      · rw [if_pos (nI_le (by omega) (by omega)), if_neg c]
    · show nI (p_ct (fun q => decide (p_ct (p_up gp gq gz q) (nC * nR) = 0) && decide (gu q = 1)) k) + (if nI (p_ct (p_up gp gq gz k) (nC * nR)) = 0 then (if gu k = 1 then 1 else 0) else 0) = nI (p_ct (fun q => decide (p_ct (p_up gp gq gz q) (nC * nR) = 0) && decide (gu q = 1)) k + (if (decide (p_ct (p_up gp gq gz k) (nC * nR) = 0) && decide (gu k = 1)) = true then 1 else 0))
      by_cases c : p_ct (p_up gp gq gz k) (nC * nR) = 0
      · rw [c, if_pos nI_0]
        by_cases d : gu k = 1
        · rw [if_pos d, if_pos (by simp [d]), nI_1]
        · rw [if_neg d, if_neg (by simp [d]), Int32.add_zero, Nat.add_zero]
      · rw [if_neg (nI_ne0 (by omega) (by omega)), if_neg (by simp [c]), Int32.add_zero, Nat.add_zero]
theorem sh_rd {nC nR : Nat} {nf : Int32} {fx fy fz fu : Nat → Int32} (hN : nC * nR ≤ 36) : ∀ k : Nat, k ≤ nC * nR → lp_X1_readablePanels_4 nC nR nf fx fy fz fu k = nI (p_ct (fun q => decide (p_ct (p_up fx fy fz q) (nC * nR) = 0) && !decide (fu q = 0)) k)
  | 0, _ => rfl
  | k + 1, hk => by
    have ih := sh_rd (nf := nf) (fx := fx) (fy := fy) (fz := fz) (fu := fu) hN k (by omega)
    have e : s_X1_higherThan nC nR nf fx fy fz (nI k) = nI (p_ct (p_up fx fy fz k) (nC * nR)) := p_hct (by omega) (nC * nR) hN
    have b3 := p_ctle (p_up fx fy fz k) (nC * nR)
    rw [lp_X1_readablePanels_4, p_ct, ih, e, nI_clamp (by omega)]
    by_cases c : fu k = 0
    · rw [if_pos c, if_neg (by simp [c]), Nat.add_zero]
    · rw [if_neg c]
      by_cases d : p_ct (p_up fx fy fz k) (nC * nR) = 0
      · rw [d, if_pos nI_0, if_pos (by simp [c]), nI_1]
      · rw [if_neg (nI_ne0 (by omega) (by omega)), if_neg (by simp [d]), Nat.add_zero]
theorem sh_th {nC nR : Nat} {nf : Int32} {fx fy fz fu gp gq gz gu : Nat → Int32} (hS : zShL nC nR fx fy fz fu gp gq gz gu) (hN1 : 1 ≤ nC ∧ nC ≤ 6 ∧ 1 ≤ nR ∧ nR ≤ 6) (hF : zFoI (nC * nR) fx fy fz) : s_X4_thickness nC nR nf fx fy fz = (lp_L_sheets_20 nC nR gp gq gz gu (nC * nR)).1 := by
  have h36 := sh_36 hN1
  rw [sh_l20 h36 _ (Nat.le_refl _)]
  show lp_X1_mostPanels_4 nC nR nf fx fy fz (nC * nR) = nI (p_mx (fun q => p_ct (p_at gp gq q) (nC * nR)) (nC * nR))
  rw [p_thA h36 _ (Nat.le_refl _), p_th1 hF, ← p_mxp hN1]
  exact congrArg nI (p_mxcg _ (fun q hq => (sh_at hS hN1 hq).1.symm))
theorem sh_re {nC nR : Nat} {nf : Int32} {fx fy fz fu gp gq gz gu : Nat → Int32} (hS : zShL nC nR fx fy fz fu gp gq gz gu) (hN1 : 1 ≤ nC ∧ nC ≤ 6 ∧ 1 ≤ nR ∧ nR ≤ 6) : s_X4_readable nC nR nf fx fy fz fu = (lp_L_sheets_20 nC nR gp gq gz gu (nC * nR)).2 := by
  have h36 := sh_36 hN1
  rw [sh_l20 h36 _ (Nat.le_refl _)]
  show lp_X1_readablePanels_4 nC nR nf fx fy fz fu (nC * nR) = nI (p_ct (fun q => decide (p_ct (p_up gp gq gz q) (nC * nR) = 0) && decide (gu q = 1)) (nC * nR))
  rw [sh_rd h36 _ (Nat.le_refl _), ← p_ctp hN1]
  refine congrArg nI (p_ctcg _ (fun q hq => ?_))
  have a := sh_k hS hN1 hq
  rw [(sh_at hS hN1 hq).2, a.2.2.2.1]
  rcases a.2.2.2.2 with h | h <;> simp [h]
theorem sh_no {nC nR : Nat} {nf : Int32} {co ro : Int32} (h : s_X1_hasPanel nC nR nf co ro = 0) (fx fy fz fu : Nat → Int32) : s_L_of nC nR nf fx fy fz fu 0 co ro = -1001 ∧ s_L_of nC nR nf fx fy fz fu 1 co ro = -1001 ∧ s_L_of nC nR nf fx fy fz fu 2 co ro = -1001 ∧ s_L_of nC nR nf fx fy fz fu 3 co ro = -1001 := by
  have q : k_X4_requirePanel nC nR nf co ro = 1 := if_pos h
  refine ⟨?_, ?_, ?_, ?_⟩
  · show (if k_X4_placeX nC nR nf fx co ro = 0 then s_X4_placeX nC nR nf fx co ro else (-1001)) = _
    unfold k_X4_placeX
    rw [q]
    rfl
  · show (if k_X4_placeY nC nR nf fy co ro = 0 then s_X4_placeY nC nR nf fy co ro else (-1001)) = _
    unfold k_X4_placeY
    rw [q]
    rfl
  · show (if k_X4_above nC nR nf fx fy fz co ro = 0 then s_X4_above nC nR nf fx fy fz co ro else (-1001)) = _
    unfold k_X4_above
    rw [q]
    rfl
  · show (if k_X4_isUp nC nR nf fu co ro = 0 then (if (s_X4_isUp nC nR nf fu co ro) = 0 then 0 else 1) else (-1001)) = _
    unfold k_X4_isUp
    rw [q]
    rfl
theorem sh_by7 (fw fh : Nat → Int32) (br : Int32) {nC nR : Nat} (nf y : Int32) (hN1 : 1 ≤ nC ∧ nC ≤ 6 ∧ 1 ≤ nR ∧ nR ≤ 6) : s_L_by fw fh br nC nR nf 7 (v_L_sheets_263 y) (v_L_sheets_295 y) 0 = (if (-180) ≤ (v_L_sheets_295 y) then (10 * (nI (sh_c nC (v_L_sheets_295 y)))) + (nI (sh_r nR (v_L_sheets_263 y))) else (-9000001)) := by
  have he := sh_e y
  have hn := sh_n y
  have q1 := q_lat hn.1 hn.2
  rw [by_7]
  unfold k_X4_panel s_X4_panel
  by_cases c : -180 ≤ v_L_sheets_295 y
  · have c2 := Int32.le_iff_toInt_le.mp c
    rw [show (-180 : Int32).toInt = -180 from rfl] at c2
    have q2 := q_lon c2 he.2
    rw [if_pos c, q1, q2, if_pos rfl, if_pos rfl, if_pos rfl, if_pos rfl, if_pos rfl]
    unfold s_X1_columnOf s_X1_rowOf
    have m1 := sh_mc ⟨hN1.1, hN1.2.1⟩ he
    have m2 := (sh_mr hN1.2.2 hn).1
    have e1 : ((v_L_sheets_295 y - -180) * nI nC) / 360 = nI (sh_c nC (v_L_sheets_295 y)) := by
      have e : (v_L_sheets_295 y + 180) * nI nC = nI (((v_L_sheets_295 y).toInt + 180).toNat * nC) := by
        apply Int32.toInt_inj.mp
        have : ((v_L_sheets_295 y).toInt + 180).toNat * nC ≤ 359 * 6 := Nat.mul_le_mul (by omega) hN1.2.1
        rw [m1, nI_toInt (by omega), Int.natCast_mul]
        congr 1
        omega
      rw [Int32.sub_neg, e]
      have : ((v_L_sheets_295 y).toInt + 180).toNat * nC ≤ 359 * 6 := Nat.mul_le_mul (by omega) hN1.2.1
      exact pk_div (by omega) (by decide) (by decide)
    have e2 : ((90 - v_L_sheets_263 y) * nI nR) / 180 = nI ((90 - (v_L_sheets_263 y).toInt).toNat * nR / 180) := by
      have h5 : (90 - (v_L_sheets_263 y).toInt).toNat * nR ≤ 180 * 6 := Nat.mul_le_mul (by omega) hN1.2.2.2
      have e : (90 - v_L_sheets_263 y) * nI nR = nI ((90 - (v_L_sheets_263 y).toInt).toNat * nR) := by
        apply Int32.toInt_inj.mp
        rw [m2, nI_toInt (by omega), Int.natCast_mul]
        congr 1
        omega
      rw [e]
      exact pk_div (by omega) (by decide) (by decide)
    have e3 : nI nR - 1 = nI (nR - 1) := pk_sub (b := 1) hN1.2.2.1
    rw [e1, e2, e3]
    congr 1
    unfold sh_r
    have h5 : (90 - (v_L_sheets_263 y).toInt).toNat * nR ≤ 180 * 6 := Nat.mul_le_mul (by omega) hN1.2.2.2
    by_cases d : (90 - (v_L_sheets_263 y).toInt).toNat * nR / 180 < nR - 1
    · rw [if_pos d, if_neg]
      intro h
      rw [Int32.lt_iff_toInt_lt, nI_toInt (by omega), nI_toInt (by omega)] at h
      omega
    · rw [if_neg d]
      split
      · rfl
      · rename_i h
        rw [Int32.lt_iff_toInt_lt, nI_toInt (by omega), nI_toInt (by omega)] at h
        exact congrArg nI (by omega)
  · have c2 : ¬ (-180 : Int32).toInt ≤ (v_L_sheets_295 y).toInt := fun h => c (Int32.le_iff_toInt_le.mpr h)
    rw [show (-180 : Int32).toInt = -180 from rfl] at c2
    have q2 := q_lonn (x := v_L_sheets_295 y) (by omega)
    simp [c, q1, q2]
theorem sheets_ok (fw fh : Nat → Int32) (br : Int32) {nC nR : Nat} (nf : Int32) {fx fy fz fu gp gq gz gu : Nat → Int32} (y : Int32) (hS : zShL nC nR fx fy fz fu gp gq gz gu) (hN1 : 1 ≤ nC ∧ nC ≤ 6 ∧ 1 ≤ nR ∧ nR ≤ 6) (hF : zFoI (nC * nR) fx fy fz) : s_L_sheets fw fh br nC nR nf fx fy fz fu gp gq gz gu y = 1 := by
  have n1 : s_X1_hasPanel nC nR nf (nI nC) 0 = 0 := by
    unfold s_X1_hasPanel
    rw [if_neg (nI_pos (by omega)), if_pos (Int32.le_refl _)]
  have n2 : s_X1_hasPanel nC nR nf 0 (nI nR) = 0 := by
    unfold s_X1_hasPanel
    have : ¬ nI nC ≤ 0 := nI_nle hN1.1 (by omega)
    rw [if_neg (by decide), if_neg this, if_neg (nI_pos (by omega)), if_pos (Int32.le_refl _)]
  have n3 : s_X1_hasPanel nC nR nf (-1) 0 = 0 := rfl
  have n4 : s_X1_hasPanel nC nR nf 0 (-1) = 0 := by
    unfold s_X1_hasPanel
    have : ¬ nI nC ≤ 0 := nI_nle hN1.1 (by omega)
    rw [if_neg (by decide), if_neg this, if_pos (by decide)]
  unfold s_L_sheets
  rw [if_pos (sh_th hS hN1 hF), if_pos (sh_re hS hN1), if_pos (sh_by7 fw fh br nf y hN1), if_pos (sh_no n1 fx fy fz fu).1, if_pos (sh_no n2 fx fy fz fu).2.1, if_pos (sh_no n3 fx fy fz fu).2.2.1, if_pos (sh_no n4 fx fy fz fu).2.2.2]
