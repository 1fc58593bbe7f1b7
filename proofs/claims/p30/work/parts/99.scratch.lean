theorem z_n1 {p : Prop} [Decidable p] {x : Int32} (h : ¬ (if p then 0 else x) = 0) : ¬ p := fun hp => h (if_pos hp)
theorem z_n2 {p : Prop} [Decidable p] {x : Int32} (h : ¬ (if p then 0 else x) = 0) : ¬ x = 0 := fun hx => by
  by_cases hp : p
  · exact h (if_pos hp)
  · exact h ((if_neg hp).trans hx)
theorem l_us (v : Int32) : ∃ a : Nat, a < 2 ^ 30 ∧ zus v 2 = nI a := by
  have h := pk_ushr v 2 2 (by decide)
  have hl := v.toBitVec.isLt
  refine ⟨v.toBitVec.toNat / 2 ^ 2, by omega, ?_⟩
  apply Int32.toBitVec_inj.mp
  apply BitVec.eq_of_toNat_eq
  rw [pk_tn (by omega)]
  exact h
theorem l_some (v : Int32) {n : Int32} (m : Nat) (hn : n = nI m) (h0 : 0 < m) (hm : m < 2 ^ 31) : ∃ j : Nat, j < m ∧ s_L_some v n = nI j := by
  obtain ⟨a, ha, e⟩ := l_us v
  refine ⟨a % m, Nat.mod_lt _ h0, ?_⟩
  unfold s_L_some
  rw [e, hn, pk_rem (by omega) h0 hm]
theorem l_off (v : Int32) {n c : Int32} (m q : Nat) (hn : n = nI m) (hc : c = nI q) (h0 : 0 < m) (hm : m < 2 ^ 20) (hq : q < 2 ^ 20) : -(q : Int) ≤ (s_L_some v n - c).toInt ∧ (s_L_some v n - c).toInt < (m : Int) - q := by
  obtain ⟨j, hj, e⟩ := l_some v m hn h0 (by omega)
  rw [e, hc, pk_sub_toInt (by omega) (by omega)]
  omega
theorem l_b (v : Int32) {n : Int32} (m : Nat) (hn : n = nI m) (h0 : 0 < m) (hm : m < 2 ^ 31) : 0 ≤ (s_L_some v n).toInt ∧ (s_L_some v n).toInt < (m : Int) := by
  obtain ⟨j, hj, e⟩ := l_some v m hn h0 hm
  rw [e, nI_toInt (by omega)]
  omega

theorem xmp_n (y : Int32) : -90 ≤ (v_L_maps_24 y).toInt ∧ (v_L_maps_24 y).toInt ≤ 91 := by
  unfold v_L_maps_24
  split
  · decide
  · have := l_off y (n := 181) (c := 90) 181 90 rfl rfl (by decide) (by decide) (by decide)
    omega
theorem mp_e (y : Int32) : -180 ≤ (v_L_maps_55 y).toInt ∧ (v_L_maps_55 y).toInt ≤ 180 := by
  unfold v_L_maps_55
  split
  · decide
  · have := l_off (y >>> ((5 : Int32) &&& 31)) (n := 360) (c := 180) 360 180 rfl rfl (by decide) (by decide) (by decide)
    omega
theorem xmp_isn {y : Int32} (h : ¬ v_L_maps_68 y = 0) : -90 ≤ (v_L_maps_24 y).toInt ∧ (v_L_maps_24 y).toInt ≤ 90 := by
  have h1 := xmp_n y
  unfold v_L_maps_68 at h
  have h2 := z_n1 h
  rw [Int32.le_iff_toInt_le, show (91 : Int32).toInt = 91 from rfl] at h2
  omega
theorem xmp_fine {y : Int32} (h : ¬ v_L_maps_88 y = 0) : -90 ≤ (v_L_maps_24 y).toInt ∧ (v_L_maps_24 y).toInt ≤ 90 := by
  unfold v_L_maps_88 at h
  exact xmp_isn (z_n1 h)
theorem mp_t {k : Nat} (h : k ≤ 181) : (-90 + nI k).toInt = -90 + (k : Int) := by
  have e : (nI k).toInt = (k : Int) := nI_toInt (by omega)
  have e2 : (-90 : Int32).toInt = -90 := rfl
  rw [z_addI (by rw [e, e2]; omega) (by rw [e, e2]; omega), e, e2]
theorem xmp_lk {k : Nat} (h : k < 181) : -90 ≤ (-90 + nI k).toInt ∧ (-90 + nI k).toInt ≤ 90 := by
  rw [mp_t (by omega)]
  omega
theorem xmp_ge {k : Nat} (hk : k ≤ 181) (h : 91 ≤ -90 + nI k) : 181 ≤ k := by
  rw [Int32.le_iff_toInt_le, mp_t hk, show (91 : Int32).toInt = 91 from rfl] at h
  omega
theorem xmp_lt {k : Nat} (hk : k ≤ 181) (h : ¬ 91 ≤ -90 + nI k) : k < 181 := by
  rw [Int32.le_iff_toInt_le, mp_t hk, show (91 : Int32).toInt = 91 from rfl] at h
  omega
theorem mp_o (y : Int32) : -90 ≤ (v_L_maps_312 y).toInt ∧ (v_L_maps_312 y).toInt ≤ 90 := by
  unfold v_L_maps_312
  have := l_off (y >>> ((4 : Int32) &&& 31)) (n := 181) (c := 90) 181 90 rfl rfl (by decide) (by decide) (by decide)
  omega
theorem mp_r {y : Int32} (h : ¬ v_L_maps_383 y = 0) : ¬ v_L_maps_68 y = 0 := by
  unfold v_L_maps_383 at h
  exact z_n1 h
theorem mp_mm (y : Int32) : ((v_L_maps_326 y).toInt = (v_L_maps_312 y).toInt ∧ (v_L_maps_340 y).toInt = (v_L_maps_24 y).toInt ∨ (v_L_maps_326 y).toInt = (v_L_maps_24 y).toInt ∧ (v_L_maps_340 y).toInt = (v_L_maps_312 y).toInt) ∧ (v_L_maps_326 y).toInt ≤ (v_L_maps_340 y).toInt := by
  unfold v_L_maps_326 v_L_maps_340
  by_cases c : v_L_maps_312 y ≤ v_L_maps_24 y
  · rw [if_pos c, if_pos c]
    exact ⟨Or.inl ⟨rfl, rfl⟩, Int32.le_iff_toInt_le.mp c⟩
  · rw [if_neg c, if_neg c]
    rw [Int32.le_iff_toInt_le] at c
    exact ⟨Or.inr ⟨rfl, rfl⟩, by omega⟩
theorem xmp_a1 {y : Int32} (h : ¬ v_L_maps_383 y = 0) : -90 ≤ (v_L_maps_326 y).toInt := by
  have h1 := xmp_isn (mp_r h)
  have h2 := mp_o y
  have h3 := mp_mm y
  omega
theorem xmp_a2 (y : Int32) : (v_L_maps_326 y).toInt ≤ (v_L_maps_340 y).toInt := (mp_mm y).2
theorem xmp_a3 {y : Int32} (h : ¬ v_L_maps_383 y = 0) : (v_L_maps_340 y).toInt ≤ 90 := by
  have h1 := xmp_isn (mp_r h)
  have h2 := mp_o y
  have h3 := mp_mm y
  omega

/-- the class's table: in its ranges, its heights rising from 0 -/
def zTb (fw fh : Nat → Int32) : Prop := (∀ j : Nat, j < 10 → 0 ≤ (fw j).toInt ∧ (fw j).toInt ≤ 1000 ∧ 0 ≤ (fh j).toInt ∧ (fh j).toInt ≤ 9999) ∧ fh 0 = 0 ∧ ∀ j : Nat, j < 9 → (fh j).toInt < (fh (j + 1)).toInt
def zTr (ft : Nat → Int32) : Prop := ∀ j : Nat, j < 9 → 1 ≤ (ft j).toInt ∧ (ft j).toInt ≤ 99999
theorem zTb.w {fw fh : Nat → Int32} (h : zTb fw fh) : ∀ j : Nat, j < 10 → 0 ≤ (fw j).toInt ∧ (fw j).toInt ≤ 9999 := fun j hj => by
  have := h.1 j hj
  omega
theorem zTb.h {fw fh : Nat → Int32} (h : zTb fw fh) : ∀ j : Nat, j < 10 → 0 ≤ (fh j).toInt ∧ (fh j).toInt ≤ 9999 := fun j hj => by
  have := h.1 j hj
  omega
theorem p_ofI (x : Int32) : x.toInt64 = Int64.ofInt x.toInt := by
  rw [← Int32.toInt_toInt64, Int64.ofInt_toInt]
theorem p_TB {f : Nat → Int32} (hf : ∀ j : Nat, j < 10 → 0 ≤ (f j).toInt ∧ (f j).toInt ≤ 9999) {b t : Nat} (hb : b < 9) (ht : t ≤ 10) : (p_T f (10 * b + t)).toInt = (10 - (t : Int)) * (f b).toInt + (t : Int) * (f (b + 1)).toInt := by
  rw [p_TI hf (by omega)]
  by_cases h10 : t = 10
  · subst h10
    rw [if_pos (by omega), show (10 * b + 10) % 10 = 0 by omega, show (10 * b + 10) / 10 = b + 1 by omega]
    omega
  · rw [show (10 * b + t) % 10 = t by omega, show (10 * b + t) / 10 = b by omega]
    by_cases h0 : t = 0
    · subst h0
      simp
    · rw [if_neg h0]
/-- the band's area, as a number -/
def p_E (fw fh : Nat → Int32) (b : Nat) : Int := 36000 * ((fw b).toInt + (fw (b + 1)).toInt) * ((fh (b + 1)).toInt - (fh b).toInt)
theorem p_stepL (w0 w1 D : Int) (k : Int) : 360 * ((20 * k - k * k) * w0 + k * k * w1) * D + 360 * ((((10 - k) * w0 + k * w1) + ((10 - (k + 1)) * w0 + (k + 1) * w1)) * D) = 360 * ((20 * (k + 1) - (k + 1) * (k + 1)) * w0 + (k + 1) * (k + 1) * w1) * D := by
  grind
theorem p_hs {fw f : Nat → Int32} {m : Nat} (hm : m ≤ 90) : s_X2_tenHeights fw f (nI m) = p_T f m := by
  have e : (nI m).toInt = m := nI_toInt (by omega)
  rw [p_th fw f (by omega), if_pos (nI_pos' (by omega)), e]
  rfl
theorem p_ws {f fh : Nat → Int32} {m : Nat} (hm : m ≤ 90) : s_X2_tenWidths f fh (nI m) = p_T f m := by
  have e : (nI m).toInt = m := nI_toInt (by omega)
  rw [p_tw f fh (by omega), e]
  rfl
theorem p_lpB {fw fh : Nat → Int32} {no : Int32} (hT : zTb fw fh) {b : Nat} (hb : b < 9) : ∀ k : Nat, k ≤ 10 → lp_X2_fieldArea_6 fw fh (nI (10 * b)) no 360 k = Int64.ofInt (360 * ((20 * (k : Int) - k * k) * (fw b).toInt + k * k * (fw (b + 1)).toInt) * ((fh (b + 1)).toInt - (fh b).toInt))
  | 0, _ => by simp [lp_X2_fieldArea_6]
  | k + 1, hk => by
    have ih := p_lpB (no := no) hT hb k (by omega)
    have w0 := p_TB hT.w hb (t := k) (by omega)
    have w1 := p_TB hT.w hb (t := k + 1) (by omega)
    have h0 := p_TB hT.h hb (t := k) (by omega)
    have h1 := p_TB hT.h hb (t := k + 1) (by omega)
    have bw0 := hT.w b (by omega)
    have bw1 := hT.w (b + 1) (by omega)
    have bh0 := hT.h b (by omega)
    have bh1 := hT.h (b + 1) (by omega)
    have hs := hT.2.2 b (by omega)
    have q0 : 0 ≤ (p_T fw (10 * b + k)).toInt ∧ (p_T fw (10 * b + k)).toInt ≤ 99990 := by
      rw [w0]
      rcases (show k = 0 ∨ k = 1 ∨ k = 2 ∨ k = 3 ∨ k = 4 ∨ k = 5 ∨ k = 6 ∨ k = 7 ∨ k = 8 ∨ k = 9 by omega) with rfl | rfl | rfl | rfl | rfl | rfl | rfl | rfl | rfl | rfl <;> omega
    have q1 : 0 ≤ (p_T fw (10 * b + (k + 1))).toInt ∧ (p_T fw (10 * b + (k + 1))).toInt ≤ 99990 := by
      rw [w1]
      rcases (show k = 0 ∨ k = 1 ∨ k = 2 ∨ k = 3 ∨ k = 4 ∨ k = 5 ∨ k = 6 ∨ k = 7 ∨ k = 8 ∨ k = 9 by omega) with rfl | rfl | rfl | rfl | rfl | rfl | rfl | rfl | rfl | rfl <;> omega
    have r0 : 0 ≤ (p_T fh (10 * b + k)).toInt ∧ (p_T fh (10 * b + k)).toInt ≤ 99990 := by
      rw [h0]
      rcases (show k = 0 ∨ k = 1 ∨ k = 2 ∨ k = 3 ∨ k = 4 ∨ k = 5 ∨ k = 6 ∨ k = 7 ∨ k = 8 ∨ k = 9 by omega) with rfl | rfl | rfl | rfl | rfl | rfl | rfl | rfl | rfl | rfl <;> omega
    have r1 : 0 ≤ (p_T fh (10 * b + (k + 1))).toInt ∧ (p_T fh (10 * b + (k + 1))).toInt ≤ 99990 := by
      rw [h1]
      rcases (show k = 0 ∨ k = 1 ∨ k = 2 ∨ k = 3 ∨ k = 4 ∨ k = 5 ∨ k = 6 ∨ k = 7 ∨ k = 8 ∨ k = 9 by omega) with rfl | rfl | rfl | rfl | rfl | rfl | rfl | rfl | rfl | rfl <;> omega
    have eW : (p_T fw (10 * b + k) + p_T fw (10 * b + (k + 1))).toInt = (p_T fw (10 * b + k)).toInt + (p_T fw (10 * b + (k + 1))).toInt := z_addI (by omega) (by omega)
    have eH : (p_T fh (10 * b + (k + 1)) - p_T fh (10 * b + k)).toInt = (fh (b + 1)).toInt - (fh b).toInt := by
      rw [z_subI (by omega) (by omega), h1, h0]
      rcases (show k = 0 ∨ k = 1 ∨ k = 2 ∨ k = 3 ∨ k = 4 ∨ k = 5 ∨ k = 6 ∨ k = 7 ∨ k = 8 ∨ k = 9 by omega) with rfl | rfl | rfl | rfl | rfl | rfl | rfl | rfl | rfl | rfl <;> omega
    have ek : ((k + 1 : Nat) : Int) = (k : Int) + 1 := by omega
    have e360 : (360 : Int32).toInt64 = Int64.ofInt 360 := rfl
    rw [lp_X2_fieldArea_6, ih]
    unfold s_X2_cellArea
    rw [nI_add, nI_1, Nat.add_assoc, p_ws (by omega), p_ws (by omega), p_hs (by omega), p_hs (by omega), p_ofI (_ + _), p_ofI (_ - _), e360, eW, eH, w0, w1, ← Int64.ofInt_mul, ← Int64.ofInt_mul, ← Int64.ofInt_add, ek, p_stepL]
theorem p_la {fw fh : Nat → Int32} (hT : zTb fw fh) {b : Nat} (hb : b < 9) : s_L_area fw fh (10 * nI b) (10 * nI b + 10) 360 = Int64.ofInt (p_E fw fh b) := by
  have e : (10 : Int32) * nI b = nI (10 * b) := pk_mul 10 b
  have e2 : nI (10 * b) + 10 = nI (10 * b + 10) := nI_add (10 * b) 10
  unfold s_L_area s_X2_fieldArea
  rw [e, e2, nI_toInt (by omega), nI_toInt (by omega), show (((10 * b + 10 : Nat) : Int) - ((10 * b : Nat) : Int)).toNat = 10 by omega, p_lpB hT hb 10 (by omega)]
  congr 1
  unfold p_E
  grind
theorem p_la0 {fw fh : Nat → Int32} (hT : zTb fw fh) : s_L_area fw fh 0 10 360 = Int64.ofInt (p_E fw fh 0) := p_la hT (b := 0) (by omega)
theorem p_va (f : Nat → Int32) {j : Nat} (h : j < 10) : s_X2_valueAt f (nI j) = f j := by
  unfold s_X2_valueAt
  rw [if_neg (nI_pos (by omega)), if_neg (show ¬ (10 : Int32) ≤ nI j from nI_ge (b := 10) h (by omega)), nI_clamp (by omega)]
theorem p_band2 {fw fh : Nat → Int32} (hT : zTb fw fh) {b : Nat} (hb : b < 9) : s_X2_bandArea fw fh (nI b) = Int64.ofInt (p_E fw fh b) := by
  have bw0 := hT.w b (by omega)
  have bw1 := hT.w (b + 1) (by omega)
  have bh0 := hT.h b (by omega)
  have bh1 := hT.h (b + 1) (by omega)
  have eW : (fw b + fw (b + 1)).toInt = (fw b).toInt + (fw (b + 1)).toInt := z_addI (by omega) (by omega)
  have eH : (fh (b + 1) - fh b).toInt = (fh (b + 1)).toInt - (fh b).toInt := z_subI (by omega) (by omega)
  unfold s_X2_bandArea
  rw [nI_1, p_va fw (by omega), p_va fw (by omega), p_va fh (by omega), p_va fh (by omega), p_ofI (_ + _), p_ofI (_ - _), eW, eH, show (36000 : Int64) = Int64.ofInt 36000 from rfl, ← Int64.ofInt_mul, ← Int64.ofInt_mul]
  rfl
theorem p_tro {ft : Nat → Int32} {j : Nat} (hj : j < 9) : s_X0_truthOf ft (nI j) = ft j := by
  unfold s_X0_truthOf
  rw [if_neg (nI_pos (by omega)), if_neg (show ¬ (9 : Int32) ≤ nI j from nI_ge (b := 9) hj (by omega)), nI_clamp (by omega)]
theorem bd_rb {j : Nat} (hj : j < 9) : k_X4_requireBand (nI j) = 0 := by
  unfold k_X4_requireBand
  rw [if_neg (nI_pos (by omega)), if_pos (Int32.not_le.mp (show ¬ (9 : Int32) ≤ nI j from nI_ge (b := 9) hj (by omega)))]
theorem bd_str {ft fw fh : Nat → Int32} (hT : zTb fw fh) {k : Nat} (hk : k < 9) : s_L_stretch ft fw fh (nI k) = FP.fdiv (FP.l2f (Int64.ofInt (p_E fw fh k))) (FP.i2f (ft k)) := by
  unfold s_L_stretch k_X4_stretch s_X4_stretch s_X0_areaByTruth
  rw [bd_rb hk, p_band2 hT hk, p_tro hk]
  rfl
theorem bd_feq (a : Int64) (b : Int32) (h : ¬ b = 0) : FP.fcmp (FP.fdiv (FP.l2f a) (FP.i2f b)) (FP.fdiv (FP.l2f a) (FP.i2f b)) = some .eq := by
  refine FP.Core.fcmp_self (fun e => ?_)
  have h1 : FP.fIsNaN (FP.fdiv (FP.l2f a) (FP.i2f b)) = false := z_fnan a b h
  have h2 : FP.Core.fIsNaN (FP.fdiv (FP.l2f a) (FP.i2f b)) = true := (FP.Core.fIsNaN_iff _).mpr e
  exact absurd (h1.symm.trans h2) (by decide)
theorem xbd_dead {ft fw fh : Nat → Int32} (hTb : zTb fw fh) (htr : ∀ j : Nat, j < 9 → ¬ ft j = 0) {k : Nat} (hk : k < 9) : Op.cmpValue (FP.fcmp (s_L_stretch ft fw fh (nI k)) (FP.fdiv (FP.l2f (s_L_area fw fh (10 * (nI k)) ((10 * (nI k)) + 10) 360)) (FP.i2f (ft (nI k).toNatClampNeg)))) CmpOp.l = 0 := by
  rw [bd_str hTb hk, p_la hTb hk, nI_clamp (by omega), bd_feq _ _ (htr k hk)]
  rfl

theorem xbd_best (ft fw fh : Nat → Int32) : ∀ k : Nat, k < 9 → vp_in (lp_L_bands_7 ft fw fh k).2 9
  | 0, _ => vp_in_nI (n := 0) (by decide) (by decide)
  | k + 1, hk => by
    have ih := xbd_best ft fw fh k (by omega)
    show vp_in (v_L_bands_128 ft fw fh ((lp_L_bands_7 ft fw fh k).2) k) 9
    unfold v_L_bands_128
    split
    · exact ih
    · exact bd_k (by omega)

theorem p_Eb {fw fh : Nat → Int32} (hT : zTb fw fh) {b : Nat} (hb : b < 9) : 0 ≤ p_E fw fh b ∧ p_E fw fh b ≤ 719928000000 := by
  have bw0 := hT.1 b (by omega)
  have bw1 := hT.1 (b + 1) (by omega)
  have hs := hT.2.2 b (by omega)
  unfold p_E
  constructor
  · exact Int.mul_nonneg (by omega) (by omega)
  · exact Int.mul_le_mul (show 36000 * ((fw b).toInt + (fw (b + 1)).toInt) ≤ 72000000 by omega) (show (fh (b + 1)).toInt - (fh b).toInt ≤ 9999 by omega) (by omega) (by omega)
theorem p_bm64 {x : Int} (h1 : -9223372036854775808 ≤ x) (h2 : x < 9223372036854775808) : (Int64.ofInt x).toInt = x := by
  rw [Int64.toInt_ofInt]
  show x.bmod 18446744073709551616 = x
  exact Int.bmod_eq_of_le (by omega) (by omega)
theorem p_prod {fw fh ft : Nat → Int32} (hT : zTb fw fh) (hU : zTr ft) {b j : Nat} (hb : b < 9) (hj : j < 9) : (Int64.ofInt (p_E fw fh b) * (ft j).toInt64).toInt = p_E fw fh b * (ft j).toInt := by
  have e := p_Eb hT hb
  have t := hU j hj
  rw [p_ofI, ← Int64.ofInt_mul]
  have h1 : 0 ≤ p_E fw fh b * (ft j).toInt := Int.mul_nonneg e.1 (by omega)
  have h2 : p_E fw fh b * (ft j).toInt ≤ 719928000000 * 99999 := Int.mul_le_mul e.2 t.2 (by omega) (by omega)
  exact p_bm64 (by omega) (by omega)
theorem p_lc0 (x y : Int64) : lg_cmp x y = 0 ↔ x.toInt = y.toInt := by
  unfold lg_cmp
  simp only [gt_iff_lt, Int64.lt_iff_toInt_lt, ← Int64.toInt_inj]
  repeat' split
  all_goals (constructor <;> intro hh <;> first | omega | decide | exact absurd hh (by decide))
theorem p_cmp0 (x y : Int64) : s_J13_compare_74951 x y = 0 ↔ lg_cmp x y = 0 := by
  unfold s_J13_compare_74951
  by_cases h : 0 ≤ lg_cmp x y <;> by_cases h2 : lg_cmp x y = 0 <;> simp [h, h2]
theorem p_lc3 (x y : Int64) : lg_cmp x y = 1 ∨ lg_cmp x y = 0 ∨ lg_cmp x y = -1 := by
  unfold lg_cmp
  repeat' split
  all_goals simp
theorem p_cmpl (x y : Int64) : s_J13_compare_74951 x y ≤ 0 ↔ lg_cmp x y ≤ 0 := by
  unfold s_J13_compare_74951
  rcases p_lc3 x y with h | h | h <;> rw [h] <;> decide
theorem p_cb {fw fh ft : Nat → Int32} (hT : zTb fw fh) {i j : Nat} (hi : i < 9) (hj : j < 9) : s_X0_compareBands ft fw fh (nI i) (nI j) = s_J13_compare_74951 (Int64.ofInt (p_E fw fh i) * (ft j).toInt64) (Int64.ofInt (p_E fw fh j) * (ft i).toInt64) := by
  unfold s_X0_compareBands
  rw [p_band2 hT hi, p_band2 hT hj, p_tro hi, p_tro hj]
/-- two bands alike -/
abbrev bd_al (fw fh ft : Nat → Int32) (i j : Nat) : Prop := lg_cmp (Int64.ofInt (p_E fw fh i) * (ft j).toInt64) (Int64.ofInt (p_E fw fh j) * (ft i).toInt64) = 0
theorem bd_alI {fw fh ft : Nat → Int32} (hT : zTb fw fh) (hU : zTr ft) {i j : Nat} (hi : i < 9) (hj : j < 9) : bd_al fw fh ft i j ↔ p_E fw fh i * (ft j).toInt = p_E fw fh j * (ft i).toInt := by
  unfold bd_al
  rw [p_lc0, p_prod hT hU hi hj, p_prod hT hU hj hi]
theorem bd_all {fw fh ft : Nat → Int32} (hT : zTb fw fh) (hU : zTr ft) (h : ∀ q : Nat, q < 9 → bd_al fw fh ft q 0) {i j : Nat} (hi : i < 9) (hj : j < 9) : bd_al fw fh ft i j := by
  have a1 := (bd_alI hT hU hi (by omega)).mp (h i hi)
  have a2 := (bd_alI hT hU hj (by omega)).mp (h j hj)
  have t0 := hU 0 (by omega)
  rw [bd_alI hT hU hi hj]
  refine Int.eq_of_mul_eq_mul_right (a := (ft 0).toInt) (by omega) ?_
  calc p_E fw fh i * (ft j).toInt * (ft 0).toInt = p_E fw fh i * (ft 0).toInt * (ft j).toInt := by grind
    _ = p_E fw fh 0 * (ft i).toInt * (ft j).toInt := by rw [a1]
    _ = p_E fw fh 0 * (ft j).toInt * (ft i).toInt := by grind
    _ = p_E fw fh j * (ft 0).toInt * (ft i).toInt := by rw [a2]
    _ = p_E fw fh j * (ft i).toInt * (ft 0).toInt := by grind
theorem bd_80 {ft fw fh : Nat → Int32} (hT : zTb fw fh) (a : Int32) {k : Nat} (hk : k < 9) : v_L_bands_80 ft fw fh a k = if a = 0 then 0 else (if lg_cmp (Int64.ofInt (p_E fw fh k) * (ft 0).toInt64) (Int64.ofInt (p_E fw fh 0) * (ft k).toInt64) = 0 then 1 else 0) := by
  unfold v_L_bands_80 v_L_bands_34
  rw [p_la hT hk, p_la0 hT, nI_clamp (by omega)]
theorem bd_250 {ft fw fh : Nat → Int32} (hT : zTb fw fh) (a : Int32) {j k : Nat} (hk : k < 9) (hj : j < 9) : v_L_bands_250 ft fw fh a j k = if a = 0 then 0 else (if lg_cmp (Int64.ofInt (p_E fw fh k) * (ft j).toInt64) (Int64.ofInt (p_E fw fh j) * (ft k).toInt64) = 0 then 1 else 0) := by
  unfold v_L_bands_250
  rw [p_la hT hk, p_la hT hj, nI_clamp (by omega), nI_clamp (by omega)]
theorem bd_71 {ft fw fh : Nat → Int32} (hT : zTb fw fh) (h : ∀ q : Nat, q < 9 → bd_al fw fh ft q 0) : ∀ k : Nat, k ≤ 9 → (lp_L_bands_7 ft fw fh k).1 = 1
  | 0, _ => rfl
  | k + 1, hk => by
    show v_L_bands_80 ft fw fh ((lp_L_bands_7 ft fw fh k).1) k = 1
    rw [bd_71 hT h k (by omega), bd_80 hT _ (by omega), if_neg (by decide), if_pos (h k (by omega))]
theorem bd_70 {ft fw fh : Nat → Int32} (hT : zTb fw fh) {q : Nat} (h : ¬ bd_al fw fh ft q 0) : ∀ k : Nat, k ≤ 9 → q < k → (lp_L_bands_7 ft fw fh k).1 = 0
  | 0, _, hq => absurd hq (by omega)
  | k + 1, hk, hq => by
    show v_L_bands_80 ft fw fh ((lp_L_bands_7 ft fw fh k).1) k = 0
    rw [bd_80 hT _ (by omega)]
    by_cases c : q < k
    · rw [if_pos (bd_70 hT h k (by omega) c)]
    · have e : q = k := by omega
      subst e
      by_cases c2 : (lp_L_bands_7 ft fw fh q).1 = 0
      · rw [if_pos c2]
      · rw [if_neg c2, if_neg h]
theorem bd_172 {ft fw fh : Nat → Int32} (hT : zTb fw fh) {k : Nat} (hk : k < 9) : ∀ j : Nat, j ≤ k → lp_L_bands_172 ft fw fh k 0 j = 0 ∧ ((∀ q : Nat, q < k → bd_al fw fh ft k q) → lp_L_bands_172 ft fw fh k 1 j = 1)
  | 0, _ => ⟨rfl, fun _ => rfl⟩
  | j + 1, hj => by
    have ih := bd_172 (ft := ft) hT hk j (by omega)
    constructor
    · show v_L_bands_250 ft fw fh (lp_L_bands_172 ft fw fh k 0 j) j k = 0
      rw [ih.1, bd_250 hT _ hk (by omega), if_pos rfl]
    · intro h
      show v_L_bands_250 ft fw fh (lp_L_bands_172 ft fw fh k 1 j) j k = 1
      rw [ih.2 h, bd_250 hT _ hk (by omega), if_neg (by decide), if_pos (h j (by omega))]
theorem bd_1621 {ft fw fh : Nat → Int32} (hT : zTb fw fh) (hU : zTr ft) (h : ∀ q : Nat, q < 9 → bd_al fw fh ft q 0) : ∀ k : Nat, k ≤ 9 → lp_L_bands_162 ft fw fh k = 1
  | 0, _ => bd_71 hT h 9 (by omega)
  | k + 1, hk => by
    show lp_L_bands_172 ft fw fh k (lp_L_bands_162 ft fw fh k) k = 1
    rw [bd_1621 hT hU h k (by omega)]
    exact (bd_172 hT (by omega) k (Nat.le_refl k)).2 (fun q hq => bd_all hT hU h (by omega) (by omega))
theorem bd_1620 {ft fw fh : Nat → Int32} (hT : zTb fw fh) {q : Nat} (hq : q < 9) (h : ¬ bd_al fw fh ft q 0) : ∀ k : Nat, k ≤ 9 → lp_L_bands_162 ft fw fh k = 0
  | 0, _ => bd_70 hT h 9 (by omega) hq
  | k + 1, hk => by
    show lp_L_bands_172 ft fw fh k (lp_L_bands_162 ft fw fh k) k = 0
    rw [bd_1620 hT hq h k (by omega)]
    exact (bd_172 hT (by omega) k (Nat.le_refl k)).1
theorem bd_keeps {ft fw fh : Nat → Int32} (hT : zTb fw fh) (hU : zTr ft) : s_X4_keepsAreas ft fw fh = lp_L_bands_162 ft fw fh 9 := by
  unfold s_X4_keepsAreas s_X0_areAllAlike
  have hc : ∀ j : Nat, j < 8 → (s_X0_compareBands ft fw fh (nI (j + 1)) 0 = 0 ↔ bd_al fw fh ft (j + 1) 0) := fun j hj => by
    rw [show (0 : Int32) = nI 0 from rfl, p_cb hT (by omega) (by omega), show nI 0 = (0 : Int32) from rfl, p_cmp0]
  by_cases c : (∀ j : Nat, j < 8 → s_X0_compareBands ft fw fh (nI (j + 1)) 0 = 0)
  · rw [if_pos c]
    have h : ∀ q : Nat, q < 9 → bd_al fw fh ft q 0 := by
      intro q hq
      by_cases e : q = 0
      · subst e
        rw [bd_alI hT hU hq hq]
      · obtain ⟨r, rfl⟩ : ∃ r, q = r + 1 := ⟨q - 1, by omega⟩
        exact (hc r (by omega)).mp (c r (by omega))
    exact (bd_1621 hT hU h 9 (by omega)).symm
  · rw [if_neg c]
    obtain ⟨j, hj⟩ := Classical.not_forall.mp c
    obtain ⟨hj8, hj⟩ := Classical.not_imp.mp hj
    exact (bd_1620 hT (by omega) (fun q => hj ((hc j hj8).mpr q)) 9 (by omega)).symm
theorem bd_wid {ft fw fh : Nat → Int32} (hT : zTb fw fh) : ∀ k : Nat, k ≤ 8 → (lp_L_bands_7 ft fw fh (k + 1)).2 = lp_X0_greatest_4 ft fw fh k
  | 0, _ => by
    show v_L_bands_128 ft fw fh 0 0 = 0
    unfold v_L_bands_128
    split
    · rfl
    · rfl
  | k + 1, hk => by
    have ih := bd_wid (ft := ft) hT k (by omega)
    obtain ⟨j, hj, e⟩ := vp_in_of (xbd_best ft fw fh (k + 1) (by omega)) (by omega)
    show v_L_bands_128 ft fw fh ((lp_L_bands_7 ft fw fh (k + 1)).2) (k + 1) = _
    rw [lp_X0_greatest_4, ← ih, e, p_cb hT (by omega) hj]
    unfold v_L_bands_128 v_L_bands_34
    rw [p_la hT (by omega), p_la hT hj, nI_clamp (by omega), nI_clamp (by omega)]
    by_cases c : lg_cmp (Int64.ofInt (p_E fw fh (k + 1)) * (ft j).toInt64) (Int64.ofInt (p_E fw fh j) * (ft (k + 1)).toInt64) ≤ 0
    · rw [if_pos c, if_pos ((p_cmpl _ _).mpr c)]
    · rw [if_neg c, if_neg (fun q => c ((p_cmpl _ _).mp q))]
theorem bands_ok {ft fw fh : Nat → Int32} (hT : zTb fw fh) (hU : zTr ft) : s_L_bands ft fw fh = 1 := by
  unfold s_L_bands
  have e : s_X4_widest ft fw fh = lp_X0_greatest_4 ft fw fh 8 := by
    unfold s_X4_widest s_X0_greatest
    rfl
  have e9 := bd_wid (ft := ft) hT 8 (by omega)
  rw [show 8 + 1 = 9 from rfl] at e9
  rw [if_pos (bd_keeps hT hU), if_pos (e.trans e9.symm)]
  have e1 : s_L_stretch ft fw fh 9 = (3212836864 : UInt32) := rfl
  have e2 : s_L_stretch ft fw fh (-1) = (3212836864 : UInt32) := rfl
  rw [e1, e2, if_pos (by decide +kernel), if_pos (by decide +kernel)]

/-! by, with each of its numbers -/
theorem by_0 (fw fh : Nat → Int32) (br : Int32) (nC nR : Nat) (nf a b c : Int32) : s_L_by fw fh br nC nR nf 0 a b c = if k_X4_x fw fh a b = 0 then s_X4_x fw fh a b else (-9000001) := rfl
theorem by_1 (fw fh : Nat → Int32) (br : Int32) (nC nR : Nat) (nf a b c : Int32) : s_L_by fw fh br nC nR nf 1 a b c = if k_X4_y fw fh a = 0 then s_X4_y fw fh a else (-9000001) := rfl
theorem by_2 (fw fh : Nat → Int32) (br : Int32) (nC nR : Nat) (nf a b c : Int32) : s_L_by fw fh br nC nR nf 2 a b c = if k_X4_apart a b = 0 then s_X4_apart a b else (-9000001) := rfl
theorem by_3 (fw fh : Nat → Int32) (br : Int32) (nC nR : Nat) (nf a b c : Int32) : s_L_by fw fh br nC nR nf 3 a b c = if k_X4_ringWay fw fh c a b = 0 then s_X4_ringWay fw fh c a b else (-9000001) := rfl
theorem by_4 (fw fh : Nat → Int32) (br : Int32) (nC nR : Nat) (nf a b c : Int32) : s_L_by fw fh br nC nR nf 4 a b c = if k_X4_zone br a = 0 then s_X4_zone br a else (-9000001) := rfl
theorem by_5 (fw fh : Nat → Int32) (br : Int32) (nC nR : Nat) (nf a b c : Int32) : s_L_by fw fh br nC nR nf 5 a b c = if k_X4_seams br a b = 0 then s_X4_seams br a b else (-9000001) := rfl
theorem by_6 (fw fh : Nat → Int32) (br : Int32) (nC nR : Nat) (nf a b c : Int32) : s_L_by fw fh br nC nR nf 6 a b c = if k_X4_dateLine a b = 0 then s_X4_dateLine a b else (-9000001) := rfl
theorem by_7 (fw fh : Nat → Int32) (br : Int32) (nC nR : Nat) (nf a b c : Int32) : s_L_by fw fh br nC nR nf 7 a b c = if k_X4_panel nC nR nf a b = 0 then s_X4_panel nC nR nf a b else (-9000001) := rfl
theorem by_8 (fw fh : Nat → Int32) (br : Int32) (nC nR : Nat) (nf a b c : Int32) : s_L_by fw fh br nC nR nf 8 a b c = if k_X4_zones br a = 0 then s_X4_zones br a else (-9000001) := rfl
theorem q_lat {x : Int32} (h1 : -90 ≤ x.toInt) (h2 : x.toInt ≤ 90) : k_X4_requireLatitude x = 0 := by
  unfold k_X4_requireLatitude
  rw [if_neg (by rw [Int32.lt_iff_toInt_lt, show (-90 : Int32).toInt = -90 from rfl]; omega), if_pos (by rw [Int32.le_iff_toInt_le, show (90 : Int32).toInt = 90 from rfl]; omega)]
theorem q_latn {x : Int32} (h : x.toInt < -90 ∨ 90 < x.toInt) : k_X4_requireLatitude x = 2 := by
  unfold k_X4_requireLatitude
  by_cases c : x < -90
  · rw [if_pos c]
  · rw [if_neg c]
    rw [Int32.lt_iff_toInt_lt, show (-90 : Int32).toInt = -90 from rfl] at c
    rw [if_neg (by rw [Int32.le_iff_toInt_le, show (90 : Int32).toInt = 90 from rfl]; omega)]
theorem q_lon {x : Int32} (h1 : -180 ≤ x.toInt) (h2 : x.toInt ≤ 179) : k_X4_requireLongitude x = 0 := by
  unfold k_X4_requireLongitude
  rw [if_neg (by rw [Int32.lt_iff_toInt_lt, show (-180 : Int32).toInt = -180 from rfl]; omega), if_pos (by rw [Int32.le_iff_toInt_le, show (179 : Int32).toInt = 179 from rfl]; omega)]
theorem q_lonn {x : Int32} (h : x.toInt < -180 ∨ 179 < x.toInt) : k_X4_requireLongitude x = 2 := by
  unfold k_X4_requireLongitude
  by_cases c : x < -180
  · rw [if_pos c]
  · rw [if_neg c]
    rw [Int32.lt_iff_toInt_lt, show (-180 : Int32).toInt = -180 from rfl] at c
    rw [if_neg (by rw [Int32.le_iff_toInt_le, show (179 : Int32).toInt = 179 from rfl]; omega)]
theorem mp_68 {y : Int32} (h : v_L_maps_68 y = 0) : (v_L_maps_24 y).toInt = 91 := by
  have h1 := xmp_n y
  unfold v_L_maps_68 at h
  by_cases c : 91 ≤ v_L_maps_24 y
  · rw [Int32.le_iff_toInt_le, show (91 : Int32).toInt = 91 from rfl] at c
    omega
  · rw [if_neg c] at h
    exact absurd h (by decide)
theorem mp_by0 (fw fh : Nat → Int32) (br : Int32) (nC nR : Nat) (nf y : Int32) : s_L_by fw fh br nC nR nf 0 (v_L_maps_24 y) (v_L_maps_55 y) 0 = (if (v_L_maps_88 y) = 0 then (-9000001) else (v_L_maps_55 y) * (s_L_wide fw fh (v_L_maps_24 y))) := by
  have h1 := xmp_n y
  have h2 := mp_e y
  rw [by_0]
  unfold k_X4_x s_X4_x v_L_maps_88
  by_cases c : v_L_maps_68 y = 0
  · have q := q_latn (x := v_L_maps_24 y) (by have := mp_68 c; omega)
    simp [c, q]
  · have hl := xmp_isn c
    have q := q_lat hl.1 hl.2
    by_cases c2 : 180 ≤ v_L_maps_55 y
    · have c3 := Int32.le_iff_toInt_le.mp c2
      rw [show (180 : Int32).toInt = 180 from rfl] at c3
      have q2 := q_lonn (x := v_L_maps_55 y) (by omega)
      simp [c, q, q2, c2]
    · have c3 : ¬ (180 : Int32).toInt ≤ (v_L_maps_55 y).toInt := fun h => c2 (Int32.le_iff_toInt_le.mpr h)
      rw [show (180 : Int32).toInt = 180 from rfl] at c3
      have q2 := q_lon (x := v_L_maps_55 y) h2.1 (by omega)
      simp [c, q, q2, c2, s_L_wide]
theorem mp_by1 (fw fh : Nat → Int32) (br : Int32) (nC nR : Nat) (nf y : Int32) : s_L_by fw fh br nC nR nf 1 (v_L_maps_24 y) 0 0 = (if (v_L_maps_68 y) = 0 then (-9000001) else s_L_high fw fh (v_L_maps_24 y)) := by
  rw [by_1]
  unfold k_X4_y s_X4_y
  by_cases c : v_L_maps_68 y = 0
  · have q := q_latn (x := v_L_maps_24 y) (by have := mp_68 c; omega)
    simp [c, q]
  · have hl := xmp_isn c
    have q := q_lat hl.1 hl.2
    simp [c, q, s_L_high]
theorem mp_gna (fw fh : Nat → Int32) (y : Int32) : ∀ n : Nat, n ≤ 181 → lp_L_maps_221 fw fh y n = lp_gna fw fh (v_L_maps_211 fw fh y) n (181 - n)
  | 0, _ => rfl
  | n + 1, hn => by
    have ih := mp_gna fw fh y n (by omega)
    have e : (90 : Int32) - nI (180 - n) = -90 + nI n := by
      apply Int32.toInt_inj.mp
      rw [z_s90 (by omega), mp_t (by omega)]
      omega
    show v_L_maps_246 fw fh y (lp_L_maps_221 fw fh y n) n = _
    rw [show 181 - (n + 1) = 180 - n by omega, lp_gna, e, ih, show 180 - n + 1 = 181 - n by omega]
    unfold v_L_maps_246 s_L_high
    by_cases c : v_L_maps_211 fw fh y < s_X2_tenHeights fw fh (-90 + nI n)
    · rw [if_pos c, if_neg (Int32.not_le.mpr c)]
    · rw [if_neg c, if_pos (Int32.not_lt.mp c)]
theorem mp_gnb (fw fh : Nat → Int32) (h : Int32) : ∀ n k : Nat, n + k = 181 → lp_gna fw fh h n k = -91 ∨ -90 ≤ lp_gna fw fh h n k
  | 0, k, hk => by
    left
    rw [show k = 181 by omega]
    show (90 : Int32) - nI 181 = -91
    decide
  | n + 1, k, hk => by
    rw [lp_gna]
    split
    · right
      rw [Int32.le_iff_toInt_le, z_s90 (by omega), show (-90 : Int32).toInt = -90 from rfl]
      omega
    · exact mp_gnb fw fh h n (k + 1) (by omega)
theorem mp_lat (fw fh : Nat → Int32) (y : Int32) : s_L_latitude fw fh (v_L_maps_211 fw fh y) = (if 99990 < (v_L_maps_211 fw fh y) then (-1001) else (if (-99990) ≤ (v_L_maps_211 fw fh y) then (if (lp_L_maps_221 fw fh y 181) = (-91) then (-1002) else lp_L_maps_221 fw fh y 181) else (-1001))) := by
  have hg := mp_gnb fw fh (v_L_maps_211 fw fh y) 181 0 rfl
  rw [mp_gna fw fh y 181 (by omega)]
  unfold s_L_latitude k_X4_latitudeAt s_X4_latitudeAt s_X2_greatestNotAbove
  generalize v_L_maps_211 fw fh y = h at hg ⊢
  rw [show 181 - 181 = 0 from rfl]
  generalize lp_gna fw fh h 181 0 = g at hg ⊢
  by_cases c1 : h < -99990
  · rw [if_pos c1]
    rw [Int32.lt_iff_toInt_lt, show (-99990 : Int32).toInt = -99990 from rfl] at c1
    rw [if_neg (by decide), if_pos rfl, if_neg (by rw [Int32.lt_iff_toInt_lt, show (99990 : Int32).toInt = 99990 from rfl]; omega), if_neg (by rw [Int32.le_iff_toInt_le, show (-99990 : Int32).toInt = -99990 from rfl]; omega)]
  · rw [if_neg c1, if_pos (Int32.not_lt.mp c1)]
    by_cases c2 : h ≤ 99990
    · rw [if_pos c2, if_neg (Int32.not_lt.mpr c2)]
      rcases hg with rfl | hg
      · rfl
      · have hn : ¬ g = -91 := fun e => absurd (e ▸ hg) (by decide)
        simp [hg, hn, c1, c2]
    · rw [if_neg c2, if_neg (by decide), if_pos rfl, if_pos (Int32.not_le.mp c2)]
theorem mp_area (fw fh : Nat → Int32) (y : Int32) (ce : Int32) : s_L_field fw fh ce (v_L_maps_326 y) (v_L_maps_340 y) (v_L_maps_356 y) (v_L_maps_55 y) = v_L_maps_409 fw fh y := by
  have h1 := xmp_n y
  have h2 := mp_e y
  have h3 := mp_mm y
  have h4 := mp_o y
  have key : (if k_X4_area fw fh (v_L_maps_326 y) (v_L_maps_340 y) (v_L_maps_356 y) (v_L_maps_55 y) = 0 then s_X4_area fw fh (v_L_maps_326 y) (v_L_maps_340 y) (v_L_maps_356 y) (v_L_maps_55 y) else (-1)) = v_L_maps_409 fw fh y := by
    unfold v_L_maps_409
    have e90 : (-90 : Int32).toInt = -90 := rfl
    have e9 : (90 : Int32).toInt = 90 := rfl
    have e18 : (180 : Int32).toInt = 180 := rfl
    unfold k_X4_area s_X4_area
    by_cases c : v_L_maps_383 y = 0
    · rw [if_pos c, if_neg]
      unfold v_L_maps_383 at c
      by_cases c1 : v_L_maps_68 y = 0
      · have := mp_68 c1
        by_cases d1 : v_L_maps_326 y < -90
        · rw [if_pos d1]; decide
        rw [if_neg d1]
        by_cases d2 : v_L_maps_340 y < v_L_maps_326 y
        · rw [if_pos d2]; decide
        rw [if_neg d2, if_neg (by rw [Int32.le_iff_toInt_le]; omega)]
        decide
      · rw [if_neg c1] at c
        by_cases d1 : v_L_maps_326 y < -90
        · rw [if_pos d1]; decide
        rw [if_neg d1]
        by_cases d2 : v_L_maps_340 y < v_L_maps_326 y
        · rw [if_pos d2]; decide
        rw [if_neg d2]
        by_cases d3 : v_L_maps_340 y ≤ 90
        · rw [if_pos d3]
          by_cases d4 : v_L_maps_356 y < -180
          · rw [if_pos d4]; decide
          rw [if_neg d4] at c ⊢
          by_cases d5 : v_L_maps_55 y < v_L_maps_356 y
          · rw [if_pos d5]; decide
          rw [if_neg d5] at c
          exact absurd c (by decide)
        · rw [if_neg d3]; decide
    · have a1 := xmp_a1 c
      have a3 := xmp_a3 c
      have a2 := xmp_a2 y
      rw [if_neg c]
      unfold v_L_maps_383 at c
      have c2 := z_n1 (z_n2 c)
      have c3 := z_n1 (z_n2 (z_n2 c))
      have d1 : ¬ v_L_maps_326 y < -90 := by rw [Int32.lt_iff_toInt_lt]; omega
      have d2 : ¬ v_L_maps_340 y < v_L_maps_326 y := by rw [Int32.lt_iff_toInt_lt]; omega
      have d3 : v_L_maps_340 y ≤ 90 := by rw [Int32.le_iff_toInt_le]; omega
      have d6 : v_L_maps_55 y ≤ 180 := by rw [Int32.le_iff_toInt_le]; omega
      rw [if_neg d1, if_neg d2, if_pos d3, if_neg c2, if_neg c3, if_pos d6, if_pos rfl, if_neg d1, if_neg d2, if_pos d3, if_neg c2, if_neg c3, if_pos d6]
      rfl
  unfold s_L_field k_X4_areaByCells s_X4_areaByCells
  by_cases c0 : ce = 0
  · rw [if_pos c0]
    exact key
  · rw [if_neg c0, ← key]
    by_cases k0 : k_X4_area fw fh (v_L_maps_326 y) (v_L_maps_340 y) (v_L_maps_356 y) (v_L_maps_55 y) = 0
    · rw [if_pos k0, if_pos rfl, if_pos k0, if_pos k0]
    · rw [if_neg k0, if_neg k0, if_neg k0]
theorem mp_54 (fw fh : Nat → Int32) : s_L_field fw fh 0 5 4 0 0 = -1 := rfl
theorem p_lcx (x : Int64) : lg_cmp x x = 0 := (p_lc0 x x).mpr rfl
theorem maps_ok (fw fh : Nat → Int32) (br : Int32) (nC nR : Nat) (nf y : Int32) : s_L_maps fw fh br nC nR nf y = 1 := by
  unfold s_L_maps
  rw [if_pos (mp_by0 fw fh br nC nR nf y), if_pos (mp_by1 fw fh br nC nR nf y), if_pos (mp_lat fw fh y), mp_area, mp_area, mp_54, p_lcx, p_lcx, if_pos rfl, if_pos rfl, if_pos rfl]

theorem rg_o1 (y : Int32) : -181 ≤ (v_L_rings_26 y).toInt ∧ (v_L_rings_26 y).toInt ≤ 179 := by
  unfold v_L_rings_26
  split
  · decide
  · have := l_off y (n := 360) (c := 180) 360 180 rfl rfl (by decide) (by decide) (by decide)
    omega
theorem rg_rem {x : Int32} {a : Nat} (h : x.toInt = (a : Int)) : x - x / 360 * 360 = nI (a % 360) := by
  have ha : a < 2 ^ 31 := by
    have := x.toInt_lt
    omega
  have e : x = nI a := by
    apply Int32.toInt_inj.mp
    rw [nI_toInt ha, h]
  rw [e, show (360 : Int32) = nI 360 from rfl, pk_rem ha (by decide) (by decide)]
theorem rg_o2 (y : Int32) : -180 ≤ (v_L_rings_68 y).toInt ∧ (v_L_rings_68 y).toInt ≤ 179 := by
  have h1 := rg_o1 y
  unfold v_L_rings_68
  split
  · have e5 : (540 : Int32).toInt = 540 := rfl
    have e : (v_L_rings_26 y + 540).toInt = (v_L_rings_26 y).toInt + 540 := by
      rw [z_addI (by rw [e5]; omega) (by rw [e5]; omega), e5]
    obtain ⟨a, ha⟩ : ∃ a : Nat, (v_L_rings_26 y + 540).toInt = (a : Int) := ⟨((v_L_rings_26 y).toInt + 540).toNat, by omega⟩
    rw [rg_rem ha, show (180 : Int32) = nI 180 from rfl, pk_sub_toInt (by omega) (by omega)]
    omega
  · have := l_off (y >>> ((5 : Int32) &&& 31)) (n := 360) (c := 180) 360 180 rfl rfl (by decide) (by decide) (by decide)
    omega
theorem rg_nl (o1 o2 : Int32) : rg_n o1 o2 < 360 := by
  unfold rg_n
  omega
theorem xrg_eq {y : Int32} {k : Nat} (hk : k ≤ rg_n (v_L_rings_26 y) (v_L_rings_68 y)) : (((v_L_rings_26 y) + (nI k)) + 720) - (((v_L_rings_26 y) + (nI k)) + 720) / 360 * 360 = ((v_L_rings_68 y) + 720) - ((v_L_rings_68 y) + 720) / 360 * 360 ↔ k = rg_n (v_L_rings_26 y) (v_L_rings_68 y) := by
  have h1 := rg_o1 y
  have h2 := rg_o2 y
  have hl := rg_nl (v_L_rings_26 y) (v_L_rings_68 y)
  have e7 : (720 : Int32).toInt = 720 := rfl
  have ek : (nI k).toInt = (k : Int) := nI_toInt (by omega)
  have ea : (v_L_rings_26 y + nI k).toInt = (v_L_rings_26 y).toInt + k := by
    rw [z_addI (by rw [ek]; omega) (by rw [ek]; omega), ek]
  have eb : (v_L_rings_26 y + nI k + 720).toInt = (v_L_rings_26 y).toInt + k + 720 := by
    rw [z_addI (by rw [ea, e7]; omega) (by rw [ea, e7]; omega), ea, e7]
  have ec : (v_L_rings_68 y + 720).toInt = (v_L_rings_68 y).toInt + 720 := by
    rw [z_addI (by rw [e7]; omega) (by rw [e7]; omega), e7]
  obtain ⟨a, ha⟩ : ∃ a : Nat, (v_L_rings_26 y + nI k + 720).toInt = (a : Int) := ⟨((v_L_rings_26 y).toInt + k + 720).toNat, by omega⟩
  obtain ⟨b, hb⟩ : ∃ b : Nat, (v_L_rings_68 y + 720).toInt = (b : Int) := ⟨((v_L_rings_68 y).toInt + 720).toNat, by omega⟩
  rw [rg_rem ha, rg_rem hb, nI_eq (by omega) (by omega)]
  unfold rg_n at hk hl ⊢
  omega

theorem xrg_w (y : Int32) : 0 ≤ (v_L_rings_167 y).toInt ∧ (v_L_rings_167 y).toInt ≤ 180 := by
  have hl := rg_nl (v_L_rings_26 y) (v_L_rings_68 y)
  unfold v_L_rings_167
  have ek : (nI (rg_n (v_L_rings_26 y) (v_L_rings_68 y))).toInt = (rg_n (v_L_rings_26 y) (v_L_rings_68 y) : Int) := nI_toInt (by omega)
  by_cases c : 180 < nI (rg_n (v_L_rings_26 y) (v_L_rings_68 y))
  · rw [if_pos c, show (360 : Int32) = nI 360 from rfl, pk_sub_toInt (by omega) (by omega)]
    rw [Int32.lt_iff_toInt_lt, ek, show (180 : Int32).toInt = 180 from rfl] at c
    omega
  · rw [if_neg c, ek]
    rw [Int32.lt_iff_toInt_lt, ek, show (180 : Int32).toInt = 180 from rfl] at c
    omega
theorem rg_n2 (y : Int32) : -91 ≤ (v_L_rings_98 y).toInt ∧ (v_L_rings_98 y).toInt ≤ 90 := by
  unfold v_L_rings_98
  split
  · decide
  · have := l_off (y >>> ((3 : Int32) &&& 31)) (n := 181) (c := 90) 181 90 rfl rfl (by decide) (by decide) (by decide)
    omega
theorem xrg_lat {y : Int32} (h : ¬ v_L_rings_98 y < -90) : -90 ≤ (v_L_rings_98 y).toInt ∧ (v_L_rings_98 y).toInt ≤ 90 := by
  have h1 := rg_n2 y
  rw [Int32.lt_iff_toInt_lt, show (-90 : Int32).toInt = -90 from rfl] at h
  omega

theorem z_pe {α β : Type} {a c : α} {b d : β} (h1 : a = c) (h2 : b = d) : (a, b) = (c, d) := by rw [h1, h2]
theorem p_q1 {d q n : Nat} (hd : 1 ≤ d) (h : 360 = d * q) : (360 + n) / d = q + n / d := by
  rw [h, Nat.mul_add_div (by omega)]
theorem p_q2 {d q : Nat} (hd : 1 ≤ d) (h : 360 = d * q) : 359 / d + 1 = q := by
  have h1 : 359 / d < q := (Nat.div_lt_iff_lt_mul (by omega)).mpr (by rw [Nat.mul_comm]; omega)
  obtain ⟨r, rfl⟩ : ∃ r, q = r + 1 := ⟨q - 1, by generalize 359 / d = w at h1; omega⟩
  have h2 : r ≤ 359 / d := (Nat.le_div_iff_mul_le (by omega)).mpr (by rw [Nat.mul_comm]; rw [Nat.mul_add] at h; omega)
  generalize 359 / d = w at h1 h2 ⊢
  omega
theorem p_q3 {d u : Nat} (hd : 1 ≤ d) : (u + 1) / d = u / d ∨ (u + 1) / d = u / d + 1 := by
  have h1 : u / d ≤ (u + 1) / d := Nat.div_le_div_right (by omega)
  have h2 : (u + 1) / d ≤ (u + d) / d := Nat.div_le_div_right (by omega)
  rw [Nat.add_div_right u (by omega)] at h2
  omega
/-- the breadth of a zone -/
def zZn (br : Int32) : Prop := ∃ d : Nat, 1 ≤ d ∧ d ≤ 360 ∧ 360 % d = 0 ∧ br = nI d
theorem rg_neg {x : Int32} (h1 : -360 < x.toInt) (h2 : x.toInt < 0) : x - x / 360 * 360 = x := by
  have e : x / 360 = 0 := by
    apply Int32.toInt_inj.mp
    have e3 : (360 : Int32).toInt = 360 := rfl
    have e4 : x.toInt.tdiv 360 = 0 := by
      have h := Int.tdiv_eq_zero_of_lt (a := -x.toInt) (b := 360) (by omega) (by omega)
      rw [Int.neg_tdiv] at h
      omega
    rw [Int32.toInt_div, e3, e4]
    rfl
  rw [e, Int32.zero_mul, Int32.sub_zero]
theorem rg_RR {x : Int32} (h1 : -360 < x.toInt) (h2 : x.toInt < 2000) : (x - x / 360 * 360 + 360) - (x - x / 360 * 360 + 360) / 360 * 360 = nI ((x.toInt % 360).toNat) := by
  have e3 : (360 : Int32).toInt = 360 := rfl
  by_cases c : x.toInt < 0
  · rw [rg_neg h1 c]
    have e : (x + 360).toInt = ((x.toInt + 360).toNat : Int) := by
      rw [z_addI (by rw [e3]; omega) (by rw [e3]; omega), e3]
      omega
    rw [rg_rem e]
    exact congrArg nI (by omega)
  · rw [rg_rem (x := x) (a := x.toInt.toNat) (by omega)]
    have e : (nI (x.toInt.toNat % 360) + 360).toInt = ((x.toInt.toNat % 360 + 360 : Nat) : Int) := by
      have e4 : (nI (x.toInt.toNat % 360)).toInt = (x.toInt.toNat % 360 : Nat) := nI_toInt (by omega)
      rw [z_addI (by rw [e3, e4]; omega) (by rw [e3, e4]; omega), e3, e4]
      omega
    rw [rg_rem e]
    exact congrArg nI (by omega)
theorem rg_223 {y : Int32} {u k : Nat} (hu : (v_L_rings_26 y).toInt = (u : Int) - 180) (hu2 : u < 360) (hk : k ≤ 180) (hs : v_L_rings_182 y = 1 ∨ v_L_rings_182 y = -1) : v_L_rings_223 y k = nI (((u : Int) + k * (v_L_rings_182 y).toInt) % 360).toNat := by
  have e8 : (180 : Int32).toInt = 180 := rfl
  have ea : (v_L_rings_26 y + 180).toInt = u := by
    rw [z_addI (by rw [e8]; omega) (by rw [e8]; omega), e8]
    omega
  have ek : (nI k).toInt = (k : Int) := nI_toInt (by omega)
  unfold v_L_rings_223
  rcases hs with h | h
  · rw [h]
    have e1 : (1 : Int32).toInt = 1 := rfl
    have ex : (v_L_rings_26 y + 180 + nI k * 1).toInt = (u : Int) + k * 1 := by
      rw [Int32.mul_one, z_addI (by rw [ea, ek]; omega) (by rw [ea, ek]; omega), ea, ek]
      omega
    rw [rg_RR (by rw [ex]; omega) (by rw [ex]; omega), ex, e1]
  · rw [h]
    have e1 : (-1 : Int32).toInt = -1 := rfl
    have em : (nI k * -1).toInt = (k : Int) * -1 := by
      rw [z_mulI (by rw [ek, e1]; omega) (by rw [ek, e1]; omega), ek, e1]
    have ex : (v_L_rings_26 y + 180 + nI k * -1).toInt = (u : Int) + k * -1 := by
      rw [z_addI (by rw [ea, em]; omega) (by rw [ea, em]; omega), ea, em]
    rw [rg_RR (by rw [ex]; omega) (by rw [ex]; omega), ex, e1]
theorem rg_238 {y : Int32} {a k : Nat} (ha : v_L_rings_223 y k = nI a) (ha2 : a < 360) (hs : v_L_rings_182 y = 1 ∨ v_L_rings_182 y = -1) : v_L_rings_238 y k = nI (((a : Int) + (v_L_rings_182 y).toInt) % 360).toNat := by
  have e3 : (360 : Int32).toInt = 360 := rfl
  have ea : (nI a).toInt = (a : Int) := nI_toInt (by omega)
  have es : -1 ≤ (v_L_rings_182 y).toInt ∧ (v_L_rings_182 y).toInt ≤ 1 := by
    rcases hs with h | h <;> rw [h] <;> decide
  unfold v_L_rings_238
  rw [ha]
  have e1 : (nI a + v_L_rings_182 y).toInt = (a : Int) + (v_L_rings_182 y).toInt := by
    rw [z_addI (by rw [ea]; omega) (by rw [ea]; omega), ea]
  have e2 : (nI a + v_L_rings_182 y + 360).toInt = (((a : Int) + (v_L_rings_182 y).toInt + 360).toNat : Int) := by
    rw [z_addI (by rw [e1, e3]; omega) (by rw [e1, e3]; omega), e1, e3]
    omega
  rw [rg_rem e2]
  exact congrArg nI (by omega)
theorem rg_E {br y : Int32} {d q u : Nat} (hb : br = nI d) (hd : 1 ≤ d) (hd2 : d ≤ 360) (hq : 360 = d * q) (hu : (v_L_rings_26 y).toInt = (u : Int) - 180) (hu2 : u < 360) (hs : v_L_rings_182 y = 1) : ∀ k : Nat, k ≤ 180 → lp_L_rings_193 br y k = (nI ((u + k) / d - u / d), if 360 ≤ u + k then 1 else 0)
  | 0, _ => by
    rw [Nat.add_zero, Nat.sub_self, if_neg (by omega)]
    rfl
  | k + 1, hk => by
    have ih := rg_E hb hd hd2 hq hu hu2 hs k (by omega)
    have e1 : (1 : Int32).toInt = 1 := rfl
    have h2 := rg_223 hu hu2 (k := k) (by omega) (Or.inl hs)
    rw [hs, e1] at h2
    show (v_L_rings_300 br y ((lp_L_rings_193 br y k).1) k, v_L_rings_316 y ((lp_L_rings_193 br y k).2) k) = _
    rw [ih]
    have k1 : u / d ≤ 360 := Nat.le_trans (Nat.div_le_self _ _) (by omega)
    have k3 : u / d ≤ (u + k) / d := Nat.div_le_div_right (by omega)
    have k4 : (u + k) / d ≤ 540 := Nat.le_trans (Nat.div_le_self _ _) (by omega)
    unfold v_L_rings_300 v_L_rings_316 v_L_rings_268
    rw [hs, if_neg (show ¬ (1 : Int32) ≤ 0 by decide)]
    rcases (show u + k < 359 ∨ u + k = 359 ∨ 360 ≤ u + k by omega) with c | c | c
    · have ea : v_L_rings_223 y k = nI (u + k) := by
        rw [h2]
        exact congrArg nI (by omega)
      have h3 := rg_238 ea (by omega) (Or.inl hs)
      rw [hs, e1] at h3
      have eb : v_L_rings_238 y k = nI (u + k + 1) := by
        rw [h3]
        exact congrArg nI (by omega)
      rw [ea, eb, if_neg (nI_ne0 (by omega) (by omega)), if_pos rfl, if_pos rfl, hb, pk_div (by omega) (by omega) (by omega), pk_div (by omega) (by omega) (by omega), if_neg (show ¬ 360 ≤ u + k by omega), if_neg (show ¬ 360 ≤ u + (k + 1) by omega), ← Nat.add_assoc]
      refine z_pe ?_ (Int32.add_zero _)
      have k2 : (u + k + 1) / d ≤ 540 := Nat.le_trans (Nat.div_le_self _ _) (by omega)
      rcases p_q3 (u := u + k) hd with e | e
      · rw [if_pos (by rw [e]), Int32.add_zero, e]
      · rw [if_neg (fun hh => by rw [nI_eq (by omega) (by omega)] at hh; omega), e, show (1 : Int32) = nI 1 from rfl, nI_add]
        exact congrArg nI (by omega)
    · have ea : v_L_rings_223 y k = nI 359 := by
        rw [h2]
        exact congrArg nI (by omega)
      have h3 := rg_238 ea (by omega) (Or.inl hs)
      rw [hs, e1] at h3
      have eb : v_L_rings_238 y k = 0 := h3
      rw [eb, if_pos rfl, if_neg (show ¬ (1 : Int32) = 0 by decide), if_neg (show ¬ (1 : Int32) = 0 by decide), if_neg (show ¬ 360 ≤ u + k by omega), if_pos (show 360 ≤ u + (k + 1) by omega), ← Nat.add_assoc, c]
      refine z_pe ?_ (show (0 : Int32) + 1 = 1 by decide)
      have q2 := p_q2 hd hq
      have q1 := p_q1 (n := 0) hd hq
      rw [Nat.zero_div] at q1
      rw [c] at k3
      rw [show 359 + 1 = 360 + 0 from rfl, q1, show (1 : Int32) = nI 1 from rfl, nI_add]
      congr 1
      generalize 359 / d = w at q2 k3 ⊢
      omega
    · obtain ⟨w, hw⟩ : ∃ w, u + k = 360 + w := ⟨u + k - 360, by omega⟩
      have ea : v_L_rings_223 y k = nI w := by
        rw [h2]
        exact congrArg nI (by omega)
      have h3 := rg_238 ea (by omega) (Or.inl hs)
      rw [hs, e1] at h3
      have eb : v_L_rings_238 y k = nI (w + 1) := by
        rw [h3]
        exact congrArg nI (by omega)
      have q1 := p_q1 (n := w) hd hq
      have q1b := p_q1 (n := w + 1) hd hq
      rw [ea, eb, if_neg (nI_ne0 (by omega) (by omega)), if_pos rfl, if_pos rfl, hb, pk_div (by omega) (by omega) (by omega), pk_div (by omega) (by omega) (by omega), if_pos c, if_pos (show 360 ≤ u + (k + 1) by omega), ← Nat.add_assoc]
      refine z_pe ?_ (Int32.add_zero _)
      have k2 : (w + 1) / d ≤ 540 := Nat.le_trans (Nat.div_le_self _ _) (by omega)
      have k5 : w / d ≤ 540 := Nat.le_trans (Nat.div_le_self _ _) (by omega)
      rw [hw] at k3 k4 ⊢
      rw [Nat.add_assoc, q1b, q1]
      rw [q1] at k3 k4
      rcases p_q3 (u := w) hd with e | e
      · rw [if_pos (by rw [e]), Int32.add_zero, e]
      · rw [if_neg (fun hh => by rw [nI_eq (by omega) (by omega)] at hh; omega), e, show (1 : Int32) = nI 1 from rfl, nI_add]
        exact congrArg nI (by omega)
theorem rg_W {br y : Int32} {d q u : Nat} (hb : br = nI d) (hd : 1 ≤ d) (hd2 : d ≤ 360) (hq : 360 = d * q) (hu : (v_L_rings_26 y).toInt = (u : Int) - 180) (hu2 : u < 360) (hs : v_L_rings_182 y = -1) : ∀ k : Nat, k ≤ 180 → lp_L_rings_193 br y k = (nI ((360 + u) / d - (360 + u - k) / d), if u < k then -1 else 0)
  | 0, _ => by
    rw [Nat.sub_zero, Nat.sub_self, if_neg (by omega)]
    rfl
  | k + 1, hk => by
    have ih := rg_W hb hd hd2 hq hu hu2 hs k (by omega)
    have e1 : (-1 : Int32).toInt = -1 := rfl
    have h2 := rg_223 hu hu2 (k := k) (by omega) (Or.inr hs)
    rw [hs, e1] at h2
    show (v_L_rings_300 br y ((lp_L_rings_193 br y k).1) k, v_L_rings_316 y ((lp_L_rings_193 br y k).2) k) = _
    rw [ih]
    have k3 : (360 + u - k) / d ≤ (360 + u) / d := Nat.div_le_div_right (by omega)
    have k4 : (360 + u) / d ≤ 720 := Nat.le_trans (Nat.div_le_self _ _) (by omega)
    unfold v_L_rings_300 v_L_rings_316 v_L_rings_268
    rw [hs, if_pos (show (-1 : Int32) ≤ 0 by decide)]
    rcases (show k < u ∨ k = u ∨ u < k by omega) with c | c | c
    · obtain ⟨w, hw⟩ : ∃ w, u - k = w + 1 := ⟨u - k - 1, by omega⟩
      have ea : v_L_rings_223 y k = nI (w + 1) := by
        rw [h2]
        exact congrArg nI (by omega)
      have h3 := rg_238 ea (by omega) (Or.inr hs)
      rw [hs, e1] at h3
      have eb : v_L_rings_238 y k = nI w := by
        rw [h3]
        exact congrArg nI (by omega)
      have q1 := p_q1 (n := w) hd hq
      have q1b := p_q1 (n := w + 1) hd hq
      have k2 : (w + 1) / d ≤ 540 := Nat.le_trans (Nat.div_le_self _ _) (by omega)
      have k5 : w / d ≤ 540 := Nat.le_trans (Nat.div_le_self _ _) (by omega)
      rw [ea, eb, if_neg (nI_ne0 (by omega) (by omega)), if_pos rfl, if_pos rfl, hb, pk_div (by omega) (by omega) (by omega), pk_div (by omega) (by omega) (by omega), if_neg (show ¬ u < k by omega), if_neg (show ¬ u < k + 1 by omega)]
      refine z_pe ?_ (Int32.add_zero _)
      rw [show 360 + u - (k + 1) = 360 + w by omega, show 360 + u - k = 360 + (w + 1) by omega, q1, q1b]
      rw [show 360 + u - k = 360 + (w + 1) by omega, q1b] at k3
      rcases p_q3 (u := w) hd with e | e
      · rw [if_pos (by rw [e]), Int32.add_zero, e]
      · rw [if_neg (fun hh => by rw [nI_eq (by omega) (by omega)] at hh; omega), show (1 : Int32) = nI 1 from rfl, nI_add]
        exact congrArg nI (by omega)
    · have ea : v_L_rings_223 y k = 0 := by
        rw [h2]
        show nI _ = nI 0
        exact congrArg nI (by omega)
      rw [ea, if_pos rfl, if_neg (show ¬ (1 : Int32) = 0 by decide), if_neg (show ¬ (1 : Int32) = 0 by decide), if_neg (show ¬ u < k by omega), if_pos (show u < k + 1 by omega)]
      refine z_pe ?_ (show (0 : Int32) + -1 = -1 by decide)
      have q2 := p_q2 hd hq
      have q1 := p_q1 (n := 0) hd hq
      rw [Nat.zero_div] at q1
      rw [show 360 + u - k = 360 + 0 by omega, q1] at k3
      rw [show 360 + u - (k + 1) = 359 by omega, show 360 + u - k = 360 + 0 by omega, q1, show (1 : Int32) = nI 1 from rfl, nI_add]
      congr 1
      generalize 359 / d = w at q2 ⊢
      omega
    · obtain ⟨w, hw⟩ : ∃ w, 360 + u - k = w + 1 := ⟨360 + u - k - 1, by omega⟩
      have ea : v_L_rings_223 y k = nI (w + 1) := by
        rw [h2]
        exact congrArg nI (by omega)
      have h3 := rg_238 ea (by omega) (Or.inr hs)
      rw [hs, e1] at h3
      have eb : v_L_rings_238 y k = nI w := by
        rw [h3]
        exact congrArg nI (by omega)
      have k2 : (w + 1) / d ≤ 540 := Nat.le_trans (Nat.div_le_self _ _) (by omega)
      have k5 : w / d ≤ 540 := Nat.le_trans (Nat.div_le_self _ _) (by omega)
      rw [ea, eb, if_neg (nI_ne0 (by omega) (by omega)), if_pos rfl, if_pos rfl, hb, pk_div (by omega) (by omega) (by omega), pk_div (by omega) (by omega) (by omega), if_pos c, if_pos (show u < k + 1 by omega)]
      refine z_pe ?_ (Int32.add_zero _)
      rw [hw] at k3
      rw [show 360 + u - (k + 1) = w by omega, hw]
      rcases p_q3 (u := w) hd with e | e
      · rw [if_pos (by rw [e]), Int32.add_zero, e]
      · rw [if_neg (fun hh => by rw [nI_eq (by omega) (by omega)] at hh; omega), show (1 : Int32) = nI 1 from rfl, nI_add]
        exact congrArg nI (by omega)

theorem rg_f0 {y : Int32} (c : v_L_rings_112 y = 0) : k_X4_requireLongitude (v_L_rings_26 y) = 2 := by
  unfold v_L_rings_112 at c
  by_cases h : v_L_rings_26 y < -180
  · rw [Int32.lt_iff_toInt_lt, show (-180 : Int32).toInt = -180 from rfl] at h
    exact q_lonn (Or.inl h)
  · rw [if_neg h] at c
    exact absurd c (by decide)
theorem rg_f1 {y : Int32} (c : ¬ v_L_rings_112 y = 0) : -180 ≤ (v_L_rings_26 y).toInt ∧ (v_L_rings_26 y).toInt ≤ 179 := by
  have h1 := rg_o1 y
  unfold v_L_rings_112 at c
  have h := z_n1 c
  rw [Int32.lt_iff_toInt_lt, show (-180 : Int32).toInt = -180 from rfl] at h
  omega
theorem rg_de {o1 o2 : Int32} (h1 : -180 ≤ o1.toInt ∧ o1.toInt ≤ 179) (h2 : -180 ≤ o2.toInt ∧ o2.toInt ≤ 179) : s_X4_degreesEast o1 o2 = nI (rg_n o1 o2) := by
  have e : (o2 - o1).toInt = o2.toInt - o1.toInt := z_subI (by omega) (by omega)
  have e3 : (360 : Int32).toInt = 360 := rfl
  have e0 : (0 : Int32).toInt = 0 := rfl
  have en : (nI (rg_n o1 o2)).toInt = (rg_n o1 o2 : Int) := nI_toInt (by have := rg_nl o1 o2; omega)
  apply Int32.toInt_inj.mp
  rw [en]
  unfold s_X4_degreesEast rg_n
  by_cases c : 0 ≤ o2 - o1
  · rw [if_pos c, e]
    rw [Int32.le_iff_toInt_le, e, e0] at c
    omega
  · rw [if_neg c, z_addI (by rw [e, e3]; omega) (by rw [e, e3]; omega), e, e3]
    rw [Int32.le_iff_toInt_le, e, e0] at c
    omega
theorem rg_lt1 {n : Nat} (hn : n < 360) : (180 : Int32) < nI n ↔ 180 < n := by
  rw [Int32.lt_iff_toInt_lt, nI_toInt (by omega), show (180 : Int32).toInt = 180 from rfl]
  omega
theorem rg_sw {y : Int32} (h1 : -180 ≤ (v_L_rings_26 y).toInt ∧ (v_L_rings_26 y).toInt ≤ 179) : s_X4_shorterWay (v_L_rings_26 y) (v_L_rings_68 y) = v_L_rings_167 y := by
  have hl := rg_nl (v_L_rings_26 y) (v_L_rings_68 y)
  unfold s_X4_shorterWay v_L_rings_167
  rw [rg_de h1 (rg_o2 y)]
  generalize rg_n (v_L_rings_26 y) (v_L_rings_68 y) = n at hl ⊢
  have e : (360 : Int32) - nI n = nI (360 - n) := pk_sub (a := 360) (by omega)
  rw [e]
  have e1 : (nI n).toInt = (n : Int) := nI_toInt (by omega)
  have e2 : (nI (360 - n)).toInt = ((360 - n : Nat) : Int) := nI_toInt (by omega)
  by_cases c : 180 < n
  · rw [if_pos ((rg_lt1 hl).mpr c), if_pos (by rw [Int32.lt_iff_toInt_lt, e1, e2]; omega)]
  · rw [if_neg (fun h => c ((rg_lt1 hl).mp h)), if_neg (by rw [Int32.lt_iff_toInt_lt, e1, e2]; omega)]
theorem rg_by2 (fw fh : Nat → Int32) (br : Int32) (nC nR : Nat) (nf y : Int32) : s_L_by fw fh br nC nR nf 2 (v_L_rings_26 y) (v_L_rings_68 y) 0 = (if (v_L_rings_112 y) = 0 then (-9000001) else v_L_rings_167 y) := by
  rw [by_2]
  unfold k_X4_apart s_X4_apart
  have h2 := rg_o2 y
  have q2 := q_lon (x := v_L_rings_68 y) h2.1 h2.2
  by_cases c : v_L_rings_112 y = 0
  · have q := rg_f0 c
    simp [c, q]
  · have h1 := rg_f1 c
    have q := q_lon h1.1 h1.2
    simp [c, q, q2, rg_sw h1]
theorem rg_by3 (fw fh : Nat → Int32) (br : Int32) (nC nR : Nat) (nf y : Int32) : s_L_by fw fh br nC nR nf 3 (v_L_rings_26 y) (v_L_rings_68 y) (v_L_rings_98 y) = (if (v_L_rings_112 y) = 0 then (-9000001) else (if (v_L_rings_98 y) < (-90) then (-9000001) else (v_L_rings_167 y) * (s_L_wide fw fh (v_L_rings_98 y)))) := by
  rw [by_3]
  unfold k_X4_ringWay s_X4_ringWay
  have h2 := rg_o2 y
  have q2 := q_lon (x := v_L_rings_68 y) h2.1 h2.2
  by_cases d : v_L_rings_98 y < -90
  · have d2 := Int32.lt_iff_toInt_lt.mp d
    rw [show (-90 : Int32).toInt = -90 from rfl] at d2
    have q3 := q_latn (Or.inl d2)
    simp [d, q3]
  · have d3 := xrg_lat d
    have q3 := q_lat d3.1 d3.2
    by_cases c : v_L_rings_112 y = 0
    · have q := rg_f0 c
      simp [c, q, q3]
    · have h1 := rg_f1 c
      have q := q_lon h1.1 h1.2
      simp [c, q, q2, q3, d, rg_sw h1, s_L_wide]
theorem rg_zb {br he : Int32} {d u : Nat} (hb : br = nI d) (hd : 1 ≤ d) (hd2 : d ≤ 360) (h : he.toInt = (u : Int) - 180) (hu : u < 1000) : s_X3_zonesBefore br he = nI (u / d) ∧ (he + 180) / br = nI (u / d) := by
  have e : he + 180 = nI u := by
    apply Int32.toInt_inj.mp
    rw [z_addI (by rw [show (180 : Int32).toInt = 180 from rfl]; omega) (by rw [show (180 : Int32).toInt = 180 from rfl]; omega), nI_toInt (by omega), show (180 : Int32).toInt = 180 from rfl]
    omega
  unfold s_X3_zonesBefore
  rw [if_pos (by rw [hb]; exact nI_le (a := 1) hd (by omega)), Int32.sub_neg, e, hb, pk_div (by omega) (by omega) (by omega)]
  exact ⟨rfl, rfl⟩
theorem rg_by4 (fw fh : Nat → Int32) {br : Int32} (hZ : zZn br) (nC nR : Nat) (nf y : Int32) : s_L_by fw fh br nC nR nf 4 (v_L_rings_26 y) 0 0 = (if (v_L_rings_112 y) = 0 then (-9000001) else ((v_L_rings_26 y) + 180) / br) := by
  obtain ⟨d, hd, hd2, -, hb⟩ := hZ
  rw [by_4]
  unfold k_X4_zone s_X4_zone
  by_cases c : v_L_rings_112 y = 0
  · have q := rg_f0 c
    simp [c, q]
  · have h1 := rg_f1 c
    have q := q_lon h1.1 h1.2
    have z := rg_zb hb hd hd2 (he := v_L_rings_26 y) (u := ((v_L_rings_26 y).toInt + 180).toNat) (by omega) (by omega)
    simp [c, q, z.1, z.2]
theorem rg_cross {br y : Int32} (hZ : zZn br) (h1 : -180 ≤ (v_L_rings_26 y).toInt ∧ (v_L_rings_26 y).toInt ≤ 179) : s_X3_seamsEastOf br (if (s_X4_goesEast (v_L_rings_26 y) (v_L_rings_68 y)) = 0 then v_L_rings_68 y else v_L_rings_26 y) (s_X4_shorterWay (v_L_rings_26 y) (v_L_rings_68 y)) = (lp_L_rings_193 br y ((v_L_rings_167 y).toInt.toNat)).1 ∧ (if (s_X4_goesEast (v_L_rings_26 y) (v_L_rings_68 y)) = 0 then (if v_L_rings_68 y ≤ v_L_rings_26 y then 0 else (-1)) else (if v_L_rings_26 y ≤ v_L_rings_68 y then 0 else 1)) = (lp_L_rings_193 br y ((v_L_rings_167 y).toInt.toNat)).2 := by
  obtain ⟨d, hd, hd2, hm, hb⟩ := hZ
  obtain ⟨q, hq⟩ : ∃ q, 360 = d * q := ⟨360 / d, by have := Nat.div_add_mod 360 d; omega⟩
  have h2 := rg_o2 y
  have hl := rg_nl (v_L_rings_26 y) (v_L_rings_68 y)
  rw [rg_sw h1]
  obtain ⟨u, hu⟩ : ∃ u : Nat, (v_L_rings_26 y).toInt = (u : Int) - 180 := ⟨((v_L_rings_26 y).toInt + 180).toNat, by omega⟩
  obtain ⟨v, hv⟩ : ∃ v : Nat, (v_L_rings_68 y).toInt = (v : Int) - 180 := ⟨((v_L_rings_68 y).toInt + 180).toNat, by omega⟩
  obtain ⟨n, hn⟩ : ∃ n, n = rg_n (v_L_rings_26 y) (v_L_rings_68 y) := ⟨_, rfl⟩
  have hn2 : n = (((v : Int) - u) % 360).toNat := by
    rw [hn]
    unfold rg_n
    rw [hu, hv]
    congr 1
    omega
  unfold s_X4_goesEast
  rw [rg_de h1 h2]
  have e167 : v_L_rings_167 y = if 180 < nI n then 360 - nI n else nI n := by
    rw [hn]
    rfl
  have e182 : v_L_rings_182 y = if 180 < nI n then -1 else 1 := by
    rw [hn]
    rfl
  rw [← hn] at hl ⊢
  have en : (nI n).toInt = (n : Int) := nI_toInt (by omega)
  unfold s_X3_seamsEastOf
  by_cases c : 180 < n
  · have c2 := (rg_lt1 hl).mpr c
    rw [if_pos c2] at e167 e182
    rw [show (360 : Int32) - nI n = nI (360 - n) from pk_sub (a := 360) (by omega)] at e167
    have em : (nI (360 - n)).toInt = ((360 - n : Nat) : Int) := nI_toInt (by omega)
    rw [if_pos c2, if_pos rfl, if_pos rfl, e167, em, Int.toNat_natCast, rg_W hb hd hd2 hq hu (by omega) e182 (360 - n) (by omega)]
    have ev : (v_L_rings_68 y + nI (360 - n)).toInt = ((v + (360 - n) : Nat) : Int) - 180 := by
      rw [z_addI (by rw [em]; omega) (by rw [em]; omega), em]
      omega
    rw [(rg_zb hb hd hd2 ev (by omega)).1, (rg_zb hb hd hd2 hv (by omega)).1]
    have q1 := p_q1 (n := u) hd hq
    have q2 := p_q1 (n := v) hd hq
    constructor
    · show _ = nI _
      have k1 : v / d ≤ (v + (360 - n)) / d := Nat.div_le_div_right (by omega)
      rw [pk_sub k1]
      by_cases cc : v ≤ u
      · rw [show v + (360 - n) = u by omega, show 360 + u - (360 - n) = 360 + v by omega, q1, q2]
        exact congrArg nI (by omega)
      · rw [show v + (360 - n) = 360 + u by omega, show 360 + u - (360 - n) = v by omega]
    · by_cases cc : v ≤ u
      · rw [if_pos (by rw [Int32.le_iff_toInt_le]; omega)]
        show _ = (if u < 360 - n then (-1 : Int32) else 0)
        rw [if_neg (by omega)]
      · rw [if_neg (by rw [Int32.le_iff_toInt_le]; omega)]
        show _ = (if u < 360 - n then (-1 : Int32) else 0)
        rw [if_pos (by omega)]
  · have c2 : ¬ (180 : Int32) < nI n := fun h => c ((rg_lt1 hl).mp h)
    rw [if_neg c2] at e167 e182
    rw [if_neg c2, if_neg (show ¬ (1 : Int32) = 0 by decide), if_neg (show ¬ (1 : Int32) = 0 by decide), e167, en, Int.toNat_natCast, rg_E hb hd hd2 hq hu (by omega) e182 n (by omega)]
    have ev : (v_L_rings_26 y + nI n).toInt = ((u + n : Nat) : Int) - 180 := by
      rw [z_addI (by rw [en]; omega) (by rw [en]; omega), en]
      omega
    rw [(rg_zb hb hd hd2 ev (by omega)).1, (rg_zb hb hd hd2 hu (by omega)).1]
    constructor
    · show _ = nI _
      exact pk_sub (Nat.div_le_div_right (by omega))
    · by_cases cc : u ≤ v
      · rw [if_pos (by rw [Int32.le_iff_toInt_le]; omega)]
        show _ = (if 360 ≤ u + n then (1 : Int32) else 0)
        rw [if_neg (by omega)]
      · rw [if_neg (by rw [Int32.le_iff_toInt_le]; omega)]
        show _ = (if 360 ≤ u + n then (1 : Int32) else 0)
        rw [if_pos (by omega)]
theorem rg_by5 (fw fh : Nat → Int32) {br : Int32} (hZ : zZn br) (nC nR : Nat) (nf y : Int32) : s_L_by fw fh br nC nR nf 5 (v_L_rings_26 y) (v_L_rings_68 y) 0 = (if (v_L_rings_112 y) = 0 then (-9000001) else (lp_L_rings_193 br y ((v_L_rings_167 y).toInt.toNat)).1) := by
  rw [by_5]
  unfold k_X4_seams s_X4_seams
  have h2 := rg_o2 y
  have q2 := q_lon (x := v_L_rings_68 y) h2.1 h2.2
  by_cases c : v_L_rings_112 y = 0
  · have q := rg_f0 c
    simp [c, q]
  · have h1 := rg_f1 c
    have q := q_lon h1.1 h1.2
    rw [← (rg_cross hZ h1).1, if_neg c, q, q2, if_pos rfl, if_pos rfl, if_pos rfl, if_pos rfl, if_pos rfl]
theorem rg_by6 (fw fh : Nat → Int32) {br : Int32} (hZ : zZn br) (nC nR : Nat) (nf y : Int32) : s_L_by fw fh br nC nR nf 6 (v_L_rings_26 y) (v_L_rings_68 y) 0 = (if (v_L_rings_112 y) = 0 then (-9000001) else (lp_L_rings_193 br y ((v_L_rings_167 y).toInt.toNat)).2) := by
  rw [by_6]
  unfold k_X4_dateLine s_X4_dateLine
  have h2 := rg_o2 y
  have q2 := q_lon (x := v_L_rings_68 y) h2.1 h2.2
  by_cases c : v_L_rings_112 y = 0
  · have q := rg_f0 c
    simp [c, q]
  · have h1 := rg_f1 c
    have q := q_lon h1.1 h1.2
    rw [← (rg_cross hZ h1).2, if_neg c, q, q2, if_pos rfl, if_pos rfl, if_pos rfl, if_pos rfl, if_pos rfl]
theorem rings_ok (fw fh : Nat → Int32) {br : Int32} (hZ : zZn br) (nC nR : Nat) (nf y : Int32) : s_L_rings fw fh br nC nR nf y = 1 := by
  unfold s_L_rings
  rw [if_pos (rg_by2 fw fh br nC nR nf y), if_pos (rg_by3 fw fh br nC nR nf y), if_pos (rg_by4 fw fh hZ nC nR nf y), if_pos (rg_by5 fw fh hZ nC nR nf y), if_pos (rg_by6 fw fh hZ nC nR nf y)]
