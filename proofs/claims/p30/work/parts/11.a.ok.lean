theorem p_Eb {fw fh : Nat → Int32} (hT : zTb fw fh) {b : Nat} (hb : b < 9) : 0 ≤ p_E fw fh b ∧ p_E fw fh b ≤ 719928000000 := by
  have bw0 := hT.1 b (by omega)
  have bw1 := hT.1 (b + 1) (by omega)
  have hs := hT.2.2 b (by omega)
  unfold p_E
  constructor
  · exact Int.mul_nonneg (by omega) (by omega)
  · exact Int.mul_le_mul (show 36000 * ((fw b).toInt + (fw (b + 1)).toInt) ≤ 72000000 by omega) (show (fh (b + 1)).toInt - (fh b).toInt ≤ 9999 by omega) (by omega) (by omega)
theorem p_bm64 {x : Int} (h1 : -9223372036854775808 ≤ x) (h2 : x < 9223372036854775808) : (Int64.ofInt x).toInt = x := by
  rw [Int64.toInt_ofInt]
  show x.bmod 18446744073709551616 = x
  exact Int.bmod_eq_of_le (by omega) (by omega)
theorem p_prod {fw fh ft : Nat → Int32} (hT : zTb fw fh) (hU : zTr ft) {b j : Nat} (hb : b < 9) (hj : j < 9) : (Int64.ofInt (p_E fw fh b) * (ft j).toInt64).toInt = p_E fw fh b * (ft j).toInt := by
  have e := p_Eb hT hb
  have t := hU j hj
  rw [p_ofI, ← Int64.ofInt_mul]
  have h1 : 0 ≤ p_E fw fh b * (ft j).toInt := Int.mul_nonneg e.1 (by omega)
  have h2 : p_E fw fh b * (ft j).toInt ≤ 719928000000 * 99999 := Int.mul_le_mul e.2 t.2 (by omega) (by omega)
  exact p_bm64 (by omega) (by omega)
theorem p_lc0 (x y : Int64) : lg_cmp x y = 0 ↔ x.toInt = y.toInt := by
  unfold lg_cmp
  simp only [gt_iff_lt, Int64.lt_iff_toInt_lt, ← Int64.toInt_inj]
  repeat' split
  all_goals (constructor <;> intro hh <;> first | omega | decide | exact absurd hh (by decide))
theorem p_cmp0 (x y : Int64) : s_J13_compare_74951 x y = 0 ↔ lg_cmp x y = 0 := by
  unfold s_J13_compare_74951
  by_cases h : 0 ≤ lg_cmp x y <;> by_cases h2 : lg_cmp x y = 0 <;> simp [h, h2]
theorem p_lc3 (x y : Int64) : lg_cmp x y = 1 ∨ lg_cmp x y = 0 ∨ lg_cmp x y = -1 := by
  unfold lg_cmp
  repeat' split
  all_goals simp
theorem p_cmpl (x y : Int64) : s_J13_compare_74951 x y ≤ 0 ↔ lg_cmp x y ≤ 0 := by
  unfold s_J13_compare_74951
  rcases p_lc3 x y with h | h | h <;> rw [h] <;> decide
theorem p_cb {fw fh ft : Nat → Int32} (hT : zTb fw fh) {i j : Nat} (hi : i < 9) (hj : j < 9) : s_X0_compareBands ft fw fh (nI i) (nI j) = s_J13_compare_74951 (Int64.ofInt (p_E fw fh i) * (ft j).toInt64) (Int64.ofInt (p_E fw fh j) * (ft i).toInt64) := by
  unfold s_X0_compareBands
  rw [p_band2 hT hi, p_band2 hT hj, p_tro hi, p_tro hj]
/-- two bands alike -/
abbrev bd_al (fw fh ft : Nat → Int32) (i j : Nat) : Prop := lg_cmp (Int64.ofInt (p_E fw fh i) * (ft j).toInt64) (Int64.ofInt (p_E fw fh j) * (ft i).toInt64) = 0
theorem bd_alI {fw fh ft : Nat → Int32} (hT : zTb fw fh) (hU : zTr ft) {i j : Nat} (hi : i < 9) (hj : j < 9) : bd_al fw fh ft i j ↔ p_E fw fh i * (ft j).toInt = p_E fw fh j * (ft i).toInt := by
  unfold bd_al
  rw [p_lc0, p_prod hT hU hi hj, p_prod hT hU hj hi]
theorem bd_all {fw fh ft : Nat → Int32} (hT : zTb fw fh) (hU : zTr ft) (h : ∀ q : Nat, q < 9 → bd_al fw fh ft q 0) {i j : Nat} (hi : i < 9) (hj : j < 9) : bd_al fw fh ft i j := by
  have a1 := (bd_alI hT hU hi (by omega)).mp (h i hi)
  have a2 := (bd_alI hT hU hj (by omega)).mp (h j hj)
  have t0 := hU 0 (by omega)
  rw [bd_alI hT hU hi hj]
  refine Int.eq_of_mul_eq_mul_right (a := (ft 0).toInt) (by omega) ?_
  calc p_E fw fh i * (ft j).toInt * (ft 0).toInt = p_E fw fh i * (ft 0).toInt * (ft j).toInt := by grind
    _ = p_E fw fh 0 * (ft i).toInt * (ft j).toInt := by rw [a1]
    _ = p_E fw fh 0 * (ft j).toInt * (ft i).toInt := by grind
    _ = p_E fw fh j * (ft 0).toInt * (ft i).toInt := by rw [a2]
    _ = p_E fw fh j * (ft i).toInt * (ft 0).toInt := by grind
theorem bd_80 {ft fw fh : Nat → Int32} (hT : zTb fw fh) (a : Int32) {k : Nat} (hk : k < 9) : v_L_bands_80 ft fw fh a k = if a = 0 then 0 else (if lg_cmp (Int64.ofInt (p_E fw fh k) * (ft 0).toInt64) (Int64.ofInt (p_E fw fh 0) * (ft k).toInt64) = 0 then 1 else 0) := by
  unfold v_L_bands_80 v_L_bands_34
  rw [p_la hT hk, p_la0 hT, nI_clamp (by omega)]
theorem bd_250 {ft fw fh : Nat → Int32} (hT : zTb fw fh) (a : Int32) {j k : Nat} (hk : k < 9) (hj : j < 9) : v_L_bands_250 ft fw fh a j k = if a = 0 then 0 else (if lg_cmp (Int64.ofInt (p_E fw fh k) * (ft j).toInt64) (Int64.ofInt (p_E fw fh j) * (ft k).toInt64) = 0 then 1 else 0) := by
  unfold v_L_bands_250
  rw [p_la hT hk, p_la hT hj, nI_clamp (by omega), nI_clamp (by omega)]
theorem bd_71 {ft fw fh : Nat → Int32} (hT : zTb fw fh) (h : ∀ q : Nat, q < 9 → bd_al fw fh ft q 0) : ∀ k : Nat, k ≤ 9 → (lp_L_bands_7 ft fw fh k).1 = 1
  | 0, _ => rfl
  | k + 1, hk => by
    show v_L_bands_80 ft fw fh ((lp_L_bands_7 ft fw fh k).1) k = 1
    rw [bd_71 hT h k (by omega), bd_80 hT _ (by omega), if_neg (by decide), if_pos (h k (by omega))]
theorem bd_70 {ft fw fh : Nat → Int32} (hT : zTb fw fh) {q : Nat} (h : ¬ bd_al fw fh ft q 0) : ∀ k : Nat, k ≤ 9 → q < k → (lp_L_bands_7 ft fw fh k).1 = 0
  | 0, _, hq => absurd hq (by omega)
  | k + 1, hk, hq => by
    show v_L_bands_80 ft fw fh ((lp_L_bands_7 ft fw fh k).1) k = 0
    rw [bd_80 hT _ (by omega)]
    by_cases c : q < k
    · rw [if_pos (bd_70 hT h k (by omega) c)]
    · have e : q = k := by omega
      subst e
      by_cases c2 : (lp_L_bands_7 ft fw fh q).1 = 0
      · rw [if_pos c2]
      · rw [if_neg c2, if_neg h]
theorem bd_172 {ft fw fh : Nat → Int32} (hT : zTb fw fh) {k : Nat} (hk : k < 9) : ∀ j : Nat, j ≤ k → lp_L_bands_172 ft fw fh k 0 j = 0 ∧ ((∀ q : Nat, q < k → bd_al fw fh ft k q) → lp_L_bands_172 ft fw fh k 1 j = 1)
  | 0, _ => ⟨rfl, fun _ => rfl⟩
  | j + 1, hj => by
    have ih := bd_172 (ft := ft) hT hk j (by omega)
    constructor
    · show v_L_bands_250 ft fw fh (lp_L_bands_172 ft fw fh k 0 j) j k = 0
      rw [ih.1, bd_250 hT _ hk (by omega), if_pos rfl]
    · intro h
      show v_L_bands_250 ft fw fh (lp_L_bands_172 ft fw fh k 1 j) j k = 1
      rw [ih.2 h, bd_250 hT _ hk (by omega), if_neg (by decide), if_pos (h j (by omega))]
theorem bd_1621 {ft fw fh : Nat → Int32} (hT : zTb fw fh) (hU : zTr ft) (h : ∀ q : Nat, q < 9 → bd_al fw fh ft q 0) : ∀ k : Nat, k ≤ 9 → lp_L_bands_162 ft fw fh k = 1
  | 0, _ => bd_71 hT h 9 (by omega)
  | k + 1, hk => by
    show lp_L_bands_172 ft fw fh k (lp_L_bands_162 ft fw fh k) k = 1
    rw [bd_1621 hT hU h k (by omega)]
    exact (bd_172 hT (by omega) k (Nat.le_refl k)).2 (fun q hq => bd_all hT hU h (by omega) (by omega))
theorem bd_1620 {ft fw fh : Nat → Int32} (hT : zTb fw fh) {q : Nat} (hq : q < 9) (h : ¬ bd_al fw fh ft q 0) : ∀ k : Nat, k ≤ 9 → lp_L_bands_162 ft fw fh k = 0
  | 0, _ => bd_70 hT h 9 (by omega) hq
  | k + 1, hk => by
    show lp_L_bands_172 ft fw fh k (lp_L_bands_162 ft fw fh k) k = 0
    rw [bd_1620 hT hq h k (by omega)]
    exact (bd_172 hT (by omega) k (Nat.le_refl k)).1
theorem bd_keeps {ft fw fh : Nat → Int32} (hT : zTb fw fh) (hU : zTr ft) : s_X4_keepsAreas ft fw fh = lp_L_bands_162 ft fw fh 9 := by
  unfold s_X4_keepsAreas s_X0_areAllAlike
  have hc : ∀ j : Nat, j < 8 → (s_X0_compareBands ft fw fh (nI (j + 1)) 0 = 0 ↔ bd_al fw fh ft (j + 1) 0) := fun j hj => by
    rw [show (0 : Int32) = nI 0 from rfl, p_cb hT (by omega) (by omega), show nI 0 = (0 : Int32) from rfl, p_cmp0]
  by_cases c : (∀ j : Nat, j < 8 → s_X0_compareBands ft fw fh (nI (j + 1)) 0 = 0)
  · rw [if_pos c]
    have h : ∀ q : Nat, q < 9 → bd_al fw fh ft q 0 := by
      intro q hq
      by_cases e : q = 0
      · subst e
        rw [bd_alI hT hU hq hq]
      · obtain ⟨r, rfl⟩ : ∃ r, q = r + 1 := ⟨q - 1, by omega⟩
        exact (hc r (by omega)).mp (c r (by omega))
    exact (bd_1621 hT hU h 9 (by omega)).symm
  · rw [if_neg c]
    obtain ⟨j, hj⟩ := Classical.not_forall.mp c
    obtain ⟨hj8, hj⟩ := Classical.not_imp.mp hj
    exact (bd_1620 hT (by omega) (fun q => hj ((hc j hj8).mpr q)) 9 (by omega)).symm
theorem bd_wid {ft fw fh : Nat → Int32} (hT : zTb fw fh) : ∀ k : Nat, k ≤ 8 → (lp_L_bands_7 ft fw fh (k + 1)).2 = lp_X0_greatest_4 ft fw fh k
  | 0, _ => by
    show v_L_bands_128 ft fw fh 0 0 = 0
    unfold v_L_bands_128
    split
    · rfl
    · rfl
  | k + 1, hk => by
    have ih := bd_wid (ft := ft) hT k (by omega)
    obtain ⟨j, hj, e⟩ := vp_in_of (bd_best ft fw fh (k + 1) (by omega)) (by omega)
    show v_L_bands_128 ft fw fh ((lp_L_bands_7 ft fw fh (k + 1)).2) (k + 1) = _
    rw [lp_X0_greatest_4, ← ih, e, p_cb hT (by omega) hj]
    unfold v_L_bands_128 v_L_bands_34
    rw [p_la hT (by omega), p_la hT hj, nI_clamp (by omega), nI_clamp (by omega)]
    by_cases c : lg_cmp (Int64.ofInt (p_E fw fh (k + 1)) * (ft j).toInt64) (Int64.ofInt (p_E fw fh j) * (ft (k + 1)).toInt64) ≤ 0
    · rw [if_pos c, if_pos ((p_cmpl _ _).mpr c)]
    · rw [if_neg c, if_neg (fun q => c ((p_cmpl _ _).mp q))]
theorem bands_ok {ft fw fh : Nat → Int32} (hT : zTb fw fh) (hU : zTr ft) : s_L_bands ft fw fh = 1 := by
  unfold s_L_bands
  have e : s_X4_widest ft fw fh = lp_X0_greatest_4 ft fw fh 8 := by
    unfold s_X4_widest s_X0_greatest
    rfl
  have e9 := bd_wid (ft := ft) hT 8 (by omega)
  rw [show 8 + 1 = 9 from rfl] at e9
  rw [if_pos (bd_keeps hT hU), if_pos (e.trans e9.symm)]
  have e1 : s_L_stretch ft fw fh 9 = (3212836864 : UInt32) := rfl
  have e2 : s_L_stretch ft fw fh (-1) = (3212836864 : UInt32) := rfl
  rw [e1, e2, if_pos (by decide +kernel), if_pos (by decide +kernel)]
/-! by, with each of its numbers -/
theorem by_0 (fw fh : Nat → Int32) (br : Int32) (nC nR : Nat) (nf a b c : Int32) : s_L_by fw fh br nC nR nf 0 a b c = if k_X4_x fw fh a b = 0 then s_X4_x fw fh a b else (-9000001) := rfl
theorem by_1 (fw fh : Nat → Int32) (br : Int32) (nC nR : Nat) (nf a b c : Int32) : s_L_by fw fh br nC nR nf 1 a b c = if k_X4_y fw fh a = 0 then s_X4_y fw fh a else (-9000001) := rfl
theorem by_2 (fw fh : Nat → Int32) (br : Int32) (nC nR : Nat) (nf a b c : Int32) : s_L_by fw fh br nC nR nf 2 a b c = if k_X4_apart a b = 0 then s_X4_apart a b else (-9000001) := rfl
theorem by_3 (fw fh : Nat → Int32) (br : Int32) (nC nR : Nat) (nf a b c : Int32) : s_L_by fw fh br nC nR nf 3 a b c = if k_X4_ringWay fw fh c a b = 0 then s_X4_ringWay fw fh c a b else (-9000001) := rfl
theorem by_4 (fw fh : Nat → Int32) (br : Int32) (nC nR : Nat) (nf a b c : Int32) : s_L_by fw fh br nC nR nf 4 a b c = if k_X4_zone br a = 0 then s_X4_zone br a else (-9000001) := rfl
theorem by_5 (fw fh : Nat → Int32) (br : Int32) (nC nR : Nat) (nf a b c : Int32) : s_L_by fw fh br nC nR nf 5 a b c = if k_X4_seams br a b = 0 then s_X4_seams br a b else (-9000001) := rfl
theorem by_6 (fw fh : Nat → Int32) (br : Int32) (nC nR : Nat) (nf a b c : Int32) : s_L_by fw fh br nC nR nf 6 a b c = if k_X4_dateLine a b = 0 then s_X4_dateLine a b else (-9000001) := rfl
theorem by_7 (fw fh : Nat → Int32) (br : Int32) (nC nR : Nat) (nf a b c : Int32) : s_L_by fw fh br nC nR nf 7 a b c = if k_X4_panel nC nR nf a b = 0 then s_X4_panel nC nR nf a b else (-9000001) := rfl
theorem by_8 (fw fh : Nat → Int32) (br : Int32) (nC nR : Nat) (nf a b c : Int32) : s_L_by fw fh br nC nR nf 8 a b c = if k_X4_zones br a = 0 then s_X4_zones br a else (-9000001) := rfl
theorem q_lat {x : Int32} (h1 : -90 ≤ x.toInt) (h2 : x.toInt ≤ 90) : k_X4_requireLatitude x = 0 := by
  unfold k_X4_requireLatitude
  rw [if_neg (by rw [Int32.lt_iff_toInt_lt, show (-90 : Int32).toInt = -90 from rfl]; omega), if_pos (by rw [Int32.le_iff_toInt_le, show (90 : Int32).toInt = 90 from rfl]; omega)]
theorem q_latn {x : Int32} (h : x.toInt < -90 ∨ 90 < x.toInt) : k_X4_requireLatitude x = 2 := by
  unfold k_X4_requireLatitude
  by_cases c : x < -90
  · rw [if_pos c]
  · rw [if_neg c]
    rw [Int32.lt_iff_toInt_lt, show (-90 : Int32).toInt = -90 from rfl] at c
    rw [if_neg (by rw [Int32.le_iff_toInt_le, show (90 : Int32).toInt = 90 from rfl]; omega)]
theorem q_lon {x : Int32} (h1 : -180 ≤ x.toInt) (h2 : x.toInt ≤ 179) : k_X4_requireLongitude x = 0 := by
  unfold k_X4_requireLongitude
  rw [if_neg (by rw [Int32.lt_iff_toInt_lt, show (-180 : Int32).toInt = -180 from rfl]; omega), if_pos (by rw [Int32.le_iff_toInt_le, show (179 : Int32).toInt = 179 from rfl]; omega)]
theorem q_lonn {x : Int32} (h : x.toInt < -180 ∨ 179 < x.toInt) : k_X4_requireLongitude x = 2 := by
  unfold k_X4_requireLongitude
  by_cases c : x < -180
  · rw [if_pos c]
  · rw [if_neg c]
    rw [Int32.lt_iff_toInt_lt, show (-180 : Int32).toInt = -180 from rfl] at c
    rw [if_neg (by rw [Int32.le_iff_toInt_le, show (179 : Int32).toInt = 179 from rfl]; omega)]
theorem mp_68 {y : Int32} (h : v_L_maps_68 y = 0) : (v_L_maps_24 y).toInt = 91 := by
  have h1 := mp_n y
  unfold v_L_maps_68 at h
  by_cases c : 91 ≤ v_L_maps_24 y
  · rw [Int32.le_iff_toInt_le, show (91 : Int32).toInt = 91 from rfl] at c
    omega
  · rw [if_neg c] at h
    exact absurd h (by decide)
theorem mp_by0 (fw fh : Nat → Int32) (br : Int32) (nC nR : Nat) (nf y : Int32) : s_L_by fw fh br nC nR nf 0 (v_L_maps_24 y) (v_L_maps_55 y) 0 = (if (v_L_maps_88 y) = 0 then (-9000001) else (v_L_maps_55 y) * (s_L_wide fw fh (v_L_maps_24 y))) := by
  have h1 := mp_n y
  have h2 := mp_e y
  rw [by_0]
  unfold k_X4_x s_X4_x v_L_maps_88
  by_cases c : v_L_maps_68 y = 0
  · have q := q_latn (x := v_L_maps_24 y) (by have := mp_68 c; omega)
    simp [c, q]
  · have hl := mp_isn c
    have q := q_lat hl.1 hl.2
    by_cases c2 : 180 ≤ v_L_maps_55 y
    · have c3 := Int32.le_iff_toInt_le.mp c2
      rw [show (180 : Int32).toInt = 180 from rfl] at c3
      have q2 := q_lonn (x := v_L_maps_55 y) (by omega)
      simp [c, q, q2, c2]
    · have c3 : ¬ (180 : Int32).toInt ≤ (v_L_maps_55 y).toInt := fun h => c2 (Int32.le_iff_toInt_le.mpr h)
      rw [show (180 : Int32).toInt = 180 from rfl] at c3
      have q2 := q_lon (x := v_L_maps_55 y) h2.1 (by omega)
      simp [c, q, q2, c2, s_L_wide]
theorem mp_by1 (fw fh : Nat → Int32) (br : Int32) (nC nR : Nat) (nf y : Int32) : s_L_by fw fh br nC nR nf 1 (v_L_maps_24 y) 0 0 = (if (v_L_maps_68 y) = 0 then (-9000001) else s_L_high fw fh (v_L_maps_24 y)) := by
  rw [by_1]
  unfold k_X4_y s_X4_y
  by_cases c : v_L_maps_68 y = 0
  · have q := q_latn (x := v_L_maps_24 y) (by have := mp_68 c; omega)
    simp [c, q]
  · have hl := mp_isn c
    have q := q_lat hl.1 hl.2
    simp [c, q, s_L_high]
theorem mp_gna (fw fh : Nat → Int32) (y : Int32) : ∀ n : Nat, n ≤ 181 → lp_L_maps_221 fw fh y n = lp_gna fw fh (v_L_maps_211 fw fh y) n (181 - n)
  | 0, _ => rfl
  | n + 1, hn => by
    have ih := mp_gna fw fh y n (by omega)
    have e : (90 : Int32) - nI (180 - n) = -90 + nI n := by
      apply Int32.toInt_inj.mp
      rw [z_s90 (by omega), mp_t (by omega)]
      omega
    show v_L_maps_246 fw fh y (lp_L_maps_221 fw fh y n) n = _
    rw [show 181 - (n + 1) = 180 - n by omega, lp_gna, e, ih, show 180 - n + 1 = 181 - n by omega]
    unfold v_L_maps_246 s_L_high
    by_cases c : v_L_maps_211 fw fh y < s_X2_tenHeights fw fh (-90 + nI n)
    · rw [if_pos c, if_neg (Int32.not_le.mpr c)]
    · rw [if_neg c, if_pos (Int32.not_lt.mp c)]
theorem mp_gnb (fw fh : Nat → Int32) (h : Int32) : ∀ n k : Nat, n + k = 181 → lp_gna fw fh h n k = -91 ∨ -90 ≤ lp_gna fw fh h n k
  | 0, k, hk => by
    left
    rw [show k = 181 by omega]
    show (90 : Int32) - nI 181 = -91
    decide
  | n + 1, k, hk => by
    rw [lp_gna]
    split
    · right
      rw [Int32.le_iff_toInt_le, z_s90 (by omega), show (-90 : Int32).toInt = -90 from rfl]
      omega
    · exact mp_gnb fw fh h n (k + 1) (by omega)
theorem mp_lat (fw fh : Nat → Int32) (y : Int32) : s_L_latitude fw fh (v_L_maps_211 fw fh y) = (if 99990 < (v_L_maps_211 fw fh y) then (-1001) else (if (-99990) ≤ (v_L_maps_211 fw fh y) then (if (lp_L_maps_221 fw fh y 181) = (-91) then (-1002) else lp_L_maps_221 fw fh y 181) else (-1001))) := by
  have hg := mp_gnb fw fh (v_L_maps_211 fw fh y) 181 0 rfl
  rw [mp_gna fw fh y 181 (by omega)]
  unfold s_L_latitude k_X4_latitudeAt s_X4_latitudeAt s_X2_greatestNotAbove
  generalize v_L_maps_211 fw fh y = h at hg ⊢
  rw [show 181 - 181 = 0 from rfl]
  generalize lp_gna fw fh h 181 0 = g at hg ⊢
  by_cases c1 : h < -99990
  · rw [if_pos c1]
    rw [Int32.lt_iff_toInt_lt, show (-99990 : Int32).toInt = -99990 from rfl] at c1
    rw [if_neg (by decide), if_pos rfl, if_neg (by rw [Int32.lt_iff_toInt_lt, show (99990 : Int32).toInt = 99990 from rfl]; omega), if_neg (by rw [Int32.le_iff_toInt_le, show (-99990 : Int32).toInt = -99990 from rfl]; omega)]
  · rw [if_neg c1, if_pos (Int32.not_lt.mp c1)]
    by_cases c2 : h ≤ 99990
    · rw [if_pos c2, if_neg (Int32.not_lt.mpr c2)]
      rcases hg with rfl | hg
      · rfl
      · have hn : ¬ g = -91 := fun e => absurd (e ▸ hg) (by decide)
        simp [hg, hn, c1, c2]
    · rw [if_neg c2, if_neg (by decide), if_pos rfl, if_pos (Int32.not_le.mp c2)]
theorem mp_area (fw fh : Nat → Int32) (y : Int32) (ce : Int32) : s_L_field fw fh ce (v_L_maps_326 y) (v_L_maps_340 y) (v_L_maps_356 y) (v_L_maps_55 y) = v_L_maps_409 fw fh y := by
  have h1 := mp_n y
  have h2 := mp_e y
  have h3 := mp_mm y
  have h4 := mp_o y
  have key : (if k_X4_area fw fh (v_L_maps_326 y) (v_L_maps_340 y) (v_L_maps_356 y) (v_L_maps_55 y) = 0 then s_X4_area fw fh (v_L_maps_326 y) (v_L_maps_340 y) (v_L_maps_356 y) (v_L_maps_55 y) else (-1)) = v_L_maps_409 fw fh y := by
    unfold v_L_maps_409
    have e90 : (-90 : Int32).toInt = -90 := rfl
    have e9 : (90 : Int32).toInt = 90 := rfl
    have e18 : (180 : Int32).toInt = 180 := rfl
    unfold k_X4_area s_X4_area
    by_cases c : v_L_maps_383 y = 0
    · rw [if_pos c, if_neg]
      unfold v_L_maps_383 at c
      by_cases c1 : v_L_maps_68 y = 0
      · have := mp_68 c1
        by_cases d1 : v_L_maps_326 y < -90
        · rw [if_pos d1]; decide
        rw [if_neg d1]
        by_cases d2 : v_L_maps_340 y < v_L_maps_326 y
        · rw [if_pos d2]; decide
        rw [if_neg d2, if_neg (by rw [Int32.le_iff_toInt_le]; omega)]
        decide
      · rw [if_neg c1] at c
        by_cases d1 : v_L_maps_326 y < -90
        · rw [if_pos d1]; decide
        rw [if_neg d1]
        by_cases d2 : v_L_maps_340 y < v_L_maps_326 y
        · rw [if_pos d2]; decide
        rw [if_neg d2]
        by_cases d3 : v_L_maps_340 y ≤ 90
        · rw [if_pos d3]
          by_cases d4 : v_L_maps_356 y < -180
          · rw [if_pos d4]; decide
          rw [if_neg d4] at c ⊢
          by_cases d5 : v_L_maps_55 y < v_L_maps_356 y
          · rw [if_pos d5]; decide
          rw [if_neg d5] at c
          exact absurd c (by decide)
        · rw [if_neg d3]; decide
    · have a1 := mp_a1 c
      have a3 := mp_a3 c
      have a2 := mp_a2 y
      rw [if_neg c]
      unfold v_L_maps_383 at c
      have c2 := z_n1 (z_n2 c)
      have c3 := z_n1 (z_n2 (z_n2 c))
      have d1 : ¬ v_L_maps_326 y < -90 := by rw [Int32.lt_iff_toInt_lt]; omega
      have d2 : ¬ v_L_maps_340 y < v_L_maps_326 y := by rw [Int32.lt_iff_toInt_lt]; omega
      have d3 : v_L_maps_340 y ≤ 90 := by rw [Int32.le_iff_toInt_le]; omega
      have d6 : v_L_maps_55 y ≤ 180 := by rw [Int32.le_iff_toInt_le]; omega
      rw [if_neg d1, if_neg d2, if_pos d3, if_neg c2, if_neg c3, if_pos d6, if_pos rfl, if_neg d1, if_neg d2, if_pos d3, if_neg c2, if_neg c3, if_pos d6]
      rfl
  unfold s_L_field k_X4_areaByCells s_X4_areaByCells
  by_cases c0 : ce = 0
  · rw [if_pos c0]
    exact key
  · rw [if_neg c0, ← key]
    by_cases k0 : k_X4_area fw fh (v_L_maps_326 y) (v_L_maps_340 y) (v_L_maps_356 y) (v_L_maps_55 y) = 0
    · rw [if_pos k0, if_pos rfl, if_pos k0, if_pos k0]
    · rw [if_neg k0, if_neg k0, if_neg k0]
theorem mp_54 (fw fh : Nat → Int32) : s_L_field fw fh 0 5 4 0 0 = -1 := rfl
theorem p_lcx (x : Int64) : lg_cmp x x = 0 := (p_lc0 x x).mpr rfl
theorem maps_ok (fw fh : Nat → Int32) (br : Int32) (nC nR : Nat) (nf y : Int32) : s_L_maps fw fh br nC nR nf y = 1 := by
  unfold s_L_maps
  rw [if_pos (mp_by0 fw fh br nC nR nf y), if_pos (mp_by1 fw fh br nC nR nf y), if_pos (mp_lat fw fh y), mp_area, mp_area, mp_54, p_lcx, p_lcx, if_pos rfl, if_pos rfl, if_pos rfl]
