/-- the reference's third condition on a row -/
def p_V3 (fh : Nat → Int32) (row hgt : Int32) : Int32 := (if (if row < 0 then 0 else (if 9 < row then 0 else 1)) = (0 : Int32) then 0 else (if row ≤ 0 then (if hgt = 0 then (if row = 9 then 1 else (if (fh (row + 1).toNatClampNeg) ≤ hgt then 0 else 1)) else 0) else (if hgt ≤ (fh (row - 1).toNatClampNeg) then 0 else (if row = 9 then 1 else (if (fh (row + 1).toNatClampNeg) ≤ hgt then 0 else 1)))))
def p_V1 (row : Int32) : Int32 := (if row < 0 then 0 else (if 9 < row then 0 else 1))
def p_V2 (wd hgt : Int32) : Int32 := (if wd < 0 then 0 else (if 1000 < wd then 0 else (if hgt < 0 then 0 else (if 9999 < hgt then 0 else 1))))
theorem p_r1e (fh : Nat → Int32) (row wd hgt : Int32) : n_X5_table_qg_11 fh row wd hgt = n_X5_mayAll_qg_11 (p_V1 row) (p_V2 wd hgt) (p_V3 fh row hgt) := rfl
theorem p_r1w (fw fh : Nat → Int32) (row wd hgt : Int32) : n_X5_table_qgw fw fh row wd hgt = if s_X5_mayAll (p_V1 row) (p_V2 wd hgt) (p_V3 fh row hgt) = 0 then fw else upd fw row.toNatClampNeg wd := rfl
theorem p_r1h (fh : Nat → Int32) (row wd hgt : Int32) : n_X5_table_qgh fh row wd hgt = if s_X5_mayAll (p_V1 row) (p_V2 wd hgt) (p_V3 fh row hgt) = 0 then fh else upd fh row.toNatClampNeg hgt := rfl
theorem p_va (f : Nat → Int32) {j : Nat} (h : j < 10) : s_X2_valueAt f (nI j) = f j := by
  unfold s_X2_valueAt
  rw [if_neg (nI_pos (by omega)), if_neg (show ¬ (10 : Int32) ≤ nI j from nI_ge (b := 10) h (by omega)), nI_clamp (by omega)]
theorem p_v1 (row : Int32) : (p_V1 row = 0 ∧ (row < 0 ∨ ¬ row < 0 ∧ ¬ row < 10)) ∨ (p_V1 row = 1 ∧ ∃ j : Nat, j < 10 ∧ row = nI j) := by
  unfold p_V1
  by_cases h1 : row < 0
  · left; simp [h1]
  · obtain ⟨j, hj, rfl⟩ := nI_of h1
    by_cases h2 : j < 10
    · right
      have h4 : ¬ 9 < nI j := nI_nlt (a := 9) (by omega) (by omega)
      rw [if_neg h1, if_neg h4]
      exact ⟨rfl, j, h2, rfl⟩
    · left
      have h3 : ¬ nI j < 10 := nI_nlt (b := 10) (by omega) hj
      have h4 : 9 < nI j := nI_lt (a := 9) (by omega) hj
      rw [if_neg h1, if_pos h4]
      exact ⟨rfl, Or.inr ⟨h1, h3⟩⟩
theorem p_v2 (wd hgt : Int32) : (p_V2 wd hgt = 0 ∧ (wd < 0 ∨ 1000 < wd ∨ hgt < 0 ∨ ¬ hgt ≤ 9999)) ∨ (p_V2 wd hgt = 1 ∧ ¬ wd < 0 ∧ ¬ 1000 < wd ∧ ¬ hgt < 0 ∧ hgt ≤ 9999) := by
  unfold p_V2
  have e : (9999 < hgt) ↔ ¬ hgt ≤ 9999 := by rw [Int32.lt_iff_toInt_lt, Int32.le_iff_toInt_le]; omega
  by_cases h1 : wd < 0 <;> by_cases h2 : 1000 < wd <;> by_cases h3 : hgt < 0 <;> by_cases h4 : hgt ≤ 9999 <;> simp [h1, h2, h3, h4, e]
theorem p_v3 {fw fh gw gh : Nat → Int32} (hT : zTabI fw fh gw gh) {j : Nat} (hj : j < 10) (hgt : Int32) : p_V3 gh (nI j) hgt = s_X2_wouldRise fw fh (nI j) hgt := by
  have q := p_v1 (nI j)
  have h1 : ¬ p_V1 (nI j) = 0 := by
    unfold p_V1
    rw [if_neg (nI_pos (by omega)), if_neg (show ¬ (9 : Int32) < nI j from nI_nlt (a := 9) (by omega) (by omega))]
    decide
  have e9 : (nI j = 9) ↔ j = 9 := nI_eq (b := 9) (by omega) (by omega)
  unfold p_V3 s_X2_wouldRise
  rw [show (if nI j < 0 then 0 else if 9 < nI j then 0 else 1) = p_V1 (nI j) from rfl, if_neg h1]
  by_cases h0 : j = 0
  · subst h0
    rw [if_pos (show nI 0 ≤ 0 by decide), if_pos (show nI 0 = 0 by decide)]
    by_cases hz : hgt = 0
    · rw [if_pos hz, if_pos hz, if_neg (show ¬ nI 0 = 9 by decide), show (nI 0 + 1).toNatClampNeg = 1 from rfl, if_neg]
      have s0 := p_rS hT 0 (by omega)
      have b0 := p_rH hT 0 (by omega)
      rw [hz, Int32.le_iff_toInt_le, show (0 : Int32).toInt = 0 from rfl]
      simp only [Nat.reduceAdd] at s0
      omega
    · rw [if_neg hz, if_neg hz]
  · rw [if_neg (nI_nle (by omega) (by omega)), if_neg (nI_ne0 (by omega) (by omega))]
    obtain ⟨i, rfl⟩ : ∃ i, j = i + 1 := ⟨j - 1, by omega⟩
    rw [nI_pred, nI_clamp (by omega), p_va fh (by omega), (hT.1 i (by omega)).2]
    by_cases hz : hgt ≤ gh i
    · rw [if_pos hz, if_pos hz]
    · rw [if_neg hz, if_neg hz]
      by_cases h9 : nI (i + 1) = 9
      · rw [if_pos h9, if_pos h9]
      · rw [if_neg h9, if_neg h9]
        rw [e9] at h9
        rw [nI_1, nI_clamp (by omega), p_va fh (by omega), (hT.1 (i + 1 + 1) (by omega)).2]
theorem p_rise {fw fh gw gh : Nat → Int32} (hT : zTabI fw fh gw gh) {j : Nat} (hj : j < 10) {hgt : Int32} (h : ¬ s_X2_wouldRise fw fh (nI j) hgt = 0) : (j = 0 → hgt = 0) ∧ (∀ i : Nat, j = i + 1 → (fh i).toInt < hgt.toInt) ∧ (j < 9 → hgt.toInt < (fh (j + 1)).toInt) := by
  unfold s_X2_wouldRise at h
  by_cases h0 : j = 0
  · subst h0
    rw [if_pos (show nI 0 = 0 by decide)] at h
    have hz : hgt = 0 := by
      by_cases hz : hgt = 0
      · exact hz
      · rw [if_neg hz] at h
        exact absurd rfl h
    refine ⟨fun _ => hz, fun i hi => absurd hi (by omega), fun _ => ?_⟩
    have s0 := hT.2.2.2 0 (by omega)
    rw [hT.2.2.1] at s0
    rw [hz]
    exact s0
  · rw [if_neg (nI_ne0 (by omega) (by omega))] at h
    obtain ⟨i, rfl⟩ : ∃ i, j = i + 1 := ⟨j - 1, by omega⟩
    rw [nI_pred, p_va fh (by omega)] at h
    by_cases hz : hgt ≤ fh i
    · rw [if_pos hz] at h
      exact absurd rfl h
    · rw [if_neg hz] at h
      rw [Int32.le_iff_toInt_le] at hz
      refine ⟨fun h => absurd h (by omega), fun k hk => ?_, fun h9 => ?_⟩
      · obtain rfl : i = k := by omega
        omega
      · rw [if_neg (show ¬ nI (i + 1) = 9 from fun e => absurd ((nI_eq (b := 9) (by omega) (by omega)).mp e) (by omega)), nI_1, p_va fh (by omega)] at h
        by_cases hy : fh (i + 1 + 1) ≤ hgt
        · rw [if_pos hy] at h
          exact absurd rfl h
        · rw [Int32.le_iff_toInt_le] at hy
          omega
theorem p_tab {fw fh gw gh : Nat → Int32} (hT : zTabI fw fh gw gh) (a1 a2 a3 : Int32) : (∃ n : Nat, (n = 1 ∨ n = 2 ∨ n = 3) ∧ k_X4_table fw fh a1 a2 a3 = n ∧ n_X5_table_qg_11 gh a1 a2 a3 = nI n ∧ n_X4_table_qw fw fh a1 a2 a3 = fw ∧ n_X4_table_qh fw fh a1 a2 a3 = fh ∧ n_X5_table_qgw gw gh a1 a2 a3 = gw ∧ n_X5_table_qgh gh a1 a2 a3 = gh) ∨ (k_X4_table fw fh a1 a2 a3 = 0 ∧ n_X5_table_qg_11 gh a1 a2 a3 = 0 ∧ ∃ j : Nat, j < 10 ∧ n_X4_table_qw fw fh a1 a2 a3 = upd fw j a2 ∧ n_X4_table_qh fw fh a1 a2 a3 = upd fh j a3 ∧ n_X5_table_qgw gw gh a1 a2 a3 = upd gw j a2 ∧ n_X5_table_qgh gh a1 a2 a3 = upd gh j a3 ∧ ¬ a2 < 0 ∧ ¬ 1000 < a2 ∧ ¬ a3 < 0 ∧ a3 ≤ 9999 ∧ ¬ s_X2_wouldRise fw fh (nI j) a3 = 0) := by
  rw [p_r1e, p_r1w, p_r1h]
  unfold k_X4_table n_X4_table_qw n_X4_table_qh n_X5_mayAll_qg_11 s_X5_mayAll n_X2_setRow_qw n_X2_setRow_qh
  rcases p_v1 a1 with ⟨e1, h1⟩ | ⟨e1, j, hj, rfl⟩
  · left
    refine ⟨1, Or.inl rfl, ?_⟩
    rcases h1 with h1 | ⟨h1, h2⟩
    · simp [e1, h1]
      rfl
    · simp [e1, h1, h2]
      rfl
  · have c1 : ¬ nI j < 0 := nI_pos (by omega)
    have c2 : nI j < 10 := nI_lt (b := 10) hj (by omega)
    have c3 : ¬ 10 ≤ nI j := nI_ge (b := 10) hj (by omega)
    rcases p_v2 a2 a3 with ⟨e2, h2⟩ | ⟨e2, h2, h3, h4, h5⟩
    · left
      refine ⟨2, Or.inr (Or.inl rfl), ?_⟩
      by_cases d1 : a2 < 0
      · simp [e1, e2, c1, c2, d1]
        rfl
      by_cases d2 : 1000 < a2
      · simp [e1, e2, c1, c2, d1, d2]
        rfl
      by_cases d3 : a3 < 0
      · simp [e1, e2, c1, c2, d1, d2, d3]
        rfl
      by_cases d4 : a3 ≤ 9999
      · exact absurd d4 (by simpa [d1, d2, d3] using h2)
      · simp [e1, e2, c1, c2, d1, d2, d3, d4]
        rfl
    · rw [p_v3 hT hj]
      by_cases e3 : s_X2_wouldRise fw fh (nI j) a3 = 0
      · left
        refine ⟨3, Or.inr (Or.inr rfl), ?_⟩
        simp [e1, e2, e3, c1, c2, h2, h3, h4, h5]
        rfl
      · right
        have ec : (nI j).toNatClampNeg = j := nI_clamp (by omega)
        refine ⟨?_, ?_, j, hj, ?_, ?_, ?_, ?_, h2, h3, h4, h5, e3⟩
        all_goals simp [e1, e2, e3, c1, c2, c3, h2, h3, h4, h5, ec]
theorem zx_table_1 {fw fh gw gh : Nat → Int32} (hT : zTabI fw fh gw gh) (a1 a2 a3 : Int32) : s_X5_thrown (n_X5_table_qg_11 gh a1 a2 a3) = s_L_table fw fh a1 a2 a3 := by
  unfold s_X5_thrown s_L_table
  rcases p_tab hT a1 a2 a3 with ⟨n, hn, h1, h2, -⟩ | ⟨h1, h2, -⟩
  · rcases hn with rfl | rfl | rfl <;> (simp [h1, h2]; try rfl)
  · simp [h1, h2]
theorem zx_table_2 {fw fh gw gh : Nat → Int32} (hT : zTabI fw fh gw gh) (a1 a2 a3 : Int32) : zTabI (n_L_table_qw fw fh a1 a2 a3) (n_L_table_qh fw fh a1 a2 a3) (n_X5_table_qgw gw gh a1 a2 a3) (n_X5_table_qgh gh a1 a2 a3) := by
  unfold n_L_table_qw n_L_table_qh
  rcases p_tab hT a1 a2 a3 with ⟨n, hn, h1, h2, h3, h4, h5, h6⟩ | ⟨h1, h2, j, hj, h3, h4, h5, h6, w1, w2, w3, w4, hr⟩
  · rw [h3, h4, h5, h6]
    exact hT
  · rw [h3, h4, h5, h6]
    obtain ⟨r1, r2, r3⟩ := p_rise hT hj hr
    obtain ⟨t1, t2, t3, t4⟩ := hT
    rw [Int32.lt_iff_toInt_lt] at w1 w2 w3
    rw [Int32.le_iff_toInt_le] at w4
    have z0 : (0 : Int32).toInt = 0 := rfl
    have z1 : (1000 : Int32).toInt = 1000 := rfl
    have z2 : (9999 : Int32).toInt = 9999 := rfl
    refine ⟨fun i hi => ?_, fun i hi => ?_, ?_, fun i hi => ?_⟩
    · unfold upd
      by_cases c : i = j
      · rw [if_pos c, if_pos c, if_pos c, if_pos c]
        exact ⟨rfl, rfl⟩
      · rw [if_neg c, if_neg c, if_neg c, if_neg c]
        exact t1 i hi
    · unfold upd
      by_cases c : i = j
      · rw [if_pos c, if_pos c]
        omega
      · rw [if_neg c, if_neg c]
        exact t2 i hi
    · unfold upd
      by_cases c : 0 = j
      · rw [if_pos c]
        exact r1 c.symm
      · rw [if_neg c]
        exact t3
    · unfold upd
      have t := t4 i hi
      by_cases c : i = j
      · rw [if_pos c, if_neg (by omega)]
        subst c
        exact r3 (by omega)
      · rw [if_neg c]
        by_cases c2 : i + 1 = j
        · rw [if_pos c2]
          exact r2 i c2.symm
        · rw [if_neg c2]
          exact t
/-! truth -/
theorem p_tru {ft gt : Nat → Int32} (hT : zTruI ft gt) (a1 a2 : Int32) : (k_X4_truth ft a1 a2 ≠ 0 ∧ n_X4_truth_qt ft a1 a2 = ft ∧ n_X5_truth_qgt gt a1 a2 = gt) ∨ (k_X4_truth ft a1 a2 = 0 ∧ s_X4_truth ft a1 a2 = s_X5_truth gt a1 a2 ∧ ∃ j : Nat, j < 9 ∧ n_X4_truth_qt ft a1 a2 = upd ft j a2 ∧ n_X5_truth_qgt gt a1 a2 = upd gt j a2 ∧ ¬ a2 < 1 ∧ a2 ≤ 99999) := by
  unfold k_X4_truth n_X4_truth_qt n_X5_truth_qgt s_X4_truth s_X5_truth s_X5_mayBoth
  have e : (99999 < a2) ↔ ¬ a2 ≤ 99999 := by rw [Int32.lt_iff_toInt_lt, Int32.le_iff_toInt_le]; omega
  rcases p_band a1 with ⟨h1, h2, j, hj, rfl⟩ | ⟨h1, h2⟩
  · by_cases h3 : a2 < 1
    · left; simp [h1, h2, h3]
    · by_cases h4 : a2 ≤ 99999
      · right
        have c1 : ¬ nI j < 0 := nI_pos (by omega)
        have c3 : ¬ 9 ≤ nI j := nI_ge (b := 9) hj (by omega)
        have ec : (nI j).toNatClampNeg = j := nI_clamp (by omega)
        simp [h1, h2, h3, h4, e, ec, s_X0_replaceTruth, s_X0_truthOf, n_X0_replaceTruth_qt, c1, c3, (hT j hj).1]
        exact ⟨j, hj, rfl, rfl⟩
      · left; simp [h1, h2, h3, h4, e]
  · left; simp [h1, h2]
theorem zx_truth_2 {ft gt : Nat → Int32} (hT : zTruI ft gt) (a1 a2 : Int32) (fo : Nat → Int64) : zTruI (n_L_truth_qt ft a1 a2 fo) (n_X5_truth_qgt gt a1 a2) := by
  unfold n_L_truth_qt
  rcases p_tru hT a1 a2 with ⟨-, h1, h2⟩ | ⟨-, -, j, hj, h1, h2, h3, h4⟩
  · rw [h1, h2]
    exact hT
  · rw [h1, h2]
    rw [Int32.lt_iff_toInt_lt] at h3
    rw [Int32.le_iff_toInt_le] at h4
    have z0 : (1 : Int32).toInt = 1 := rfl
    have z1 : (99999 : Int32).toInt = 99999 := rfl
    intro i hi
    unfold upd
    by_cases c : i = j
    · rw [if_pos c, if_pos c]
      exact ⟨rfl, by omega⟩
    · rw [if_neg c, if_neg c]
      exact hT i hi
theorem zx_truth_3 {ft gt : Nat → Int32} (hT : zTruI ft gt) (a1 a2 : Int32) (fo : Nat → Int64) (c5 : s_L_truth ft a1 a2 fo = 0) : (n_L_truth_qout ft a1 a2 fo) (0 : Int32).toNatClampNeg = (s_X5_truth gt a1 a2).toInt64 := by
  unfold s_L_truth at c5
  unfold n_L_truth_qout
  rcases p_tru hT a1 a2 with ⟨h0, -⟩ | ⟨h0, h1, -⟩
  · rw [if_neg h0] at c5
    split at c5 <;> exact absurd c5 (by decide)
  · rw [if_pos h0, z_out0, h1]
/-! zones -/
theorem p_zon {br bg : Int32} (hZ : zZonI br bg) (a1 : Int32) : (k_X4_zones br a1 ≠ 0 ∧ n_X4_zones_qr_0 br a1 = br ∧ n_X5_zones_qg_3 bg a1 = bg) ∨ (k_X4_zones br a1 = 0 ∧ s_X4_zones br a1 = s_X5_zones bg a1 ∧ n_X4_zones_qr_0 br a1 = a1 ∧ n_X5_zones_qg_3 bg a1 = a1 ∧ ¬ a1 < 1 ∧ ¬ 360 < a1 ∧ 360 - 360 / a1 * a1 = 0) := by
  unfold k_X4_zones n_X4_zones_qr_0 n_X5_zones_qg_3 s_X4_zones s_X5_zones s_X5_may n_X3_replaceBreadth_qz_0 s_X3_replaceBreadth
  have e := hZ.1
  by_cases h1 : a1 < 1 <;> by_cases h2 : 360 < a1 <;> by_cases h3 : 360 - 360 / a1 * a1 = 0 <;> simp [h1, h2, h3, e]
theorem zx_zones_2 {br bg : Int32} (hZ : zZonI br bg) (a1 : Int32) (fo : Nat → Int64) : zZonI (n_L_zones_qr_0 br a1 fo) (n_X5_zones_qg_3 bg a1) := by
  unfold n_L_zones_qr_0
  rcases p_zon hZ a1 with ⟨-, h1, h2⟩ | ⟨-, -, h1, h2, h3, h4, h5⟩
  · rw [h1, h2]
    exact hZ
  · rw [h1, h2]
    refine ⟨rfl, ?_⟩
    have h0 : ¬ a1 < 0 := by
      rw [Int32.lt_iff_toInt_lt] at h3 ⊢
      have z0 : (1 : Int32).toInt = 1 := rfl
      have z1 : (0 : Int32).toInt = 0 := rfl
      omega
    obtain ⟨d, hd, rfl⟩ := nI_of h0
    have g1 : 1 ≤ d := by
      rcases Nat.lt_or_ge d 1 with q | q
      · exact absurd (nI_lt (b := 1) q (by omega)) h3
      · exact q
    have g2 : d ≤ 360 := by
      rcases Nat.lt_or_ge 360 d with q | q
      · exact absurd (nI_lt (a := 360) q hd) h4
      · exact q
    refine ⟨d, g1, g2, ?_, rfl⟩
    have q := pk_rem (a := 360) (d := d) (by omega) (by omega) hd
    have h5 : nI 360 - nI 360 / nI d * nI d = nI 0 := h5
    rw [q] at h5
    exact (nI_eq (Nat.lt_of_lt_of_le (Nat.mod_lt _ (by omega)) (by omega)) (by omega)).mp h5
theorem zx_zones_3 {br bg : Int32} (hZ : zZonI br bg) (a1 : Int32) (fo : Nat → Int64) (c5 : s_L_zones br a1 fo = 0) : (n_L_zones_qout br a1 fo) (0 : Int32).toNatClampNeg = (s_X5_zones bg a1).toInt64 := by
  unfold n_L_zones_qout
  rw [p_v0 fo _ c5]
  rcases p_zon hZ a1 with ⟨h0, -⟩ | ⟨-, h1, -⟩
  · exact absurd (p_k0 c5) h0
  · rw [h1]
theorem zx_zone_2 {br bg : Int32} (hZ : zZonI br bg) (a1 : Int32) (fo : Nat → Int64) (c5 : s_L_zone br a1 fo = 0) : (n_L_zone_qout br a1 fo) (0 : Int32).toNatClampNeg = (s_X5_zone bg a1).toInt64 := by
  have h0 := p_k0 c5
  unfold n_L_zone_qout
  rw [p_v0 fo _ c5]
  unfold k_X4_zone at h0
  unfold s_X4_zone s_X5_zone s_X5_may s_X3_zonesBefore s_X5_zoneOf
  obtain ⟨e, d, g1, g2, g3, g4⟩ := hZ
  have c : 1 ≤ br := by
    rw [g4]
    exact nI_le (a := 1) g1 (by omega)
  have e2 : a1 - (-180) = a1 + 180 := Int32.sub_neg
  rcases p_lon a1 with ⟨h1, h2, h5, h6⟩ | ⟨h1, h2, -⟩
  · simp only [h1, h2, c, e2, if_true]
    rw [← e, if_neg (by decide)]
  · simp_all
