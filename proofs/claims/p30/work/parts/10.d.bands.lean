theorem bd_b10 {bd : Int32} (h : vp_in bd 9) : ∃ j : Nat, j < 9 ∧ bd = nI j ∧ (10 * bd).toInt = 10 * j ∧ (10 * bd + 10).toInt = 10 * j + 10 := by
  obtain ⟨j, hj, e⟩ := vp_in_of h (by omega)
  refine ⟨j, hj, e, ?_, ?_⟩
  · rw [e, show (10 : Int32) * nI j = nI (10 * j) from pk_mul 10 j, nI_toInt (by omega)]
    omega
  · rw [e, show (10 : Int32) * nI j = nI (10 * j) from pk_mul 10 j, show nI (10 * j) + 10 = nI (10 * j + 10) from nI_add _ 10, nI_toInt (by omega)]
    omega
theorem bd_1 {bd : Int32} (h : vp_in bd 9) : -90 ≤ (10 * bd).toInt := by
  obtain ⟨j, hj, -, e1, e2⟩ := bd_b10 h
  omega
theorem bd_2 {bd : Int32} (h : vp_in bd 9) : (10 * bd).toInt ≤ (10 * bd + 10).toInt := by
  obtain ⟨j, hj, -, e1, e2⟩ := bd_b10 h
  omega
theorem bd_3 {bd : Int32} (h : vp_in bd 9) : (10 * bd + 10).toInt ≤ 90 := by
  obtain ⟨j, hj, -, e1, e2⟩ := bd_b10 h
  omega
theorem bd_k {k : Nat} (h : k < 9) : vp_in (nI k) 9 := vp_in_nI h (by omega)
theorem bd_i {x : Int32} (h : vp_in x 9) : vp_in (20 + x) 33 := by
  obtain ⟨j, hj, e⟩ := vp_in_of h (by omega)
  rw [e, show (20 : Int32) + nI j = nI (20 + j) from nI_add 20 j]
  exact vp_in_nI (by omega) (by omega)
theorem bd_g {gt ft : Nat → Int32} (hG : ∀ j : Nat, j < 9 → gt (20 + j) = ft j) {x : Int32} (h : vp_in x 9) : gt (20 + x).toNatClampNeg = ft x.toNatClampNeg := by
  obtain ⟨j, hj, e⟩ := vp_in_of h (by omega)
  rw [e, show (20 : Int32) + nI j = nI (20 + j) from nI_add 20 j, nI_clamp (by omega), nI_clamp (by omega)]
  exact hG j hj
theorem bd_g0 {gt ft : Nat → Int32} (hG : ∀ j : Nat, j < 9 → gt (20 + j) = ft j) : gt (20 : Int32).toNatClampNeg = ft 0 := hG 0 (by omega)
theorem bd_ge {k : Nat} (hk : k ≤ 9) (h : 9 ≤ nI k) : 9 ≤ k := by
  have := z_ctr (n := 9) rfl (by omega) hk h
  omega
theorem bd_lt {k : Nat} (hk : k ≤ 9) (h : ¬ 9 ≤ nI k) : k < 9 := z_ctl (n := 9) rfl (by omega) h
theorem bd_gej {j k : Nat} (hk : k < 9) (hj : j ≤ k) (h : nI k ≤ nI j) : k ≤ j := by
  have := z_ctr (n := k) rfl (by omega) hj h
  omega
theorem bd_ltj {j k : Nat} (hk : k < 9) (hj : j ≤ k) (h : ¬ nI k ≤ nI j) : j < k := z_ctl (n := k) rfl (by omega) h
/-- the class's table: in its ranges, its heights rising from 0 -/
def zTb (fw fh : Nat → Int32) : Prop := (∀ j : Nat, j < 10 → 0 ≤ (fw j).toInt ∧ (fw j).toInt ≤ 1000 ∧ 0 ≤ (fh j).toInt ∧ (fh j).toInt ≤ 9999) ∧ fh 0 = 0 ∧ ∀ j : Nat, j < 9 → (fh j).toInt < (fh (j + 1)).toInt
def zTr (ft : Nat → Int32) : Prop := ∀ j : Nat, j < 9 → 1 ≤ (ft j).toInt ∧ (ft j).toInt ≤ 99999
theorem zTb.w {fw fh : Nat → Int32} (h : zTb fw fh) : ∀ j : Nat, j < 10 → 0 ≤ (fw j).toInt ∧ (fw j).toInt ≤ 9999 := fun j hj => by
  have := h.1 j hj
  omega
theorem zTb.h {fw fh : Nat → Int32} (h : zTb fw fh) : ∀ j : Nat, j < 10 → 0 ≤ (fh j).toInt ∧ (fh j).toInt ≤ 9999 := fun j hj => by
  have := h.1 j hj
  omega
theorem p_ofI (x : Int32) : x.toInt64 = Int64.ofInt x.toInt := by
  rw [← Int32.toInt_toInt64, Int64.ofInt_toInt]
theorem p_TB {f : Nat → Int32} (hf : ∀ j : Nat, j < 10 → 0 ≤ (f j).toInt ∧ (f j).toInt ≤ 9999) {b t : Nat} (hb : b < 9) (ht : t ≤ 10) : (p_T f (10 * b + t)).toInt = (10 - (t : Int)) * (f b).toInt + (t : Int) * (f (b + 1)).toInt := by
  rw [p_TI hf (by omega)]
  by_cases h10 : t = 10
  · subst h10
    rw [if_pos (by omega), show (10 * b + 10) % 10 = 0 by omega, show (10 * b + 10) / 10 = b + 1 by omega]
    omega
  · rw [show (10 * b + t) % 10 = t by omega, show (10 * b + t) / 10 = b by omega]
    by_cases h0 : t = 0
    · subst h0
      simp
    · rw [if_neg h0]
/-- the band's area, as a number -/
def p_E (fw fh : Nat → Int32) (b : Nat) : Int := 36000 * ((fw b).toInt + (fw (b + 1)).toInt) * ((fh (b + 1)).toInt - (fh b).toInt)
theorem p_stepL (w0 w1 D : Int) (k : Int) : 360 * ((20 * k - k * k) * w0 + k * k * w1) * D + 360 * ((((10 - k) * w0 + k * w1) + ((10 - (k + 1)) * w0 + (k + 1) * w1)) * D) = 360 * ((20 * (k + 1) - (k + 1) * (k + 1)) * w0 + (k + 1) * (k + 1) * w1) * D := by
  grind
theorem p_hs {fw f : Nat → Int32} {m : Nat} (hm : m ≤ 90) : s_X2_tenHeights fw f (nI m) = p_T f m := by
  have e : (nI m).toInt = m := nI_toInt (by omega)
  rw [p_th fw f (by omega), if_pos (nI_pos' (by omega)), e]
  rfl
theorem p_ws {f fh : Nat → Int32} {m : Nat} (hm : m ≤ 90) : s_X2_tenWidths f fh (nI m) = p_T f m := by
  have e : (nI m).toInt = m := nI_toInt (by omega)
  rw [p_tw f fh (by omega), e]
  rfl
theorem p_lpB {fw fh : Nat → Int32} {no : Int32} (hT : zTb fw fh) {b : Nat} (hb : b < 9) : ∀ k : Nat, k ≤ 10 → lp_X2_fieldArea_6 fw fh (nI (10 * b)) no 360 k = Int64.ofInt (360 * ((20 * (k : Int) - k * k) * (fw b).toInt + k * k * (fw (b + 1)).toInt) * ((fh (b + 1)).toInt - (fh b).toInt))
  | 0, _ => by simp [lp_X2_fieldArea_6]
  | k + 1, hk => by
    have ih := p_lpB (no := no) hT hb k (by omega)
    have w0 := p_TB hT.w hb (t := k) (by omega)
    have w1 := p_TB hT.w hb (t := k + 1) (by omega)
    have h0 := p_TB hT.h hb (t := k) (by omega)
    have h1 := p_TB hT.h hb (t := k + 1) (by omega)
    have bw0 := hT.w b (by omega)
    have bw1 := hT.w (b + 1) (by omega)
    have bh0 := hT.h b (by omega)
    have bh1 := hT.h (b + 1) (by omega)
    have hs := hT.2.2 b (by omega)
    have q0 : 0 ≤ (p_T fw (10 * b + k)).toInt ∧ (p_T fw (10 * b + k)).toInt ≤ 99990 := by
      rw [w0]
      rcases (show k = 0 ∨ k = 1 ∨ k = 2 ∨ k = 3 ∨ k = 4 ∨ k = 5 ∨ k = 6 ∨ k = 7 ∨ k = 8 ∨ k = 9 by omega) with rfl | rfl | rfl | rfl | rfl | rfl | rfl | rfl | rfl | rfl <;> omega
    have q1 : 0 ≤ (p_T fw (10 * b + (k + 1))).toInt ∧ (p_T fw (10 * b + (k + 1))).toInt ≤ 99990 := by
      rw [w1]
      rcases (show k = 0 ∨ k = 1 ∨ k = 2 ∨ k = 3 ∨ k = 4 ∨ k = 5 ∨ k = 6 ∨ k = 7 ∨ k = 8 ∨ k = 9 by omega) with rfl | rfl | rfl | rfl | rfl | rfl | rfl | rfl | rfl | rfl <;> omega
    have r0 : 0 ≤ (p_T fh (10 * b + k)).toInt ∧ (p_T fh (10 * b + k)).toInt ≤ 99990 := by
      rw [h0]
      rcases (show k = 0 ∨ k = 1 ∨ k = 2 ∨ k = 3 ∨ k = 4 ∨ k = 5 ∨ k = 6 ∨ k = 7 ∨ k = 8 ∨ k = 9 by omega) with rfl | rfl | rfl | rfl | rfl | rfl | rfl | rfl | rfl | rfl <;> omega
    have r1 : 0 ≤ (p_T fh (10 * b + (k + 1))).toInt ∧ (p_T fh (10 * b + (k + 1))).toInt ≤ 99990 := by
      rw [h1]
      rcases (show k = 0 ∨ k = 1 ∨ k = 2 ∨ k = 3 ∨ k = 4 ∨ k = 5 ∨ k = 6 ∨ k = 7 ∨ k = 8 ∨ k = 9 by omega) with rfl | rfl | rfl | rfl | rfl | rfl | rfl | rfl | rfl | rfl <;> omega
    have eW : (p_T fw (10 * b + k) + p_T fw (10 * b + (k + 1))).toInt = (p_T fw (10 * b + k)).toInt + (p_T fw (10 * b + (k + 1))).toInt := z_addI (by omega) (by omega)
    have eH : (p_T fh (10 * b + (k + 1)) - p_T fh (10 * b + k)).toInt = (fh (b + 1)).toInt - (fh b).toInt := by
      rw [z_subI (by omega) (by omega), h1, h0]
      rcases (show k = 0 ∨ k = 1 ∨ k = 2 ∨ k = 3 ∨ k = 4 ∨ k = 5 ∨ k = 6 ∨ k = 7 ∨ k = 8 ∨ k = 9 by omega) with rfl | rfl | rfl | rfl | rfl | rfl | rfl | rfl | rfl | rfl <;> omega
    have ek : ((k + 1 : Nat) : Int) = (k : Int) + 1 := by omega
    have e360 : (360 : Int32).toInt64 = Int64.ofInt 360 := rfl
    rw [lp_X2_fieldArea_6, ih]
    unfold s_X2_cellArea
    rw [nI_add, nI_1, Nat.add_assoc, p_ws (by omega), p_ws (by omega), p_hs (by omega), p_hs (by omega), p_ofI (_ + _), p_ofI (_ - _), e360, eW, eH, w0, w1, ← Int64.ofInt_mul, ← Int64.ofInt_mul, ← Int64.ofInt_add, ek, p_stepL]
theorem p_la {fw fh : Nat → Int32} (hT : zTb fw fh) {b : Nat} (hb : b < 9) : s_L_area fw fh (10 * nI b) (10 * nI b + 10) 360 = Int64.ofInt (p_E fw fh b) := by
  have e : (10 : Int32) * nI b = nI (10 * b) := pk_mul 10 b
  have e2 : nI (10 * b) + 10 = nI (10 * b + 10) := nI_add (10 * b) 10
  unfold s_L_area s_X2_fieldArea
  rw [e, e2, nI_toInt (by omega), nI_toInt (by omega), show (((10 * b + 10 : Nat) : Int) - ((10 * b : Nat) : Int)).toNat = 10 by omega, p_lpB hT hb 10 (by omega)]
  congr 1
  unfold p_E
  grind
theorem p_la0 {fw fh : Nat → Int32} (hT : zTb fw fh) : s_L_area fw fh 0 10 360 = Int64.ofInt (p_E fw fh 0) := p_la hT (b := 0) (by omega)
theorem p_va (f : Nat → Int32) {j : Nat} (h : j < 10) : s_X2_valueAt f (nI j) = f j := by
  unfold s_X2_valueAt
  rw [if_neg (nI_pos (by omega)), if_neg (show ¬ (10 : Int32) ≤ nI j from nI_ge (b := 10) h (by omega)), nI_clamp (by omega)]
theorem p_band2 {fw fh : Nat → Int32} (hT : zTb fw fh) {b : Nat} (hb : b < 9) : s_X2_bandArea fw fh (nI b) = Int64.ofInt (p_E fw fh b) := by
  have bw0 := hT.w b (by omega)
  have bw1 := hT.w (b + 1) (by omega)
  have bh0 := hT.h b (by omega)
  have bh1 := hT.h (b + 1) (by omega)
  have eW : (fw b + fw (b + 1)).toInt = (fw b).toInt + (fw (b + 1)).toInt := z_addI (by omega) (by omega)
  have eH : (fh (b + 1) - fh b).toInt = (fh (b + 1)).toInt - (fh b).toInt := z_subI (by omega) (by omega)
  unfold s_X2_bandArea
  rw [nI_1, p_va fw (by omega), p_va fw (by omega), p_va fh (by omega), p_va fh (by omega), p_ofI (_ + _), p_ofI (_ - _), eW, eH, show (36000 : Int64) = Int64.ofInt 36000 from rfl, ← Int64.ofInt_mul, ← Int64.ofInt_mul]
  rfl
theorem p_tro {ft : Nat → Int32} {j : Nat} (hj : j < 9) : s_X0_truthOf ft (nI j) = ft j := by
  unfold s_X0_truthOf
  rw [if_neg (nI_pos (by omega)), if_neg (show ¬ (9 : Int32) ≤ nI j from nI_ge (b := 9) hj (by omega)), nI_clamp (by omega)]
theorem bd_rb {j : Nat} (hj : j < 9) : k_X4_requireBand (nI j) = 0 := by
  unfold k_X4_requireBand
  rw [if_neg (nI_pos (by omega)), if_pos (Int32.not_le.mp (show ¬ (9 : Int32) ≤ nI j from nI_ge (b := 9) hj (by omega)))]
theorem bd_str {ft fw fh : Nat → Int32} (hT : zTb fw fh) {k : Nat} (hk : k < 9) : s_L_stretch ft fw fh (nI k) = FP.fdiv (FP.l2f (Int64.ofInt (p_E fw fh k))) (FP.i2f (ft k)) := by
  unfold s_L_stretch k_X4_stretch s_X4_stretch s_X0_areaByTruth
  rw [bd_rb hk, p_band2 hT hk, p_tro hk]
  rfl
theorem bd_feq (a : Int64) (b : Int32) (h : ¬ b = 0) : FP.fcmp (FP.fdiv (FP.l2f a) (FP.i2f b)) (FP.fdiv (FP.l2f a) (FP.i2f b)) = some .eq := by
  refine FP.Core.fcmp_self (fun e => ?_)
  have h1 : FP.fIsNaN (FP.fdiv (FP.l2f a) (FP.i2f b)) = false := z_fnan a b h
  have h2 : FP.Core.fIsNaN (FP.fdiv (FP.l2f a) (FP.i2f b)) = true := (FP.Core.fIsNaN_iff _).mpr e
  exact absurd (h1.symm.trans h2) (by decide)
theorem bd_dead {ft fw fh : Nat → Int32} (hTb : zTb fw fh) (htr : ∀ j : Nat, j < 9 → ¬ ft j = 0) {k : Nat} (hk : k < 9) : Op.cmpValue (FP.fcmp (s_L_stretch ft fw fh (nI k)) (FP.fdiv (FP.l2f (s_L_area fw fh (10 * (nI k)) ((10 * (nI k)) + 10) 360)) (FP.i2f (ft (nI k).toNatClampNeg)))) CmpOp.l = 0 := by
  rw [bd_str hTb hk, p_la hTb hk, nI_clamp (by omega), bd_feq _ _ (htr k hk)]
  rfl
def v_L_bands_34 (fw : Nat → Int32) (fh : Nat → Int32) (k : Nat) : Int64 := s_L_area fw fh (10 * (nI k)) ((10 * (nI k)) + 10) 360
def v_L_bands_80 (ft : Nat → Int32) (fw : Nat → Int32) (fh : Nat → Int32) (a7_0 : Int32) (k : Nat) : Int32 := (if (a7_0) = 0 then 0 else (if (lg_cmp ((v_L_bands_34 fw fh k) * ((ft 0).toInt64)) ((s_L_area fw fh 0 10 360) * ((ft (nI k).toNatClampNeg).toInt64))) = 0 then 1 else 0))
def v_L_bands_128 (ft : Nat → Int32) (fw : Nat → Int32) (fh : Nat → Int32) (a7_1 : Int32) (k : Nat) : Int32 := (if (lg_cmp ((v_L_bands_34 fw fh k) * ((ft (a7_1).toNatClampNeg).toInt64)) ((s_L_area fw fh (10 * (a7_1)) ((10 * (a7_1)) + 10) 360) * ((ft (nI k).toNatClampNeg).toInt64))) ≤ 0 then a7_1 else nI k)
def lp_L_bands_7 (ft : Nat → Int32) (fw : Nat → Int32) (fh : Nat → Int32) : Nat → Int32 × Int32
  | 0 => (1, 0)
  | k + 1 => (v_L_bands_80 ft fw fh ((lp_L_bands_7 ft fw fh k).1) k, v_L_bands_128 ft fw fh ((lp_L_bands_7 ft fw fh k).2) k)
def v_L_bands_250 (ft : Nat → Int32) (fw : Nat → Int32) (fh : Nat → Int32) (a172_0 : Int32) (j : Nat) (k : Nat) : Int32 := (if (a172_0) = 0 then 0 else (if (lg_cmp ((s_L_area fw fh (10 * (nI k)) ((10 * (nI k)) + 10) 360) * ((ft (nI j).toNatClampNeg).toInt64)) ((s_L_area fw fh (10 * (nI j)) ((10 * (nI j)) + 10) 360) * ((ft (nI k).toNatClampNeg).toInt64))) = 0 then 1 else 0))
def lp_L_bands_172 (ft : Nat → Int32) (fw : Nat → Int32) (fh : Nat → Int32) (k : Nat) (i172_0 : Int32) : Nat → Int32
  | 0 => i172_0
  | j + 1 => v_L_bands_250 ft fw fh (lp_L_bands_172 ft fw fh k i172_0 j) j k
def lp_L_bands_162 (ft : Nat → Int32) (fw : Nat → Int32) (fh : Nat → Int32) : Nat → Int32
  | 0 => (lp_L_bands_7 ft fw fh 9).1
  | k + 1 => lp_L_bands_172 ft fw fh k (lp_L_bands_162 ft fw fh k) k
def s_L_bands (ft : Nat → Int32) (fw : Nat → Int32) (fh : Nat → Int32) : Int32 := (if (s_X4_keepsAreas ft fw fh) = (lp_L_bands_162 ft fw fh 9) then (if (s_X4_widest ft fw fh) = ((lp_L_bands_7 ft fw fh 9).2) then (if (Op.cmpValue (FP.fcmp (s_L_stretch ft fw fh 9) (3212836864 : UInt32)) CmpOp.l) = 0 then (if (Op.cmpValue (FP.fcmp (s_L_stretch ft fw fh (-1)) (3212836864 : UInt32)) CmpOp.l) = 0 then 1 else 0) else 0) else 0) else 0)
theorem bd_best (ft fw fh : Nat → Int32) : ∀ k : Nat, k < 9 → vp_in (lp_L_bands_7 ft fw fh k).2 9
  | 0, _ => vp_in_nI (n := 0) (by decide) (by decide)
  | k + 1, hk => by
    have ih := bd_best ft fw fh k (by omega)
    show vp_in (v_L_bands_128 ft fw fh ((lp_L_bands_7 ft fw fh k).2) k) 9
    unfold v_L_bands_128
    split
    · exact ih
    · exact bd_k (by omega)
theorem bd_nz {ft : Nat → Int32} (htr : ∀ j : Nat, j < 9 → ¬ ft j = 0) {k : Nat} (hk : k < 9) : ¬ ft (nI k).toNatClampNeg = 0 := by
  rw [nI_clamp (by omega)]
  exact htr k hk
abbrev rm_L_bands : Room := { frames := 9, cells := 20, slots := 120, locals := 153 }
abbrev Qc_L_bands (D : va_G) (cI cZ cJ cD : ClassId) (qo : Nat) (qm : Nat) (qb : Nat) (qr : Nat) (qf : Nat) (qt : Nat) (ft : Nat → Int32) (qw : Nat) (qh : Nat) (fw : Nat → Int32) (fh : Nat → Int32) (qT : Nat) (gt : Nat → Int32) (A : Nat → Prop) : Array Value → State → Outcome → State → Prop := va_Qi (fun (r : Int32) (_ : Unit) => r = s_L_bands ft fw fh) (zPost D cI cZ cJ cD A [(qo, .inr (4, [.ref qm, .ref qb, .ref qr, .ref qf])), (qb, .inr (0, [.ref qt])), (qt, .inl (cI, 9, .inl ft)), (qm, .inr (2, [.ref qw, .ref qh])), (qw, .inl (cI, 10, .inl fw)), (qh, .inl (cI, 10, .inl fh)), (qT, .inl (cI, 33, .inl gt))]) A
set_option maxHeartbeats 4000000 in
set_option maxRecDepth 100000 in
theorem c_L_bands (l : Launch) (hnt : l.stackTraces = false) (D : va_G) (cI cZ cJ cD : ClassId) (qo : Nat) (qm : Nat) (qb : Nat) (qr : Nat) (qf : Nat) (qt : Nat) (ft : Nat → Int32) (qw : Nat) (qh : Nat) (fw : Nat → Int32) (fh : Nat → Int32) (qT : Nat) (gt : Nat → Int32) (sz : Nat) (hT : zLT gt fw fh) (hWB : zWB fw) (hTb : zTb fw fh) (hG : ∀ j : Nat, j < 9 → gt (20 + j) = ft j) (htr : ∀ j : Nat, j < 9 → ¬ ft j = 0) : Met l yL_bands wsL_bands rm_L_bands (va_Pc [.ref qo, .ref qT] (zPreWE D cI cZ cJ cD [(qo, .inr (4, [.ref qm, .ref qb, .ref qr, .ref qf])), (qb, .inr (0, [.ref qt])), (qt, .inl (cI, 9, .inl ft)), (qm, .inr (2, [.ref qw, .ref qh])), (qw, .inl (cI, 10, .inl fw)), (qh, .inl (cI, 10, .inl fh)), (qT, .inl (cI, 33, .inl gt))] sz)) (Qc_L_bands D cI cZ cJ cD qo qm qb qr qf qt ft qw qh fw fh qT gt (va_A [(qo, .inr (4, [.ref qm, .ref qb, .ref qr, .ref qf])), (qb, .inr (0, [.ref qt])), (qt, .inl (cI, 9, .inl ft)), (qm, .inr (2, [.ref qw, .ref qh])), (qw, .inl (cI, 10, .inl fw)), (qh, .inl (cI, 10, .inl fh)), (qT, .inl (cI, 33, .inl gt))] sz)) 20 120 (va_A [(qo, .inr (4, [.ref qm, .ref qb, .ref qr, .ref qf])), (qb, .inr (0, [.ref qt])), (qt, .inl (cI, 9, .inl ft)), (qm, .inr (2, [.ref qw, .ref qh])), (qw, .inl (cI, 10, .inl fw)), (qh, .inl (cI, 10, .inl fh)), (qT, .inl (cI, 33, .inl gt))] sz) := by
  refine Met.ofW (cc := cL_bands) (maxL := 9) (ret := (some .boolean)) (by decide) rfl ?_
  intro p e s m args below meth c s₁ B hml hv
  obtain ⟨rfl, hsz, hP, hK, hD0, hE⟩ := hv
  have hx := B.exec
  have hb := B.bytes
  have hr := B.returns
  have hts := atoms_spec (ws := wsL_bands) B.pre
  have hown : s.vm.findClass RL = some m.cls := findClass_of_methodNamed B.named
  have hlocks := B.notSynchronized
  subst hsz
  have hD := hD0.self (sz := s.heap.size)
  generalize hAe : va_A [(qo, .inr (4, [.ref qm, .ref qb, .ref qr, .ref qf])), (qb, .inr (0, [.ref qt])), (qt, .inl (cI, 9, .inl ft)), (qm, .inr (2, [.ref qw, .ref qh])), (qw, .inl (cI, 10, .inl fw)), (qh, .inl (cI, 10, .inl fh)), (qT, .inl (cI, 33, .inl gt))] s.heap.size = A at hE hD ⊢
  have hA : ∀ q : Nat, s.heap.size ≤ q → A q := fun q h => by rw [← hAe]; exact Or.inr h
  have hS : va_S A s.heap s.heap [] := va_S.rf
  have hl := lv_entry ([.ref qo, .ref qT]) (n := 9) (Nat.le_of_ble_eq_true rfl)
  rw [lg_entry_eq]
  generalize (lg_sl ([.ref qo, .ref qT]) ++ List.replicate (9 - (lg_sl ([.ref qo, .ref qT])).length) Slot.unset).toArray = ls at hl ⊢
  have hl : lv_has ls 9 [(0, .ref qo), (1, .ref qT)] := hl
  have hP : va_P D vwCl [(qo, .inr (4, [.ref qm, .ref qb, .ref qr, .ref qf])), (qb, .inr (0, [.ref qt])), (qt, .inl (cI, 9, .inl ft)), (qm, .inr (2, [.ref qw, .ref qh])), (qw, .inl (cI, 10, .inl fw)), (qh, .inl (cI, 10, .inl fh)), (qT, .inl (cI, 33, .inl gt))] s.heap := hP
  have hP := hP
  refine lv_iconst (v := 1) hx hb dL_bands_0 (by decide) ?_
  refine lv_istore_n (lv' := [(2, .int 1), (0, .ref qo), (1, .ref qT)]) hx hb dL_bands_1 rfl hl (by decide) rfl (fun ls hl => ?_)
  refine lv_iconst (v := 0) hx hb dL_bands_2 (by decide) ?_
  refine lv_istore_n (lv' := [(3, .int 0), (2, .int 1), (0, .ref qo), (1, .ref qT)]) hx hb dL_bands_3 rfl hl (by decide) rfl (fun ls hl => ?_)
  refine lv_iconst (v := 0) hx hb dL_bands_4 (by decide) ?_
  refine lv_istore (lv' := [(4, .int 0), (3, .int 0), (2, .int 1), (0, .ref qo), (1, .ref qT)]) hx hb dL_bands_5 hl (by decide) rfl (fun ls hl => ?_)
  have X11 : ∀ (H : Heap) (locs : List Loc), va_P D vwCl [(qo, .inr (4, [.ref qm, .ref qb, .ref qr, .ref qf])), (qb, .inr (0, [.ref qt])), (qt, .inl (cI, 9, .inl ft)), (qm, .inr (2, [.ref qw, .ref qh])), (qw, .inl (cI, 10, .inl fw)), (qh, .inl (cI, 10, .inl fh)), (qT, .inl (cI, 33, .inl gt))] H → va_D A [(qo, .inr (4, [.ref qm, .ref qb, .ref qr, .ref qf])), (qb, .inr (0, [.ref qt])), (qt, .inl (cI, 9, .inl ft)), (qm, .inr (2, [.ref qw, .ref qh])), (qw, .inl (cI, 10, .inl fw)), (qh, .inl (cI, 10, .inl fh)), (qT, .inl (cI, 33, .inl gt))] → va_S A s.heap H locs → ∀ (ls : Array Slot), lv_has ls 9 [(0, .ref qo), (1, .ref qT), (2, .int ((lp_L_bands_7 ft fw fh 9).1)), (3, .int ((lp_L_bands_7 ft fw fh 9).2))] → W p l e (headSpec wsL_bands rm_L_bands).room s m ([.ref qo, .ref qT]).toArray below meth c H locs 9 54 (MQ below (Qc_L_bands D cI cZ cJ cD qo qm qb qr qf qt ft qw qh fw fh qT gt A) ([.ref qo, .ref qT]).toArray s 20 120 A) (F0 m 159 ls []) := by
    intro H locs hP hD hS ls hl
    refine lv_iconst (v := 0) hx hb dL_bands_159 (by decide) ?_
    refine lv_istore (lv' := [(4, .int 0), (0, .ref qo), (1, .ref qT), (2, .int ((lp_L_bands_7 ft fw fh 9).1)), (3, .int ((lp_L_bands_7 ft fw fh 9).2))]) hx hb dL_bands_160 hl (by decide) rfl (fun ls hl => ?_)
    have X12 : ∀ (H : Heap) (locs : List Loc), va_P D vwCl [(qo, .inr (4, [.ref qm, .ref qb, .ref qr, .ref qf])), (qb, .inr (0, [.ref qt])), (qt, .inl (cI, 9, .inl ft)), (qm, .inr (2, [.ref qw, .ref qh])), (qw, .inl (cI, 10, .inl fw)), (qh, .inl (cI, 10, .inl fh)), (qT, .inl (cI, 33, .inl gt))] H → va_D A [(qo, .inr (4, [.ref qm, .ref qb, .ref qr, .ref qf])), (qb, .inr (0, [.ref qt])), (qt, .inl (cI, 9, .inl ft)), (qm, .inr (2, [.ref qw, .ref qh])), (qw, .inl (cI, 10, .inl fw)), (qh, .inl (cI, 10, .inl fh)), (qT, .inl (cI, 33, .inl gt))] → va_S A s.heap H locs → ∀ (ls : Array Slot), lv_has ls 9 [(0, .ref qo), (1, .ref qT), (3, .int ((lp_L_bands_7 ft fw fh 9).2)), (2, .int (lp_L_bands_162 ft fw fh 9))] → W p l e (headSpec wsL_bands rm_L_bands).room s m ([.ref qo, .ref qT]).toArray below meth c H locs 9 54 (MQ below (Qc_L_bands D cI cZ cJ cD qo qm qb qr qf qt ft qw qh fw fh qT gt A) ([.ref qo, .ref qT]).toArray s 20 120 A) (F0 m 263 ls []) := by
      intro H locs hP hD hS ls hl
      refine lv_aload_n hx hb dL_bands_263 rfl (lv_at hl 0 rfl) ?_
      refine va_calli (va_runV (As := []) (rest := []) ⟨hx, hb, hml, hown, hts⟩ (c_X4_keepsAreas l D cI cZ cJ cD qo qm qb qr qf qt ft qw qh fw fh ) (cwV 0 hts gL_bands_X4_keepsAreas rfl rfl rfl (by decide +kernel) ⟨Nat.le_of_ble_eq_true rfl, Nat.le_of_ble_eq_true rfl⟩) ⟨zblind, va_recv hK hP (ci := 4) (q0 := 0) rfl rfl, (fun U hU hW => ⟨rfl, by rw [hU]; exact hP.sub (ws' := [(qo, .inr (4, [.ref qm, .ref qb, .ref qr, .ref qf])), (qb, .inr (0, [.ref qt])), (qt, .inl (cI, 9, .inl ft)), (qm, .inr (2, [.ref qw, .ref qh])), (qw, .inl (cI, 10, .inl fw)), (qh, .inl (cI, 10, .inl fh))]) [0, 1, 2, 3, 4, 5] rfl, va_K.moved hW.alike hK⟩)⟩ rfl rfl hl.1 rfl (lv_room (Nat.le_of_ble_eq_true rfl)) dL_bands_264 ⟨(show _ ≤ 20 from by omega), (show _ ≤ 120 from by omega)⟩) hS (fun q _ h => h.elim) (fun q h => h.elim) (fun r13 u t H locs ht hvm hw hB hz1 hk1 hS => ?_)
      rw [hw]
      have hP := zk hP hk1
      refine lv_iload_n hx hb dL_bands_267 rfl (lv_at hl 3 rfl) ?_
      refine lv_icmp_ne (tgt := 306) hx hb dL_bands_268 (by decide) (fun c14 => ?_) (fun c14 => ?_)
      · refine lv_iconst (v := 0) hx hb dL_bands_306 (by decide) ?_
        refine W.widen (k := 20) (n := 120) (by decide) (by decide) ?_
        have e15 : s_L_bands ft fw fh = 0 := by
          unfold s_L_bands
          exact (if_neg c14)
        exact W.zret (v := 0) hx hb hr (z_b (by (repeat' split) <;> simp)) (fun t ht hW => ⟨⟨_, (), rfl, e15.symm, ⟨(by rw [ht]; exact hP), va_K.moved hW.alike hK, hD⟩⟩, hS.F ht⟩) hS.2.2 dL_bands_307
      · refine lv_aload_n hx hb dL_bands_271 rfl (lv_at hl 0 rfl) ?_
        refine va_calli (va_runV (As := []) (rest := []) ⟨hx, hb, hml, hown, hts⟩ (c_X4_widest l D cI cZ cJ cD qo qm qb qr qf qt ft qw qh fw fh ) (cwV 0 hts gL_bands_X4_widest rfl rfl rfl (by decide +kernel) ⟨Nat.le_of_ble_eq_true rfl, Nat.le_of_ble_eq_true rfl⟩) ⟨zblind, va_recv hK hP (ci := 4) (q0 := 0) rfl rfl, (fun U hU hW => ⟨rfl, by rw [hU]; exact hP.sub (ws' := [(qo, .inr (4, [.ref qm, .ref qb, .ref qr, .ref qf])), (qb, .inr (0, [.ref qt])), (qt, .inl (cI, 9, .inl ft)), (qm, .inr (2, [.ref qw, .ref qh])), (qw, .inl (cI, 10, .inl fw)), (qh, .inl (cI, 10, .inl fh))]) [0, 1, 2, 3, 4, 5] rfl, va_K.moved hW.alike hK⟩)⟩ rfl rfl hl.1 rfl (lv_room (Nat.le_of_ble_eq_true rfl)) dL_bands_272 ⟨(show _ ≤ 20 from by omega), (show _ ≤ 120 from by omega)⟩) hS (fun q _ h => h.elim) (fun q h => h.elim) (fun r16 u t H locs ht hvm hw hB hz1 hk1 hS => ?_)
        rw [hw]
        have hP := zk hP hk1
        refine lv_iload_n hx hb dL_bands_275 rfl (lv_at hl 2 rfl) ?_
        refine lv_icmp_ne (tgt := 306) hx hb dL_bands_276 (by decide) (fun c17 => ?_) (fun c17 => ?_)
        · refine lv_iconst (v := 0) hx hb dL_bands_306 (by decide) ?_
          refine W.widen (k := 20) (n := 120) (by decide) (by decide) ?_
          have e18 : s_L_bands ft fw fh = 0 := by
            unfold s_L_bands
            exact ((if_pos c14).trans (if_neg c17))
          exact W.zret (v := 0) hx hb hr (z_b (by (repeat' split) <;> simp)) (fun t ht hW => ⟨⟨_, (), rfl, e18.symm, ⟨(by rw [ht]; exact hP), va_K.moved hW.alike hK, hD⟩⟩, hS.F ht⟩) hS.2.2 dL_bands_307
        · refine lv_aload_n hx hb dL_bands_279 rfl (lv_at hl 0 rfl) ?_
          refine lv_bipush (v := 9) hx hb dL_bands_280 (by decide) ?_
          have hPc := hP.sub (ws' := [(qo, .inr (4, [.ref qm, .ref qb, .ref qr, .ref qf])), (qb, .inr (0, [.ref qt])), (qt, .inl (cI, 9, .inl ft)), (qm, .inr (2, [.ref qw, .ref qh])), (qw, .inl (cI, 10, .inl fw)), (qh, .inl (cI, 10, .inl fh))]) [0, 1, 2, 3, 4, 5] rfl
          have hDc := hD.sub (ws' := [(qo, .inr (4, [.ref qm, .ref qb, .ref qr, .ref qf])), (qb, .inr (0, [.ref qt])), (qt, .inl (cI, 9, .inl ft)), (qm, .inr (2, [.ref qw, .ref qh])), (qw, .inl (cI, 10, .inl fw)), (qh, .inl (cI, 10, .inl fh))]) [0, 1, 2, 3, 4, 5] (by decide) rfl
          have hFc := va_free (wc := [(qo, .inr (4, [.ref qm, .ref qb, .ref qr, .ref qf])), (qb, .inr (0, [.ref qt])), (qt, .inl (cI, 9, .inl ft)), (qm, .inr (2, [.ref qw, .ref qh])), (qw, .inl (cI, 10, .inl fw)), (qh, .inl (cI, 10, .inl fh))]) hD hS hA [0, 1, 2, 3, 4, 5] rfl
          refine vx_callf (vx_runSX (As := [.ref qo, .int 9]) (rest := []) ⟨hx, hb, hml, hown, hts⟩ (c_L_stretch l hnt D cI cZ cJ cD qo qm qb qr qf qt ft qw qh fw fh 9 H.size htr) (vx_cwSW 2 hts gL_bands_L_stretch rfl rfl rfl (by decide +kernel) ⟨Nat.le_of_ble_eq_true rfl, Nat.le_of_ble_eq_true rfl⟩) ⟨zblindWE, (fun U hU hW => ⟨rfl, by rw [hU], by rw [hU]; exact hPc, va_K.moved hW.alike hK, hDc.weaken (fun _ _ _ _ => trivial), zEnv.go hE hS hFc hU hW⟩)⟩ rfl rfl hl.1 rfl (lv_room (Nat.le_of_ble_eq_true rfl)) dL_bands_282 ⟨(show _ ≤ 20 from by omega), (show _ ≤ 120 from by omega)⟩) hS (fun q _ h => hFc q h) hFc (fun q _ h => hFc q h) (fun E ce q9 u t H locs ht hvm hpx hB hz1 hk1 hS hq9 hce hcl => ?_) (fun r19 u t H locs ht hvm hw hB hz1 hk1 hS => ?_)
          · exact hB.elim
          rw [hw]
          obtain ⟨hP1, hK1, hD1⟩ := hB
          rw [ht] at hP1
          obtain ⟨hP, hD⟩ := va_join (wr := [(qT, .inl (cI, 33, .inl gt))]) (w1 := [(qo, .inr (4, [.ref qm, .ref qb, .ref qr, .ref qf])), (qb, .inr (0, [.ref qt])), (qt, .inl (cI, 9, .inl ft)), (qm, .inr (2, [.ref qw, .ref qh])), (qw, .inl (cI, 10, .inl fw)), (qh, .inl (cI, 10, .inl fh))]) hP hD [0, 1, 2, 3, 4, 5] [6] rfl rfl (by decide) (by decide) hk1 hFc hP1 hD1
          have hP := hP.sub (ws' := [(qo, .inr (4, [.ref qm, .ref qb, .ref qr, .ref qf])), (qb, .inr (0, [.ref qt])), (qt, .inl (cI, 9, .inl ft)), (qm, .inr (2, [.ref qw, .ref qh])), (qw, .inl (cI, 10, .inl fw)), (qh, .inl (cI, 10, .inl fh)), (qT, .inl (cI, 33, .inl gt))]) [1, 2, 3, 4, 5, 6, 0] rfl
          have hD := hD.sub (ws' := [(qo, .inr (4, [.ref qm, .ref qb, .ref qr, .ref qf])), (qb, .inr (0, [.ref qt])), (qt, .inl (cI, 9, .inl ft)), (qm, .inr (2, [.ref qw, .ref qh])), (qw, .inl (cI, 10, .inl fw)), (qh, .inl (cI, 10, .inl fh)), (qT, .inl (cI, 33, .inl gt))]) [1, 2, 3, 4, 5, 6, 0] (by decide) rfl
          refine W.widen (k := 10) (n := 60) (by omega) (by omega) ?_
          refine lv_ldcf (v := (3212836864 : UInt32)) hx hb hown (hts (.constantFloat RL 85 (3212836864)) (List.mem_cons_of_mem _ (List.mem_append_left _ (List.mem_append_left _ (List.mem_append_left _ (List.mem_append_left _ (List.mem_append_left _ (List.mem_of_getElem? (i := 0) rfl)))))))) dL_bands_285 ?_
          refine lv_fcmp hx hb dL_bands_287 ?_
          refine lv_if_ne (tgt := 306) hx hb dL_bands_288 (by decide) (fun c20 => ?_) (fun c20 => ?_)
          · refine lv_iconst (v := 0) hx hb dL_bands_306 (by decide) ?_
            refine W.widen (k := 20) (n := 120) (by decide) (by decide) ?_
            have e21 : s_L_bands ft fw fh = 0 := by
              unfold s_L_bands
              exact ((if_pos c14).trans ((if_pos c17).trans (if_neg c20)))
            exact W.zret (v := 0) hx hb hr (z_b (by (repeat' split) <;> simp)) (fun t ht hW => ⟨⟨_, (), rfl, e21.symm, ⟨(by rw [ht]; exact hP), va_K.moved hW.alike hK, hD⟩⟩, hS.F ht⟩) hS.2.2 dL_bands_307
          · refine lv_aload_n hx hb dL_bands_291 rfl (lv_at hl 0 rfl) ?_
            refine lv_iconst (v := (-1)) hx hb dL_bands_292 (by decide) ?_
            have hPc := hP.sub (ws' := [(qo, .inr (4, [.ref qm, .ref qb, .ref qr, .ref qf])), (qb, .inr (0, [.ref qt])), (qt, .inl (cI, 9, .inl ft)), (qm, .inr (2, [.ref qw, .ref qh])), (qw, .inl (cI, 10, .inl fw)), (qh, .inl (cI, 10, .inl fh))]) [0, 1, 2, 3, 4, 5] rfl
            have hDc := hD.sub (ws' := [(qo, .inr (4, [.ref qm, .ref qb, .ref qr, .ref qf])), (qb, .inr (0, [.ref qt])), (qt, .inl (cI, 9, .inl ft)), (qm, .inr (2, [.ref qw, .ref qh])), (qw, .inl (cI, 10, .inl fw)), (qh, .inl (cI, 10, .inl fh))]) [0, 1, 2, 3, 4, 5] (by decide) rfl
            have hFc := va_free (wc := [(qo, .inr (4, [.ref qm, .ref qb, .ref qr, .ref qf])), (qb, .inr (0, [.ref qt])), (qt, .inl (cI, 9, .inl ft)), (qm, .inr (2, [.ref qw, .ref qh])), (qw, .inl (cI, 10, .inl fw)), (qh, .inl (cI, 10, .inl fh))]) hD hS hA [0, 1, 2, 3, 4, 5] rfl
            refine vx_callf (vx_runSX (As := [.ref qo, .int (-1)]) (rest := []) ⟨hx, hb, hml, hown, hts⟩ (c_L_stretch l hnt D cI cZ cJ cD qo qm qb qr qf qt ft qw qh fw fh (-1) H.size htr) (vx_cwSW 2 hts gL_bands_L_stretch rfl rfl rfl (by decide +kernel) ⟨Nat.le_of_ble_eq_true rfl, Nat.le_of_ble_eq_true rfl⟩) ⟨zblindWE, (fun U hU hW => ⟨rfl, by rw [hU], by rw [hU]; exact hPc, va_K.moved hW.alike hK, hDc.weaken (fun _ _ _ _ => trivial), zEnv.go hE hS hFc hU hW⟩)⟩ rfl rfl hl.1 rfl (lv_room (Nat.le_of_ble_eq_true rfl)) dL_bands_293 ⟨(show _ ≤ 20 from by omega), (show _ ≤ 120 from by omega)⟩) hS (fun q _ h => hFc q h) hFc (fun q _ h => hFc q h) (fun E ce q9 u t H locs ht hvm hpx hB hz1 hk1 hS hq9 hce hcl => ?_) (fun r22 u t H locs ht hvm hw hB hz1 hk1 hS => ?_)
            · exact hB.elim
            rw [hw]
            obtain ⟨hP1, hK1, hD1⟩ := hB
            rw [ht] at hP1
            obtain ⟨hP, hD⟩ := va_join (wr := [(qT, .inl (cI, 33, .inl gt))]) (w1 := [(qo, .inr (4, [.ref qm, .ref qb, .ref qr, .ref qf])), (qb, .inr (0, [.ref qt])), (qt, .inl (cI, 9, .inl ft)), (qm, .inr (2, [.ref qw, .ref qh])), (qw, .inl (cI, 10, .inl fw)), (qh, .inl (cI, 10, .inl fh))]) hP hD [0, 1, 2, 3, 4, 5] [6] rfl rfl (by decide) (by decide) hk1 hFc hP1 hD1
            have hP := hP.sub (ws' := [(qo, .inr (4, [.ref qm, .ref qb, .ref qr, .ref qf])), (qb, .inr (0, [.ref qt])), (qt, .inl (cI, 9, .inl ft)), (qm, .inr (2, [.ref qw, .ref qh])), (qw, .inl (cI, 10, .inl fw)), (qh, .inl (cI, 10, .inl fh)), (qT, .inl (cI, 33, .inl gt))]) [1, 2, 3, 4, 5, 6, 0] rfl
            have hD := hD.sub (ws' := [(qo, .inr (4, [.ref qm, .ref qb, .ref qr, .ref qf])), (qb, .inr (0, [.ref qt])), (qt, .inl (cI, 9, .inl ft)), (qm, .inr (2, [.ref qw, .ref qh])), (qw, .inl (cI, 10, .inl fw)), (qh, .inl (cI, 10, .inl fh)), (qT, .inl (cI, 33, .inl gt))]) [1, 2, 3, 4, 5, 6, 0] (by decide) rfl
            refine W.widen (k := 11) (n := 66) (by omega) (by omega) ?_
            refine lv_ldcf (v := (3212836864 : UInt32)) hx hb hown (hts (.constantFloat RL 85 (3212836864)) (List.mem_cons_of_mem _ (List.mem_append_left _ (List.mem_append_left _ (List.mem_append_left _ (List.mem_append_left _ (List.mem_append_left _ (List.mem_of_getElem? (i := 0) rfl)))))))) dL_bands_296 ?_
            refine lv_fcmp hx hb dL_bands_298 ?_
            have K24 : ∀ v24_0 : Int32, v24_0 = (if (Op.cmpValue (FP.fcmp (s_L_stretch ft fw fh (-1)) (3212836864 : UInt32)) CmpOp.l) = 0 then 1 else 0) → ∀ (H : Heap) (locs : List Loc), va_P D vwCl [(qo, .inr (4, [.ref qm, .ref qb, .ref qr, .ref qf])), (qb, .inr (0, [.ref qt])), (qt, .inl (cI, 9, .inl ft)), (qm, .inr (2, [.ref qw, .ref qh])), (qw, .inl (cI, 10, .inl fw)), (qh, .inl (cI, 10, .inl fh)), (qT, .inl (cI, 33, .inl gt))] H → va_D A [(qo, .inr (4, [.ref qm, .ref qb, .ref qr, .ref qf])), (qb, .inr (0, [.ref qt])), (qt, .inl (cI, 9, .inl ft)), (qm, .inr (2, [.ref qw, .ref qh])), (qw, .inl (cI, 10, .inl fw)), (qh, .inl (cI, 10, .inl fh)), (qT, .inl (cI, 33, .inl gt))] → va_S A s.heap H locs → ∀ (ls : Array Slot), lv_has ls 9 [(0, .ref qo), (1, .ref qT), (3, .int ((lp_L_bands_7 ft fw fh 9).2)), (2, .int (lp_L_bands_162 ft fw fh 9))] → W p l e (headSpec wsL_bands rm_L_bands).room s m ([.ref qo, .ref qT]).toArray below meth c H locs 11 66 (MQ below (Qc_L_bands D cI cZ cJ cD qo qm qb qr qf qt ft qw qh fw fh qT gt A) ([.ref qo, .ref qT]).toArray s 20 120 A) (F0 m 307 ls [.int v24_0]) := by
              intro v24_0 hv24_0 H locs hP hD hS ls hl
              subst hv24_0
              refine W.widen (k := 20) (n := 120) (by decide) (by decide) ?_
              have e25 : s_L_bands ft fw fh = (if (Op.cmpValue (FP.fcmp (s_L_stretch ft fw fh (-1)) (3212836864 : UInt32)) CmpOp.l) = 0 then 1 else 0) := by
                unfold s_L_bands
                exact ((if_pos c14).trans ((if_pos c17).trans (if_pos c20)))
              exact W.zret (v := (if (Op.cmpValue (FP.fcmp (s_L_stretch ft fw fh (-1)) (3212836864 : UInt32)) CmpOp.l) = 0 then 1 else 0)) hx hb hr (z_b (by (repeat' split) <;> simp)) (fun t ht hW => ⟨⟨_, (), rfl, e25.symm, ⟨(by rw [ht]; exact hP), va_K.moved hW.alike hK, hD⟩⟩, hS.F ht⟩) hS.2.2 dL_bands_307
            refine lv_if_ne (tgt := 306) hx hb dL_bands_299 (by decide) (fun c26 => ?_) (fun c26 => ?_)
            · refine lv_iconst (v := 0) hx hb dL_bands_306 (by decide) ?_
              exact K24 _ (if_neg c26).symm _ _ hP hD hS _ (lv_sub hl [0, 1, 2, 3] rfl)
            · refine lv_iconst (v := 1) hx hb dL_bands_302 (by decide) ?_
              refine lv_goto (tgt := 307) hx hb dL_bands_303 (by decide) ?_
              exact K24 _ (if_pos c26).symm _ _ hP hD hS _ (lv_sub hl [0, 1, 2, 3] rfl)
    have L12 : ∀ (n12 k : Nat) (acc12_0 : Int32), k ≤ 9 → 9 < k + n12 → acc12_0 = lp_L_bands_162 ft fw fh k → ∀ (H : Heap) (locs : List Loc), va_P D vwCl [(qo, .inr (4, [.ref qm, .ref qb, .ref qr, .ref qf])), (qb, .inr (0, [.ref qt])), (qt, .inl (cI, 9, .inl ft)), (qm, .inr (2, [.ref qw, .ref qh])), (qw, .inl (cI, 10, .inl fw)), (qh, .inl (cI, 10, .inl fh)), (qT, .inl (cI, 33, .inl gt))] H → va_D A [(qo, .inr (4, [.ref qm, .ref qb, .ref qr, .ref qf])), (qb, .inr (0, [.ref qt])), (qt, .inl (cI, 9, .inl ft)), (qm, .inr (2, [.ref qw, .ref qh])), (qw, .inl (cI, 10, .inl fw)), (qh, .inl (cI, 10, .inl fh)), (qT, .inl (cI, 33, .inl gt))] → va_S A s.heap H locs → ∀ (ls : Array Slot), lv_has ls 9 [(0, .ref qo), (1, .ref qT), (3, .int ((lp_L_bands_7 ft fw fh 9).2)), (4, .int (nI k)), (2, .int acc12_0)] → W p l e (headSpec wsL_bands rm_L_bands).room s m ([.ref qo, .ref qT]).toArray below meth c H locs 9 54 (MQ below (Qc_L_bands D cI cZ cJ cD qo qm qb qr qf qt ft qw qh fw fh qT gt A) ([.ref qo, .ref qT]).toArray s 20 120 A) (F0 m 162 ls []) := by
      intro n12
      induction n12 with
      | zero =>
        intro k acc12_0 hkk hf12
        exact absurd hf12 (by omega)
      | succ n12 ih12 =>
        intro k acc12_0 hkk hf12 hacc12_0 H locs hP hD hS ls hl
        subst hacc12_0
        refine lv_iload hx hb dL_bands_162 (lv_at hl 3 rfl) ?_
        refine lv_bipush (v := 9) hx hb dL_bands_164 (by decide) ?_
        refine lv_icmp_ge (tgt := 263) hx hb dL_bands_166 (by decide) (fun c27 => ?_) (fun c27 => ?_)
        · have hgek : 9 ≤ k := bd_ge hkk c27
          have ekk : k = 9 := by omega
          subst ekk
          exact X12 _ _ hP hD hS _ (lv_sub hl [0, 1, 2, 4] rfl)
        · refine lv_iconst (v := 0) hx hb dL_bands_169 (by decide) ?_
          refine lv_istore (lv' := [(5, .int 0), (0, .ref qo), (1, .ref qT), (3, .int ((lp_L_bands_7 ft fw fh 9).2)), (4, .int (nI k)), (2, .int (lp_L_bands_162 ft fw fh k))]) hx hb dL_bands_170 hl (by decide) rfl (fun ls hl => ?_)
          have X28 : ∀ (H : Heap) (locs : List Loc), va_P D vwCl [(qo, .inr (4, [.ref qm, .ref qb, .ref qr, .ref qf])), (qb, .inr (0, [.ref qt])), (qt, .inl (cI, 9, .inl ft)), (qm, .inr (2, [.ref qw, .ref qh])), (qw, .inl (cI, 10, .inl fw)), (qh, .inl (cI, 10, .inl fh)), (qT, .inl (cI, 33, .inl gt))] H → va_D A [(qo, .inr (4, [.ref qm, .ref qb, .ref qr, .ref qf])), (qb, .inr (0, [.ref qt])), (qt, .inl (cI, 9, .inl ft)), (qm, .inr (2, [.ref qw, .ref qh])), (qw, .inl (cI, 10, .inl fw)), (qh, .inl (cI, 10, .inl fh)), (qT, .inl (cI, 33, .inl gt))] → va_S A s.heap H locs → ∀ (ls : Array Slot), lv_has ls 9 [(0, .ref qo), (1, .ref qT), (3, .int ((lp_L_bands_7 ft fw fh 9).2)), (4, .int (nI k)), (2, .int (lp_L_bands_172 ft fw fh k (lp_L_bands_162 ft fw fh k) k))] → W p l e (headSpec wsL_bands rm_L_bands).room s m ([.ref qo, .ref qT]).toArray below meth c H locs 9 54 (MQ below (Qc_L_bands D cI cZ cJ cD qo qm qb qr qf qt ft qw qh fw fh qT gt A) ([.ref qo, .ref qT]).toArray s 20 120 A) (F0 m 257 ls []) := by
            intro H locs hP hD hS ls hl
            refine lv_iinc (v := nI (k + 1)) (lv' := [(4, .int (nI (k + 1))), (0, .ref qo), (1, .ref qT), (3, .int ((lp_L_bands_7 ft fw fh 9).2)), (2, .int (lp_L_bands_172 ft fw fh k (lp_L_bands_162 ft fw fh k) k))]) hx hb dL_bands_257 hl (k := 3) rfl (nI_succ k).symm (by decide) rfl (fun ls hl => ?_)
            refine lv_goto (tgt := 162) hx hb dL_bands_260 (by decide) ?_
            have hltk : k < 9 := bd_lt hkk c27
            exact ih12 (k + 1) _ (by omega) (by omega) rfl _ _ hP hD hS _ (lv_sub hl [1, 2, 3, 0, 4] rfl)
          have L28 : ∀ (n28 j : Nat) (acc28_0 : Int32), j ≤ k → k < j + n28 → acc28_0 = lp_L_bands_172 ft fw fh k (lp_L_bands_162 ft fw fh k) j → ∀ (H : Heap) (locs : List Loc), va_P D vwCl [(qo, .inr (4, [.ref qm, .ref qb, .ref qr, .ref qf])), (qb, .inr (0, [.ref qt])), (qt, .inl (cI, 9, .inl ft)), (qm, .inr (2, [.ref qw, .ref qh])), (qw, .inl (cI, 10, .inl fw)), (qh, .inl (cI, 10, .inl fh)), (qT, .inl (cI, 33, .inl gt))] H → va_D A [(qo, .inr (4, [.ref qm, .ref qb, .ref qr, .ref qf])), (qb, .inr (0, [.ref qt])), (qt, .inl (cI, 9, .inl ft)), (qm, .inr (2, [.ref qw, .ref qh])), (qw, .inl (cI, 10, .inl fw)), (qh, .inl (cI, 10, .inl fh)), (qT, .inl (cI, 33, .inl gt))] → va_S A s.heap H locs → ∀ (ls : Array Slot), lv_has ls 9 [(0, .ref qo), (1, .ref qT), (3, .int ((lp_L_bands_7 ft fw fh 9).2)), (4, .int (nI k)), (5, .int (nI j)), (2, .int acc28_0)] → W p l e (headSpec wsL_bands rm_L_bands).room s m ([.ref qo, .ref qT]).toArray below meth c H locs 9 54 (MQ below (Qc_L_bands D cI cZ cJ cD qo qm qb qr qf qt ft qw qh fw fh qT gt A) ([.ref qo, .ref qT]).toArray s 20 120 A) (F0 m 172 ls []) := by
            intro n28
            induction n28 with
            | zero =>
              intro j acc28_0 hkj hf28
              exact absurd hf28 (by omega)
            | succ n28 ih28 =>
              intro j acc28_0 hkj hf28 hacc28_0 H locs hP hD hS ls hl
              subst hacc28_0
              refine lv_iload hx hb dL_bands_172 (lv_at hl 4 rfl) ?_
              refine lv_iload hx hb dL_bands_174 (lv_at hl 3 rfl) ?_
              refine lv_icmp_ge (tgt := 257) hx hb dL_bands_176 (by decide) (fun c29 => ?_) (fun c29 => ?_)
              · have hgej : k ≤ j := bd_gej (bd_lt hkk c27) hkj c29
                have ekj : j = k := by omega
                subst ekj
                exact X28 _ _ hP hD hS _ (lv_sub hl [0, 1, 2, 3, 5] rfl)
              · refine lv_iload_n hx hb dL_bands_179 rfl (lv_at hl 5 rfl) ?_
                have K31 : ∀ v31_0 : Int32, v31_0 = (if (lp_L_bands_172 ft fw fh k (lp_L_bands_162 ft fw fh k) j) = 0 then 0 else (if (lg_cmp ((s_L_area fw fh (10 * (nI k)) ((10 * (nI k)) + 10) 360) * ((ft (nI j).toNatClampNeg).toInt64)) ((s_L_area fw fh (10 * (nI j)) ((10 * (nI j)) + 10) 360) * ((ft (nI k).toNatClampNeg).toInt64))) = 0 then 1 else 0)) → ∀ (H : Heap) (locs : List Loc), va_P D vwCl [(qo, .inr (4, [.ref qm, .ref qb, .ref qr, .ref qf])), (qb, .inr (0, [.ref qt])), (qt, .inl (cI, 9, .inl ft)), (qm, .inr (2, [.ref qw, .ref qh])), (qw, .inl (cI, 10, .inl fw)), (qh, .inl (cI, 10, .inl fh)), (qT, .inl (cI, 33, .inl gt))] H → va_D A [(qo, .inr (4, [.ref qm, .ref qb, .ref qr, .ref qf])), (qb, .inr (0, [.ref qt])), (qt, .inl (cI, 9, .inl ft)), (qm, .inr (2, [.ref qw, .ref qh])), (qw, .inl (cI, 10, .inl fw)), (qh, .inl (cI, 10, .inl fh)), (qT, .inl (cI, 33, .inl gt))] → va_S A s.heap H locs → ∀ (ls : Array Slot), lv_has ls 9 [(0, .ref qo), (1, .ref qT), (3, .int ((lp_L_bands_7 ft fw fh 9).2)), (4, .int (nI k)), (5, .int (nI j)), (2, .int (lp_L_bands_172 ft fw fh k (lp_L_bands_162 ft fw fh k) j))] → W p l e (headSpec wsL_bands rm_L_bands).room s m ([.ref qo, .ref qT]).toArray below meth c H locs 9 54 (MQ below (Qc_L_bands D cI cZ cJ cD qo qm qb qr qf qt ft qw qh fw fh qT gt A) ([.ref qo, .ref qT]).toArray s 20 120 A) (F0 m 250 ls [.int v31_0]) := by
                  intro v31_0 hv31_0 H locs hP hD hS ls hl
                  subst hv31_0
                  refine lv_istore_n (lv' := [(2, .int (if (lp_L_bands_172 ft fw fh k (lp_L_bands_162 ft fw fh k) j) = 0 then 0 else (if (lg_cmp ((s_L_area fw fh (10 * (nI k)) ((10 * (nI k)) + 10) 360) * ((ft (nI j).toNatClampNeg).toInt64)) ((s_L_area fw fh (10 * (nI j)) ((10 * (nI j)) + 10) 360) * ((ft (nI k).toNatClampNeg).toInt64))) = 0 then 1 else 0))), (0, .ref qo), (1, .ref qT), (3, .int ((lp_L_bands_7 ft fw fh 9).2)), (4, .int (nI k)), (5, .int (nI j))]) hx hb dL_bands_250 rfl hl (by decide) rfl (fun ls hl => ?_)
                  have hl : lv_has ls 9 [(2, .int (v_L_bands_250 ft fw fh (lp_L_bands_172 ft fw fh k (lp_L_bands_162 ft fw fh k) j) j k)), (0, .ref qo), (1, .ref qT), (3, .int ((lp_L_bands_7 ft fw fh 9).2)), (4, .int (nI k)), (5, .int (nI j))] := hl
                  refine lv_iinc (v := nI (j + 1)) (lv' := [(5, .int (nI (j + 1))), (2, .int (v_L_bands_250 ft fw fh (lp_L_bands_172 ft fw fh k (lp_L_bands_162 ft fw fh k) j) j k)), (0, .ref qo), (1, .ref qT), (3, .int ((lp_L_bands_7 ft fw fh 9).2)), (4, .int (nI k))]) hx hb dL_bands_251 hl (k := 5) rfl (nI_succ j).symm (by decide) rfl (fun ls hl => ?_)
                  refine lv_goto (tgt := 172) hx hb dL_bands_254 (by decide) ?_
                  have hltj : j < k := bd_ltj (bd_lt hkk c27) hkj c29
                  exact ih28 (j + 1) _ (by omega) (by omega) rfl _ _ hP hD hS _ (lv_sub hl [2, 3, 4, 5, 0, 1] rfl)
                refine lv_if_eq (tgt := 249) hx hb dL_bands_180 (by decide) (fun c32 => ?_) (fun c32 => ?_)
                · refine lv_iconst (v := 0) hx hb dL_bands_249 (by decide) ?_
                  exact K31 _ (if_pos c32).symm _ _ hP hD hS _ (lv_sub hl [0, 1, 2, 3, 4, 5] rfl)
                · refine lv_aload_n hx hb dL_bands_183 rfl (lv_at hl 1 rfl) ?_
                  refine lv_bipush (v := 10) hx hb dL_bands_184 (by decide) ?_
                  refine lv_iload hx hb dL_bands_186 (lv_at hl 3 rfl) ?_
                  refine lv_imul hx hb dL_bands_188 ?_
                  refine lv_bipush (v := 10) hx hb dL_bands_189 (by decide) ?_
                  refine lv_iload hx hb dL_bands_191 (lv_at hl 3 rfl) ?_
                  refine lv_imul hx hb dL_bands_193 ?_
                  refine lv_bipush (v := 10) hx hb dL_bands_194 (by decide) ?_
                  refine lv_iadd hx hb dL_bands_196 ?_
                  refine lv_sipush (v := 360) hx hb dL_bands_197 (by decide) ?_
                  refine va_calll (va_runS (As := [.ref qT, .int (10 * (nI k)), .int ((10 * (nI k)) + 10), .int 360]) (rest := []) ⟨hx, hb, hml, hown, hts⟩ (c_L_area l D cI cZ cJ cD qT gt fw fh (10 * (nI k)) ((10 * (nI k)) + 10) 360 hT hWB (bd_1 (bd_k (bd_lt hkk c27))) (bd_2 (bd_k (bd_lt hkk c27))) (bd_3 (bd_k (bd_lt hkk c27)))) (va_cwS 4 hts gL_bands_L_area rfl rfl rfl (by decide +kernel) ⟨Nat.le_of_ble_eq_true rfl, Nat.le_of_ble_eq_true rfl⟩) ⟨zblind, (fun U hU hW => ⟨rfl, by rw [hU]; exact hP.sub (ws' := [(qT, .inl (cI, 33, .inl gt))]) [6] rfl, va_K.moved hW.alike hK⟩)⟩ rfl rfl hl.1 rfl (lv_room (Nat.le_of_ble_eq_true rfl)) dL_bands_200 ⟨(show _ ≤ 20 from by omega), (show _ ≤ 120 from by omega)⟩) hS (fun q _ h => h.elim) (fun q h => h.elim) (fun r33 u t H locs ht hvm hw hB hz1 hk1 hS => ?_)
                  rw [hw]
                  have hP := zk hP hk1
                  refine lv_aload_n hx hb dL_bands_203 rfl (lv_at hl 1 rfl) ?_
                  refine lv_bipush (v := 20) hx hb dL_bands_204 (by decide) ?_
                  refine lv_iload hx hb dL_bands_206 (lv_at hl 4 rfl) ?_
                  refine lv_iadd hx hb dL_bands_208 ?_
                  refine va_iald hx hb hK hP 6 0 rfl rfl (bd_i (bd_k (Nat.lt_trans (bd_ltj (bd_lt hkk c27) hkj c29) (bd_lt hkk c27)))) dL_bands_209 ?_
                  rw [show gt (20 + (nI j)).toNatClampNeg = ft (nI j).toNatClampNeg from (bd_g hG (bd_k (Nat.lt_trans (bd_ltj (bd_lt hkk c27) hkj c29) (bd_lt hkk c27))))]
                  refine lv_i2l hx hb dL_bands_210 rfl ?_
                  refine lv_lmul hx hb dL_bands_211 ?_
                  refine lv_aload_n hx hb dL_bands_212 rfl (lv_at hl 1 rfl) ?_
                  refine lv_bipush (v := 10) hx hb dL_bands_213 (by decide) ?_
                  refine lv_iload hx hb dL_bands_215 (lv_at hl 4 rfl) ?_
                  refine lv_imul hx hb dL_bands_217 ?_
                  refine lv_bipush (v := 10) hx hb dL_bands_218 (by decide) ?_
                  refine lv_iload hx hb dL_bands_220 (lv_at hl 4 rfl) ?_
                  refine lv_imul hx hb dL_bands_222 ?_
                  refine lv_bipush (v := 10) hx hb dL_bands_223 (by decide) ?_
                  refine lv_iadd hx hb dL_bands_225 ?_
                  refine lv_sipush (v := 360) hx hb dL_bands_226 (by decide) ?_
                  refine va_calll (va_runS (As := [.ref qT, .int (10 * (nI j)), .int ((10 * (nI j)) + 10), .int 360]) (rest := [.long ((s_L_area fw fh (10 * (nI k)) ((10 * (nI k)) + 10) 360) * ((ft (nI j).toNatClampNeg).toInt64))]) ⟨hx, hb, hml, hown, hts⟩ (c_L_area l D cI cZ cJ cD qT gt fw fh (10 * (nI j)) ((10 * (nI j)) + 10) 360 hT hWB (bd_1 (bd_k (Nat.lt_trans (bd_ltj (bd_lt hkk c27) hkj c29) (bd_lt hkk c27)))) (bd_2 (bd_k (Nat.lt_trans (bd_ltj (bd_lt hkk c27) hkj c29) (bd_lt hkk c27)))) (bd_3 (bd_k (Nat.lt_trans (bd_ltj (bd_lt hkk c27) hkj c29) (bd_lt hkk c27))))) (va_cwS 4 hts gL_bands_L_area rfl rfl rfl (by decide +kernel) ⟨Nat.le_of_ble_eq_true rfl, Nat.le_of_ble_eq_true rfl⟩) ⟨zblind, (fun U hU hW => ⟨rfl, by rw [hU]; exact hP.sub (ws' := [(qT, .inl (cI, 33, .inl gt))]) [6] rfl, va_K.moved hW.alike hK⟩)⟩ rfl rfl hl.1 rfl (lv_room (Nat.le_of_ble_eq_true rfl)) dL_bands_229 ⟨(show _ ≤ 20 from by omega), (show _ ≤ 120 from by omega)⟩) hS (fun q _ h => h.elim) (fun q h => h.elim) (fun r34 u t H locs ht hvm hw hB hz1 hk1 hS => ?_)
                  rw [hw]
                  have hP := zk hP hk1
                  refine lv_aload_n hx hb dL_bands_232 rfl (lv_at hl 1 rfl) ?_
                  refine lv_bipush (v := 20) hx hb dL_bands_233 (by decide) ?_
                  refine lv_iload hx hb dL_bands_235 (lv_at hl 3 rfl) ?_
                  refine lv_iadd hx hb dL_bands_237 ?_
                  refine va_iald hx hb hK hP 6 0 rfl rfl (bd_i (bd_k (bd_lt hkk c27))) dL_bands_238 ?_
                  rw [show gt (20 + (nI k)).toNatClampNeg = ft (nI k).toNatClampNeg from (bd_g hG (bd_k (bd_lt hkk c27)))]
                  refine lv_i2l hx hb dL_bands_239 rfl ?_
                  refine lv_lmul hx hb dL_bands_240 ?_
                  refine W.lcmp hx hb dL_bands_241 ?_
                  refine lv_if_ne (tgt := 249) hx hb dL_bands_242 (by decide) (fun c35 => ?_) (fun c35 => ?_)
                  · refine lv_iconst (v := 0) hx hb dL_bands_249 (by decide) ?_
                    exact K31 _ ((if_neg c32).trans (if_neg c35)).symm _ _ hP hD hS _ (lv_sub hl [0, 1, 2, 3, 4, 5] rfl)
                  · refine lv_iconst (v := 1) hx hb dL_bands_245 (by decide) ?_
                    refine lv_goto (tgt := 250) hx hb dL_bands_246 (by decide) ?_
                    exact K31 _ ((if_neg c32).trans (if_pos c35)).symm _ _ hP hD hS _ (lv_sub hl [0, 1, 2, 3, 4, 5] rfl)
          exact L28 (k + 1) 0 _ (Nat.zero_le _) (by omega) rfl _ _ hP hD hS _ (zlv (lv_sub (l' := [(0, .ref qo), (1, .ref qT), (3, .int ((lp_L_bands_7 ft fw fh 9).2)), (4, .int (nI k)), (5, .int 0), (2, .int (lp_L_bands_162 ft fw fh k))]) hl [1, 2, 3, 4, 0, 5] rfl) (by rfl))
    exact L12 (9 + 1) 0 _ (Nat.zero_le _) (by omega) rfl _ _ hP hD hS _ (zlv (lv_sub (l' := [(0, .ref qo), (1, .ref qT), (3, .int ((lp_L_bands_7 ft fw fh 9).2)), (4, .int 0), (2, .int ((lp_L_bands_7 ft fw fh 9).1))]) hl [1, 2, 4, 0, 3] rfl) (by rfl))
  have L11 : ∀ (n11 k : Nat) (acc11_0 : Int32) (acc11_1 : Int32), k ≤ 9 → 9 < k + n11 → acc11_0 = (lp_L_bands_7 ft fw fh k).1 → acc11_1 = (lp_L_bands_7 ft fw fh k).2 → ∀ (nc ns : Nat), nc ≤ 0 + 1 * k → ns ≤ 0 + 6 * k → ∀ (H : Heap) (locs : List Loc), va_P D vwCl [(qo, .inr (4, [.ref qm, .ref qb, .ref qr, .ref qf])), (qb, .inr (0, [.ref qt])), (qt, .inl (cI, 9, .inl ft)), (qm, .inr (2, [.ref qw, .ref qh])), (qw, .inl (cI, 10, .inl fw)), (qh, .inl (cI, 10, .inl fh)), (qT, .inl (cI, 33, .inl gt))] H → va_D A [(qo, .inr (4, [.ref qm, .ref qb, .ref qr, .ref qf])), (qb, .inr (0, [.ref qt])), (qt, .inl (cI, 9, .inl ft)), (qm, .inr (2, [.ref qw, .ref qh])), (qw, .inl (cI, 10, .inl fw)), (qh, .inl (cI, 10, .inl fh)), (qT, .inl (cI, 33, .inl gt))] → va_S A s.heap H locs → ∀ (ls : Array Slot), lv_has ls 9 [(0, .ref qo), (1, .ref qT), (4, .int (nI k)), (2, .int acc11_0), (3, .int acc11_1)] → W p l e (headSpec wsL_bands rm_L_bands).room s m ([.ref qo, .ref qT]).toArray below meth c H locs nc ns (MQ below (Qc_L_bands D cI cZ cJ cD qo qm qb qr qf qt ft qw qh fw fh qT gt A) ([.ref qo, .ref qT]).toArray s 20 120 A) (F0 m 7 ls []) := by
    intro n11
    induction n11 with
    | zero =>
      intro k acc11_0 acc11_1 hkk hf11
      exact absurd hf11 (by omega)
    | succ n11 ih11 =>
      intro k acc11_0 acc11_1 hkk hf11 hacc11_0 hacc11_1 nc ns hnc hns H locs hP hD hS ls hl
      subst hacc11_0
      subst hacc11_1
      refine lv_iload hx hb dL_bands_7 (lv_at hl 2 rfl) ?_
      refine lv_bipush (v := 9) hx hb dL_bands_9 (by decide) ?_
      refine lv_icmp_ge (tgt := 159) hx hb dL_bands_11 (by decide) (fun c36 => ?_) (fun c36 => ?_)
      · have hgek : 9 ≤ k := bd_ge hkk c36
        have ekk : k = 9 := by omega
        subst ekk
        refine W.widen (k := 9) (n := 54) (by omega) (by omega) ?_
        exact X11 _ _ hP hD hS _ (lv_sub hl [0, 1, 3, 4] rfl)
      · refine lv_aload_n hx hb dL_bands_14 rfl (lv_at hl 1 rfl) ?_
        refine lv_bipush (v := 10) hx hb dL_bands_15 (by decide) ?_
        refine lv_iload hx hb dL_bands_17 (lv_at hl 2 rfl) ?_
        refine lv_imul hx hb dL_bands_19 ?_
        refine lv_bipush (v := 10) hx hb dL_bands_20 (by decide) ?_
        refine lv_iload hx hb dL_bands_22 (lv_at hl 2 rfl) ?_
        refine lv_imul hx hb dL_bands_24 ?_
        refine lv_bipush (v := 10) hx hb dL_bands_25 (by decide) ?_
        refine lv_iadd hx hb dL_bands_27 ?_
        refine lv_sipush (v := 360) hx hb dL_bands_28 (by decide) ?_
        refine va_calll (va_runS (As := [.ref qT, .int (10 * (nI k)), .int ((10 * (nI k)) + 10), .int 360]) (rest := []) ⟨hx, hb, hml, hown, hts⟩ (c_L_area l D cI cZ cJ cD qT gt fw fh (10 * (nI k)) ((10 * (nI k)) + 10) 360 hT hWB (bd_1 (bd_k (bd_lt hkk c36))) (bd_2 (bd_k (bd_lt hkk c36))) (bd_3 (bd_k (bd_lt hkk c36)))) (va_cwS 4 hts gL_bands_L_area rfl rfl rfl (by decide +kernel) ⟨Nat.le_of_ble_eq_true rfl, Nat.le_of_ble_eq_true rfl⟩) ⟨zblind, (fun U hU hW => ⟨rfl, by rw [hU]; exact hP.sub (ws' := [(qT, .inl (cI, 33, .inl gt))]) [6] rfl, va_K.moved hW.alike hK⟩)⟩ rfl rfl hl.1 rfl (lv_room (Nat.le_of_ble_eq_true rfl)) dL_bands_31 ⟨(show _ ≤ 20 from by omega), (show _ ≤ 120 from by omega)⟩) hS (fun q _ h => h.elim) (fun q h => h.elim) (fun r37 u t H locs ht hvm hw hB hz1 hk1 hS => ?_)
        rw [hw]
        have hP := zk hP hk1
        refine lv_lstore (lv' := [(5, .long (s_L_area fw fh (10 * (nI k)) ((10 * (nI k)) + 10) 360)), (0, .ref qo), (1, .ref qT), (4, .int (nI k)), (2, .int ((lp_L_bands_7 ft fw fh k).1)), (3, .int ((lp_L_bands_7 ft fw fh k).2))]) hx hb dL_bands_34 hl (by decide) rfl (fun ls hl => ?_)
        have hl : lv_has ls 9 [(5, .long (v_L_bands_34 fw fh k)), (0, .ref qo), (1, .ref qT), (4, .int (nI k)), (2, .int ((lp_L_bands_7 ft fw fh k).1)), (3, .int ((lp_L_bands_7 ft fw fh k).2))] := hl
        refine lv_aload_n hx hb dL_bands_36 rfl (lv_at hl 2 rfl) ?_
        refine lv_iconst (v := 0) hx hb dL_bands_37 (by decide) ?_
        refine lv_bipush (v := 10) hx hb dL_bands_38 (by decide) ?_
        refine lv_sipush (v := 360) hx hb dL_bands_40 (by decide) ?_
        refine va_calll (va_runS (As := [.ref qT, .int 0, .int 10, .int 360]) (rest := []) ⟨hx, hb, hml, hown, hts⟩ (c_L_area l D cI cZ cJ cD qT gt fw fh 0 10 360 hT hWB (by decide) (by decide) (by decide)) (va_cwS 4 hts gL_bands_L_area rfl rfl rfl (by decide +kernel) ⟨Nat.le_of_ble_eq_true rfl, Nat.le_of_ble_eq_true rfl⟩) ⟨zblind, (fun U hU hW => ⟨rfl, by rw [hU]; exact hP.sub (ws' := [(qT, .inl (cI, 33, .inl gt))]) [6] rfl, va_K.moved hW.alike hK⟩)⟩ rfl rfl hl.1 rfl (lv_room (Nat.le_of_ble_eq_true rfl)) dL_bands_43 ⟨(show _ ≤ 20 from by omega), (show _ ≤ 120 from by omega)⟩) hS (fun q _ h => h.elim) (fun q h => h.elim) (fun r38 u t H locs ht hvm hw hB hz1 hk1 hS => ?_)
        rw [hw]
        have hP := zk hP hk1
        refine lv_lstore (lv' := [(7, .long (s_L_area fw fh 0 10 360)), (5, .long (v_L_bands_34 fw fh k)), (0, .ref qo), (1, .ref qT), (4, .int (nI k)), (2, .int ((lp_L_bands_7 ft fw fh k).1)), (3, .int ((lp_L_bands_7 ft fw fh k).2))]) hx hb dL_bands_46 hl (by decide) rfl (fun ls hl => ?_)
        refine lv_iload_n hx hb dL_bands_48 rfl (lv_at hl 5 rfl) ?_
        have K40 : ∀ v40_0 : Int32, v40_0 = (if ((lp_L_bands_7 ft fw fh k).1) = 0 then 0 else (if (lg_cmp ((v_L_bands_34 fw fh k) * ((ft 0).toInt64)) ((s_L_area fw fh 0 10 360) * ((ft (nI k).toNatClampNeg).toInt64))) = 0 then 1 else 0)) → ∀ (H : Heap) (locs : List Loc), va_P D vwCl [(qo, .inr (4, [.ref qm, .ref qb, .ref qr, .ref qf])), (qb, .inr (0, [.ref qt])), (qt, .inl (cI, 9, .inl ft)), (qm, .inr (2, [.ref qw, .ref qh])), (qw, .inl (cI, 10, .inl fw)), (qh, .inl (cI, 10, .inl fh)), (qT, .inl (cI, 33, .inl gt))] H → va_D A [(qo, .inr (4, [.ref qm, .ref qb, .ref qr, .ref qf])), (qb, .inr (0, [.ref qt])), (qt, .inl (cI, 9, .inl ft)), (qm, .inr (2, [.ref qw, .ref qh])), (qw, .inl (cI, 10, .inl fw)), (qh, .inl (cI, 10, .inl fh)), (qT, .inl (cI, 33, .inl gt))] → va_S A s.heap H locs → ∀ (ls : Array Slot), lv_has ls 9 [(7, .long (s_L_area fw fh 0 10 360)), (5, .long (v_L_bands_34 fw fh k)), (0, .ref qo), (1, .ref qT), (4, .int (nI k)), (2, .int ((lp_L_bands_7 ft fw fh k).1)), (3, .int ((lp_L_bands_7 ft fw fh k).2))] → W p l e (headSpec wsL_bands rm_L_bands).room s m ([.ref qo, .ref qT]).toArray below meth c H locs nc ns (MQ below (Qc_L_bands D cI cZ cJ cD qo qm qb qr qf qt ft qw qh fw fh qT gt A) ([.ref qo, .ref qT]).toArray s 20 120 A) (F0 m 80 ls [.int v40_0]) := by
          intro v40_0 hv40_0 H locs hP hD hS ls hl
          subst hv40_0
          refine lv_istore_n (lv' := [(2, .int (if ((lp_L_bands_7 ft fw fh k).1) = 0 then 0 else (if (lg_cmp ((v_L_bands_34 fw fh k) * ((ft 0).toInt64)) ((s_L_area fw fh 0 10 360) * ((ft (nI k).toNatClampNeg).toInt64))) = 0 then 1 else 0))), (7, .long (s_L_area fw fh 0 10 360)), (5, .long (v_L_bands_34 fw fh k)), (0, .ref qo), (1, .ref qT), (4, .int (nI k)), (3, .int ((lp_L_bands_7 ft fw fh k).2))]) hx hb dL_bands_80 rfl hl (by decide) rfl (fun ls hl => ?_)
          have hl : lv_has ls 9 [(2, .int (v_L_bands_80 ft fw fh ((lp_L_bands_7 ft fw fh k).1) k)), (7, .long (s_L_area fw fh 0 10 360)), (5, .long (v_L_bands_34 fw fh k)), (0, .ref qo), (1, .ref qT), (4, .int (nI k)), (3, .int ((lp_L_bands_7 ft fw fh k).2))] := hl
          refine lv_lload hx hb dL_bands_81 (lv_at hl 2 rfl) ?_
          refine lv_aload_n hx hb dL_bands_83 rfl (lv_at hl 4 rfl) ?_
          refine lv_bipush (v := 20) hx hb dL_bands_84 (by decide) ?_
          refine lv_iload_n hx hb dL_bands_86 rfl (lv_at hl 6 rfl) ?_
          refine lv_iadd hx hb dL_bands_87 ?_
          refine va_iald hx hb hK hP 6 0 rfl rfl (bd_i (bd_best ft fw fh k (bd_lt hkk c36))) dL_bands_88 ?_
          rw [show gt (20 + ((lp_L_bands_7 ft fw fh k).2)).toNatClampNeg = ft ((lp_L_bands_7 ft fw fh k).2).toNatClampNeg from (bd_g hG (bd_best ft fw fh k (bd_lt hkk c36)))]
          refine lv_i2l hx hb dL_bands_89 rfl ?_
          refine lv_lmul hx hb dL_bands_90 ?_
          refine lv_aload_n hx hb dL_bands_91 rfl (lv_at hl 4 rfl) ?_
          refine lv_bipush (v := 10) hx hb dL_bands_92 (by decide) ?_
          refine lv_iload_n hx hb dL_bands_94 rfl (lv_at hl 6 rfl) ?_
          refine lv_imul hx hb dL_bands_95 ?_
          refine lv_bipush (v := 10) hx hb dL_bands_96 (by decide) ?_
          refine lv_iload_n hx hb dL_bands_98 rfl (lv_at hl 6 rfl) ?_
          refine lv_imul hx hb dL_bands_99 ?_
          refine lv_bipush (v := 10) hx hb dL_bands_100 (by decide) ?_
          refine lv_iadd hx hb dL_bands_102 ?_
          refine lv_sipush (v := 360) hx hb dL_bands_103 (by decide) ?_
          refine va_calll (va_runS (As := [.ref qT, .int (10 * ((lp_L_bands_7 ft fw fh k).2)), .int ((10 * ((lp_L_bands_7 ft fw fh k).2)) + 10), .int 360]) (rest := [.long ((v_L_bands_34 fw fh k) * ((ft ((lp_L_bands_7 ft fw fh k).2).toNatClampNeg).toInt64))]) ⟨hx, hb, hml, hown, hts⟩ (c_L_area l D cI cZ cJ cD qT gt fw fh (10 * ((lp_L_bands_7 ft fw fh k).2)) ((10 * ((lp_L_bands_7 ft fw fh k).2)) + 10) 360 hT hWB (bd_1 (bd_best ft fw fh k (bd_lt hkk c36))) (bd_2 (bd_best ft fw fh k (bd_lt hkk c36))) (bd_3 (bd_best ft fw fh k (bd_lt hkk c36)))) (va_cwS 4 hts gL_bands_L_area rfl rfl rfl (by decide +kernel) ⟨Nat.le_of_ble_eq_true rfl, Nat.le_of_ble_eq_true rfl⟩) ⟨zblind, (fun U hU hW => ⟨rfl, by rw [hU]; exact hP.sub (ws' := [(qT, .inl (cI, 33, .inl gt))]) [6] rfl, va_K.moved hW.alike hK⟩)⟩ rfl rfl hl.1 rfl (lv_room (Nat.le_of_ble_eq_true rfl)) dL_bands_106 ⟨(show _ ≤ 20 from by omega), (show _ ≤ 120 from by omega)⟩) hS (fun q _ h => h.elim) (fun q h => h.elim) (fun r41 u t H locs ht hvm hw hB hz1 hk1 hS => ?_)
          rw [hw]
          have hP := zk hP hk1
          refine lv_aload_n hx hb dL_bands_109 rfl (lv_at hl 4 rfl) ?_
          refine lv_bipush (v := 20) hx hb dL_bands_110 (by decide) ?_
          refine lv_iload hx hb dL_bands_112 (lv_at hl 5 rfl) ?_
          refine lv_iadd hx hb dL_bands_114 ?_
          refine va_iald hx hb hK hP 6 0 rfl rfl (bd_i (bd_k (bd_lt hkk c36))) dL_bands_115 ?_
          rw [show gt (20 + (nI k)).toNatClampNeg = ft (nI k).toNatClampNeg from (bd_g hG (bd_k (bd_lt hkk c36)))]
          refine lv_i2l hx hb dL_bands_116 rfl ?_
          refine lv_lmul hx hb dL_bands_117 ?_
          refine W.lcmp hx hb dL_bands_118 ?_
          have K43 : ∀ v43_0 : Int32, v43_0 = (if (lg_cmp ((v_L_bands_34 fw fh k) * ((ft ((lp_L_bands_7 ft fw fh k).2).toNatClampNeg).toInt64)) ((s_L_area fw fh (10 * ((lp_L_bands_7 ft fw fh k).2)) ((10 * ((lp_L_bands_7 ft fw fh k).2)) + 10) 360) * ((ft (nI k).toNatClampNeg).toInt64))) ≤ 0 then (lp_L_bands_7 ft fw fh k).2 else nI k) → ∀ (H : Heap) (locs : List Loc), va_P D vwCl [(qo, .inr (4, [.ref qm, .ref qb, .ref qr, .ref qf])), (qb, .inr (0, [.ref qt])), (qt, .inl (cI, 9, .inl ft)), (qm, .inr (2, [.ref qw, .ref qh])), (qw, .inl (cI, 10, .inl fw)), (qh, .inl (cI, 10, .inl fh)), (qT, .inl (cI, 33, .inl gt))] H → va_D A [(qo, .inr (4, [.ref qm, .ref qb, .ref qr, .ref qf])), (qb, .inr (0, [.ref qt])), (qt, .inl (cI, 9, .inl ft)), (qm, .inr (2, [.ref qw, .ref qh])), (qw, .inl (cI, 10, .inl fw)), (qh, .inl (cI, 10, .inl fh)), (qT, .inl (cI, 33, .inl gt))] → va_S A s.heap H locs → ∀ (ls : Array Slot), lv_has ls 9 [(2, .int (v_L_bands_80 ft fw fh ((lp_L_bands_7 ft fw fh k).1) k)), (7, .long (s_L_area fw fh 0 10 360)), (5, .long (v_L_bands_34 fw fh k)), (0, .ref qo), (1, .ref qT), (4, .int (nI k)), (3, .int ((lp_L_bands_7 ft fw fh k).2))] → W p l e (headSpec wsL_bands rm_L_bands).room s m ([.ref qo, .ref qT]).toArray below meth c H locs nc ns (MQ below (Qc_L_bands D cI cZ cJ cD qo qm qb qr qf qt ft qw qh fw fh qT gt A) ([.ref qo, .ref qT]).toArray s 20 120 A) (F0 m 128 ls [.int v43_0]) := by
            intro v43_0 hv43_0 H locs hP hD hS ls hl
            subst hv43_0
            refine lv_istore_n (lv' := [(3, .int (if (lg_cmp ((v_L_bands_34 fw fh k) * ((ft ((lp_L_bands_7 ft fw fh k).2).toNatClampNeg).toInt64)) ((s_L_area fw fh (10 * ((lp_L_bands_7 ft fw fh k).2)) ((10 * ((lp_L_bands_7 ft fw fh k).2)) + 10) 360) * ((ft (nI k).toNatClampNeg).toInt64))) ≤ 0 then (lp_L_bands_7 ft fw fh k).2 else nI k)), (2, .int (v_L_bands_80 ft fw fh ((lp_L_bands_7 ft fw fh k).1) k)), (7, .long (s_L_area fw fh 0 10 360)), (5, .long (v_L_bands_34 fw fh k)), (0, .ref qo), (1, .ref qT), (4, .int (nI k))]) hx hb dL_bands_128 rfl hl (by decide) rfl (fun ls hl => ?_)
            have hl : lv_has ls 9 [(3, .int (v_L_bands_128 ft fw fh ((lp_L_bands_7 ft fw fh k).2) k)), (2, .int (v_L_bands_80 ft fw fh ((lp_L_bands_7 ft fw fh k).1) k)), (7, .long (s_L_area fw fh 0 10 360)), (5, .long (v_L_bands_34 fw fh k)), (0, .ref qo), (1, .ref qT), (4, .int (nI k))] := hl
            refine lv_aload_n hx hb dL_bands_129 rfl (lv_at hl 4 rfl) ?_
            refine lv_iload hx hb dL_bands_130 (lv_at hl 6 rfl) ?_
            have hPc := hP.sub (ws' := [(qo, .inr (4, [.ref qm, .ref qb, .ref qr, .ref qf])), (qb, .inr (0, [.ref qt])), (qt, .inl (cI, 9, .inl ft)), (qm, .inr (2, [.ref qw, .ref qh])), (qw, .inl (cI, 10, .inl fw)), (qh, .inl (cI, 10, .inl fh))]) [0, 1, 2, 3, 4, 5] rfl
            have hDc := hD.sub (ws' := [(qo, .inr (4, [.ref qm, .ref qb, .ref qr, .ref qf])), (qb, .inr (0, [.ref qt])), (qt, .inl (cI, 9, .inl ft)), (qm, .inr (2, [.ref qw, .ref qh])), (qw, .inl (cI, 10, .inl fw)), (qh, .inl (cI, 10, .inl fh))]) [0, 1, 2, 3, 4, 5] (by decide) rfl
            have hFc := va_free (wc := [(qo, .inr (4, [.ref qm, .ref qb, .ref qr, .ref qf])), (qb, .inr (0, [.ref qt])), (qt, .inl (cI, 9, .inl ft)), (qm, .inr (2, [.ref qw, .ref qh])), (qw, .inl (cI, 10, .inl fw)), (qh, .inl (cI, 10, .inl fh))]) hD hS hA [0, 1, 2, 3, 4, 5] rfl
            refine vx_callf (vx_runSX (As := [.ref qo, .int (nI k)]) (rest := []) ⟨hx, hb, hml, hown, hts⟩ (c_L_stretch l hnt D cI cZ cJ cD qo qm qb qr qf qt ft qw qh fw fh (nI k) H.size htr) (vx_cwSW 2 hts gL_bands_L_stretch rfl rfl rfl (by decide +kernel) ⟨Nat.le_of_ble_eq_true rfl, Nat.le_of_ble_eq_true rfl⟩) ⟨zblindWE, (fun U hU hW => ⟨rfl, by rw [hU], by rw [hU]; exact hPc, va_K.moved hW.alike hK, hDc.weaken (fun _ _ _ _ => trivial), zEnv.go hE hS hFc hU hW⟩)⟩ rfl rfl hl.1 rfl (lv_room (Nat.le_of_ble_eq_true rfl)) dL_bands_132 ⟨(show _ ≤ 20 from by omega), (show _ ≤ 120 from by omega)⟩) hS (fun q _ h => hFc q h) hFc (fun q _ h => hFc q h) (fun E ce q9 u t H locs ht hvm hpx hB hz1 hk1 hS hq9 hce hcl => ?_) (fun r44 u t H locs ht hvm hw hB hz1 hk1 hS => ?_)
            · exact hB.elim
            rw [hw]
            obtain ⟨hP1, hK1, hD1⟩ := hB
            rw [ht] at hP1
            obtain ⟨hP, hD⟩ := va_join (wr := [(qT, .inl (cI, 33, .inl gt))]) (w1 := [(qo, .inr (4, [.ref qm, .ref qb, .ref qr, .ref qf])), (qb, .inr (0, [.ref qt])), (qt, .inl (cI, 9, .inl ft)), (qm, .inr (2, [.ref qw, .ref qh])), (qw, .inl (cI, 10, .inl fw)), (qh, .inl (cI, 10, .inl fh))]) hP hD [0, 1, 2, 3, 4, 5] [6] rfl rfl (by decide) (by decide) hk1 hFc hP1 hD1
            have hP := hP.sub (ws' := [(qo, .inr (4, [.ref qm, .ref qb, .ref qr, .ref qf])), (qb, .inr (0, [.ref qt])), (qt, .inl (cI, 9, .inl ft)), (qm, .inr (2, [.ref qw, .ref qh])), (qw, .inl (cI, 10, .inl fw)), (qh, .inl (cI, 10, .inl fh)), (qT, .inl (cI, 33, .inl gt))]) [1, 2, 3, 4, 5, 6, 0] rfl
            have hD := hD.sub (ws' := [(qo, .inr (4, [.ref qm, .ref qb, .ref qr, .ref qf])), (qb, .inr (0, [.ref qt])), (qt, .inl (cI, 9, .inl ft)), (qm, .inr (2, [.ref qw, .ref qh])), (qw, .inl (cI, 10, .inl fw)), (qh, .inl (cI, 10, .inl fh)), (qT, .inl (cI, 33, .inl gt))]) [1, 2, 3, 4, 5, 6, 0] (by decide) rfl
            refine W.widen (k := (nc + 1)) (n := (ns + 6)) (by omega) (by omega) ?_
            refine lv_lload hx hb dL_bands_135 (lv_at hl 3 rfl) ?_
            refine lv_l2f hx hb dL_bands_137 ?_
            refine lv_aload_n hx hb dL_bands_138 rfl (lv_at hl 5 rfl) ?_
            refine lv_bipush (v := 20) hx hb dL_bands_139 (by decide) ?_
            refine lv_iload hx hb dL_bands_141 (lv_at hl 6 rfl) ?_
            refine lv_iadd hx hb dL_bands_143 ?_
            refine va_iald hx hb hK hP 6 0 rfl rfl (bd_i (bd_k (bd_lt hkk c36))) dL_bands_144 ?_
            rw [show gt (20 + (nI k)).toNatClampNeg = ft (nI k).toNatClampNeg from (bd_g hG (bd_k (bd_lt hkk c36)))]
            refine lv_i2f hx hb dL_bands_145 ?_
            refine lv_fdiv hx hb dL_bands_146 (z_fdiv _ _ (bd_nz htr (bd_lt hkk c36))) ?_
            refine lv_fcmp hx hb dL_bands_147 ?_
            refine lv_if_eq (tgt := 153) hx hb dL_bands_148 (by decide) (fun c45 => ?_) (fun c45 => ?_)
            · refine lv_iinc (v := nI (k + 1)) (lv' := [(4, .int (nI (k + 1))), (3, .int (v_L_bands_128 ft fw fh ((lp_L_bands_7 ft fw fh k).2) k)), (2, .int (v_L_bands_80 ft fw fh ((lp_L_bands_7 ft fw fh k).1) k)), (7, .long (s_L_area fw fh 0 10 360)), (5, .long (v_L_bands_34 fw fh k)), (0, .ref qo), (1, .ref qT)]) hx hb dL_bands_153 hl (k := 6) rfl (nI_succ k).symm (by decide) rfl (fun ls hl => ?_)
              refine lv_goto (tgt := 7) hx hb dL_bands_156 (by decide) ?_
              have hltk : k < 9 := bd_lt hkk c36
              exact ih11 (k + 1) _ _ (by omega) (by omega) rfl rfl _ _ (by omega) (by omega) _ _ hP hD hS _ (lv_sub hl [5, 6, 0, 2, 1] rfl)
            · exact absurd (bd_dead hTb htr (bd_lt hkk c36)) c45
          refine lv_if_le (tgt := 127) hx hb dL_bands_119 (by decide) (fun c46 => ?_) (fun c46 => ?_)
          · refine lv_iload_n hx hb dL_bands_127 rfl (lv_at hl 6 rfl) ?_
            exact K43 _ (if_pos c46).symm _ _ hP hD hS _ (lv_sub hl [0, 1, 2, 3, 4, 5, 6] rfl)
          · refine lv_iload hx hb dL_bands_122 (lv_at hl 5 rfl) ?_
            refine lv_goto (tgt := 128) hx hb dL_bands_124 (by decide) ?_
            exact K43 _ (if_neg c46).symm _ _ hP hD hS _ (lv_sub hl [0, 1, 2, 3, 4, 5, 6] rfl)
        refine lv_if_eq (tgt := 79) hx hb dL_bands_49 (by decide) (fun c47 => ?_) (fun c47 => ?_)
        · refine lv_iconst (v := 0) hx hb dL_bands_79 (by decide) ?_
          exact K40 _ (if_pos c47).symm _ _ hP hD hS _ (lv_sub hl [0, 1, 2, 3, 4, 5, 6] rfl)
        · refine lv_lload hx hb dL_bands_52 (lv_at hl 1 rfl) ?_
          refine lv_aload_n hx hb dL_bands_54 rfl (lv_at hl 3 rfl) ?_
          refine lv_bipush (v := 20) hx hb dL_bands_55 (by decide) ?_
          refine va_iald hx hb hK hP 6 0 rfl rfl (z_inc (k := 20) rfl (by decide)) dL_bands_57 ?_
          rw [show gt (20 : Int32).toNatClampNeg = ft 0 from (bd_g0 hG)]
          refine lv_i2l hx hb dL_bands_58 rfl ?_
          refine lv_lmul hx hb dL_bands_59 ?_
          refine lv_lload hx hb dL_bands_60 (lv_at hl 0 rfl) ?_
          refine lv_aload_n hx hb dL_bands_62 rfl (lv_at hl 3 rfl) ?_
          refine lv_bipush (v := 20) hx hb dL_bands_63 (by decide) ?_
          refine lv_iload hx hb dL_bands_65 (lv_at hl 4 rfl) ?_
          refine lv_iadd hx hb dL_bands_67 ?_
          refine va_iald hx hb hK hP 6 0 rfl rfl (bd_i (bd_k (bd_lt hkk c36))) dL_bands_68 ?_
          rw [show gt (20 + (nI k)).toNatClampNeg = ft (nI k).toNatClampNeg from (bd_g hG (bd_k (bd_lt hkk c36)))]
          refine lv_i2l hx hb dL_bands_69 rfl ?_
          refine lv_lmul hx hb dL_bands_70 ?_
          refine W.lcmp hx hb dL_bands_71 ?_
          refine lv_if_ne (tgt := 79) hx hb dL_bands_72 (by decide) (fun c48 => ?_) (fun c48 => ?_)
          · refine lv_iconst (v := 0) hx hb dL_bands_79 (by decide) ?_
            exact K40 _ ((if_neg c47).trans (if_neg c48)).symm _ _ hP hD hS _ (lv_sub hl [0, 1, 2, 3, 4, 5, 6] rfl)
          · refine lv_iconst (v := 1) hx hb dL_bands_75 (by decide) ?_
            refine lv_goto (tgt := 80) hx hb dL_bands_76 (by decide) ?_
            exact K40 _ ((if_neg c47).trans (if_pos c48)).symm _ _ hP hD hS _ (lv_sub hl [0, 1, 2, 3, 4, 5, 6] rfl)
  exact L11 (9 + 1) 0 _ _ (Nat.zero_le _) (by omega) rfl rfl _ _ (by omega) (by omega) _ _ hP hD hS _ (zlv (lv_sub (l' := [(0, .ref qo), (1, .ref qT), (4, .int 0), (2, .int 1), (3, .int 0)]) hl [3, 4, 0, 2, 1] rfl) (by rfl))
