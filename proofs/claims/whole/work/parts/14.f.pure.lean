theorem p_bd5 {fw fh gw gh ft gt : Nat → Int32} (hT : zTabI fw fh gw gh) (hU : zTruI ft gt) (a1 : Int32) : (k_X4_stretch ft fw fh a1 ≠ 0 ∧ s_X5_stretch gw gh gt a1 = FP.fconst0) ∨ (k_X4_stretch ft fw fh a1 = 0 ∧ ∃ (a : Int64) (b : Int32), ¬ b = 0 ∧ s_X4_stretch ft fw fh a1 = FP.fdiv (FP.l2f a) (FP.i2f b) ∧ s_X5_stretch gw gh gt a1 = FP.fdiv (FP.l2f a) (FP.i2f b)) := by
  unfold k_X4_stretch s_X4_stretch s_X5_stretch s_X5_may s_X0_areaByTruth
  rcases p_band a1 with ⟨h1, h2, j, hj, rfl⟩ | ⟨h1, h2⟩
  · right
    have t := hU j hj
    rw [t.1] at t
    rw [p_band2 hT hj, p_band5 hT hj, p_tro hU hj, nI_clamp (by omega), h1, h2]
    refine ⟨rfl, _, gt j, z_tr0 t.2.1, rfl, ?_⟩
    rw [if_neg (by decide)]
  · left
    simp [h1, h2]
theorem zx_stretch_2 {fw fh gw gh ft gt : Nat → Int32} (hT : zTabI fw fh gw gh) (hU : zTruI ft gt) (a1 : Int32) : vf_n64 (FP.f2d (s_X5_stretch gw gh gt a1)) := by
  rcases p_bd5 hT hU a1 with ⟨-, h⟩ | ⟨-, a, b, hb, -, h⟩
  · rw [h]
    refine z_n64 ((FP.f2d_nan _).trans (by decide +kernel))
  · rw [h]
    exact z_f2d a b hb
theorem zx_stretch_3 {fw fh gw gh ft gt : Nat → Int32} (hT : zTabI fw fh gw gh) (hU : zTruI ft gt) (a1 : Int32) (fd : Nat → UInt64) (c5 : s_L_stretch ft fw fh a1 fd = 0) : (Op.cmpValue (FP.dcmp ((n_L_stretch_qout ft fw fh a1 fd) (0 : Int32).toNatClampNeg) (FP.f2d (s_X5_stretch gw gh gt a1))) CmpOp.l) = 0 := by
  have h0 := p_k0 c5
  unfold n_L_stretch_qout
  rw [if_pos h0]
  rcases p_bd5 hT hU a1 with ⟨h, -⟩ | ⟨-, a, b, hb, h1, h2⟩
  · exact absurd h0 h
  · rw [h1, h2]
    have e : vf_upd fd (0 : Int32).toNatClampNeg (FP.f2d (FP.fdiv (FP.l2f a) (FP.i2f b))) (0 : Int32).toNatClampNeg = FP.f2d (FP.fdiv (FP.l2f a) (FP.i2f b)) := by
      simp [vf_upd]
    rw [e]
    have q : FP.dcmp (FP.f2d (FP.fdiv (FP.l2f a) (FP.i2f b))) (FP.f2d (FP.fdiv (FP.l2f a) (FP.i2f b))) = some .eq := FP.Core.dcmp_eq.mpr ⟨z_dcmp a b hb, z_dcmp a b hb, rfl⟩
    rw [q]
    rfl
/-! seams and the date line -/
theorem p_q1 {d q n : Nat} (hd : 1 ≤ d) (h : 360 = d * q) : (360 + n) / d = q + n / d := by
  rw [h, Nat.mul_add_div (by omega)]
theorem p_q2 {d q : Nat} (hd : 1 ≤ d) (h : 360 = d * q) : 359 / d + 1 = q := by
  have h1 : 359 / d < q := (Nat.div_lt_iff_lt_mul (by omega)).mpr (by rw [Nat.mul_comm]; omega)
  obtain ⟨r, rfl⟩ : ∃ r, q = r + 1 := ⟨q - 1, by generalize 359 / d = w at h1; omega⟩
  have h2 : r ≤ 359 / d := (Nat.le_div_iff_mul_le (by omega)).mpr (by rw [Nat.mul_comm]; rw [Nat.mul_add] at h; omega)
  generalize 359 / d = w at h1 h2 ⊢
  omega
theorem p_q3 {d u : Nat} (hd : 1 ≤ d) : (u + 1) / d = u / d ∨ (u + 1) / d = u / d + 1 := by
  have h1 : u / d ≤ (u + 1) / d := Nat.div_le_div_right (by omega)
  have h2 : (u + 1) / d ≤ (u + d) / d := Nat.div_le_div_right (by omega)
  rw [Nat.add_div_right u (by omega)] at h2
  omega
theorem p_zo {br he : Int32} {d u : Nat} (hb : br = nI d) (hd : 1 ≤ d) (hd2 : d ≤ 360) (h : he.toInt = (u : Int) - 180) (hu : u < 1000) : s_X5_zoneOf br he = nI (u / d) := by
  have e : he + 180 = nI u := by
    apply Int32.toInt_inj.mp
    rw [z_addI (by rw [show (180 : Int32).toInt = 180 from rfl]; omega) (by rw [show (180 : Int32).toInt = 180 from rfl]; omega), nI_toInt (by omega), show (180 : Int32).toInt = 180 from rfl]
    omega
  unfold s_X5_zoneOf
  rw [e, hb, pk_div (by omega) (by omega) (by omega)]
theorem p_crE {br : Int32} {d q : Nat} (hb : br = nI d) (hd : 1 ≤ d) (hd2 : d ≤ 360) (hq : 360 = d * q) : ∀ (n u : Nat) (he se da : Int32), he.toInt = (u : Int) - 180 → u < 360 → n < 360 → lp_cr br 1 n he se da = (se + nI ((u + n) / d - u / d), da + (if 360 ≤ u + n then 1 else 0))
  | 0, u, he, se, da, h, hu, hn => by
    rw [lp_cr, if_neg (by omega), Nat.add_zero, Nat.sub_self, z_add0, Int32.add_zero]
  | n + 1, u, he, se, da, h, hu, hn => by
    have e1 : (he + 1).toInt = (u : Int) - 180 + 1 := by
      rw [z_addI (by rw [show (1 : Int32).toInt = 1 from rfl]; omega) (by rw [show (1 : Int32).toInt = 1 from rfl]; omega), h]
      rfl
    rw [lp_cr]
    by_cases c : u = 359
    · subst c
      have en : cr_nx 1 he = -180 := by
        unfold cr_nx
        rw [if_neg (by rw [Int32.le_iff_toInt_le, e1, cr_c179]; omega)]
      have er : cr_rd 1 he = 1 := by
        unfold cr_rd
        rw [if_pos (by rw [Int32.lt_iff_toInt_lt, e1, cr_c179]; omega)]
      rw [en, er, if_neg (by decide), if_neg (by decide), p_crE hb hd hd2 hq n 0 (-180) _ _ (by decide) (by omega) (by omega), if_neg (by omega), if_pos (by omega), Int32.add_zero]
      have q2 := p_q2 hd hq
      have q1 := p_q1 (n := n) hd hq
      rw [show 359 + (n + 1) = 360 + n by omega, q1, Nat.zero_add, Nat.zero_div, Nat.sub_zero, show q + n / d - 359 / d = 1 + n / d by (generalize n / d = w; generalize 359 / d = w2 at q2 ⊢; omega), ← nI_add, Int32.add_assoc]
      rfl
    · have en : cr_nx 1 he = he + 1 := by
        unfold cr_nx
        rw [if_pos (by rw [Int32.le_iff_toInt_le, e1, cr_c179]; omega), if_pos (by rw [Int32.le_iff_toInt_le, e1, cr_c180]; omega)]
      have er : cr_rd 1 he = 0 := by
        unfold cr_rd
        rw [if_neg (by rw [Int32.lt_iff_toInt_lt, e1, cr_c179]; omega), if_pos (by rw [Int32.le_iff_toInt_le, e1, cr_c180]; omega)]
      have ez : s_X5_zoneOf br he = nI (u / d) := p_zo hb hd hd2 h (by omega)
      have ez1 : s_X5_zoneOf br (he + 1) = nI ((u + 1) / d) := p_zo hb hd hd2 (by rw [e1]; omega) (by omega)
      have k1 : u / d ≤ 360 := Nat.le_trans (Nat.div_le_self _ _) (by omega)
      have k2 : (u + 1) / d ≤ 360 := Nat.le_trans (Nat.div_le_self _ _) (by omega)
      have k3 : (u + 1) / d ≤ (u + 1 + n) / d := Nat.div_le_div_right (by omega)
      rw [en, er, if_pos rfl, if_pos rfl, Int32.add_zero, ez, ez1, p_crE hb hd hd2 hq n (u + 1) (he + 1) _ _ (by rw [e1]; omega) (by omega) (by omega), show u + (n + 1) = u + 1 + n by omega]
      congr 1
      rcases p_q3 (u := u) hd with e | e
      · rw [if_pos (by rw [e]), Int32.add_zero, e]
      · rw [if_neg (fun hh => by rw [nI_eq (by omega) (by omega)] at hh; omega), show (u + 1 + n) / d - u / d = 1 + ((u + 1 + n) / d - (u + 1) / d) by omega, ← nI_add, Int32.add_assoc]
        rfl
theorem p_crW {br : Int32} {d q : Nat} (hb : br = nI d) (hd : 1 ≤ d) (hd2 : d ≤ 360) (hq : 360 = d * q) : ∀ (n u : Nat) (he se da : Int32), he.toInt = (u : Int) - 180 → u < 360 → n < 360 → lp_cr br (-1) n he se da = (se + nI ((360 + u) / d - (360 + u - n) / d), da + (if u < n then -1 else 0))
  | 0, u, he, se, da, h, hu, hn => by
    rw [lp_cr, if_neg (by omega), Nat.sub_zero, Nat.sub_self, z_add0, Int32.add_zero]
  | n + 1, u, he, se, da, h, hu, hn => by
    have e1 : (he + -1).toInt = (u : Int) - 180 - 1 := by
      rw [z_addI (by rw [show (-1 : Int32).toInt = -1 from rfl]; omega) (by rw [show (-1 : Int32).toInt = -1 from rfl]; omega), h]
      rfl
    rw [lp_cr]
    by_cases c : u = 0
    · subst c
      have en : cr_nx (-1) he = 179 := by
        unfold cr_nx
        rw [if_pos (by rw [Int32.le_iff_toInt_le, e1, cr_c179]; omega), if_neg (by rw [Int32.le_iff_toInt_le, e1, cr_c180]; omega)]
      have er : cr_rd (-1) he = 1 := by
        unfold cr_rd
        rw [if_neg (by rw [Int32.lt_iff_toInt_lt, e1, cr_c179]; omega), if_neg (by rw [Int32.le_iff_toInt_le, e1, cr_c180]; omega)]
      rw [en, er, if_neg (by decide), if_neg (by decide), p_crW hb hd hd2 hq n 359 179 _ _ (by decide) (by omega) (by omega), if_neg (by omega), if_pos (by omega), Int32.add_zero]
      have q2 := p_q2 hd hq
      have q1 := p_q1 (n := 359) hd hq
      have q3 := p_q1 (n := 359 - n) hd hq
      have q4 := p_q1 (n := 0) hd hq
      have k : (359 - n) / d ≤ 359 / d := Nat.div_le_div_right (by omega)
      rw [Nat.zero_div] at q4
      rw [show 360 + 359 - n = 360 + (359 - n) by omega, q1, q3, q4, show 360 + 0 - (n + 1) = 359 - n by omega, show q + 0 - (359 - n) / d = 1 + (q + 359 / d - (q + (359 - n) / d)) by (generalize (359 - n) / d = w at k ⊢; generalize 359 / d = w2 at q2 k ⊢; omega), ← nI_add, Int32.add_assoc]
      refine congrArg (fun z => (z, _)) ?_
      rfl
    · obtain ⟨u, rfl⟩ : ∃ w, u = w + 1 := ⟨u - 1, by omega⟩
      have en : cr_nx (-1) he = he + -1 := by
        unfold cr_nx
        rw [if_pos (by rw [Int32.le_iff_toInt_le, e1, cr_c179]; omega), if_pos (by rw [Int32.le_iff_toInt_le, e1, cr_c180]; omega)]
      have er : cr_rd (-1) he = 0 := by
        unfold cr_rd
        rw [if_neg (by rw [Int32.lt_iff_toInt_lt, e1, cr_c179]; omega), if_pos (by rw [Int32.le_iff_toInt_le, e1, cr_c180]; omega)]
      have ez : s_X5_zoneOf br he = nI ((u + 1) / d) := p_zo hb hd hd2 h (by omega)
      have ez1 : s_X5_zoneOf br (he + -1) = nI (u / d) := p_zo hb hd hd2 (by rw [e1]; omega) (by omega)
      have k1 : u / d ≤ 360 := Nat.le_trans (Nat.div_le_self _ _) (by omega)
      have k2 : (u + 1) / d ≤ 360 := Nat.le_trans (Nat.div_le_self _ _) (by omega)
      have k3 : (360 + u - n) / d ≤ (360 + u) / d := Nat.div_le_div_right (by omega)
      have q1 := p_q1 (n := u) hd hq
      have q3 := p_q1 (n := u + 1) hd hq
      rw [en, er, if_pos rfl, if_pos rfl, Int32.add_zero, ez, ez1, p_crW hb hd hd2 hq n u (he + -1) _ _ (by rw [e1]; omega) (by omega) (by omega), show 360 + (u + 1) - (n + 1) = 360 + u - n by omega]
      rw [show (if u < n then (-1 : Int32) else 0) = if u + 1 < n + 1 then -1 else 0 by by_cases cc : u < n <;> simp [cc]]
      refine congrArg (fun z => (z, da + (if u + 1 < n + 1 then -1 else 0))) ?_
      rcases p_q3 (u := u) hd with e | e
      · rw [if_pos (by rw [e]), Int32.add_zero, q3, e, q1]
      · rw [if_neg (fun hh => by rw [nI_eq (by omega) (by omega)] at hh; omega), show (360 + (u + 1)) / d - (360 + u - n) / d = 1 + ((360 + u) / d - (360 + u - n) / d) by omega, ← nI_add, Int32.add_assoc]
        rfl
theorem p_zb {br he : Int32} {d u : Nat} (hb : br = nI d) (hd : 1 ≤ d) (hd2 : d ≤ 360) (h : he.toInt = (u : Int) - 180) (hu : u < 1000) : s_X3_zonesBefore br he = nI (u / d) := by
  have q := p_zo hb hd hd2 h hu
  unfold s_X5_zoneOf at q
  unfold s_X3_zonesBefore
  rw [if_pos (by rw [hb]; exact nI_le (a := 1) hd (by omega)), Int32.sub_neg, q]
theorem p_cross {br bg o1 o2 : Int32} (hZ : zZonI br bg) (h1 : -180 ≤ o1.toInt ∧ o1.toInt ≤ 179) (h2 : -180 ≤ o2.toInt ∧ o2.toInt ≤ 179) : s_X3_seamsEastOf br (if (s_X4_goesEast o1 o2) = 0 then o2 else o1) (s_X4_shorterWay o1 o2) = s_X5_crossed bg o1 o2 0 ∧ (if (s_X4_goesEast o1 o2) = 0 then (if o2 ≤ o1 then 0 else (-1)) else (if o1 ≤ o2 then 0 else 1)) = s_X5_crossed bg o1 o2 1 := by
  obtain ⟨eb, d, hd, hd2, hm, hb⟩ := hZ
  obtain ⟨q, hq⟩ : ∃ q, 360 = d * q := ⟨360 / d, by have := Nat.div_add_mod 360 d; omega⟩
  obtain ⟨e1, e2⟩ := p_short h1 h2
  have es := p_shorter h1 h2
  have e8 : (180 : Int32).toInt = 180 := rfl
  have e3 : (360 : Int32).toInt = 360 := rfl
  obtain ⟨u, hu⟩ : ∃ u : Nat, (u : Int) = o1.toInt + 180 := ⟨(o1.toInt + 180).toNat, by omega⟩
  obtain ⟨v, hv⟩ : ∃ v : Nat, (v : Int) = o2.toInt + 180 := ⟨(o2.toInt + 180).toNat, by omega⟩
  rw [es]
  unfold s_X4_goesEast s_X5_crossed s_X5_shorter s_X3_seamsEastOf
  rw [e1, ← eb]
  simp only [Int32.lt_iff_toInt_lt, e8]
  by_cases c : 180 < (s_X5_east o1 o2).toInt
  · simp only [c, if_true]
    have ed : (360 - s_X5_east o1 o2).toInt = 360 - (s_X5_east o1 o2).toInt := by
      rw [z_subI (by omega) (by omega), e3]
    obtain ⟨n, hn⟩ : ∃ n : Nat, (n : Int) = 360 - (s_X5_east o1 o2).toInt := ⟨(360 - (s_X5_east o1 o2).toInt).toNat, by omega⟩
    have en : cr_rem (-1) o1 o2 = n := by
      unfold cr_rem
      rw [if_neg (by decide)]
      omega
    have ee : (o2 + (360 - s_X5_east o1 o2)).toInt = (v + n : Nat) - 180 := by
      rw [z_addI (by omega) (by omega), ed]
      omega
    rw [en, p_crW hb hd hd2 hq n u o1 0 0 (by omega) (by omega) (by omega), p_zb hb hd hd2 ee (by omega), p_zb hb hd hd2 (u := v) (by omega) (by omega)]
    simp only [show ¬ (1 : Int32) = 0 by decide, if_true, if_false, Int32.zero_add]
    have kk : v / d ≤ (v + n) / d := Nat.div_le_div_right (by omega)
    rw [p_sub kk]
    constructor
    · congr 1
      rcases (show v + n = u ∨ v + n = 360 + u by omega) with k | k
      · rw [show 360 + u - n = 360 + v by omega, p_q1 hd hq, p_q1 hd hq, k]
        omega
      · rw [show 360 + u - n = v by omega, k]
    · simp only [Int32.le_iff_toInt_le]
      by_cases c2 : o2.toInt ≤ o1.toInt
      · rw [if_pos c2, if_neg (by omega)]
      · rw [if_neg c2, if_pos (by omega)]
  · simp only [c, if_false]
    obtain ⟨n, hn⟩ : ∃ n : Nat, (n : Int) = (s_X5_east o1 o2).toInt := ⟨(s_X5_east o1 o2).toInt.toNat, by omega⟩
    have en : cr_rem 1 o1 o2 = n := by
      unfold cr_rem
      rw [if_pos rfl]
      omega
    have ee : (o1 + s_X5_east o1 o2).toInt = (u + n : Nat) - 180 := by
      rw [z_addI (by omega) (by omega)]
      omega
    rw [en, p_crE hb hd hd2 hq n u o1 0 0 (by omega) (by omega) (by omega)]
    simp only [show ¬ (1 : Int32) = 0 by decide, if_true, if_false, Int32.zero_add]
    rw [p_zb hb hd hd2 ee (by omega), p_zb hb hd hd2 (u := u) (by omega) (by omega)]
    have kk : u / d ≤ (u + n) / d := Nat.div_le_div_right (by omega)
    rw [p_sub kk]
    refine ⟨rfl, ?_⟩
    simp only [Int32.le_iff_toInt_le]
    by_cases c2 : o1.toInt ≤ o2.toInt
    · rw [if_pos c2, if_neg (by omega)]
    · rw [if_neg c2, if_pos (by omega)]
theorem zx_seams_2 {br bg : Int32} (hZ : zZonI br bg) (a1 a2 : Int32) (fo : Nat → Int64) (c5 : s_L_seams br a1 a2 fo = 0) : (n_L_seams_qout br a1 a2 fo) (0 : Int32).toNatClampNeg = (s_X5_seams bg a1 a2).toInt64 := by
  have h0 := p_k0 c5
  unfold n_L_seams_qout
  rw [p_v0 fo _ c5]
  unfold k_X4_seams at h0
  unfold s_X4_seams s_X5_seams s_X5_may
  rcases p_lon a1 with ⟨h1, h2, h5, h6⟩ | ⟨h1, h2, -⟩ <;> rcases p_lon a2 with ⟨h3, h4, h7, h8⟩ | ⟨h3, h4, -⟩
  · have q := (p_cross hZ ⟨h5, h6⟩ ⟨h7, h8⟩).1
    rw [if_pos h1, if_pos h3, q, h2, h4]
    rfl
  · simp [h1, h3] at h0
  · simp [h1, h3] at h0
  · simp [h1, h3] at h0
theorem zx_dateLine_2 {br bg : Int32} (hZ : zZonI br bg) (a1 a2 : Int32) (fo : Nat → Int64) (c5 : s_L_dateLine a1 a2 fo = 0) : (n_L_dateLine_qout a1 a2 fo) (0 : Int32).toNatClampNeg = (s_X5_dateLine bg a1 a2).toInt64 := by
  have h0 := p_k0 c5
  unfold n_L_dateLine_qout
  rw [p_v0 fo _ c5]
  unfold k_X4_dateLine at h0
  unfold s_X4_dateLine s_X5_dateLine s_X5_may
  rcases p_lon a1 with ⟨h1, h2, h5, h6⟩ | ⟨h1, h2, -⟩ <;> rcases p_lon a2 with ⟨h3, h4, h7, h8⟩ | ⟨h3, h4, -⟩
  · have q := (p_cross hZ ⟨h5, h6⟩ ⟨h7, h8⟩).2
    rw [if_pos h1, if_pos h3, q, h2, h4]
    rfl
  · simp [h1, h3] at h0
  · simp [h1, h3] at h0
  · simp [h1, h3] at h0
