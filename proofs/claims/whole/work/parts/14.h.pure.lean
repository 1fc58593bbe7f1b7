/-! folding -/
theorem p_foSwap {N : Nat} {fx fy fz : Nat → Int32} (h : zFoI N fx fy fz) : zFoI N fy fx fz := by
  obtain ⟨⟨n, a, k, a2, k2, h1, h2, h3, h4, h5, h6⟩, h7⟩ := h
  refine ⟨⟨n, a2, k2, a, k, by omega, h3, h2, h5, h4, fun q hq => ?_⟩, fun q r hq hr e1 e2 e3 => h7 q r hq hr e2 e1 e3⟩
  obtain ⟨x, y, z, c1, c2, c3, c4, c5, c6, c7, c8⟩ := h6 q hq
  exact ⟨y, x, z, c4, c5, c6, c1, c2, c3, c7, c8⟩
theorem p_pow {n : Nat} (h : n ≤ 10) : 2 ^ n ≤ 1024 := Nat.le_trans (Nat.pow_le_pow_right (by omega) h) (by decide)
theorem p_hl {nC nR : Nat} {nf : Int32} {fz : Nat → Int32} {n : Nat} (hn : n ≤ 10) : ∀ k : Nat, k ≤ 36 → (∀ q : Nat, q < k → ∃ z : Nat, fz q = nI z ∧ z < 2 ^ n) → ∃ t : Nat, lp_X1_highestLayer_4 nC nR nf fz k = nI t ∧ t < 2 ^ n ∧ ∀ q : Nat, q < k → ∀ z : Nat, fz q = nI z → z < 2 ^ n → z ≤ t
  | 0, _, _ => ⟨0, rfl, Nat.two_pow_pos n, fun q hq => absurd hq (Nat.not_lt_zero q)⟩
  | k + 1, hk, h => by
    obtain ⟨t, e, ht, hm⟩ := p_hl (nC := nC) (nR := nR) (nf := nf) hn k (by omega) (fun q hq => h q (by omega))
    obtain ⟨z, ez, hz⟩ := h k (by omega)
    have hp := p_pow hn
    rw [lp_X1_highestLayer_4, e, nI_clamp (by omega), ez]
    by_cases c : t < z
    · rw [if_pos (nI_lt c (by omega))]
      refine ⟨z, rfl, hz, fun q hq w ew hw => ?_⟩
      by_cases cq : q = k
      · rw [cq, ez, nI_eq (by omega) (by omega)] at ew
        omega
      · have := hm q (by omega) w ew hw
        omega
    · rw [if_neg (nI_nlt (by omega) (by omega))]
      refine ⟨t, rfl, ht, fun q hq w ew hw => ?_⟩
      by_cases cq : q = k
      · rw [cq, ez, nI_eq (by omega) (by omega)] at ew
        omega
      · exact hm q (by omega) w ew hw
theorem p_foT {nC nR : Nat} {nf : Int32} {f o fz : Nat → Int32} {b : Int32} (hN : nC * nR ≤ 36) (h : zFoI (nC * nR) f o fz) (hs : ∃ q : Nat, q < nC * nR ∧ f q < b) (hn : ∃ q : Nat, q < nC * nR ∧ ¬ f q < b) : zFoI (nC * nR) (zt f b (fun p => 2 * b - 1 - f p) f (nC * nR)) o (zt f b (fun p => 2 * (s_X1_highestLayer nC nR nf fz) + 1 - fz p) fz (nC * nR)) := by
  obtain ⟨⟨n, a, k, a2, k2, h1, h2, h3, h4, h5, h6⟩, h7⟩ := h
  have hp := p_pow (n := n) (by omega)
  obtain ⟨t, et, ht, hm⟩ := p_hl (nC := nC) (nR := nR) (nf := nf) (fz := fz) (n := n) (by omega) (nC * nR) hN (fun q hq => by
    obtain ⟨x, y, z, -, -, -, -, -, -, c7, c8⟩ := h6 q hq
    exact ⟨z, c7, c8⟩)
  have et : s_X1_highestLayer nC nR nf fz = nI t := et
  rw [et]
  obtain ⟨q1, hq1, l1⟩ := hs
  obtain ⟨q2, hq2, l2⟩ := hn
  obtain ⟨x1, y1, z1, c1, c2, c3, -⟩ := h6 q1 hq1
  obtain ⟨x2, y2, z2, d1, d2, d3, -⟩ := h6 q2 hq2
  rw [c1] at l1
  rw [d1] at l2
  have b0 : ¬ b < 0 := by
    rw [Int32.lt_iff_toInt_lt, nI_toInt (by omega)] at l1
    rw [Int32.lt_iff_toInt_lt, show (0 : Int32).toInt = 0 from rfl]
    omega
  obtain ⟨β, hβ, rfl⟩ := nI_of b0
  rw [nI_ltI (by omega) hβ] at l1 l2
  have eT : ∀ x : Nat, x < β → 2 * nI β - 1 - nI x = nI (2 * β - 1 - x) := fun x hx => by
    rw [show (2 : Int32) * nI β = nI (2 * β) from pk_mul 2 β, show nI (2 * β) - 1 = nI (2 * β - 1) from p_sub (b := 1) (by omega), p_sub (by omega)]
  have eZ : ∀ z : Nat, z ≤ t → 2 * nI t + 1 - nI z = nI (2 * t + 1 - z) := fun z hz => by
    rw [show (2 : Int32) * nI t = nI (2 * t) from pk_mul 2 t, nI_1, p_sub (by omega)]
  have hpw : 2 ^ (n + 1) = 2 * 2 ^ n := by rw [Nat.pow_succ, Nat.mul_comm]
  have key : ∀ q : Nat, q < nC * nR → ∃ x y z x' z' : Nat, f q = nI x ∧ o q = nI y ∧ fz q = nI z ∧ a ≤ x ∧ x ≤ a + k ∧ a2 ≤ y ∧ y ≤ a2 + k2 ∧ z < 2 ^ n ∧ z ≤ t ∧ zt f (nI β) (fun p => 2 * nI β - 1 - f p) f (nC * nR) q = nI x' ∧ zt f (nI β) (fun p => 2 * nI t + 1 - fz p) fz (nC * nR) q = nI z' ∧ ((x < β ∧ x' = 2 * β - 1 - x ∧ z' = 2 * t + 1 - z) ∨ (β ≤ x ∧ x' = x ∧ z' = z)) := by
    intro q hq
    obtain ⟨x, y, z, g1, g2, g3, g4, g5, g6, g7, g8⟩ := h6 q hq
    have hz := hm q hq z g7 g8
    by_cases c : x < β
    · refine ⟨x, y, z, 2 * β - 1 - x, 2 * t + 1 - z, g1, g4, g7, g2, g3, g5, g6, g8, hz, ?_, ?_, Or.inl ⟨c, rfl, rfl⟩⟩
      · show (if q < nC * nR ∧ f q < nI β then _ else _) = _
        rw [if_pos ⟨hq, by rw [g1]; exact nI_lt c hβ⟩]
        show 2 * nI β - 1 - f q = _
        rw [g1, eT x c]
      · show (if q < nC * nR ∧ f q < nI β then _ else _) = _
        rw [if_pos ⟨hq, by rw [g1]; exact nI_lt c hβ⟩]
        show 2 * nI t + 1 - fz q = _
        rw [g7, eZ z hz]
    · have cc : ¬ (q < nC * nR ∧ f q < nI β) := fun hh => by
        have h9 := hh.2
        rw [g1, nI_ltI (by omega) hβ] at h9
        exact c h9
      refine ⟨x, y, z, x, z, g1, g4, g7, g2, g3, g5, g6, g8, hz, ?_, ?_, Or.inr ⟨by omega, rfl, rfl⟩⟩
      · show (if q < nC * nR ∧ f q < nI β then _ else _) = _
        rw [if_neg cc, g1]
      · show (if q < nC * nR ∧ f q < nI β then _ else _) = _
        rw [if_neg cc, g7]
  refine ⟨⟨n + 1, β, k - 1, a2, k2, by omega, by omega, h3, by omega, h5, fun q hq => ?_⟩, fun q r hq hr e1 e2 e3 => ?_⟩
  · obtain ⟨x, y, z, x', z', g1, g2, g3, g4, g5, g6, g7, g8, g9, g10, g11, g12⟩ := key q hq
    refine ⟨x', y, z', g10, ?_, ?_, g2, g6, g7, g11, ?_⟩
    · omega
    · omega
    · rw [hpw]
      omega
  · obtain ⟨x, y, z, x', z', g1, g2, g3, g4, g5, g6, g7, g8, g9, g10, g11, g12⟩ := key q hq
    obtain ⟨u, v, w, u', w', j1, j2, j3, j4, j5, j6, j7, j8, j9, j10, j11, j12⟩ := key r hr
    rw [g10, j10, nI_eq (by omega) (by omega)] at e1
    rw [g11, j11, nI_eq (by omega) (by omega)] at e3
    have s1 : x = u := by omega
    have s2 : z = w := by omega
    exact h7 q r hq hr (by rw [g1, j1, s1]) e2 (by rw [g3, j3, s2])
theorem p_pb {nC nR : Nat} {nf : Int32} {f : Nat → Int32} {b : Int32} : ∀ k : Nat, k ≤ 36 → ∃ m : Nat, m ≤ k ∧ lp_X1_placesBelow_5 nC nR nf f b k = nI m ∧ (m ≠ 0 → ∃ q : Nat, q < k ∧ f q < b) ∧ (m ≠ k → ∃ q : Nat, q < k ∧ ¬ f q < b)
  | 0, _ => ⟨0, Nat.le_refl 0, rfl, fun h => absurd rfl h, fun h => absurd rfl h⟩
  | k + 1, hk => by
    obtain ⟨m, hm, e, h1, h2⟩ := p_pb (nC := nC) (nR := nR) (nf := nf) (f := f) (b := b) k (by omega)
    rw [lp_X1_placesBelow_5, e, nI_clamp (by omega)]
    by_cases c : b ≤ f k
    · have c2 : ¬ f k < b := by
        rw [Int32.lt_iff_toInt_lt]
        rw [Int32.le_iff_toInt_le] at c
        omega
      rw [if_pos c]
      refine ⟨m, by omega, rfl, fun h => ?_, fun _ => ⟨k, by omega, c2⟩⟩
      obtain ⟨q, hq, l⟩ := h1 h
      exact ⟨q, by omega, l⟩
    · have c2 : f k < b := by
        rw [Int32.lt_iff_toInt_lt]
        rw [Int32.le_iff_toInt_le] at c
        omega
      rw [if_neg c, nI_1]
      refine ⟨m + 1, by omega, rfl, fun _ => ⟨k, by omega, c2⟩, fun h => ?_⟩
      obtain ⟨q, hq, l⟩ := h2 (by omega)
      exact ⟨q, by omega, l⟩
/-- whether the reference's fold is allowed -/
def p_FV (jC jR : Int32) (fx fy : Nat → Int32) (b bc : Int32) : Int32 := (if (s_X5_ahead jC jR fx fy b bc) ≤ 0 then 0 else (if (jC * jR) ≤ (s_X5_ahead jC jR fx fy b bc) then 0 else 1))
theorem p_fc {nC nR : Nat} {nf : Int32} {f g gx gy : Nat → Int32} (hC : nC ≤ 6) (hR : nR ≤ 6) (h : p_Sm nC nR f g) (b bc : Int32) (hg : ∀ k : Nat, g k = if bc = 0 then gy k else gx k) : s_X1_placesBelow nC nR nf f b = s_X5_ahead (nI nC) (nI nR) gx gy b bc ∧ ((p_FV (nI nC) (nI nR) gx gy b bc = 0 ∧ (s_X1_placesBelow nC nR nf f b = 0 ∨ ¬ s_X1_placesBelow nC nR nf f b = 0 ∧ s_X1_placesBelow nC nR nf f b = s_X1_panels nC nR nf)) ∨ (p_FV (nI nC) (nI nR) gx gy b bc = 1 ∧ ¬ s_X1_placesBelow nC nR nf f b = 0 ∧ ¬ s_X1_placesBelow nC nR nf f b = s_X1_panels nC nR nf ∧ (∃ q : Nat, q < nC * nR ∧ f q < b) ∧ ∃ q : Nat, q < nC * nR ∧ ¬ f q < b)) := by
  have e := p_below (nf := nf) hC hR h b bc hg
  have hN : nC * nR ≤ 36 := Nat.mul_le_mul hC hR
  refine ⟨e, ?_⟩
  obtain ⟨m, hm, em, h1, h2⟩ := p_pb (nC := nC) (nR := nR) (nf := nf) (f := f) (b := b) (nC * nR) hN
  have em : s_X1_placesBelow nC nR nf f b = nI m := em
  have ep : s_X1_panels nC nR nf = nI (nC * nR) := z_pan nC nR nf
  have eq : nI nC * nI nR = nI (nC * nR) := pk_mul nC nR
  unfold p_FV
  rw [← e, em, ep, eq]
  by_cases c0 : m = 0
  · left
    rw [c0]
    exact ⟨by rw [if_pos (by decide)], Or.inl rfl⟩
  · have n0 : ¬ nI m = 0 := nI_ne0 (by omega) (by omega)
    rw [if_neg (nI_nle (by omega) (by omega))]
    by_cases c1 : m = nC * nR
    · left
      rw [if_pos (nI_le (by omega) (by omega))]
      exact ⟨rfl, Or.inr ⟨n0, by rw [c1]⟩⟩
    · right
      rw [if_neg (nI_ge (by omega) (by omega))]
      exact ⟨rfl, n0, fun hh => c1 ((nI_eq (by omega) (by omega)).mp hh), h1 c0, h2 c1⟩
theorem p_zts {nC nR : Nat} {f g gx gy F F' B B' : Nat → Int32} (hC : nC ≤ 6) (hR : nR ≤ 6) (h : p_Sm nC nR f g) (b bc : Int32) (hg : ∀ k : Nat, g k = if bc = 0 then gy k else gx k) (hF : p_Sm nC nR F F') (hB : p_Sm nC nR B B') : p_Sm nC nR (zt f b F B (nC * nR)) (zs (fun p => !decide ((s_X5_isPanel (nI nC) (nI nR) (nI p)) = 0) && !decide (b ≤ (if bc = 0 then gy p else gx p))) F' B' 36) := by
  intro c r hc hr
  have l := p_lt hC hR hc hr
  have l2 := z_idx hc hr
  have i1 := p_isp1 hC hR hc hr
  unfold zt zs
  simp only [← hg]
  rw [h c r hc hr, hF c r hc hr, hB c r hc hr]
  by_cases q : b ≤ g (6 * c + r)
  · have q2 : ¬ g (6 * c + r) < b := by
      rw [Int32.lt_iff_toInt_lt]
      rw [Int32.le_iff_toInt_le] at q
      omega
    rw [if_neg (fun hh => q2 hh.2), if_neg (by simp [q])]
  · have q2 : g (6 * c + r) < b := by
      rw [Int32.lt_iff_toInt_lt]
      rw [Int32.le_iff_toInt_le] at q
      omega
    rw [if_pos ⟨l2, q2⟩, if_pos ⟨by omega, by simp [q, i1]⟩]
