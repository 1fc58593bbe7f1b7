/-! thickness -/
def p_ct (P : Nat → Bool) : Nat → Nat
  | 0 => 0
  | k + 1 => p_ct P k + (if P k = true then 1 else 0)
theorem p_ctle (P : Nat → Bool) : ∀ k : Nat, p_ct P k ≤ k
  | 0 => Nat.le_refl 0
  | k + 1 => by
    have := p_ctle P k
    rw [p_ct]
    split <;> omega
theorem p_ctcg {P Q : Nat → Bool} : ∀ k : Nat, (∀ q : Nat, q < k → P q = Q q) → p_ct P k = p_ct Q k
  | 0, _ => rfl
  | k + 1, h => by
    rw [p_ct, p_ct, p_ctcg k (fun q hq => h q (by omega)), h k (by omega)]
/-- one more: P holds where Q holds and at one more place -/
theorem p_ct1 {P Q : Nat → Bool} {j : Nat} : ∀ k : Nat, (∀ q : Nat, q < k → q ≠ j → P q = Q q) → P j = true → Q j = false → p_ct P k = p_ct Q k + (if j < k then 1 else 0)
  | 0, _, _, _ => by rw [if_neg (Nat.not_lt_zero j)]; rfl
  | k + 1, h, h1, h2 => by
    have ih := p_ct1 k (fun q hq => h q (by omega)) h1 h2
    rw [p_ct, p_ct, ih]
    by_cases c : k = j
    · subst c
      simp [h1, h2]
    · rw [h k (by omega) c]
      by_cases c2 : j < k
      · rw [if_pos c2, if_pos (show j < k + 1 by omega)]
        omega
      · rw [if_neg c2, if_neg (show ¬ j < k + 1 by omega), Nat.add_zero, Nat.add_zero]
theorem p_ctmono {P Q : Nat → Bool} : ∀ k : Nat, (∀ q : Nat, q < k → P q = true → Q q = true) → p_ct P k ≤ p_ct Q k
  | 0, _ => Nat.le_refl 0
  | k + 1, h => by
    have ih := p_ctmono k (fun q hq => h q (by omega))
    rw [p_ct, p_ct]
    by_cases c : P k = true
    · rw [if_pos c, if_pos (h k (by omega) c)]
      omega
    · rw [if_neg c]
      omega
def p_mx (a : Nat → Nat) : Nat → Nat
  | 0 => 0
  | k + 1 => if p_mx a k < a k then a k else p_mx a k
theorem p_mxge (a : Nat → Nat) : ∀ k q : Nat, q < k → a q ≤ p_mx a k
  | 0, q, h => absurd h (Nat.not_lt_zero q)
  | k + 1, q, h => by
    rw [p_mx]
    by_cases c : q = k
    · subst c
      split <;> omega
    · have := p_mxge a k q (by omega)
      split <;> omega
theorem p_mxle (a : Nat → Nat) (M : Nat) : ∀ k : Nat, (∀ q : Nat, q < k → a q ≤ M) → p_mx a k ≤ M
  | 0, _ => Nat.zero_le M
  | k + 1, h => by
    have := p_mxle a M k (fun q hq => h q (by omega))
    have := h k (by omega)
    rw [p_mx]
    split <;> omega
theorem p_mxeq (a b : Nat → Nat) (N : Nat) (h1 : ∀ q : Nat, q < N → a q ≤ b q) (h2 : ∀ q : Nat, q < N → ∃ r : Nat, r < N ∧ b q = a r) : p_mx a N = p_mx b N := by
  apply Nat.le_antisymm
  · exact p_mxle a _ N (fun q hq => Nat.le_trans (h1 q hq) (p_mxge b N q hq))
  · refine p_mxle b _ N (fun q hq => ?_)
    obtain ⟨r, hr, e⟩ := h2 q hq
    rw [e]
    exact p_mxge a N r hr
/-- at one place -/
def p_at (fx fy : Nat → Int32) (q p : Nat) : Bool := decide (fx p = fx q) && decide (fy p = fy q)
def p_up (fx fy fz : Nat → Int32) (q p : Nat) : Bool := p_at fx fy q p && !decide (fz p ≤ fz q)
theorem p_hct {nC nR : Nat} {nf : Int32} {fx fy fz : Nat → Int32} {q : Nat} (hq : q < 36) : ∀ k : Nat, k ≤ 36 → lp_X1_higherThan_4 nC nR nf fx fy fz (nI q) k = nI (p_ct (p_up fx fy fz q) k)
  | 0, _ => rfl
  | k + 1, hk => by
    have ih := p_hct (nC := nC) (nR := nR) (nf := nf) (fx := fx) (fy := fy) (fz := fz) hq k (by omega)
    rw [lp_X1_higherThan_4, p_ct, ih, nI_clamp (by omega), nI_clamp (by omega)]
    unfold p_up p_at
    by_cases c1 : fx k = fx q <;> by_cases c2 : fy k = fy q <;> by_cases c3 : fz k ≤ fz q <;> simp [c1, c2, c3, nI_1]
theorem p_sct {nC nR : Nat} {fx fy gx gy gz : Nat → Int32} (hC : nC ≤ 6) (hR : nR ≤ 6) (hx : p_Sm nC nR fx gx) (hy : p_Sm nC nR fy gy) {c0 r0 : Nat} (hc0 : c0 < nC) (hr0 : r0 < nR) : nI (p_ct (p_at fx fy (c0 * nR + r0)) (nC * nR)) = s_X5_stacked (nI nC) (nI nR) gx gy gz (nI (6 * c0 + r0)) 1 := by
  have l0 := p_lt hC hR hc0 hr0
  refine p_sim hC hR (fun k => nI (p_ct (p_at fx fy (c0 * nR + r0)) k)) (lp_X5_stacked_5 (nI nC) (nI nR) gx gy gz (nI (6 * c0 + r0)) 1) rfl (fun c r hc hr ih => ?_) (fun k hk hp => ?_)
  · have l := p_lt hC hR hc hr
    have ih : nI (p_ct (p_at fx fy (c0 * nR + r0)) (c * nR + r)) = lp_X5_stacked_5 (nI nC) (nI nR) gx gy gz (nI (6 * c0 + r0)) 1 (6 * c + r) := ih
    show nI (p_ct (p_at fx fy (c0 * nR + r0)) (c * nR + r) + (if p_at fx fy (c0 * nR + r0) (c * nR + r) = true then 1 else 0)) = _
    rw [lp_X5_stacked_5, ← ih, if_neg (p_isp1 hC hR hc hr), nI_clamp (by omega), nI_clamp (by omega)]
    unfold p_at
    rw [hx c r hc hr, hy c r hc hr, hx c0 r0 hc0 hr0, hy c0 r0 hc0 hr0]
    by_cases q1 : gx (6 * c + r) = gx (6 * c0 + r0) <;> by_cases q2 : gy (6 * c + r) = gy (6 * c0 + r0) <;> simp [q1, q2, nI_1]
  · rw [lp_X5_stacked_5, if_pos (p_isp0 hC hR hk hp)]
    simp
theorem p_thA {nC nR : Nat} {nf : Int32} {fx fy fz : Nat → Int32} (hN : nC * nR ≤ 36) : ∀ k : Nat, k ≤ nC * nR → lp_X1_mostPanels_4 nC nR nf fx fy fz k = nI (p_mx (fun q => p_ct (p_up fx fy fz q) (nC * nR) + 1) k)
  | 0, _ => rfl
  | k + 1, hk => by
    have ih := p_thA (nf := nf) (fx := fx) (fy := fy) (fz := fz) hN k (by omega)
    have e : s_X1_higherThan nC nR nf fx fy fz (nI k) = nI (p_ct (p_up fx fy fz k) (nC * nR)) := p_hct (by omega) (nC * nR) hN
    have b1 := p_ctle (p_up fx fy fz k) (nC * nR)
    have b2 := p_mxle (fun q => p_ct (p_up fx fy fz q) (nC * nR) + 1) 37 k (fun q hq => by
      have := p_ctle (p_up fx fy fz q) (nC * nR)
      show p_ct (p_up fx fy fz q) (nC * nR) + 1 ≤ 37
      omega)
    rw [lp_X1_mostPanels_4, p_mx, ih, e, nI_1]
    by_cases c : p_mx (fun q => p_ct (p_up fx fy fz q) (nC * nR) + 1) k < p_ct (p_up fx fy fz k) (nC * nR) + 1
    · rw [if_pos (nI_lt c (by omega)), if_pos c]
    · rw [if_neg (nI_nlt (by omega) (by omega)), if_neg c]
theorem p_thB {nC nR : Nat} {fx fy gx gy gz : Nat → Int32} (hC : nC ≤ 6) (hR : nR ≤ 6) (hx : p_Sm nC nR fx gx) (hy : p_Sm nC nR fy gy) : nI (p_mx (fun q => p_ct (p_at fx fy q) (nC * nR)) (nC * nR)) = s_X5_thickness (nI nC) (nI nR) gx gy gz := by
  refine p_sim hC hR (fun k => nI (p_mx (fun q => p_ct (p_at fx fy q) (nC * nR)) k)) (lp_X5_thickness_9 (nI nC) (nI nR) gx gy gz) rfl (fun c r hc hr ih => ?_) (fun k hk hp => ?_)
  · have l := p_lt hC hR hc hr
    have hN : nC * nR ≤ 36 := Nat.mul_le_mul hC hR
    have ih : nI (p_mx (fun q => p_ct (p_at fx fy q) (nC * nR)) (c * nR + r)) = lp_X5_thickness_9 (nI nC) (nI nR) gx gy gz (6 * c + r) := ih
    have b1 := p_ctle (p_at fx fy (c * nR + r)) (nC * nR)
    have b2 := p_mxle (fun q => p_ct (p_at fx fy q) (nC * nR)) 36 (c * nR + r) (fun q hq => by
      have := p_ctle (p_at fx fy q) (nC * nR)
      show p_ct (p_at fx fy q) (nC * nR) ≤ 36
      omega)
    rw [lp_X5_thickness_9, ← ih, if_neg (p_isp1 hC hR hc hr), ← p_sct hC hR hx hy hc hr]
    show nI (if p_mx (fun q => p_ct (p_at fx fy q) (nC * nR)) (c * nR + r) < p_ct (p_at fx fy (c * nR + r)) (nC * nR) then p_ct (p_at fx fy (c * nR + r)) (nC * nR) else p_mx (fun q => p_ct (p_at fx fy q) (nC * nR)) (c * nR + r)) = _
    by_cases cc : p_mx (fun q => p_ct (p_at fx fy q) (nC * nR)) (c * nR + r) < p_ct (p_at fx fy (c * nR + r)) (nC * nR)
    · rw [if_pos cc, if_neg (nI_ge cc (by omega))]
    · rw [if_neg cc, if_pos (nI_le (by omega) (by omega))]
  · rw [lp_X5_thickness_9, if_pos (p_isp0 hC hR hk hp), if_pos]
    -- the measure so far is never below 0
    have h : ∀ k : Nat, k ≤ 36 → 0 ≤ lp_X5_thickness_9 (nI nC) (nI nR) gx gy gz k := by
      intro k
      induction k with
      | zero => intro _; show (0 : Int32) ≤ 0; decide
      | succ k ih =>
        intro hk
        have ih := ih (by omega)
        rw [lp_X5_thickness_9]
        generalize (if s_X5_isPanel (nI nC) (nI nR) (nI k) = 0 then 0 else s_X5_stacked (nI nC) (nI nR) gx gy gz (nI k) 1) = w
        split
        · exact ih
        · rename_i hh
          rw [Int32.le_iff_toInt_le] at hh ih ⊢
          have e0 : (0 : Int32).toInt = 0 := rfl
          omega
    exact h k (by omega)
theorem zx_thickness_1 {nC nR : Nat} {nf : Int32} {fx fy fz : Nat → Int32} {gx gy gz : Nat → Int32} (hC : nC ≤ 6) (hR : nR ≤ 6) (hx : p_Sm nC nR fx gx) (hy : p_Sm nC nR fy gy) (hF : zFoI (nC * nR) fx fy fz) : s_X4_thickness nC nR nf fx fy fz = s_X5_thickness (nI nC) (nI nR) gx gy gz := by
  have hN : nC * nR ≤ 36 := Nat.mul_le_mul hC hR
  have e : s_X4_thickness nC nR nf fx fy fz = nI (p_mx (fun q => p_ct (p_up fx fy fz q) (nC * nR) + 1) (nC * nR)) := p_thA hN (nC * nR) (Nat.le_refl _)
  rw [e, ← p_thB hC hR hx hy]
  congr 1
  obtain ⟨⟨n, a, k, a2, k2, h1, h2, h3, h4, h5, h6⟩, h7⟩ := hF
  have hp := p_pow (n := n) (by omega)
  refine p_mxeq _ _ _ (fun q hq => ?_) (fun q hq => ?_)
  · -- a panel is at its own place, but not above itself
    have s1 : p_up fx fy fz q q = false := by
      unfold p_up
      have : fz q ≤ fz q := Int32.le_refl _
      simp [this]
    have s2 : p_at fx fy q q = true := by
      unfold p_at
      simp
    have m := p_ct1 (P := fun p => p_up fx fy fz q p || decide (p = q)) (Q := p_up fx fy fz q) (j := q) (nC * nR) (fun r hr hne => by simp [hne]) (by simp) s1
    rw [if_pos hq] at m
    show p_ct (p_up fx fy fz q) (nC * nR) + 1 ≤ p_ct (p_at fx fy q) (nC * nR)
    rw [← m]
    refine p_ctmono _ (fun r hr hh => ?_)
    have hh : (p_up fx fy fz q r || decide (r = q)) = true := hh
    by_cases c : r = q
    · rw [c]
      exact s2
    · simp only [c, decide_false, Bool.or_false] at hh
      unfold p_up at hh
      exact (Bool.and_eq_true_iff.mp hh).1
  · -- the lowest panel of the place
    obtain ⟨z0, ⟨q0, hq0, ha0, hz0⟩, hmin⟩ := pk_least (fun z => ∃ p : Nat, p < nC * nR ∧ p_at fx fy q p = true ∧ fz p = nI z ∧ z < 2 ^ n) (by
      obtain ⟨x, y, z, -, -, -, -, -, -, c7, c8⟩ := h6 q hq
      exact ⟨z, q, hq, by unfold p_at; simp, c7, c8⟩)
    refine ⟨q0, hq0, ?_⟩
    have at0 : ∀ p : Nat, p_at fx fy q p = p_at fx fy q0 p := fun p => by
      unfold p_at at ha0 ⊢
      have g := Bool.and_eq_true_iff.mp ha0
      rw [of_decide_eq_true g.1, of_decide_eq_true g.2]
    show p_ct (p_at fx fy q) (nC * nR) = p_ct (p_up fx fy fz q0) (nC * nR) + 1
    have s1 : p_up fx fy fz q0 q0 = false := by
      unfold p_up
      have : fz q0 ≤ fz q0 := Int32.le_refl _
      simp [this]
    have m := p_ct1 (P := p_at fx fy q) (Q := p_up fx fy fz q0) (j := q0) (nC * nR) (fun r hr hne => ?_) ha0 s1
    · rw [if_pos hq0] at m
      exact m
    · rw [at0 r]
      unfold p_up
      by_cases c : p_at fx fy q0 r = true
      · rw [c, Bool.true_and]
        obtain ⟨x, y, z, g1, g2, g3, g4, g5, g6, g7, g8⟩ := h6 r hr
        have hc := Bool.and_eq_true_iff.mp c
        have l1 : z0 ≤ z := by
          rcases Nat.lt_or_ge z z0 with qq | qq
          · exact absurd ⟨r, hr, by rw [at0 r]; exact c, g7, g8⟩ (hmin z qq)
          · exact qq
        have l2 : z ≠ z0 := fun ee => hne (h7 r q0 hr hq0 (of_decide_eq_true hc.1) (of_decide_eq_true hc.2) (by rw [g7, hz0.1, ee]))
        have l3 : ¬ fz r ≤ fz q0 := by
          rw [g7, hz0.1]
          exact nI_ge (by omega) (by omega)
        simp [l3]
      · rw [Bool.not_eq_true] at c
        rw [c, Bool.false_and]
