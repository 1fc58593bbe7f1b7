/-- how the law's panels (row by row) stand for the class's (column by column) -/
def zShL (nC nR : Nat) (fx fy fz fu gp gq gz gu : Nat → Int32) : Prop := ∀ c r : Nat, c < nC → r < nR → gp (r * nC + c) = fx (c * nR + r) ∧ gq (r * nC + c) = fy (c * nR + r) ∧ gz (r * nC + c) = fz (c * nR + r) ∧ gu (r * nC + c) = fu (c * nR + r) ∧ (fu (c * nR + r) = 0 ∨ fu (c * nR + r) = 1)
theorem sh_ge {nC nR k : Nat} (hN : nC * nR ≤ 36) (hk : k ≤ nC * nR) (h : (nI nC) * (nI nR) ≤ nI k) : nC * nR ≤ k := by
  rw [pk_mul] at h
  exact (nI_leI (by omega) (by omega)).mp h
theorem sh_lt {nC nR k : Nat} (hN : nC * nR ≤ 36) (hk : k ≤ nC * nR) (h : ¬ (nI nC) * (nI nR) ≤ nI k) : k < nC * nR := by
  rw [pk_mul] at h
  rcases Nat.lt_or_ge k (nC * nR) with q | q
  · exact q
  · exact absurd (nI_le q (by omega)) h
theorem sh_in {nC nR k : Nat} (hN : nC * nR ≤ 36) (h : k < nC * nR) : vp_in (nI k) 36 := vp_in_nI (by omega) (by omega)
/-- the panel that a place of the globe lies on, by the law's counting -/
def sh_c (nC : Nat) (e : Int32) : Nat := (e.toInt + 180).toNat * nC / 360
def sh_r (nR : Nat) (n : Int32) : Nat := if (90 - n.toInt).toNat * nR / 180 < nR - 1 then (90 - n.toInt).toNat * nR / 180 else nR - 1
def v_L_sheets_72 (gp : Nat → Int32) (gq : Nat → Int32) (j : Nat) (k : Nat) : Int32 := (if (gp (nI j).toNatClampNeg) = (gp (nI k).toNatClampNeg) then (if (gq (nI j).toNatClampNeg) = (gq (nI k).toNatClampNeg) then 1 else 0) else 0)
def v_L_sheets_87 (gp : Nat → Int32) (gq : Nat → Int32) (a36_0 : Int32) (j : Nat) (k : Nat) : Int32 := (a36_0) + (if (v_L_sheets_72 gp gq j k) = 0 then 0 else 1)
def v_L_sheets_115 (gp : Nat → Int32) (gq : Nat → Int32) (gz : Nat → Int32) (a36_1 : Int32) (j : Nat) (k : Nat) : Int32 := (a36_1) + (if (v_L_sheets_72 gp gq j k) = 0 then 0 else (if (gz (nI j).toNatClampNeg) ≤ (gz (nI k).toNatClampNeg) then 0 else 1))
def lp_L_sheets_36 (gp : Nat → Int32) (gq : Nat → Int32) (gz : Nat → Int32) (k : Nat) : Nat → Int32 × Int32
  | 0 => (0, 0)
  | j + 1 => (v_L_sheets_87 gp gq ((lp_L_sheets_36 gp gq gz k j).1) j k, v_L_sheets_115 gp gq gz ((lp_L_sheets_36 gp gq gz k j).2) j k)
def v_L_sheets_155 (nC : Nat) (nR : Nat) (gp : Nat → Int32) (gq : Nat → Int32) (gz : Nat → Int32) (a20_0 : Int32) (k : Nat) : Int32 := (if ((lp_L_sheets_36 gp gq gz k (nC * nR)).1) ≤ (a20_0) then a20_0 else (lp_L_sheets_36 gp gq gz k (nC * nR)).1)
def v_L_sheets_179 (nC : Nat) (nR : Nat) (gp : Nat → Int32) (gq : Nat → Int32) (gz : Nat → Int32) (gu : Nat → Int32) (a20_1 : Int32) (k : Nat) : Int32 := (a20_1) + (if ((lp_L_sheets_36 gp gq gz k (nC * nR)).2) = 0 then (if (gu (nI k).toNatClampNeg) = 1 then 1 else 0) else 0)
def lp_L_sheets_20 (nC : Nat) (nR : Nat) (gp : Nat → Int32) (gq : Nat → Int32) (gz : Nat → Int32) (gu : Nat → Int32) : Nat → Int32 × Int32
  | 0 => (0, 0)
  | k + 1 => (v_L_sheets_155 nC nR gp gq gz ((lp_L_sheets_20 nC nR gp gq gz gu k).1) k, v_L_sheets_179 nC nR gp gq gz gu ((lp_L_sheets_20 nC nR gp gq gz gu k).2) k)
def v_L_sheets_263 (y : Int32) : Int32 := (s_L_some y 181) - 90
def v_L_sheets_295 (y : Int32) : Int32 := (if (s_L_some (y >>> ((5 : Int32) &&& 31)) 60) = 0 then (-181) else (s_L_some (y >>> ((5 : Int32) &&& 31)) 360) - 180)
def s_L_sheets (fw : Nat → Int32) (fh : Nat → Int32) (br : Int32) (nC : Nat) (nR : Nat) (nf : Int32) (fx : Nat → Int32) (fy : Nat → Int32) (fz : Nat → Int32) (fu : Nat → Int32) (gp : Nat → Int32) (gq : Nat → Int32) (gz : Nat → Int32) (gu : Nat → Int32) (y : Int32) : Int32 := (if (s_X4_thickness nC nR nf fx fy fz) = ((lp_L_sheets_20 nC nR gp gq gz gu (nC * nR)).1) then (if (s_X4_readable nC nR nf fx fy fz fu) = ((lp_L_sheets_20 nC nR gp gq gz gu (nC * nR)).2) then (if (s_L_by fw fh br nC nR nf 7 (v_L_sheets_263 y) (v_L_sheets_295 y) 0) = (if (-180) ≤ (v_L_sheets_295 y) then (10 * (nI (sh_c nC (v_L_sheets_295 y)))) + (nI (sh_r nR (v_L_sheets_263 y))) else (-9000001)) then (if (s_L_of nC nR nf fx fy fz fu 0 (nI nC) 0) = (-1001) then (if (s_L_of nC nR nf fx fy fz fu 1 0 (nI nR)) = (-1001) then (if (s_L_of nC nR nf fx fy fz fu 2 (-1) 0) = (-1001) then (if (s_L_of nC nR nf fx fy fz fu 3 0 (-1)) = (-1001) then 1 else 0) else 0) else 0) else 0) else 0) else 0) else 0)
def p_ct (P : Nat → Bool) : Nat → Nat
  | 0 => 0
  | k + 1 => p_ct P k + (if P k = true then 1 else 0)
theorem p_ctle (P : Nat → Bool) : ∀ k : Nat, p_ct P k ≤ k
  | 0 => Nat.le_refl 0
  | k + 1 => by
    have := p_ctle P k
    rw [p_ct]
    split <;> omega
theorem p_ctcg {P Q : Nat → Bool} : ∀ k : Nat, (∀ q : Nat, q < k → P q = Q q) → p_ct P k = p_ct Q k
  | 0, _ => rfl
  | k + 1, h => by
    rw [p_ct, p_ct, p_ctcg k (fun q hq => h q (by omega)), h k (by omega)]
/-- one more: P holds where Q holds and at one more place -/
theorem p_ct1 {P Q : Nat → Bool} {j : Nat} : ∀ k : Nat, (∀ q : Nat, q < k → q ≠ j → P q = Q q) → P j = true → Q j = false → p_ct P k = p_ct Q k + (if j < k then 1 else 0)
  | 0, _, _, _ => by rw [if_neg (Nat.not_lt_zero j)]; rfl
  | k + 1, h, h1, h2 => by
    have ih := p_ct1 k (fun q hq => h q (by omega)) h1 h2
    rw [p_ct, p_ct, ih]
    by_cases c : k = j
    · subst c
      simp [h1, h2]
    · rw [h k (by omega) c]
      by_cases c2 : j < k
      · rw [if_pos c2, if_pos (show j < k + 1 by omega)]
        omega
      · rw [if_neg c2, if_neg (show ¬ j < k + 1 by omega), Nat.add_zero, Nat.add_zero]
theorem p_ctmono {P Q : Nat → Bool} : ∀ k : Nat, (∀ q : Nat, q < k → P q = true → Q q = true) → p_ct P k ≤ p_ct Q k
  | 0, _ => Nat.le_refl 0
  | k + 1, h => by
    have ih := p_ctmono k (fun q hq => h q (by omega))
    rw [p_ct, p_ct]
    by_cases c : P k = true
    · rw [if_pos c, if_pos (h k (by omega) c)]
      omega
    · rw [if_neg c]
      omega
def p_mx (a : Nat → Nat) : Nat → Nat
  | 0 => 0
  | k + 1 => if p_mx a k < a k then a k else p_mx a k
theorem p_mxge (a : Nat → Nat) : ∀ k q : Nat, q < k → a q ≤ p_mx a k
  | 0, q, h => absurd h (Nat.not_lt_zero q)
  | k + 1, q, h => by
    rw [p_mx]
    by_cases c : q = k
    · subst c
      split <;> omega
    · have := p_mxge a k q (by omega)
      split <;> omega
theorem p_mxle (a : Nat → Nat) (M : Nat) : ∀ k : Nat, (∀ q : Nat, q < k → a q ≤ M) → p_mx a k ≤ M
  | 0, _ => Nat.zero_le M
  | k + 1, h => by
    have := p_mxle a M k (fun q hq => h q (by omega))
    have := h k (by omega)
    rw [p_mx]
    split <;> omega
theorem p_mxeq (a b : Nat → Nat) (N : Nat) (h1 : ∀ q : Nat, q < N → a q ≤ b q) (h2 : ∀ q : Nat, q < N → ∃ r : Nat, r < N ∧ b q = a r) : p_mx a N = p_mx b N := by
  apply Nat.le_antisymm
  · exact p_mxle a _ N (fun q hq => Nat.le_trans (h1 q hq) (p_mxge b N q hq))
  · refine p_mxle b _ N (fun q hq => ?_)
    obtain ⟨r, hr, e⟩ := h2 q hq
    rw [e]
    exact p_mxge a N r hr
/-- at one place -/
def p_at (fx fy : Nat → Int32) (q p : Nat) : Bool := decide (fx p = fx q) && decide (fy p = fy q)
def p_up (fx fy fz : Nat → Int32) (q p : Nat) : Bool := p_at fx fy q p && !decide (fz p ≤ fz q)
theorem p_hct {nC nR : Nat} {nf : Int32} {fx fy fz : Nat → Int32} {q : Nat} (hq : q < 36) : ∀ k : Nat, k ≤ 36 → lp_X1_higherThan_4 nC nR nf fx fy fz (nI q) k = nI (p_ct (p_up fx fy fz q) k)
  | 0, _ => rfl
  | k + 1, hk => by
    have ih := p_hct (nC := nC) (nR := nR) (nf := nf) (fx := fx) (fy := fy) (fz := fz) hq k (by omega)
    rw [lp_X1_higherThan_4, p_ct, ih, nI_clamp (by omega), nI_clamp (by omega)]
    unfold p_up p_at
    by_cases c1 : fx k = fx q <;> by_cases c2 : fy k = fy q <;> by_cases c3 : fz k ≤ fz q <;> simp [c1, c2, c3, nI_1]
theorem p_thA {nC nR : Nat} {nf : Int32} {fx fy fz : Nat → Int32} (hN : nC * nR ≤ 36) : ∀ k : Nat, k ≤ nC * nR → lp_X1_mostPanels_4 nC nR nf fx fy fz k = nI (p_mx (fun q => p_ct (p_up fx fy fz q) (nC * nR) + 1) k)
  | 0, _ => rfl
  | k + 1, hk => by
    have ih := p_thA (nf := nf) (fx := fx) (fy := fy) (fz := fz) hN k (by omega)
    have e : s_X1_higherThan nC nR nf fx fy fz (nI k) = nI (p_ct (p_up fx fy fz k) (nC * nR)) := p_hct (by omega) (nC * nR) hN
    have b1 := p_ctle (p_up fx fy fz k) (nC * nR)
    have b2 := p_mxle (fun q => p_ct (p_up fx fy fz q) (nC * nR) + 1) 37 k (fun q hq => by
      have := p_ctle (p_up fx fy fz q) (nC * nR)
      show p_ct (p_up fx fy fz q) (nC * nR) + 1 ≤ 37
      omega)
    rw [lp_X1_mostPanels_4, p_mx, ih, e, nI_1]
    by_cases c : p_mx (fun q => p_ct (p_up fx fy fz q) (nC * nR) + 1) k < p_ct (p_up fx fy fz k) (nC * nR) + 1
    · rw [if_pos (nI_lt c (by omega)), if_pos c]
    · rw [if_neg (nI_nlt (by omega) (by omega)), if_neg c]
/-- where the panels lie: the places in a span that gets less with each fold, the layers below 2 ^ folds, no two panels at one place in one layer -/
def zFoI (N : Nat) (fx fy fz : Nat → Int32) : Prop := (∃ n a k a2 k2 : Nat, n + k + k2 ≤ 10 ∧ k ≤ 5 ∧ k2 ≤ 5 ∧ a + 5 * k ≤ 25 ∧ a2 + 5 * k2 ≤ 25 ∧ ∀ q : Nat, q < N → ∃ x y z : Nat, fx q = nI x ∧ a ≤ x ∧ x ≤ a + k ∧ fy q = nI y ∧ a2 ≤ y ∧ y ≤ a2 + k2 ∧ fz q = nI z ∧ z < 2 ^ n) ∧ ∀ q r : Nat, q < N → r < N → fx q = fx r → fy q = fy r → fz q = fz r → q = r
theorem p_pow {n : Nat} (h : n ≤ 10) : 2 ^ n ≤ 1024 := Nat.le_trans (Nat.pow_le_pow_right (by omega) h) (by decide)
theorem p_th1 {nC nR : Nat} {fx fy fz : Nat → Int32} (hF : zFoI (nC * nR) fx fy fz) : p_mx (fun q => p_ct (p_up fx fy fz q) (nC * nR) + 1) (nC * nR) = p_mx (fun q => p_ct (p_at fx fy q) (nC * nR)) (nC * nR) := by
  obtain ⟨⟨n, a, k, a2, k2, h1, h2, h3, h4, h5, h6⟩, h7⟩ := hF
  have hp := p_pow (n := n) (by omega)
  refine p_mxeq _ _ _ (fun q hq => ?_) (fun q hq => ?_)
  · -- a panel is at its own place, but not above itself
    have s1 : p_up fx fy fz q q = false := by
      unfold p_up
      have : fz q ≤ fz q := Int32.le_refl _
      simp [this]
    have s2 : p_at fx fy q q = true := by
      unfold p_at
      simp
    have m := p_ct1 (P := fun p => p_up fx fy fz q p || decide (p = q)) (Q := p_up fx fy fz q) (j := q) (nC * nR) (fun r hr hne => by simp [hne]) (by simp) s1
    rw [if_pos hq] at m
    show p_ct (p_up fx fy fz q) (nC * nR) + 1 ≤ p_ct (p_at fx fy q) (nC * nR)
    rw [← m]
    refine p_ctmono _ (fun r hr hh => ?_)
    have hh : (p_up fx fy fz q r || decide (r = q)) = true := hh
    by_cases c : r = q
    · rw [c]
      exact s2
    · simp only [c, decide_false, Bool.or_false] at hh
      unfold p_up at hh
      exact (Bool.and_eq_true_iff.mp hh).1
  · -- the lowest panel of the place
    obtain ⟨z0, ⟨q0, hq0, ha0, hz0⟩, hmin⟩ := pk_least (fun z => ∃ p : Nat, p < nC * nR ∧ p_at fx fy q p = true ∧ fz p = nI z ∧ z < 2 ^ n) (by
      obtain ⟨x, y, z, -, -, -, -, -, -, c7, c8⟩ := h6 q hq
      exact ⟨z, q, hq, by unfold p_at; simp, c7, c8⟩)
    refine ⟨q0, hq0, ?_⟩
    have at0 : ∀ p : Nat, p_at fx fy q p = p_at fx fy q0 p := fun p => by
      unfold p_at at ha0 ⊢
      have g := Bool.and_eq_true_iff.mp ha0
      rw [of_decide_eq_true g.1, of_decide_eq_true g.2]
    show p_ct (p_at fx fy q) (nC * nR) = p_ct (p_up fx fy fz q0) (nC * nR) + 1
    have s1 : p_up fx fy fz q0 q0 = false := by
      unfold p_up
      have : fz q0 ≤ fz q0 := Int32.le_refl _
      simp [this]
    have m := p_ct1 (P := p_at fx fy q) (Q := p_up fx fy fz q0) (j := q0) (nC * nR) (fun r hr hne => ?_) ha0 s1
    · rw [if_pos hq0] at m
      exact m
    · rw [at0 r]
      unfold p_up
      by_cases c : p_at fx fy q0 r = true
      · rw [c, Bool.true_and]
        obtain ⟨x, y, z, g1, g2, g3, g4, g5, g6, g7, g8⟩ := h6 r hr
        have hc := Bool.and_eq_true_iff.mp c
        have l1 : z0 ≤ z := by
          rcases Nat.lt_or_ge z z0 with qq | qq
          · exact absurd ⟨r, hr, by rw [at0 r]; exact c, g7, g8⟩ (hmin z qq)
          · exact qq
        have l2 : z ≠ z0 := fun ee => hne (h7 r q0 hr hq0 (of_decide_eq_true hc.1) (of_decide_eq_true hc.2) (by rw [g7, hz0.1, ee]))
        have l3 : ¬ fz r ≤ fz q0 := by
          rw [g7, hz0.1]
          exact nI_ge (by omega) (by omega)
        simp [l3]
      · rw [Bool.not_eq_true] at c
        rw [c, Bool.false_and]
/-- the class's number of the law's panel k -/
def sg (nC nR k : Nat) : Nat := k % nC * nR + k / nC
theorem sg_lt {nC nR k : Nat} (hN1 : 1 ≤ nC ∧ nC ≤ 6 ∧ 1 ≤ nR ∧ nR ≤ 6) (hk : k < nC * nR) : k % nC < nC ∧ k / nC < nR ∧ sg nC nR k < nC * nR := by
  have h1 : k % nC < nC := Nat.mod_lt _ hN1.1
  have h2 : k / nC < nR := Nat.div_lt_of_lt_mul hk
  exact ⟨h1, h2, z_idx h1 h2⟩
theorem sg_inv {nC nR q : Nat} (hN1 : 1 ≤ nC ∧ nC ≤ 6 ∧ 1 ≤ nR ∧ nR ≤ 6) (hq : q < nC * nR) : ∃ k : Nat, k < nC * nR ∧ sg nC nR k = q := by
  have h1 : q % nR < nR := Nat.mod_lt _ hN1.2.2.1
  have h2 : q / nR < nC := Nat.div_lt_of_lt_mul (by rw [Nat.mul_comm]; exact hq)
  refine ⟨q % nR * nC + q / nR, ?_, ?_⟩
  · rw [Nat.mul_comm nC nR]
    exact z_idx h1 h2
  · unfold sg
    rw [z_md h2, z_dv h2]
    have := Nat.div_add_mod q nR
    rw [Nat.mul_comm] at this
    exact this
theorem sg_perm : ∀ C : Nat, C < 7 → ∀ R : Nat, R < 7 → 1 ≤ C → ((List.range (C * R)).map (sg C R)).Perm (List.range (C * R)) := by decide +kernel
theorem p_ctL (P : Nat → Bool) : ∀ N : Nat, p_ct P N = (List.range N).countP P
  | 0 => rfl
  | N + 1 => by
    rw [p_ct, List.range_succ, List.countP_append, p_ctL P N, List.countP_singleton]
theorem p_ctp {nC nR : Nat} (hN1 : 1 ≤ nC ∧ nC ≤ 6 ∧ 1 ≤ nR ∧ nR ≤ 6) (P : Nat → Bool) : p_ct (fun k => P (sg nC nR k)) (nC * nR) = p_ct P (nC * nR) := by
  rw [p_ctL, p_ctL, ← (sg_perm nC (by omega) nR (by omega) hN1.1).countP_eq P, List.countP_map]
  rfl
theorem p_mxp {nC nR : Nat} (hN1 : 1 ≤ nC ∧ nC ≤ 6 ∧ 1 ≤ nR ∧ nR ≤ 6) (a : Nat → Nat) : p_mx (fun k => a (sg nC nR k)) (nC * nR) = p_mx a (nC * nR) := by
  apply Nat.le_antisymm
  · exact p_mxle _ _ _ (fun q hq => p_mxge a _ _ (sg_lt hN1 hq).2.2)
  · refine p_mxle _ _ _ (fun q hq => ?_)
    obtain ⟨k, hk, e⟩ := sg_inv hN1 hq
    have := p_mxge (fun k => a (sg nC nR k)) _ _ hk
    rw [← e]
    exact this
theorem p_mxcg {a b : Nat → Nat} : ∀ k : Nat, (∀ q : Nat, q < k → a q = b q) → p_mx a k = p_mx b k
  | 0, _ => rfl
  | k + 1, h => by
    rw [p_mx, p_mx, p_mxcg k (fun q hq => h q (by omega)), h k (by omega)]
/-- the relation, panel by panel -/
theorem sh_k {nC nR : Nat} {fx fy fz fu gp gq gz gu : Nat → Int32} (hS : zShL nC nR fx fy fz fu gp gq gz gu) (hN1 : 1 ≤ nC ∧ nC ≤ 6 ∧ 1 ≤ nR ∧ nR ≤ 6) {k : Nat} (hk : k < nC * nR) : gp k = fx (sg nC nR k) ∧ gq k = fy (sg nC nR k) ∧ gz k = fz (sg nC nR k) ∧ gu k = fu (sg nC nR k) ∧ (fu (sg nC nR k) = 0 ∨ fu (sg nC nR k) = 1) := by
  obtain ⟨h1, h2, -⟩ := sg_lt hN1 hk
  have h := hS (k % nC) (k / nC) h1 h2
  have e : k / nC * nC + k % nC = k := by
    have := Nat.div_add_mod k nC
    rw [Nat.mul_comm] at this
    exact this
  rw [e] at h
  exact h
theorem sh_36 {nC nR : Nat} (hN1 : 1 ≤ nC ∧ nC ≤ 6 ∧ 1 ≤ nR ∧ nR ≤ 6) : nC * nR ≤ 36 := Nat.mul_le_mul hN1.2.1 hN1.2.2.2
theorem sh_l36 {gp gq gz : Nat → Int32} {k : Nat} (hk : k < 36) : ∀ j : Nat, j ≤ 36 → lp_L_sheets_36 gp gq gz k j = (nI (p_ct (p_at gp gq k) j), nI (p_ct (p_up gp gq gz k) j))
  | 0, _ => rfl
  | j + 1, hj => by
    have ih := sh_l36 (gp := gp) (gq := gq) (gz := gz) hk j (by omega)
    show (v_L_sheets_87 gp gq ((lp_L_sheets_36 gp gq gz k j).1) j k, v_L_sheets_115 gp gq gz ((lp_L_sheets_36 gp gq gz k j).2) j k) = _
    rw [ih]
    unfold v_L_sheets_87 v_L_sheets_115 v_L_sheets_72
    rw [nI_clamp (by omega), nI_clamp (by omega), p_ct, p_ct]
    unfold p_up p_at
    by_cases c1 : gp j = gp k <;> by_cases c2 : gq j = gq k <;> by_cases c3 : gz j ≤ gz k <;> simp [c1, c2, c3, nI_1]
theorem sh_at {nC nR : Nat} {fx fy fz fu gp gq gz gu : Nat → Int32} (hS : zShL nC nR fx fy fz fu gp gq gz gu) (hN1 : 1 ≤ nC ∧ nC ≤ 6 ∧ 1 ≤ nR ∧ nR ≤ 6) {k : Nat} (hk : k < nC * nR) : p_ct (p_at gp gq k) (nC * nR) = p_ct (p_at fx fy (sg nC nR k)) (nC * nR) ∧ p_ct (p_up gp gq gz k) (nC * nR) = p_ct (p_up fx fy fz (sg nC nR k)) (nC * nR) := by
  have a := sh_k hS hN1 hk
  rw [← p_ctp hN1 (p_at fx fy (sg nC nR k)), ← p_ctp hN1 (p_up fx fy fz (sg nC nR k))]
  constructor
  · refine p_ctcg _ (fun q hq => ?_)
    have b := sh_k hS hN1 hq
    unfold p_at
    rw [a.1, a.2.1, b.1, b.2.1]
  · refine p_ctcg _ (fun q hq => ?_)
    have b := sh_k hS hN1 hq
    unfold p_up p_at
    rw [a.1, a.2.1, a.2.2.1, b.1, b.2.1, b.2.2.1]
/-- the panel that the law asks of -/
theorem sh_rc {nC nR : Nat} (hN1 : 1 ≤ nC ∧ nC ≤ 6 ∧ 1 ≤ nR ∧ nR ≤ 6) {k : Nat} (hk : k < nC * nR) : (nI k) - (nI k) / (nI nC) * (nI nC) = nI (k % nC) ∧ (nI k) / (nI nC) = nI (k / nC) := by
  have := sh_36 hN1
  exact ⟨pk_rem (by omega) hN1.1 (by omega), pk_div (by omega) hN1.1 (by omega)⟩
theorem sh_hp {nC nR : Nat} {nf : Int32} (hN1 : 1 ≤ nC ∧ nC ≤ 6 ∧ 1 ≤ nR ∧ nR ≤ 6) {c r : Nat} (hc : c < nC) (hr : r < nR) : s_X1_hasPanel nC nR nf (nI c) (nI r) = 1 := by
  unfold s_X1_hasPanel
  rw [if_neg (nI_pos (by omega)), if_neg (nI_ge hc (by omega)), if_neg (nI_pos (by omega)), if_neg (nI_ge hr (by omega))]
theorem sh_rp {nC nR : Nat} {nf : Int32} (hN1 : 1 ≤ nC ∧ nC ≤ 6 ∧ 1 ≤ nR ∧ nR ≤ 6) {c r : Nat} (hc : c < nC) (hr : r < nR) : k_X4_requirePanel nC nR nf (nI c) (nI r) = 0 := by
  unfold k_X4_requirePanel
  rw [sh_hp hN1 hc hr, if_neg (by decide)]
theorem sh_nm {nC nR c r : Nat} {nf : Int32} (hN1 : 1 ≤ nC ∧ nC ≤ 6 ∧ 1 ≤ nR ∧ nR ≤ 6) (hc : c < nC) (hr : r < nR) : (s_X1_number nC nR nf (nI c) (nI r)).toNatClampNeg = c * nR + r := z_ncl (sh_36 hN1) hc hr
theorem sh_0 {nC nR : Nat} {nf : Int32} {fx fy fz fu gp gq gz gu : Nat → Int32} (hS : zShL nC nR fx fy fz fu gp gq gz gu) (hN1 : 1 ≤ nC ∧ nC ≤ 6 ∧ 1 ≤ nR ∧ nR ≤ 6) {k : Nat} (hk : k < nC * nR) : s_L_of nC nR nf fx fy fz fu 0 ((nI k) - (nI k) / (nI nC) * (nI nC)) ((nI k) / (nI nC)) = gp (nI k).toNatClampNeg := by
  obtain ⟨h1, h2, h3⟩ := sg_lt hN1 hk
  have h36 := sh_36 hN1
  obtain ⟨e1, e2⟩ := sh_rc hN1 hk
  rw [e1, e2, nI_clamp (by omega), (sh_k hS hN1 hk).1]
  show (if k_X4_placeX nC nR nf fx (nI (k % nC)) (nI (k / nC)) = 0 then s_X4_placeX nC nR nf fx (nI (k % nC)) (nI (k / nC)) else (-1001)) = _
  unfold k_X4_placeX s_X4_placeX s_X1_columnPlace
  rw [sh_rp hN1 h1 h2, if_pos rfl, if_pos rfl, if_pos rfl, sh_hp hN1 h1 h2, if_neg (by decide), sh_nm hN1 h1 h2]
  rfl
theorem sh_1 {nC nR : Nat} {nf : Int32} {fx fy fz fu gp gq gz gu : Nat → Int32} (hS : zShL nC nR fx fy fz fu gp gq gz gu) (hN1 : 1 ≤ nC ∧ nC ≤ 6 ∧ 1 ≤ nR ∧ nR ≤ 6) {k : Nat} (hk : k < nC * nR) : s_L_of nC nR nf fx fy fz fu 1 ((nI k) - (nI k) / (nI nC) * (nI nC)) ((nI k) / (nI nC)) = gq (nI k).toNatClampNeg := by
  obtain ⟨h1, h2, h3⟩ := sg_lt hN1 hk
  have h36 := sh_36 hN1
  obtain ⟨e1, e2⟩ := sh_rc hN1 hk
  rw [e1, e2, nI_clamp (by omega), (sh_k hS hN1 hk).2.1]
  show (if k_X4_placeY nC nR nf fy (nI (k % nC)) (nI (k / nC)) = 0 then s_X4_placeY nC nR nf fy (nI (k % nC)) (nI (k / nC)) else (-1001)) = _
  unfold k_X4_placeY s_X4_placeY s_X1_rowPlace
  rw [sh_rp hN1 h1 h2, if_pos rfl, if_pos rfl, if_pos rfl, sh_hp hN1 h1 h2, if_neg (by decide), sh_nm hN1 h1 h2]
  rfl
theorem sh_2 {nC nR : Nat} {nf : Int32} {fx fy fz fu gp gq gz gu : Nat → Int32} (hS : zShL nC nR fx fy fz fu gp gq gz gu) (hN1 : 1 ≤ nC ∧ nC ≤ 6 ∧ 1 ≤ nR ∧ nR ≤ 6) {k : Nat} (hk : k < nC * nR) : s_L_of nC nR nf fx fy fz fu 2 ((nI k) - (nI k) / (nI nC) * (nI nC)) ((nI k) / (nI nC)) = (lp_L_sheets_36 gp gq gz k (nC * nR)).2 := by
  obtain ⟨h1, h2, h3⟩ := sg_lt hN1 hk
  have h36 := sh_36 hN1
  obtain ⟨e1, e2⟩ := sh_rc hN1 hk
  rw [e1, e2, sh_l36 (by omega) _ h36, (sh_at hS hN1 hk).2]
  show (if k_X4_above nC nR nf fx fy fz (nI (k % nC)) (nI (k / nC)) = 0 then s_X4_above nC nR nf fx fy fz (nI (k % nC)) (nI (k / nC)) else (-1001)) = _
  unfold k_X4_above s_X4_above s_X1_panelsAbove
  rw [sh_rp hN1 h1 h2, if_pos rfl, if_pos rfl, if_pos rfl, sh_hp hN1 h1 h2, if_neg (by decide), z_nmb]
  exact p_hct (show sg nC nR k < 36 by omega) (nC * nR) h36
theorem sh_3 {nC nR : Nat} {nf : Int32} {fx fy fz fu gp gq gz gu : Nat → Int32} (hS : zShL nC nR fx fy fz fu gp gq gz gu) (hN1 : 1 ≤ nC ∧ nC ≤ 6 ∧ 1 ≤ nR ∧ nR ≤ 6) {k : Nat} (hk : k < nC * nR) : s_L_of nC nR nf fx fy fz fu 3 ((nI k) - (nI k) / (nI nC) * (nI nC)) ((nI k) / (nI nC)) = gu (nI k).toNatClampNeg := by
  obtain ⟨h1, h2, h3⟩ := sg_lt hN1 hk
  have h36 := sh_36 hN1
  obtain ⟨e1, e2⟩ := sh_rc hN1 hk
  have hu := (sh_k hS hN1 hk).2.2.2
  rw [e1, e2, nI_clamp (by omega), hu.1]
  show (if k_X4_isUp nC nR nf fu (nI (k % nC)) (nI (k / nC)) = 0 then (if (s_X4_isUp nC nR nf fu (nI (k % nC)) (nI (k / nC))) = 0 then 0 else 1) else (-1001)) = _
  unfold k_X4_isUp s_X4_isUp s_X1_liesFaceUp
  rw [sh_rp hN1 h1 h2, if_pos rfl, if_pos rfl, if_pos rfl, sh_hp hN1 h1 h2, if_neg (show ¬ (1 : Int32) = 0 by decide), sh_nm hN1 h1 h2]
  show (if (if fu (sg nC nR k) = 0 then (0 : Int32) else 1) = 0 then (0 : Int32) else 1) = _
  rcases hu.2 with h | h <;> rw [h] <;> decide
theorem sh_e (y : Int32) : -181 ≤ (v_L_sheets_295 y).toInt ∧ (v_L_sheets_295 y).toInt ≤ 179 := by
  unfold v_L_sheets_295
  split
  · decide
  · have := l_off (y >>> ((5 : Int32) &&& 31)) (n := 360) (c := 180) 360 180 rfl rfl (by decide) (by decide) (by decide)
    omega
theorem sh_n (y : Int32) : -90 ≤ (v_L_sheets_263 y).toInt ∧ (v_L_sheets_263 y).toInt ≤ 90 := by
  unfold v_L_sheets_263
  have := l_off y (n := 181) (c := 90) 181 90 rfl rfl (by decide) (by decide) (by decide)
  omega
theorem sh_mc {e : Int32} {nC : Nat} (h1 : 1 ≤ nC ∧ nC ≤ 6) (he : -181 ≤ e.toInt ∧ e.toInt ≤ 179) : ((e + 180) * nI nC).toInt = (e.toInt + 180) * nC := by
  have e8 : (180 : Int32).toInt = 180 := rfl
  have ea : (e + 180).toInt = e.toInt + 180 := by
    rw [z_addI (by rw [e8]; omega) (by rw [e8]; omega), e8]
  have ec : (nI nC).toInt = (nC : Int) := nI_toInt (by omega)
  rcases (show nC = 1 ∨ nC = 2 ∨ nC = 3 ∨ nC = 4 ∨ nC = 5 ∨ nC = 6 by omega) with rfl | rfl | rfl | rfl | rfl | rfl <;> rw [z_mulI (by rw [ea, ec]; omega) (by rw [ea, ec]; omega), ea, ec]
theorem sh_k1 {k : Nat} (m : Int32) (q : Nat) (hm : m = nI q) (hk : k ≤ 100) (hq : q ≤ 360) : ((nI k + 1) * m).toInt = ((k + 1) * q : Nat) := by
  rw [hm, nI_1, pk_mul, nI_toInt]
  have : (k + 1) * q ≤ 101 * 360 := Nat.mul_le_mul (by omega) hq
  omega
theorem sh_cl {nC : Nat} {e : Int32} (h1 : 1 ≤ nC ∧ nC ≤ 6) (he : -181 ≤ e.toInt ∧ e.toInt ≤ 179) : sh_c nC e ≤ 5 := by
  unfold sh_c
  have : (e.toInt + 180).toNat * nC ≤ 359 * 6 := Nat.mul_le_mul (by omega) h1.2
  omega
theorem sh_ciff {y : Int32} {nC k : Nat} (h1 : 1 ≤ nC ∧ nC ≤ 6) (hk : k ≤ sh_c nC (v_L_sheets_295 y)) : (((v_L_sheets_295 y) + 180) * (nI nC)) < (((nI k) + 1) * 360) ↔ sh_c nC (v_L_sheets_295 y) ≤ k := by
  have he := sh_e y
  have hl := sh_cl h1 he
  rw [Int32.lt_iff_toInt_lt, sh_mc h1 he, sh_k1 360 360 rfl (by omega) (by omega)]
  unfold sh_c at hk hl ⊢
  rcases (show nC = 1 ∨ nC = 2 ∨ nC = 3 ∨ nC = 4 ∨ nC = 5 ∨ nC = 6 by omega) with rfl | rfl | rfl | rfl | rfl | rfl <;> omega
theorem sh_cge {y : Int32} {nC k : Nat} (h1 : 1 ≤ nC ∧ nC ≤ 6) (hk : k ≤ sh_c nC (v_L_sheets_295 y)) (h : (((v_L_sheets_295 y) + 180) * (nI nC)) < (((nI k) + 1) * 360)) : sh_c nC (v_L_sheets_295 y) ≤ k := (sh_ciff h1 hk).mp h
theorem sh_clt {y : Int32} {nC k : Nat} (h1 : 1 ≤ nC ∧ nC ≤ 6) (hk : k ≤ sh_c nC (v_L_sheets_295 y)) (h : ¬ (((v_L_sheets_295 y) + 180) * (nI nC)) < (((nI k) + 1) * 360)) : k < sh_c nC (v_L_sheets_295 y) := Nat.lt_of_not_le (fun q => h ((sh_ciff h1 hk).mpr q))
theorem sh_mr {n : Int32} {nR : Nat} (h1 : 1 ≤ nR ∧ nR ≤ 6) (he : -90 ≤ n.toInt ∧ n.toInt ≤ 90) : ((90 - n) * nI nR).toInt = (90 - n.toInt) * nR ∧ (90 - n).toInt = 90 - n.toInt := by
  have e8 : (90 : Int32).toInt = 90 := rfl
  have ea : (90 - n).toInt = 90 - n.toInt := by
    rw [z_subI (by rw [e8]; omega) (by rw [e8]; omega), e8]
  have ec : (nI nR).toInt = (nR : Int) := nI_toInt (by omega)
  refine ⟨?_, ea⟩
  rcases (show nR = 1 ∨ nR = 2 ∨ nR = 3 ∨ nR = 4 ∨ nR = 5 ∨ nR = 6 by omega) with rfl | rfl | rfl | rfl | rfl | rfl <;> rw [z_mulI (by rw [ea, ec]; omega) (by rw [ea, ec]; omega), ea, ec]
theorem sh_rl {nR : Nat} {n : Int32} : sh_r nR n ≤ nR - 1 := by
  unfold sh_r
  split <;> omega
theorem sh_rge1 {y : Int32} {nR k : Nat} (h1 : 1 ≤ nR ∧ nR ≤ 6) (hk : k ≤ sh_r nR (v_L_sheets_263 y)) (h : (nI nR) ≤ ((nI k) + 1)) : sh_r nR (v_L_sheets_263 y) ≤ k := by
  have hl := sh_rl (nR := nR) (n := v_L_sheets_263 y)
  rw [nI_1, nI_leI (by omega) (by omega)] at h
  omega
theorem sh_rge2 {y : Int32} {nR k : Nat} (h1 : 1 ≤ nR ∧ nR ≤ 6) (hk : k ≤ sh_r nR (v_L_sheets_263 y)) (h : ((90 - (v_L_sheets_263 y)) * (nI nR)) < (((nI k) + 1) * 180)) : sh_r nR (v_L_sheets_263 y) ≤ k := by
  have he := sh_n y
  have hl := sh_rl (nR := nR) (n := v_L_sheets_263 y)
  rw [Int32.lt_iff_toInt_lt, (sh_mr h1 he).1, sh_k1 180 180 rfl (by omega) (by omega)] at h
  unfold sh_r at hk hl ⊢
  rcases (show nR = 1 ∨ nR = 2 ∨ nR = 3 ∨ nR = 4 ∨ nR = 5 ∨ nR = 6 by omega) with rfl | rfl | rfl | rfl | rfl | rfl <;> (split <;> omega)
theorem sh_rlt {y : Int32} {nR k : Nat} (h1 : 1 ≤ nR ∧ nR ≤ 6) (hk : k ≤ sh_r nR (v_L_sheets_263 y)) (c1 : ¬ (nI nR) ≤ ((nI k) + 1)) (c2 : ¬ ((90 - (v_L_sheets_263 y)) * (nI nR)) < (((nI k) + 1) * 180)) : k < sh_r nR (v_L_sheets_263 y) := by
  have he := sh_n y
  have hl := sh_rl (nR := nR) (n := v_L_sheets_263 y)
  rw [Int32.lt_iff_toInt_lt, (sh_mr h1 he).1, sh_k1 180 180 rfl (by omega) (by omega)] at c2
  rw [nI_1, nI_leI (by omega) (by omega)] at c1
  unfold sh_r at hk hl ⊢
  rcases (show nR = 1 ∨ nR = 2 ∨ nR = 3 ∨ nR = 4 ∨ nR = 5 ∨ nR = 6 by omega) with rfl | rfl | rfl | rfl | rfl | rfl <;> (split <;> omega)
abbrev rm_L_sheets : Room := { frames := 9, cells := 700, slots := 4200, locals := 158 }
abbrev Qc_L_sheets (D : va_G) (cI cZ cJ cD : ClassId) (qo : Nat) (qm : Nat) (qb : Nat) (qr : Nat) (qf : Nat) (qw : Nat) (qh : Nat) (fw : Nat → Int32) (fh : Nat → Int32) (br : Int32) (qx : Nat) (qy : Nat) (qz : Nat) (qu : Nat) (nC : Nat) (nR : Nat) (nf : Int32) (fx : Nat → Int32) (fy : Nat → Int32) (fz : Nat → Int32) (fu : Nat → Int32) (qT : Nat) (gt : Nat → Int32) (qP : Nat) (qQ : Nat) (qZ : Nat) (qU : Nat) (gp : Nat → Int32) (gq : Nat → Int32) (gz : Nat → Int32) (gu : Nat → Int32) (y : Int32) (A : Nat → Prop) : Array Value → State → Outcome → State → Prop := va_Qi (fun (r : Int32) (_ : Unit) => r = s_L_sheets fw fh br nC nR nf fx fy fz fu gp gq gz gu y) (zPost D cI cZ cJ cD A [(qo, .inr (4, [.ref qm, .ref qb, .ref qr, .ref qf])), (qm, .inr (2, [.ref qw, .ref qh])), (qw, .inl (cI, 10, .inl fw)), (qh, .inl (cI, 10, .inl fh)), (qr, .inr (3, [.int br])), (qf, .inr (1, [.ref qx, .ref qy, .ref qz, .ref qu, .int (nI nC), .int (nI nR), .int nf])), (qx, .inl (cI, 36, .inl fx)), (qy, .inl (cI, 36, .inl fy)), (qz, .inl (cI, 36, .inl fz)), (qu, .inl (cZ, 36, .inl fu)), (qT, .inl (cI, 33, .inl gt)), (qP, .inl (cI, 36, .inl gp)), (qQ, .inl (cI, 36, .inl gq)), (qZ, .inl (cI, 36, .inl gz)), (qU, .inl (cI, 36, .inl gu))]) A
set_option maxHeartbeats 4000000 in
set_option maxRecDepth 100000 in
theorem c_L_sheets (l : Launch) (hnt : l.stackTraces = false) (D : va_G) (cI cZ cJ cD : ClassId) (qo : Nat) (qm : Nat) (qb : Nat) (qr : Nat) (qf : Nat) (qw : Nat) (qh : Nat) (fw : Nat → Int32) (fh : Nat → Int32) (br : Int32) (qx : Nat) (qy : Nat) (qz : Nat) (qu : Nat) (nC : Nat) (nR : Nat) (nf : Int32) (fx : Nat → Int32) (fy : Nat → Int32) (fz : Nat → Int32) (fu : Nat → Int32) (qT : Nat) (gt : Nat → Int32) (qP : Nat) (qQ : Nat) (qZ : Nat) (qU : Nat) (gp : Nat → Int32) (gq : Nat → Int32) (gz : Nat → Int32) (gu : Nat → Int32) (y : Int32) (sz : Nat) (hN : nC * nR ≤ 36) (hC : nC ≤ 36) (hR : nR ≤ 36) (h30 : gt 30 = nI nC) (h31 : gt 31 = nI nR) (hN1 : 1 ≤ nC ∧ nC ≤ 6 ∧ 1 ≤ nR ∧ nR ≤ 6) (hSh : zShL nC nR fx fy fz fu gp gq gz gu) : Met l yL_sheets wsL_sheets rm_L_sheets (va_Pc [.ref qo, .int y, .ref qT, .ref qP, .ref qQ, .ref qZ, .ref qU] (zPreWE D cI cZ cJ cD [(qo, .inr (4, [.ref qm, .ref qb, .ref qr, .ref qf])), (qm, .inr (2, [.ref qw, .ref qh])), (qw, .inl (cI, 10, .inl fw)), (qh, .inl (cI, 10, .inl fh)), (qr, .inr (3, [.int br])), (qf, .inr (1, [.ref qx, .ref qy, .ref qz, .ref qu, .int (nI nC), .int (nI nR), .int nf])), (qx, .inl (cI, 36, .inl fx)), (qy, .inl (cI, 36, .inl fy)), (qz, .inl (cI, 36, .inl fz)), (qu, .inl (cZ, 36, .inl fu)), (qT, .inl (cI, 33, .inl gt)), (qP, .inl (cI, 36, .inl gp)), (qQ, .inl (cI, 36, .inl gq)), (qZ, .inl (cI, 36, .inl gz)), (qU, .inl (cI, 36, .inl gu))] sz)) (Qc_L_sheets D cI cZ cJ cD qo qm qb qr qf qw qh fw fh br qx qy qz qu nC nR nf fx fy fz fu qT gt qP qQ qZ qU gp gq gz gu y (va_A [(qo, .inr (4, [.ref qm, .ref qb, .ref qr, .ref qf])), (qm, .inr (2, [.ref qw, .ref qh])), (qw, .inl (cI, 10, .inl fw)), (qh, .inl (cI, 10, .inl fh)), (qr, .inr (3, [.int br])), (qf, .inr (1, [.ref qx, .ref qy, .ref qz, .ref qu, .int (nI nC), .int (nI nR), .int nf])), (qx, .inl (cI, 36, .inl fx)), (qy, .inl (cI, 36, .inl fy)), (qz, .inl (cI, 36, .inl fz)), (qu, .inl (cZ, 36, .inl fu)), (qT, .inl (cI, 33, .inl gt)), (qP, .inl (cI, 36, .inl gp)), (qQ, .inl (cI, 36, .inl gq)), (qZ, .inl (cI, 36, .inl gz)), (qU, .inl (cI, 36, .inl gu))] sz)) 700 4200 (va_A [(qo, .inr (4, [.ref qm, .ref qb, .ref qr, .ref qf])), (qm, .inr (2, [.ref qw, .ref qh])), (qw, .inl (cI, 10, .inl fw)), (qh, .inl (cI, 10, .inl fh)), (qr, .inr (3, [.int br])), (qf, .inr (1, [.ref qx, .ref qy, .ref qz, .ref qu, .int (nI nC), .int (nI nR), .int nf])), (qx, .inl (cI, 36, .inl fx)), (qy, .inl (cI, 36, .inl fy)), (qz, .inl (cI, 36, .inl fz)), (qu, .inl (cZ, 36, .inl fu)), (qT, .inl (cI, 33, .inl gt)), (qP, .inl (cI, 36, .inl gp)), (qQ, .inl (cI, 36, .inl gq)), (qZ, .inl (cI, 36, .inl gz)), (qU, .inl (cI, 36, .inl gu))] sz) := by
  refine Met.ofW (cc := cL_sheets) (maxL := 15) (ret := (some .boolean)) (by decide) rfl ?_
  intro p e s m args below meth c s₁ B hml hv
  obtain ⟨rfl, hsz, hP, hK, hD0, hE⟩ := hv
  have hx := B.exec
  have hb := B.bytes
  have hr := B.returns
  have hts := atoms_spec (ws := wsL_sheets) B.pre
  have hown : s.vm.findClass RL = some m.cls := findClass_of_methodNamed B.named
  have hlocks := B.notSynchronized
  subst hsz
  have hD := hD0.self (sz := s.heap.size)
  generalize hAe : va_A [(qo, .inr (4, [.ref qm, .ref qb, .ref qr, .ref qf])), (qm, .inr (2, [.ref qw, .ref qh])), (qw, .inl (cI, 10, .inl fw)), (qh, .inl (cI, 10, .inl fh)), (qr, .inr (3, [.int br])), (qf, .inr (1, [.ref qx, .ref qy, .ref qz, .ref qu, .int (nI nC), .int (nI nR), .int nf])), (qx, .inl (cI, 36, .inl fx)), (qy, .inl (cI, 36, .inl fy)), (qz, .inl (cI, 36, .inl fz)), (qu, .inl (cZ, 36, .inl fu)), (qT, .inl (cI, 33, .inl gt)), (qP, .inl (cI, 36, .inl gp)), (qQ, .inl (cI, 36, .inl gq)), (qZ, .inl (cI, 36, .inl gz)), (qU, .inl (cI, 36, .inl gu))] s.heap.size = A at hE hD ⊢
  have hA : ∀ q : Nat, s.heap.size ≤ q → A q := fun q h => by rw [← hAe]; exact Or.inr h
  have hS : va_S A s.heap s.heap [] := va_S.rf
  have hl := lv_entry ([.ref qo, .int y, .ref qT, .ref qP, .ref qQ, .ref qZ, .ref qU]) (n := 15) (Nat.le_of_ble_eq_true rfl)
  rw [lg_entry_eq]
  generalize (lg_sl ([.ref qo, .int y, .ref qT, .ref qP, .ref qQ, .ref qZ, .ref qU]) ++ List.replicate (15 - (lg_sl ([.ref qo, .int y, .ref qT, .ref qP, .ref qQ, .ref qZ, .ref qU])).length) Slot.unset).toArray = ls at hl ⊢
  have hl : lv_has ls 15 [(0, .ref qo), (1, .int y), (2, .ref qT), (3, .ref qP), (4, .ref qQ), (5, .ref qZ), (6, .ref qU)] := hl
  have hP : va_P D vwCl [(qo, .inr (4, [.ref qm, .ref qb, .ref qr, .ref qf])), (qm, .inr (2, [.ref qw, .ref qh])), (qw, .inl (cI, 10, .inl fw)), (qh, .inl (cI, 10, .inl fh)), (qr, .inr (3, [.int br])), (qf, .inr (1, [.ref qx, .ref qy, .ref qz, .ref qu, .int (nI nC), .int (nI nR), .int nf])), (qx, .inl (cI, 36, .inl fx)), (qy, .inl (cI, 36, .inl fy)), (qz, .inl (cI, 36, .inl fz)), (qu, .inl (cZ, 36, .inl fu)), (qT, .inl (cI, 33, .inl gt)), (qP, .inl (cI, 36, .inl gp)), (qQ, .inl (cI, 36, .inl gq)), (qZ, .inl (cI, 36, .inl gz)), (qU, .inl (cI, 36, .inl gu))] s.heap := hP
  have hP := hP
  refine lv_aload_n hx hb dL_sheets_0 rfl (lv_at hl 2 rfl) ?_
  refine lv_bipush (v := 30) hx hb dL_sheets_1 (by decide) ?_
  refine va_iald hx hb hK hP 10 0 rfl rfl (z_inc (k := 30) rfl (by decide)) dL_sheets_3 ?_
  rw [show gt (30 : Int32).toNatClampNeg = nI nC from h30]
  refine lv_aload_n hx hb dL_sheets_4 rfl (lv_at hl 2 rfl) ?_
  refine lv_bipush (v := 31) hx hb dL_sheets_5 (by decide) ?_
  refine va_iald hx hb hK hP 10 0 rfl rfl (z_inc (k := 31) rfl (by decide)) dL_sheets_7 ?_
  rw [show gt (31 : Int32).toNatClampNeg = nI nR from h31]
  refine lv_imul hx hb dL_sheets_8 ?_
  refine lv_istore (lv' := [(7, .int ((nI nC) * (nI nR))), (0, .ref qo), (1, .int y), (2, .ref qT), (3, .ref qP), (4, .ref qQ), (5, .ref qZ), (6, .ref qU)]) hx hb dL_sheets_9 hl (by decide) rfl (fun ls hl => ?_)
  refine lv_iconst (v := 0) hx hb dL_sheets_11 (by decide) ?_
  refine lv_istore (lv' := [(8, .int 0), (7, .int ((nI nC) * (nI nR))), (0, .ref qo), (1, .int y), (2, .ref qT), (3, .ref qP), (4, .ref qQ), (5, .ref qZ), (6, .ref qU)]) hx hb dL_sheets_12 hl (by decide) rfl (fun ls hl => ?_)
  refine lv_iconst (v := 0) hx hb dL_sheets_14 (by decide) ?_
  refine lv_istore (lv' := [(9, .int 0), (8, .int 0), (7, .int ((nI nC) * (nI nR))), (0, .ref qo), (1, .int y), (2, .ref qT), (3, .ref qP), (4, .ref qQ), (5, .ref qZ), (6, .ref qU)]) hx hb dL_sheets_15 hl (by decide) rfl (fun ls hl => ?_)
  refine lv_iconst (v := 0) hx hb dL_sheets_17 (by decide) ?_
  refine lv_istore (lv' := [(10, .int 0), (9, .int 0), (8, .int 0), (7, .int ((nI nC) * (nI nR))), (0, .ref qo), (1, .int y), (2, .ref qT), (3, .ref qP), (4, .ref qQ), (5, .ref qZ), (6, .ref qU)]) hx hb dL_sheets_18 hl (by decide) rfl (fun ls hl => ?_)
  have X26 : ∀ (H : Heap) (locs : List Loc), va_P D vwCl [(qo, .inr (4, [.ref qm, .ref qb, .ref qr, .ref qf])), (qm, .inr (2, [.ref qw, .ref qh])), (qw, .inl (cI, 10, .inl fw)), (qh, .inl (cI, 10, .inl fh)), (qr, .inr (3, [.int br])), (qf, .inr (1, [.ref qx, .ref qy, .ref qz, .ref qu, .int (nI nC), .int (nI nR), .int nf])), (qx, .inl (cI, 36, .inl fx)), (qy, .inl (cI, 36, .inl fy)), (qz, .inl (cI, 36, .inl fz)), (qu, .inl (cZ, 36, .inl fu)), (qT, .inl (cI, 33, .inl gt)), (qP, .inl (cI, 36, .inl gp)), (qQ, .inl (cI, 36, .inl gq)), (qZ, .inl (cI, 36, .inl gz)), (qU, .inl (cI, 36, .inl gu))] H → va_D A [(qo, .inr (4, [.ref qm, .ref qb, .ref qr, .ref qf])), (qm, .inr (2, [.ref qw, .ref qh])), (qw, .inl (cI, 10, .inl fw)), (qh, .inl (cI, 10, .inl fh)), (qr, .inr (3, [.int br])), (qf, .inr (1, [.ref qx, .ref qy, .ref qz, .ref qu, .int (nI nC), .int (nI nR), .int nf])), (qx, .inl (cI, 36, .inl fx)), (qy, .inl (cI, 36, .inl fy)), (qz, .inl (cI, 36, .inl fz)), (qu, .inl (cZ, 36, .inl fu)), (qT, .inl (cI, 33, .inl gt)), (qP, .inl (cI, 36, .inl gp)), (qQ, .inl (cI, 36, .inl gq)), (qZ, .inl (cI, 36, .inl gz)), (qU, .inl (cI, 36, .inl gu))] → va_S A s.heap H locs → ∀ (ls : Array Slot), lv_has ls 15 [(7, .int ((nI nC) * (nI nR))), (0, .ref qo), (1, .int y), (2, .ref qT), (3, .ref qP), (4, .ref qQ), (5, .ref qZ), (6, .ref qU), (8, .int ((lp_L_sheets_20 nC nR gp gq gz gu (nC * nR)).1)), (9, .int ((lp_L_sheets_20 nC nR gp gq gz gu (nC * nR)).2))] → W p l e (headSpec wsL_sheets rm_L_sheets).room s m ([.ref qo, .int y, .ref qT, .ref qP, .ref qQ, .ref qZ, .ref qU]).toArray below meth c H locs 576 3456 (MQ below (Qc_L_sheets D cI cZ cJ cD qo qm qb qr qf qw qh fw fh br qx qy qz qu nC nR nf fx fy fz fu qT gt qP qQ qZ qU gp gq gz gu y A) ([.ref qo, .int y, .ref qT, .ref qP, .ref qQ, .ref qZ, .ref qU]).toArray s 700 4200 A) (F0 m 253 ls []) := by
    intro H locs hP hD hS ls hl
    refine lv_iload_n hx hb dL_sheets_253 rfl (lv_at hl 2 rfl) ?_
    refine lv_sipush (v := 181) hx hb dL_sheets_254 (by decide) ?_
    refine va_calli (va_runS (As := [.int y, .int 181]) (rest := []) ⟨hx, hb, hml, hown, hts⟩ (c_L_some l D cI cZ cJ cD y 181 (by decide)) (va_cwS 2 hts gL_sheets_L_some rfl rfl rfl (by decide +kernel) ⟨Nat.le_of_ble_eq_true rfl, Nat.le_of_ble_eq_true rfl⟩) ⟨zblind, (fun U hU hW => ⟨rfl, by rw [hU]; exact hP.sub (ws' := []) [] rfl, va_K.moved hW.alike hK⟩)⟩ rfl rfl hl.1 rfl (lv_room (Nat.le_of_ble_eq_true rfl)) dL_sheets_257 ⟨(show _ ≤ 700 from by omega), (show _ ≤ 4200 from by omega)⟩) hS (fun q _ h => h.elim) (fun q h => h.elim) (fun r27 u t H locs ht hvm hw hB hz1 hk1 hS => ?_)
    rw [hw]
    have hP := zk hP hk1
    refine lv_bipush (v := 90) hx hb dL_sheets_260 (by decide) ?_
    refine lv_isub hx hb dL_sheets_262 ?_
    refine lv_istore (lv' := [(10, .int ((s_L_some y 181) - 90)), (7, .int ((nI nC) * (nI nR))), (0, .ref qo), (1, .int y), (2, .ref qT), (3, .ref qP), (4, .ref qQ), (5, .ref qZ), (6, .ref qU), (8, .int ((lp_L_sheets_20 nC nR gp gq gz gu (nC * nR)).1)), (9, .int ((lp_L_sheets_20 nC nR gp gq gz gu (nC * nR)).2))]) hx hb dL_sheets_263 hl (by decide) rfl (fun ls hl => ?_)
    have hl : lv_has ls 15 [(10, .int (v_L_sheets_263 y)), (7, .int ((nI nC) * (nI nR))), (0, .ref qo), (1, .int y), (2, .ref qT), (3, .ref qP), (4, .ref qQ), (5, .ref qZ), (6, .ref qU), (8, .int ((lp_L_sheets_20 nC nR gp gq gz gu (nC * nR)).1)), (9, .int ((lp_L_sheets_20 nC nR gp gq gz gu (nC * nR)).2))] := hl
    refine lv_iload_n hx hb dL_sheets_265 rfl (lv_at hl 3 rfl) ?_
    refine lv_iconst (v := 5) hx hb dL_sheets_266 (by decide) ?_
    refine lv_ishr hx hb dL_sheets_267 ?_
    refine lv_bipush (v := 60) hx hb dL_sheets_268 (by decide) ?_
    refine va_calli (va_runS (As := [.int (y >>> ((5 : Int32) &&& 31)), .int 60]) (rest := []) ⟨hx, hb, hml, hown, hts⟩ (c_L_some l D cI cZ cJ cD (y >>> ((5 : Int32) &&& 31)) 60 (by decide)) (va_cwS 2 hts gL_sheets_L_some rfl rfl rfl (by decide +kernel) ⟨Nat.le_of_ble_eq_true rfl, Nat.le_of_ble_eq_true rfl⟩) ⟨zblind, (fun U hU hW => ⟨rfl, by rw [hU]; exact hP.sub (ws' := []) [] rfl, va_K.moved hW.alike hK⟩)⟩ rfl rfl hl.1 rfl (lv_room (Nat.le_of_ble_eq_true rfl)) dL_sheets_270 ⟨(show _ ≤ 700 from by omega), (show _ ≤ 4200 from by omega)⟩) hS (fun q _ h => h.elim) (fun q h => h.elim) (fun r28 u t H locs ht hvm hw hB hz1 hk1 hS => ?_)
    rw [hw]
    have hP := zk hP hk1
    have K30 : ∀ v30_0 : Int32, v30_0 = (if (s_L_some (y >>> ((5 : Int32) &&& 31)) 60) = 0 then (-181) else (s_L_some (y >>> ((5 : Int32) &&& 31)) 360) - 180) → ∀ (H : Heap) (locs : List Loc), va_P D vwCl [(qo, .inr (4, [.ref qm, .ref qb, .ref qr, .ref qf])), (qm, .inr (2, [.ref qw, .ref qh])), (qw, .inl (cI, 10, .inl fw)), (qh, .inl (cI, 10, .inl fh)), (qr, .inr (3, [.int br])), (qf, .inr (1, [.ref qx, .ref qy, .ref qz, .ref qu, .int (nI nC), .int (nI nR), .int nf])), (qx, .inl (cI, 36, .inl fx)), (qy, .inl (cI, 36, .inl fy)), (qz, .inl (cI, 36, .inl fz)), (qu, .inl (cZ, 36, .inl fu)), (qT, .inl (cI, 33, .inl gt)), (qP, .inl (cI, 36, .inl gp)), (qQ, .inl (cI, 36, .inl gq)), (qZ, .inl (cI, 36, .inl gz)), (qU, .inl (cI, 36, .inl gu))] H → va_D A [(qo, .inr (4, [.ref qm, .ref qb, .ref qr, .ref qf])), (qm, .inr (2, [.ref qw, .ref qh])), (qw, .inl (cI, 10, .inl fw)), (qh, .inl (cI, 10, .inl fh)), (qr, .inr (3, [.int br])), (qf, .inr (1, [.ref qx, .ref qy, .ref qz, .ref qu, .int (nI nC), .int (nI nR), .int nf])), (qx, .inl (cI, 36, .inl fx)), (qy, .inl (cI, 36, .inl fy)), (qz, .inl (cI, 36, .inl fz)), (qu, .inl (cZ, 36, .inl fu)), (qT, .inl (cI, 33, .inl gt)), (qP, .inl (cI, 36, .inl gp)), (qQ, .inl (cI, 36, .inl gq)), (qZ, .inl (cI, 36, .inl gz)), (qU, .inl (cI, 36, .inl gu))] → va_S A s.heap H locs → ∀ (ls : Array Slot), lv_has ls 15 [(10, .int (v_L_sheets_263 y)), (7, .int ((nI nC) * (nI nR))), (0, .ref qo), (1, .int y), (2, .ref qT), (3, .ref qP), (4, .ref qQ), (5, .ref qZ), (6, .ref qU), (8, .int ((lp_L_sheets_20 nC nR gp gq gz gu (nC * nR)).1)), (9, .int ((lp_L_sheets_20 nC nR gp gq gz gu (nC * nR)).2))] → W p l e (headSpec wsL_sheets rm_L_sheets).room s m ([.ref qo, .int y, .ref qT, .ref qP, .ref qQ, .ref qZ, .ref qU]).toArray below meth c H locs 576 3456 (MQ below (Qc_L_sheets D cI cZ cJ cD qo qm qb qr qf qw qh fw fh br qx qy qz qu nC nR nf fx fy fz fu qT gt qP qQ qZ qU gp gq gz gu y A) ([.ref qo, .int y, .ref qT, .ref qP, .ref qQ, .ref qZ, .ref qU]).toArray s 700 4200 A) (F0 m 295 ls [.int v30_0]) := by
      intro v30_0 hv30_0 H locs hP hD hS ls hl
      subst hv30_0
      refine lv_istore (lv' := [(11, .int (if (s_L_some (y >>> ((5 : Int32) &&& 31)) 60) = 0 then (-181) else (s_L_some (y >>> ((5 : Int32) &&& 31)) 360) - 180)), (10, .int (v_L_sheets_263 y)), (7, .int ((nI nC) * (nI nR))), (0, .ref qo), (1, .int y), (2, .ref qT), (3, .ref qP), (4, .ref qQ), (5, .ref qZ), (6, .ref qU), (8, .int ((lp_L_sheets_20 nC nR gp gq gz gu (nC * nR)).1)), (9, .int ((lp_L_sheets_20 nC nR gp gq gz gu (nC * nR)).2))]) hx hb dL_sheets_295 hl (by decide) rfl (fun ls hl => ?_)
      have hl : lv_has ls 15 [(11, .int (v_L_sheets_295 y)), (10, .int (v_L_sheets_263 y)), (7, .int ((nI nC) * (nI nR))), (0, .ref qo), (1, .int y), (2, .ref qT), (3, .ref qP), (4, .ref qQ), (5, .ref qZ), (6, .ref qU), (8, .int ((lp_L_sheets_20 nC nR gp gq gz gu (nC * nR)).1)), (9, .int ((lp_L_sheets_20 nC nR gp gq gz gu (nC * nR)).2))] := hl
      refine lv_iconst (v := 0) hx hb dL_sheets_297 (by decide) ?_
      refine lv_istore (lv' := [(12, .int 0), (11, .int (v_L_sheets_295 y)), (10, .int (v_L_sheets_263 y)), (7, .int ((nI nC) * (nI nR))), (0, .ref qo), (1, .int y), (2, .ref qT), (3, .ref qP), (4, .ref qQ), (5, .ref qZ), (6, .ref qU), (8, .int ((lp_L_sheets_20 nC nR gp gq gz gu (nC * nR)).1)), (9, .int ((lp_L_sheets_20 nC nR gp gq gz gu (nC * nR)).2))]) hx hb dL_sheets_298 hl (by decide) rfl (fun ls hl => ?_)
      have X31 : ∀ (H : Heap) (locs : List Loc), va_P D vwCl [(qo, .inr (4, [.ref qm, .ref qb, .ref qr, .ref qf])), (qm, .inr (2, [.ref qw, .ref qh])), (qw, .inl (cI, 10, .inl fw)), (qh, .inl (cI, 10, .inl fh)), (qr, .inr (3, [.int br])), (qf, .inr (1, [.ref qx, .ref qy, .ref qz, .ref qu, .int (nI nC), .int (nI nR), .int nf])), (qx, .inl (cI, 36, .inl fx)), (qy, .inl (cI, 36, .inl fy)), (qz, .inl (cI, 36, .inl fz)), (qu, .inl (cZ, 36, .inl fu)), (qT, .inl (cI, 33, .inl gt)), (qP, .inl (cI, 36, .inl gp)), (qQ, .inl (cI, 36, .inl gq)), (qZ, .inl (cI, 36, .inl gz)), (qU, .inl (cI, 36, .inl gu))] H → va_D A [(qo, .inr (4, [.ref qm, .ref qb, .ref qr, .ref qf])), (qm, .inr (2, [.ref qw, .ref qh])), (qw, .inl (cI, 10, .inl fw)), (qh, .inl (cI, 10, .inl fh)), (qr, .inr (3, [.int br])), (qf, .inr (1, [.ref qx, .ref qy, .ref qz, .ref qu, .int (nI nC), .int (nI nR), .int nf])), (qx, .inl (cI, 36, .inl fx)), (qy, .inl (cI, 36, .inl fy)), (qz, .inl (cI, 36, .inl fz)), (qu, .inl (cZ, 36, .inl fu)), (qT, .inl (cI, 33, .inl gt)), (qP, .inl (cI, 36, .inl gp)), (qQ, .inl (cI, 36, .inl gq)), (qZ, .inl (cI, 36, .inl gz)), (qU, .inl (cI, 36, .inl gu))] → va_S A s.heap H locs → ∀ (ls : Array Slot), lv_has ls 15 [(11, .int (v_L_sheets_295 y)), (10, .int (v_L_sheets_263 y)), (7, .int ((nI nC) * (nI nR))), (0, .ref qo), (1, .int y), (2, .ref qT), (3, .ref qP), (4, .ref qQ), (5, .ref qZ), (6, .ref qU), (8, .int ((lp_L_sheets_20 nC nR gp gq gz gu (nC * nR)).1)), (9, .int ((lp_L_sheets_20 nC nR gp gq gz gu (nC * nR)).2)), (12, .int (nI (sh_c nC (v_L_sheets_295 y))))] → W p l e (headSpec wsL_sheets rm_L_sheets).room s m ([.ref qo, .int y, .ref qT, .ref qP, .ref qQ, .ref qZ, .ref qU]).toArray below meth c H locs 576 3456 (MQ below (Qc_L_sheets D cI cZ cJ cD qo qm qb qr qf qw qh fw fh br qx qy qz qu nC nR nf fx fy fz fu qT gt qP qQ qZ qU gp gq gz gu y A) ([.ref qo, .int y, .ref qT, .ref qP, .ref qQ, .ref qZ, .ref qU]).toArray s 700 4200 A) (F0 m 328 ls []) := by
        intro H locs hP hD hS ls hl
        refine lv_iconst (v := 0) hx hb dL_sheets_328 (by decide) ?_
        refine lv_istore (lv' := [(13, .int 0), (11, .int (v_L_sheets_295 y)), (10, .int (v_L_sheets_263 y)), (7, .int ((nI nC) * (nI nR))), (0, .ref qo), (1, .int y), (2, .ref qT), (3, .ref qP), (4, .ref qQ), (5, .ref qZ), (6, .ref qU), (8, .int ((lp_L_sheets_20 nC nR gp gq gz gu (nC * nR)).1)), (9, .int ((lp_L_sheets_20 nC nR gp gq gz gu (nC * nR)).2)), (12, .int (nI (sh_c nC (v_L_sheets_295 y))))]) hx hb dL_sheets_329 hl (by decide) rfl (fun ls hl => ?_)
        have X32 : ∀ (H : Heap) (locs : List Loc), va_P D vwCl [(qo, .inr (4, [.ref qm, .ref qb, .ref qr, .ref qf])), (qm, .inr (2, [.ref qw, .ref qh])), (qw, .inl (cI, 10, .inl fw)), (qh, .inl (cI, 10, .inl fh)), (qr, .inr (3, [.int br])), (qf, .inr (1, [.ref qx, .ref qy, .ref qz, .ref qu, .int (nI nC), .int (nI nR), .int nf])), (qx, .inl (cI, 36, .inl fx)), (qy, .inl (cI, 36, .inl fy)), (qz, .inl (cI, 36, .inl fz)), (qu, .inl (cZ, 36, .inl fu)), (qT, .inl (cI, 33, .inl gt)), (qP, .inl (cI, 36, .inl gp)), (qQ, .inl (cI, 36, .inl gq)), (qZ, .inl (cI, 36, .inl gz)), (qU, .inl (cI, 36, .inl gu))] H → va_D A [(qo, .inr (4, [.ref qm, .ref qb, .ref qr, .ref qf])), (qm, .inr (2, [.ref qw, .ref qh])), (qw, .inl (cI, 10, .inl fw)), (qh, .inl (cI, 10, .inl fh)), (qr, .inr (3, [.int br])), (qf, .inr (1, [.ref qx, .ref qy, .ref qz, .ref qu, .int (nI nC), .int (nI nR), .int nf])), (qx, .inl (cI, 36, .inl fx)), (qy, .inl (cI, 36, .inl fy)), (qz, .inl (cI, 36, .inl fz)), (qu, .inl (cZ, 36, .inl fu)), (qT, .inl (cI, 33, .inl gt)), (qP, .inl (cI, 36, .inl gp)), (qQ, .inl (cI, 36, .inl gq)), (qZ, .inl (cI, 36, .inl gz)), (qU, .inl (cI, 36, .inl gu))] → va_S A s.heap H locs → ∀ (ls : Array Slot), lv_has ls 15 [(11, .int (v_L_sheets_295 y)), (10, .int (v_L_sheets_263 y)), (7, .int ((nI nC) * (nI nR))), (0, .ref qo), (1, .int y), (2, .ref qT), (3, .ref qP), (4, .ref qQ), (5, .ref qZ), (6, .ref qU), (8, .int ((lp_L_sheets_20 nC nR gp gq gz gu (nC * nR)).1)), (9, .int ((lp_L_sheets_20 nC nR gp gq gz gu (nC * nR)).2)), (12, .int (nI (sh_c nC (v_L_sheets_295 y)))), (13, .int (nI (sh_r nR (v_L_sheets_263 y))))] → W p l e (headSpec wsL_sheets rm_L_sheets).room s m ([.ref qo, .int y, .ref qT, .ref qP, .ref qQ, .ref qZ, .ref qU]).toArray below meth c H locs 576 3456 (MQ below (Qc_L_sheets D cI cZ cJ cD qo qm qb qr qf qw qh fw fh br qx qy qz qu nC nR nf fx fy fz fu qT gt qP qQ qZ qU gp gq gz gu y A) ([.ref qo, .int y, .ref qT, .ref qP, .ref qQ, .ref qZ, .ref qU]).toArray s 700 4200 A) (F0 m 369 ls []) := by
          intro H locs hP hD hS ls hl
          refine lv_aload_n hx hb dL_sheets_369 rfl (lv_at hl 3 rfl) ?_
          refine va_calli (va_runV (As := []) (rest := []) ⟨hx, hb, hml, hown, hts⟩ (c_X4_thickness l D cI cZ cJ cD qo qm qb qr qf qx qy qz qu nC nR nf fx fy fz hN) (cwV 0 hts gL_sheets_X4_thickness rfl rfl rfl (by decide +kernel) ⟨Nat.le_of_ble_eq_true rfl, Nat.le_of_ble_eq_true rfl⟩) ⟨zblind, va_recv hK hP (ci := 4) (q0 := 0) rfl rfl, (fun U hU hW => ⟨rfl, by rw [hU]; exact hP.sub (ws' := [(qo, .inr (4, [.ref qm, .ref qb, .ref qr, .ref qf])), (qf, .inr (1, [.ref qx, .ref qy, .ref qz, .ref qu, .int (nI nC), .int (nI nR), .int nf])), (qx, .inl (cI, 36, .inl fx)), (qy, .inl (cI, 36, .inl fy)), (qz, .inl (cI, 36, .inl fz))]) [0, 5, 6, 7, 8] rfl, va_K.moved hW.alike hK⟩)⟩ rfl rfl hl.1 rfl (lv_room (Nat.le_of_ble_eq_true rfl)) dL_sheets_370 ⟨(show _ ≤ 700 from by omega), (show _ ≤ 4200 from by omega)⟩) hS (fun q _ h => h.elim) (fun q h => h.elim) (fun r33 u t H locs ht hvm hw hB hz1 hk1 hS => ?_)
          rw [hw]
          have hP := zk hP hk1
          refine lv_iload hx hb dL_sheets_373 (lv_at hl 10 rfl) ?_
          refine lv_icmp_ne (tgt := 484) hx hb dL_sheets_375 (by decide) (fun c34 => ?_) (fun c34 => ?_)
          · refine lv_iconst (v := 0) hx hb dL_sheets_484 (by decide) ?_
            refine W.widen (k := 700) (n := 4200) (by decide) (by decide) ?_
            have e35 : s_L_sheets fw fh br nC nR nf fx fy fz fu gp gq gz gu y = 0 := by
              unfold s_L_sheets
              exact (if_neg c34)
            exact W.zret (v := 0) hx hb hr (z_b (by (repeat' split) <;> simp)) (fun t ht hW => ⟨⟨_, (), rfl, e35.symm, ⟨(by rw [ht]; exact hP), va_K.moved hW.alike hK, hD⟩⟩, hS.F ht⟩) hS.2.2 dL_sheets_485
          · refine lv_aload_n hx hb dL_sheets_378 rfl (lv_at hl 3 rfl) ?_
            refine va_calli (va_runV (As := []) (rest := []) ⟨hx, hb, hml, hown, hts⟩ (c_X4_readable l D cI cZ cJ cD qo qm qb qr qf qx qy qz qu nC nR nf fx fy fz fu hN) (cwV 0 hts gL_sheets_X4_readable rfl rfl rfl (by decide +kernel) ⟨Nat.le_of_ble_eq_true rfl, Nat.le_of_ble_eq_true rfl⟩) ⟨zblind, va_recv hK hP (ci := 4) (q0 := 0) rfl rfl, (fun U hU hW => ⟨rfl, by rw [hU]; exact hP.sub (ws' := [(qo, .inr (4, [.ref qm, .ref qb, .ref qr, .ref qf])), (qf, .inr (1, [.ref qx, .ref qy, .ref qz, .ref qu, .int (nI nC), .int (nI nR), .int nf])), (qx, .inl (cI, 36, .inl fx)), (qy, .inl (cI, 36, .inl fy)), (qz, .inl (cI, 36, .inl fz)), (qu, .inl (cZ, 36, .inl fu))]) [0, 5, 6, 7, 8, 9] rfl, va_K.moved hW.alike hK⟩)⟩ rfl rfl hl.1 rfl (lv_room (Nat.le_of_ble_eq_true rfl)) dL_sheets_379 ⟨(show _ ≤ 700 from by omega), (show _ ≤ 4200 from by omega)⟩) hS (fun q _ h => h.elim) (fun q h => h.elim) (fun r36 u t H locs ht hvm hw hB hz1 hk1 hS => ?_)
            rw [hw]
            have hP := zk hP hk1
            refine lv_iload hx hb dL_sheets_382 (lv_at hl 11 rfl) ?_
            refine lv_icmp_ne (tgt := 484) hx hb dL_sheets_384 (by decide) (fun c37 => ?_) (fun c37 => ?_)
            · refine lv_iconst (v := 0) hx hb dL_sheets_484 (by decide) ?_
              refine W.widen (k := 700) (n := 4200) (by decide) (by decide) ?_
              have e38 : s_L_sheets fw fh br nC nR nf fx fy fz fu gp gq gz gu y = 0 := by
                unfold s_L_sheets
                exact ((if_pos c34).trans (if_neg c37))
              exact W.zret (v := 0) hx hb hr (z_b (by (repeat' split) <;> simp)) (fun t ht hW => ⟨⟨_, (), rfl, e38.symm, ⟨(by rw [ht]; exact hP), va_K.moved hW.alike hK, hD⟩⟩, hS.F ht⟩) hS.2.2 dL_sheets_485
            · refine lv_aload_n hx hb dL_sheets_387 rfl (lv_at hl 3 rfl) ?_
              refine lv_bipush (v := 7) hx hb dL_sheets_388 (by decide) ?_
              refine lv_iload hx hb dL_sheets_390 (lv_at hl 1 rfl) ?_
              refine lv_iload hx hb dL_sheets_392 (lv_at hl 0 rfl) ?_
              refine lv_iconst (v := 0) hx hb dL_sheets_394 (by decide) ?_
              have hPc := hP.sub (ws' := [(qo, .inr (4, [.ref qm, .ref qb, .ref qr, .ref qf])), (qm, .inr (2, [.ref qw, .ref qh])), (qw, .inl (cI, 10, .inl fw)), (qh, .inl (cI, 10, .inl fh)), (qr, .inr (3, [.int br])), (qf, .inr (1, [.ref qx, .ref qy, .ref qz, .ref qu, .int (nI nC), .int (nI nR), .int nf]))]) [0, 1, 2, 3, 4, 5] rfl
              have hDc := hD.sub (ws' := [(qo, .inr (4, [.ref qm, .ref qb, .ref qr, .ref qf])), (qm, .inr (2, [.ref qw, .ref qh])), (qw, .inl (cI, 10, .inl fw)), (qh, .inl (cI, 10, .inl fh)), (qr, .inr (3, [.int br])), (qf, .inr (1, [.ref qx, .ref qy, .ref qz, .ref qu, .int (nI nC), .int (nI nR), .int nf]))]) [0, 1, 2, 3, 4, 5] (by decide) rfl
              have hFc := va_free (wc := [(qo, .inr (4, [.ref qm, .ref qb, .ref qr, .ref qf])), (qm, .inr (2, [.ref qw, .ref qh])), (qw, .inl (cI, 10, .inl fw)), (qh, .inl (cI, 10, .inl fh)), (qr, .inr (3, [.int br])), (qf, .inr (1, [.ref qx, .ref qy, .ref qz, .ref qu, .int (nI nC), .int (nI nR), .int nf]))]) hD hS hA [0, 1, 2, 3, 4, 5] rfl
              refine vx_calli (vx_runSX (As := [.ref qo, .int 7, .int (v_L_sheets_263 y), .int (v_L_sheets_295 y), .int 0]) (rest := []) ⟨hx, hb, hml, hown, hts⟩ (c_L_byK l hnt D cI cZ cJ cD qo qm qb qr qf qw qh fw fh br qx qy qz qu nC nR nf 7 (v_L_sheets_263 y) (v_L_sheets_295 y) 0 H.size (by decide)) (vx_cwSW 5 hts gL_sheets_L_by rfl rfl rfl (by decide +kernel) ⟨Nat.le_of_ble_eq_true rfl, Nat.le_of_ble_eq_true rfl⟩) ⟨zblindWE, (fun U hU hW => ⟨rfl, by rw [hU], by rw [hU]; exact hPc, va_K.moved hW.alike hK, hDc.weaken (fun _ _ _ _ => trivial), zEnv.go hE hS hFc hU hW⟩)⟩ rfl rfl hl.1 rfl (lv_room (Nat.le_of_ble_eq_true rfl)) dL_sheets_395 ⟨(show _ ≤ 700 from by omega), (show _ ≤ 4200 from by omega)⟩) hS (fun q _ h => hFc q h) hFc (fun q _ h => hFc q h) (fun E ce q9 u t H locs ht hvm hpx hB hz1 hk1 hS hq9 hce hcl => ?_) (fun r39 u t H locs ht hvm hw hB hz1 hk1 hS => ?_)
              · exact hB.elim
              rw [hw]
              obtain ⟨hP1, hK1, hD1⟩ := hB
              rw [ht] at hP1
              obtain ⟨hP, hD⟩ := va_join (wr := [(qx, .inl (cI, 36, .inl fx)), (qy, .inl (cI, 36, .inl fy)), (qz, .inl (cI, 36, .inl fz)), (qu, .inl (cZ, 36, .inl fu)), (qT, .inl (cI, 33, .inl gt)), (qP, .inl (cI, 36, .inl gp)), (qQ, .inl (cI, 36, .inl gq)), (qZ, .inl (cI, 36, .inl gz)), (qU, .inl (cI, 36, .inl gu))]) (w1 := [(qo, .inr (4, [.ref qm, .ref qb, .ref qr, .ref qf])), (qm, .inr (2, [.ref qw, .ref qh])), (qw, .inl (cI, 10, .inl fw)), (qh, .inl (cI, 10, .inl fh)), (qr, .inr (3, [.int br])), (qf, .inr (1, [.ref qx, .ref qy, .ref qz, .ref qu, .int (nI nC), .int (nI nR), .int nf]))]) hP hD [0, 1, 2, 3, 4, 5] [6, 7, 8, 9, 10, 11, 12, 13, 14] rfl rfl (by decide) (by decide) hk1 hFc hP1 hD1
              have hP := hP.sub (ws' := [(qo, .inr (4, [.ref qm, .ref qb, .ref qr, .ref qf])), (qm, .inr (2, [.ref qw, .ref qh])), (qw, .inl (cI, 10, .inl fw)), (qh, .inl (cI, 10, .inl fh)), (qr, .inr (3, [.int br])), (qf, .inr (1, [.ref qx, .ref qy, .ref qz, .ref qu, .int (nI nC), .int (nI nR), .int nf])), (qx, .inl (cI, 36, .inl fx)), (qy, .inl (cI, 36, .inl fy)), (qz, .inl (cI, 36, .inl fz)), (qu, .inl (cZ, 36, .inl fu)), (qT, .inl (cI, 33, .inl gt)), (qP, .inl (cI, 36, .inl gp)), (qQ, .inl (cI, 36, .inl gq)), (qZ, .inl (cI, 36, .inl gz)), (qU, .inl (cI, 36, .inl gu))]) [9, 10, 11, 12, 13, 14, 0, 1, 2, 3, 4, 5, 6, 7, 8] rfl
              have hD := hD.sub (ws' := [(qo, .inr (4, [.ref qm, .ref qb, .ref qr, .ref qf])), (qm, .inr (2, [.ref qw, .ref qh])), (qw, .inl (cI, 10, .inl fw)), (qh, .inl (cI, 10, .inl fh)), (qr, .inr (3, [.int br])), (qf, .inr (1, [.ref qx, .ref qy, .ref qz, .ref qu, .int (nI nC), .int (nI nR), .int nf])), (qx, .inl (cI, 36, .inl fx)), (qy, .inl (cI, 36, .inl fy)), (qz, .inl (cI, 36, .inl fz)), (qu, .inl (cZ, 36, .inl fu)), (qT, .inl (cI, 33, .inl gt)), (qP, .inl (cI, 36, .inl gp)), (qQ, .inl (cI, 36, .inl gq)), (qZ, .inl (cI, 36, .inl gz)), (qU, .inl (cI, 36, .inl gu))]) [9, 10, 11, 12, 13, 14, 0, 1, 2, 3, 4, 5, 6, 7, 8] (by decide) rfl
              refine W.widen (k := 592) (n := 3552) (by omega) (by omega) ?_
              refine lv_iload hx hb dL_sheets_398 (lv_at hl 0 rfl) ?_
              refine lv_sipush (v := (-180)) hx hb dL_sheets_400 (by decide) ?_
              have K41 : ∀ v41_0 : Int32, v41_0 = (if (-180) ≤ (v_L_sheets_295 y) then (10 * (nI (sh_c nC (v_L_sheets_295 y)))) + (nI (sh_r nR (v_L_sheets_263 y))) else (-9000001)) → ∀ (H : Heap) (locs : List Loc), va_P D vwCl [(qo, .inr (4, [.ref qm, .ref qb, .ref qr, .ref qf])), (qm, .inr (2, [.ref qw, .ref qh])), (qw, .inl (cI, 10, .inl fw)), (qh, .inl (cI, 10, .inl fh)), (qr, .inr (3, [.int br])), (qf, .inr (1, [.ref qx, .ref qy, .ref qz, .ref qu, .int (nI nC), .int (nI nR), .int nf])), (qx, .inl (cI, 36, .inl fx)), (qy, .inl (cI, 36, .inl fy)), (qz, .inl (cI, 36, .inl fz)), (qu, .inl (cZ, 36, .inl fu)), (qT, .inl (cI, 33, .inl gt)), (qP, .inl (cI, 36, .inl gp)), (qQ, .inl (cI, 36, .inl gq)), (qZ, .inl (cI, 36, .inl gz)), (qU, .inl (cI, 36, .inl gu))] H → va_D A [(qo, .inr (4, [.ref qm, .ref qb, .ref qr, .ref qf])), (qm, .inr (2, [.ref qw, .ref qh])), (qw, .inl (cI, 10, .inl fw)), (qh, .inl (cI, 10, .inl fh)), (qr, .inr (3, [.int br])), (qf, .inr (1, [.ref qx, .ref qy, .ref qz, .ref qu, .int (nI nC), .int (nI nR), .int nf])), (qx, .inl (cI, 36, .inl fx)), (qy, .inl (cI, 36, .inl fy)), (qz, .inl (cI, 36, .inl fz)), (qu, .inl (cZ, 36, .inl fu)), (qT, .inl (cI, 33, .inl gt)), (qP, .inl (cI, 36, .inl gp)), (qQ, .inl (cI, 36, .inl gq)), (qZ, .inl (cI, 36, .inl gz)), (qU, .inl (cI, 36, .inl gu))] → va_S A s.heap H locs → ∀ (ls : Array Slot), lv_has ls 15 [(11, .int (v_L_sheets_295 y)), (10, .int (v_L_sheets_263 y)), (7, .int ((nI nC) * (nI nR))), (0, .ref qo), (1, .int y), (2, .ref qT), (3, .ref qP), (4, .ref qQ), (5, .ref qZ), (6, .ref qU), (8, .int ((lp_L_sheets_20 nC nR gp gq gz gu (nC * nR)).1)), (9, .int ((lp_L_sheets_20 nC nR gp gq gz gu (nC * nR)).2)), (12, .int (nI (sh_c nC (v_L_sheets_295 y)))), (13, .int (nI (sh_r nR (v_L_sheets_263 y))))] → W p l e (headSpec wsL_sheets rm_L_sheets).room s m ([.ref qo, .int y, .ref qT, .ref qP, .ref qQ, .ref qZ, .ref qU]).toArray below meth c H locs 592 3552 (MQ below (Qc_L_sheets D cI cZ cJ cD qo qm qb qr qf qw qh fw fh br qx qy qz qu nC nR nf fx fy fz fu qT gt qP qQ qZ qU gp gq gz gu y A) ([.ref qo, .int y, .ref qT, .ref qP, .ref qQ, .ref qZ, .ref qU]).toArray s 700 4200 A) (F0 m 419 ls [.int v41_0, .int (s_L_by fw fh br nC nR nf 7 (v_L_sheets_263 y) (v_L_sheets_295 y) 0)]) := by
                intro v41_0 hv41_0 H locs hP hD hS ls hl
                subst hv41_0
                refine lv_icmp_ne (tgt := 484) hx hb dL_sheets_419 (by decide) (fun c42 => ?_) (fun c42 => ?_)
                · refine lv_iconst (v := 0) hx hb dL_sheets_484 (by decide) ?_
                  refine W.widen (k := 700) (n := 4200) (by decide) (by decide) ?_
                  have e43 : s_L_sheets fw fh br nC nR nf fx fy fz fu gp gq gz gu y = 0 := by
                    unfold s_L_sheets
                    exact ((if_pos c34).trans ((if_pos c37).trans (if_neg c42)))
                  exact W.zret (v := 0) hx hb hr (z_b (by (repeat' split) <;> simp)) (fun t ht hW => ⟨⟨_, (), rfl, e43.symm, ⟨(by rw [ht]; exact hP), va_K.moved hW.alike hK, hD⟩⟩, hS.F ht⟩) hS.2.2 dL_sheets_485
                · refine lv_aload_n hx hb dL_sheets_422 rfl (lv_at hl 3 rfl) ?_
                  refine lv_iconst (v := 0) hx hb dL_sheets_423 (by decide) ?_
                  refine lv_aload_n hx hb dL_sheets_424 rfl (lv_at hl 5 rfl) ?_
                  refine lv_bipush (v := 30) hx hb dL_sheets_425 (by decide) ?_
                  refine va_iald hx hb hK hP 10 0 rfl rfl (z_inc (k := 30) rfl (by decide)) dL_sheets_427 ?_
                  rw [show gt (30 : Int32).toNatClampNeg = nI nC from h30]
                  refine lv_iconst (v := 0) hx hb dL_sheets_428 (by decide) ?_
                  have hPc := hP.sub (ws' := [(qo, .inr (4, [.ref qm, .ref qb, .ref qr, .ref qf])), (qf, .inr (1, [.ref qx, .ref qy, .ref qz, .ref qu, .int (nI nC), .int (nI nR), .int nf])), (qx, .inl (cI, 36, .inl fx)), (qy, .inl (cI, 36, .inl fy)), (qz, .inl (cI, 36, .inl fz)), (qu, .inl (cZ, 36, .inl fu))]) [0, 5, 6, 7, 8, 9] rfl
                  have hDc := hD.sub (ws' := [(qo, .inr (4, [.ref qm, .ref qb, .ref qr, .ref qf])), (qf, .inr (1, [.ref qx, .ref qy, .ref qz, .ref qu, .int (nI nC), .int (nI nR), .int nf])), (qx, .inl (cI, 36, .inl fx)), (qy, .inl (cI, 36, .inl fy)), (qz, .inl (cI, 36, .inl fz)), (qu, .inl (cZ, 36, .inl fu))]) [0, 5, 6, 7, 8, 9] (by decide) rfl
                  have hFc := va_free (wc := [(qo, .inr (4, [.ref qm, .ref qb, .ref qr, .ref qf])), (qf, .inr (1, [.ref qx, .ref qy, .ref qz, .ref qu, .int (nI nC), .int (nI nR), .int nf])), (qx, .inl (cI, 36, .inl fx)), (qy, .inl (cI, 36, .inl fy)), (qz, .inl (cI, 36, .inl fz)), (qu, .inl (cZ, 36, .inl fu))]) hD hS hA [0, 5, 6, 7, 8, 9] rfl
                  refine vx_calli (vx_runSX (As := [.ref qo, .int 0, .int (nI nC), .int 0]) (rest := []) ⟨hx, hb, hml, hown, hts⟩ (c_L_of l hnt D cI cZ cJ cD qo qm qb qr qf qx qy qz qu nC nR nf fx fy fz fu 0 (nI nC) 0 H.size hN hC hR) (vx_cwSW 4 hts gL_sheets_L_of rfl rfl rfl (by decide +kernel) ⟨Nat.le_of_ble_eq_true rfl, Nat.le_of_ble_eq_true rfl⟩) ⟨zblindWE, (fun U hU hW => ⟨rfl, by rw [hU], by rw [hU]; exact hPc, va_K.moved hW.alike hK, hDc.weaken (fun _ _ _ _ => trivial), zEnv.go hE hS hFc hU hW⟩)⟩ rfl rfl hl.1 rfl (lv_room (Nat.le_of_ble_eq_true rfl)) dL_sheets_429 ⟨(show _ ≤ 700 from by omega), (show _ ≤ 4200 from by omega)⟩) hS (fun q _ h => hFc q h) hFc (fun q _ h => hFc q h) (fun E ce q9 u t H locs ht hvm hpx hB hz1 hk1 hS hq9 hce hcl => ?_) (fun r44 u t H locs ht hvm hw hB hz1 hk1 hS => ?_)
                  · exact hB.elim
                  rw [hw]
                  obtain ⟨hP1, hK1, hD1⟩ := hB
                  rw [ht] at hP1
                  obtain ⟨hP, hD⟩ := va_join (wr := [(qm, .inr (2, [.ref qw, .ref qh])), (qw, .inl (cI, 10, .inl fw)), (qh, .inl (cI, 10, .inl fh)), (qr, .inr (3, [.int br])), (qT, .inl (cI, 33, .inl gt)), (qP, .inl (cI, 36, .inl gp)), (qQ, .inl (cI, 36, .inl gq)), (qZ, .inl (cI, 36, .inl gz)), (qU, .inl (cI, 36, .inl gu))]) (w1 := [(qo, .inr (4, [.ref qm, .ref qb, .ref qr, .ref qf])), (qf, .inr (1, [.ref qx, .ref qy, .ref qz, .ref qu, .int (nI nC), .int (nI nR), .int nf])), (qx, .inl (cI, 36, .inl fx)), (qy, .inl (cI, 36, .inl fy)), (qz, .inl (cI, 36, .inl fz)), (qu, .inl (cZ, 36, .inl fu))]) hP hD [0, 5, 6, 7, 8, 9] [1, 2, 3, 4, 10, 11, 12, 13, 14] rfl rfl (by decide) (by decide) hk1 hFc hP1 hD1
                  have hP := hP.sub (ws' := [(qo, .inr (4, [.ref qm, .ref qb, .ref qr, .ref qf])), (qm, .inr (2, [.ref qw, .ref qh])), (qw, .inl (cI, 10, .inl fw)), (qh, .inl (cI, 10, .inl fh)), (qr, .inr (3, [.int br])), (qf, .inr (1, [.ref qx, .ref qy, .ref qz, .ref qu, .int (nI nC), .int (nI nR), .int nf])), (qx, .inl (cI, 36, .inl fx)), (qy, .inl (cI, 36, .inl fy)), (qz, .inl (cI, 36, .inl fz)), (qu, .inl (cZ, 36, .inl fu)), (qT, .inl (cI, 33, .inl gt)), (qP, .inl (cI, 36, .inl gp)), (qQ, .inl (cI, 36, .inl gq)), (qZ, .inl (cI, 36, .inl gz)), (qU, .inl (cI, 36, .inl gu))]) [9, 0, 1, 2, 3, 10, 11, 12, 13, 14, 4, 5, 6, 7, 8] rfl
                  have hD := hD.sub (ws' := [(qo, .inr (4, [.ref qm, .ref qb, .ref qr, .ref qf])), (qm, .inr (2, [.ref qw, .ref qh])), (qw, .inl (cI, 10, .inl fw)), (qh, .inl (cI, 10, .inl fh)), (qr, .inr (3, [.int br])), (qf, .inr (1, [.ref qx, .ref qy, .ref qz, .ref qu, .int (nI nC), .int (nI nR), .int nf])), (qx, .inl (cI, 36, .inl fx)), (qy, .inl (cI, 36, .inl fy)), (qz, .inl (cI, 36, .inl fz)), (qu, .inl (cZ, 36, .inl fu)), (qT, .inl (cI, 33, .inl gt)), (qP, .inl (cI, 36, .inl gp)), (qQ, .inl (cI, 36, .inl gq)), (qZ, .inl (cI, 36, .inl gz)), (qU, .inl (cI, 36, .inl gu))]) [9, 0, 1, 2, 3, 10, 11, 12, 13, 14, 4, 5, 6, 7, 8] (by decide) rfl
                  refine W.widen (k := 596) (n := 3576) (by omega) (by omega) ?_
                  refine lv_sipush (v := (-1001)) hx hb dL_sheets_432 (by decide) ?_
                  refine lv_icmp_ne (tgt := 484) hx hb dL_sheets_435 (by decide) (fun c45 => ?_) (fun c45 => ?_)
                  · refine lv_iconst (v := 0) hx hb dL_sheets_484 (by decide) ?_
                    refine W.widen (k := 700) (n := 4200) (by decide) (by decide) ?_
                    have e46 : s_L_sheets fw fh br nC nR nf fx fy fz fu gp gq gz gu y = 0 := by
                      unfold s_L_sheets
                      exact ((if_pos c34).trans ((if_pos c37).trans ((if_pos c42).trans (if_neg c45))))
                    exact W.zret (v := 0) hx hb hr (z_b (by (repeat' split) <;> simp)) (fun t ht hW => ⟨⟨_, (), rfl, e46.symm, ⟨(by rw [ht]; exact hP), va_K.moved hW.alike hK, hD⟩⟩, hS.F ht⟩) hS.2.2 dL_sheets_485
                  · refine lv_aload_n hx hb dL_sheets_438 rfl (lv_at hl 3 rfl) ?_
                    refine lv_iconst (v := 1) hx hb dL_sheets_439 (by decide) ?_
                    refine lv_iconst (v := 0) hx hb dL_sheets_440 (by decide) ?_
                    refine lv_aload_n hx hb dL_sheets_441 rfl (lv_at hl 5 rfl) ?_
                    refine lv_bipush (v := 31) hx hb dL_sheets_442 (by decide) ?_
                    refine va_iald hx hb hK hP 10 0 rfl rfl (z_inc (k := 31) rfl (by decide)) dL_sheets_444 ?_
                    rw [show gt (31 : Int32).toNatClampNeg = nI nR from h31]
                    have hPc := hP.sub (ws' := [(qo, .inr (4, [.ref qm, .ref qb, .ref qr, .ref qf])), (qf, .inr (1, [.ref qx, .ref qy, .ref qz, .ref qu, .int (nI nC), .int (nI nR), .int nf])), (qx, .inl (cI, 36, .inl fx)), (qy, .inl (cI, 36, .inl fy)), (qz, .inl (cI, 36, .inl fz)), (qu, .inl (cZ, 36, .inl fu))]) [0, 5, 6, 7, 8, 9] rfl
                    have hDc := hD.sub (ws' := [(qo, .inr (4, [.ref qm, .ref qb, .ref qr, .ref qf])), (qf, .inr (1, [.ref qx, .ref qy, .ref qz, .ref qu, .int (nI nC), .int (nI nR), .int nf])), (qx, .inl (cI, 36, .inl fx)), (qy, .inl (cI, 36, .inl fy)), (qz, .inl (cI, 36, .inl fz)), (qu, .inl (cZ, 36, .inl fu))]) [0, 5, 6, 7, 8, 9] (by decide) rfl
                    have hFc := va_free (wc := [(qo, .inr (4, [.ref qm, .ref qb, .ref qr, .ref qf])), (qf, .inr (1, [.ref qx, .ref qy, .ref qz, .ref qu, .int (nI nC), .int (nI nR), .int nf])), (qx, .inl (cI, 36, .inl fx)), (qy, .inl (cI, 36, .inl fy)), (qz, .inl (cI, 36, .inl fz)), (qu, .inl (cZ, 36, .inl fu))]) hD hS hA [0, 5, 6, 7, 8, 9] rfl
                    refine vx_calli (vx_runSX (As := [.ref qo, .int 1, .int 0, .int (nI nR)]) (rest := []) ⟨hx, hb, hml, hown, hts⟩ (c_L_of l hnt D cI cZ cJ cD qo qm qb qr qf qx qy qz qu nC nR nf fx fy fz fu 1 0 (nI nR) H.size hN hC hR) (vx_cwSW 4 hts gL_sheets_L_of rfl rfl rfl (by decide +kernel) ⟨Nat.le_of_ble_eq_true rfl, Nat.le_of_ble_eq_true rfl⟩) ⟨zblindWE, (fun U hU hW => ⟨rfl, by rw [hU], by rw [hU]; exact hPc, va_K.moved hW.alike hK, hDc.weaken (fun _ _ _ _ => trivial), zEnv.go hE hS hFc hU hW⟩)⟩ rfl rfl hl.1 rfl (lv_room (Nat.le_of_ble_eq_true rfl)) dL_sheets_445 ⟨(show _ ≤ 700 from by omega), (show _ ≤ 4200 from by omega)⟩) hS (fun q _ h => hFc q h) hFc (fun q _ h => hFc q h) (fun E ce q9 u t H locs ht hvm hpx hB hz1 hk1 hS hq9 hce hcl => ?_) (fun r47 u t H locs ht hvm hw hB hz1 hk1 hS => ?_)
                    · exact hB.elim
                    rw [hw]
                    obtain ⟨hP1, hK1, hD1⟩ := hB
                    rw [ht] at hP1
                    obtain ⟨hP, hD⟩ := va_join (wr := [(qm, .inr (2, [.ref qw, .ref qh])), (qw, .inl (cI, 10, .inl fw)), (qh, .inl (cI, 10, .inl fh)), (qr, .inr (3, [.int br])), (qT, .inl (cI, 33, .inl gt)), (qP, .inl (cI, 36, .inl gp)), (qQ, .inl (cI, 36, .inl gq)), (qZ, .inl (cI, 36, .inl gz)), (qU, .inl (cI, 36, .inl gu))]) (w1 := [(qo, .inr (4, [.ref qm, .ref qb, .ref qr, .ref qf])), (qf, .inr (1, [.ref qx, .ref qy, .ref qz, .ref qu, .int (nI nC), .int (nI nR), .int nf])), (qx, .inl (cI, 36, .inl fx)), (qy, .inl (cI, 36, .inl fy)), (qz, .inl (cI, 36, .inl fz)), (qu, .inl (cZ, 36, .inl fu))]) hP hD [0, 5, 6, 7, 8, 9] [1, 2, 3, 4, 10, 11, 12, 13, 14] rfl rfl (by decide) (by decide) hk1 hFc hP1 hD1
                    have hP := hP.sub (ws' := [(qo, .inr (4, [.ref qm, .ref qb, .ref qr, .ref qf])), (qm, .inr (2, [.ref qw, .ref qh])), (qw, .inl (cI, 10, .inl fw)), (qh, .inl (cI, 10, .inl fh)), (qr, .inr (3, [.int br])), (qf, .inr (1, [.ref qx, .ref qy, .ref qz, .ref qu, .int (nI nC), .int (nI nR), .int nf])), (qx, .inl (cI, 36, .inl fx)), (qy, .inl (cI, 36, .inl fy)), (qz, .inl (cI, 36, .inl fz)), (qu, .inl (cZ, 36, .inl fu)), (qT, .inl (cI, 33, .inl gt)), (qP, .inl (cI, 36, .inl gp)), (qQ, .inl (cI, 36, .inl gq)), (qZ, .inl (cI, 36, .inl gz)), (qU, .inl (cI, 36, .inl gu))]) [9, 0, 1, 2, 3, 10, 11, 12, 13, 14, 4, 5, 6, 7, 8] rfl
                    have hD := hD.sub (ws' := [(qo, .inr (4, [.ref qm, .ref qb, .ref qr, .ref qf])), (qm, .inr (2, [.ref qw, .ref qh])), (qw, .inl (cI, 10, .inl fw)), (qh, .inl (cI, 10, .inl fh)), (qr, .inr (3, [.int br])), (qf, .inr (1, [.ref qx, .ref qy, .ref qz, .ref qu, .int (nI nC), .int (nI nR), .int nf])), (qx, .inl (cI, 36, .inl fx)), (qy, .inl (cI, 36, .inl fy)), (qz, .inl (cI, 36, .inl fz)), (qu, .inl (cZ, 36, .inl fu)), (qT, .inl (cI, 33, .inl gt)), (qP, .inl (cI, 36, .inl gp)), (qQ, .inl (cI, 36, .inl gq)), (qZ, .inl (cI, 36, .inl gz)), (qU, .inl (cI, 36, .inl gu))]) [9, 0, 1, 2, 3, 10, 11, 12, 13, 14, 4, 5, 6, 7, 8] (by decide) rfl
                    refine W.widen (k := 600) (n := 3600) (by omega) (by omega) ?_
                    refine lv_sipush (v := (-1001)) hx hb dL_sheets_448 (by decide) ?_
                    refine lv_icmp_ne (tgt := 484) hx hb dL_sheets_451 (by decide) (fun c48 => ?_) (fun c48 => ?_)
                    · refine lv_iconst (v := 0) hx hb dL_sheets_484 (by decide) ?_
                      refine W.widen (k := 700) (n := 4200) (by decide) (by decide) ?_
                      have e49 : s_L_sheets fw fh br nC nR nf fx fy fz fu gp gq gz gu y = 0 := by
                        unfold s_L_sheets
                        exact ((if_pos c34).trans ((if_pos c37).trans ((if_pos c42).trans ((if_pos c45).trans (if_neg c48)))))
                      exact W.zret (v := 0) hx hb hr (z_b (by (repeat' split) <;> simp)) (fun t ht hW => ⟨⟨_, (), rfl, e49.symm, ⟨(by rw [ht]; exact hP), va_K.moved hW.alike hK, hD⟩⟩, hS.F ht⟩) hS.2.2 dL_sheets_485
                    · refine lv_aload_n hx hb dL_sheets_454 rfl (lv_at hl 3 rfl) ?_
                      refine lv_iconst (v := 2) hx hb dL_sheets_455 (by decide) ?_
                      refine lv_iconst (v := (-1)) hx hb dL_sheets_456 (by decide) ?_
                      refine lv_iconst (v := 0) hx hb dL_sheets_457 (by decide) ?_
                      have hPc := hP.sub (ws' := [(qo, .inr (4, [.ref qm, .ref qb, .ref qr, .ref qf])), (qf, .inr (1, [.ref qx, .ref qy, .ref qz, .ref qu, .int (nI nC), .int (nI nR), .int nf])), (qx, .inl (cI, 36, .inl fx)), (qy, .inl (cI, 36, .inl fy)), (qz, .inl (cI, 36, .inl fz)), (qu, .inl (cZ, 36, .inl fu))]) [0, 5, 6, 7, 8, 9] rfl
                      have hDc := hD.sub (ws' := [(qo, .inr (4, [.ref qm, .ref qb, .ref qr, .ref qf])), (qf, .inr (1, [.ref qx, .ref qy, .ref qz, .ref qu, .int (nI nC), .int (nI nR), .int nf])), (qx, .inl (cI, 36, .inl fx)), (qy, .inl (cI, 36, .inl fy)), (qz, .inl (cI, 36, .inl fz)), (qu, .inl (cZ, 36, .inl fu))]) [0, 5, 6, 7, 8, 9] (by decide) rfl
                      have hFc := va_free (wc := [(qo, .inr (4, [.ref qm, .ref qb, .ref qr, .ref qf])), (qf, .inr (1, [.ref qx, .ref qy, .ref qz, .ref qu, .int (nI nC), .int (nI nR), .int nf])), (qx, .inl (cI, 36, .inl fx)), (qy, .inl (cI, 36, .inl fy)), (qz, .inl (cI, 36, .inl fz)), (qu, .inl (cZ, 36, .inl fu))]) hD hS hA [0, 5, 6, 7, 8, 9] rfl
                      refine vx_calli (vx_runSX (As := [.ref qo, .int 2, .int (-1), .int 0]) (rest := []) ⟨hx, hb, hml, hown, hts⟩ (c_L_of l hnt D cI cZ cJ cD qo qm qb qr qf qx qy qz qu nC nR nf fx fy fz fu 2 (-1) 0 H.size hN hC hR) (vx_cwSW 4 hts gL_sheets_L_of rfl rfl rfl (by decide +kernel) ⟨Nat.le_of_ble_eq_true rfl, Nat.le_of_ble_eq_true rfl⟩) ⟨zblindWE, (fun U hU hW => ⟨rfl, by rw [hU], by rw [hU]; exact hPc, va_K.moved hW.alike hK, hDc.weaken (fun _ _ _ _ => trivial), zEnv.go hE hS hFc hU hW⟩)⟩ rfl rfl hl.1 rfl (lv_room (Nat.le_of_ble_eq_true rfl)) dL_sheets_458 ⟨(show _ ≤ 700 from by omega), (show _ ≤ 4200 from by omega)⟩) hS (fun q _ h => hFc q h) hFc (fun q _ h => hFc q h) (fun E ce q9 u t H locs ht hvm hpx hB hz1 hk1 hS hq9 hce hcl => ?_) (fun r50 u t H locs ht hvm hw hB hz1 hk1 hS => ?_)
                      · exact hB.elim
                      rw [hw]
                      obtain ⟨hP1, hK1, hD1⟩ := hB
                      rw [ht] at hP1
                      obtain ⟨hP, hD⟩ := va_join (wr := [(qm, .inr (2, [.ref qw, .ref qh])), (qw, .inl (cI, 10, .inl fw)), (qh, .inl (cI, 10, .inl fh)), (qr, .inr (3, [.int br])), (qT, .inl (cI, 33, .inl gt)), (qP, .inl (cI, 36, .inl gp)), (qQ, .inl (cI, 36, .inl gq)), (qZ, .inl (cI, 36, .inl gz)), (qU, .inl (cI, 36, .inl gu))]) (w1 := [(qo, .inr (4, [.ref qm, .ref qb, .ref qr, .ref qf])), (qf, .inr (1, [.ref qx, .ref qy, .ref qz, .ref qu, .int (nI nC), .int (nI nR), .int nf])), (qx, .inl (cI, 36, .inl fx)), (qy, .inl (cI, 36, .inl fy)), (qz, .inl (cI, 36, .inl fz)), (qu, .inl (cZ, 36, .inl fu))]) hP hD [0, 5, 6, 7, 8, 9] [1, 2, 3, 4, 10, 11, 12, 13, 14] rfl rfl (by decide) (by decide) hk1 hFc hP1 hD1
                      have hP := hP.sub (ws' := [(qo, .inr (4, [.ref qm, .ref qb, .ref qr, .ref qf])), (qm, .inr (2, [.ref qw, .ref qh])), (qw, .inl (cI, 10, .inl fw)), (qh, .inl (cI, 10, .inl fh)), (qr, .inr (3, [.int br])), (qf, .inr (1, [.ref qx, .ref qy, .ref qz, .ref qu, .int (nI nC), .int (nI nR), .int nf])), (qx, .inl (cI, 36, .inl fx)), (qy, .inl (cI, 36, .inl fy)), (qz, .inl (cI, 36, .inl fz)), (qu, .inl (cZ, 36, .inl fu)), (qT, .inl (cI, 33, .inl gt)), (qP, .inl (cI, 36, .inl gp)), (qQ, .inl (cI, 36, .inl gq)), (qZ, .inl (cI, 36, .inl gz)), (qU, .inl (cI, 36, .inl gu))]) [9, 0, 1, 2, 3, 10, 11, 12, 13, 14, 4, 5, 6, 7, 8] rfl
                      have hD := hD.sub (ws' := [(qo, .inr (4, [.ref qm, .ref qb, .ref qr, .ref qf])), (qm, .inr (2, [.ref qw, .ref qh])), (qw, .inl (cI, 10, .inl fw)), (qh, .inl (cI, 10, .inl fh)), (qr, .inr (3, [.int br])), (qf, .inr (1, [.ref qx, .ref qy, .ref qz, .ref qu, .int (nI nC), .int (nI nR), .int nf])), (qx, .inl (cI, 36, .inl fx)), (qy, .inl (cI, 36, .inl fy)), (qz, .inl (cI, 36, .inl fz)), (qu, .inl (cZ, 36, .inl fu)), (qT, .inl (cI, 33, .inl gt)), (qP, .inl (cI, 36, .inl gp)), (qQ, .inl (cI, 36, .inl gq)), (qZ, .inl (cI, 36, .inl gz)), (qU, .inl (cI, 36, .inl gu))]) [9, 0, 1, 2, 3, 10, 11, 12, 13, 14, 4, 5, 6, 7, 8] (by decide) rfl
                      refine W.widen (k := 604) (n := 3624) (by omega) (by omega) ?_
                      refine lv_sipush (v := (-1001)) hx hb dL_sheets_461 (by decide) ?_
                      refine lv_icmp_ne (tgt := 484) hx hb dL_sheets_464 (by decide) (fun c51 => ?_) (fun c51 => ?_)
                      · refine lv_iconst (v := 0) hx hb dL_sheets_484 (by decide) ?_
                        refine W.widen (k := 700) (n := 4200) (by decide) (by decide) ?_
                        have e52 : s_L_sheets fw fh br nC nR nf fx fy fz fu gp gq gz gu y = 0 := by
                          unfold s_L_sheets
                          exact ((if_pos c34).trans ((if_pos c37).trans ((if_pos c42).trans ((if_pos c45).trans ((if_pos c48).trans (if_neg c51))))))
                        exact W.zret (v := 0) hx hb hr (z_b (by (repeat' split) <;> simp)) (fun t ht hW => ⟨⟨_, (), rfl, e52.symm, ⟨(by rw [ht]; exact hP), va_K.moved hW.alike hK, hD⟩⟩, hS.F ht⟩) hS.2.2 dL_sheets_485
                      · refine lv_aload_n hx hb dL_sheets_467 rfl (lv_at hl 3 rfl) ?_
                        refine lv_iconst (v := 3) hx hb dL_sheets_468 (by decide) ?_
                        refine lv_iconst (v := 0) hx hb dL_sheets_469 (by decide) ?_
                        refine lv_iconst (v := (-1)) hx hb dL_sheets_470 (by decide) ?_
                        have hPc := hP.sub (ws' := [(qo, .inr (4, [.ref qm, .ref qb, .ref qr, .ref qf])), (qf, .inr (1, [.ref qx, .ref qy, .ref qz, .ref qu, .int (nI nC), .int (nI nR), .int nf])), (qx, .inl (cI, 36, .inl fx)), (qy, .inl (cI, 36, .inl fy)), (qz, .inl (cI, 36, .inl fz)), (qu, .inl (cZ, 36, .inl fu))]) [0, 5, 6, 7, 8, 9] rfl
                        have hDc := hD.sub (ws' := [(qo, .inr (4, [.ref qm, .ref qb, .ref qr, .ref qf])), (qf, .inr (1, [.ref qx, .ref qy, .ref qz, .ref qu, .int (nI nC), .int (nI nR), .int nf])), (qx, .inl (cI, 36, .inl fx)), (qy, .inl (cI, 36, .inl fy)), (qz, .inl (cI, 36, .inl fz)), (qu, .inl (cZ, 36, .inl fu))]) [0, 5, 6, 7, 8, 9] (by decide) rfl
                        have hFc := va_free (wc := [(qo, .inr (4, [.ref qm, .ref qb, .ref qr, .ref qf])), (qf, .inr (1, [.ref qx, .ref qy, .ref qz, .ref qu, .int (nI nC), .int (nI nR), .int nf])), (qx, .inl (cI, 36, .inl fx)), (qy, .inl (cI, 36, .inl fy)), (qz, .inl (cI, 36, .inl fz)), (qu, .inl (cZ, 36, .inl fu))]) hD hS hA [0, 5, 6, 7, 8, 9] rfl
                        refine vx_calli (vx_runSX (As := [.ref qo, .int 3, .int 0, .int (-1)]) (rest := []) ⟨hx, hb, hml, hown, hts⟩ (c_L_of l hnt D cI cZ cJ cD qo qm qb qr qf qx qy qz qu nC nR nf fx fy fz fu 3 0 (-1) H.size hN hC hR) (vx_cwSW 4 hts gL_sheets_L_of rfl rfl rfl (by decide +kernel) ⟨Nat.le_of_ble_eq_true rfl, Nat.le_of_ble_eq_true rfl⟩) ⟨zblindWE, (fun U hU hW => ⟨rfl, by rw [hU], by rw [hU]; exact hPc, va_K.moved hW.alike hK, hDc.weaken (fun _ _ _ _ => trivial), zEnv.go hE hS hFc hU hW⟩)⟩ rfl rfl hl.1 rfl (lv_room (Nat.le_of_ble_eq_true rfl)) dL_sheets_471 ⟨(show _ ≤ 700 from by omega), (show _ ≤ 4200 from by omega)⟩) hS (fun q _ h => hFc q h) hFc (fun q _ h => hFc q h) (fun E ce q9 u t H locs ht hvm hpx hB hz1 hk1 hS hq9 hce hcl => ?_) (fun r53 u t H locs ht hvm hw hB hz1 hk1 hS => ?_)
                        · exact hB.elim
                        rw [hw]
                        obtain ⟨hP1, hK1, hD1⟩ := hB
                        rw [ht] at hP1
                        obtain ⟨hP, hD⟩ := va_join (wr := [(qm, .inr (2, [.ref qw, .ref qh])), (qw, .inl (cI, 10, .inl fw)), (qh, .inl (cI, 10, .inl fh)), (qr, .inr (3, [.int br])), (qT, .inl (cI, 33, .inl gt)), (qP, .inl (cI, 36, .inl gp)), (qQ, .inl (cI, 36, .inl gq)), (qZ, .inl (cI, 36, .inl gz)), (qU, .inl (cI, 36, .inl gu))]) (w1 := [(qo, .inr (4, [.ref qm, .ref qb, .ref qr, .ref qf])), (qf, .inr (1, [.ref qx, .ref qy, .ref qz, .ref qu, .int (nI nC), .int (nI nR), .int nf])), (qx, .inl (cI, 36, .inl fx)), (qy, .inl (cI, 36, .inl fy)), (qz, .inl (cI, 36, .inl fz)), (qu, .inl (cZ, 36, .inl fu))]) hP hD [0, 5, 6, 7, 8, 9] [1, 2, 3, 4, 10, 11, 12, 13, 14] rfl rfl (by decide) (by decide) hk1 hFc hP1 hD1
                        have hP := hP.sub (ws' := [(qo, .inr (4, [.ref qm, .ref qb, .ref qr, .ref qf])), (qm, .inr (2, [.ref qw, .ref qh])), (qw, .inl (cI, 10, .inl fw)), (qh, .inl (cI, 10, .inl fh)), (qr, .inr (3, [.int br])), (qf, .inr (1, [.ref qx, .ref qy, .ref qz, .ref qu, .int (nI nC), .int (nI nR), .int nf])), (qx, .inl (cI, 36, .inl fx)), (qy, .inl (cI, 36, .inl fy)), (qz, .inl (cI, 36, .inl fz)), (qu, .inl (cZ, 36, .inl fu)), (qT, .inl (cI, 33, .inl gt)), (qP, .inl (cI, 36, .inl gp)), (qQ, .inl (cI, 36, .inl gq)), (qZ, .inl (cI, 36, .inl gz)), (qU, .inl (cI, 36, .inl gu))]) [9, 0, 1, 2, 3, 10, 11, 12, 13, 14, 4, 5, 6, 7, 8] rfl
                        have hD := hD.sub (ws' := [(qo, .inr (4, [.ref qm, .ref qb, .ref qr, .ref qf])), (qm, .inr (2, [.ref qw, .ref qh])), (qw, .inl (cI, 10, .inl fw)), (qh, .inl (cI, 10, .inl fh)), (qr, .inr (3, [.int br])), (qf, .inr (1, [.ref qx, .ref qy, .ref qz, .ref qu, .int (nI nC), .int (nI nR), .int nf])), (qx, .inl (cI, 36, .inl fx)), (qy, .inl (cI, 36, .inl fy)), (qz, .inl (cI, 36, .inl fz)), (qu, .inl (cZ, 36, .inl fu)), (qT, .inl (cI, 33, .inl gt)), (qP, .inl (cI, 36, .inl gp)), (qQ, .inl (cI, 36, .inl gq)), (qZ, .inl (cI, 36, .inl gz)), (qU, .inl (cI, 36, .inl gu))]) [9, 0, 1, 2, 3, 10, 11, 12, 13, 14, 4, 5, 6, 7, 8] (by decide) rfl
                        refine W.widen (k := 608) (n := 3648) (by omega) (by omega) ?_
                        refine lv_sipush (v := (-1001)) hx hb dL_sheets_474 (by decide) ?_
                        have K55 : ∀ v55_0 : Int32, v55_0 = (if (s_L_of nC nR nf fx fy fz fu 3 0 (-1)) = (-1001) then 1 else 0) → ∀ (H : Heap) (locs : List Loc), va_P D vwCl [(qo, .inr (4, [.ref qm, .ref qb, .ref qr, .ref qf])), (qm, .inr (2, [.ref qw, .ref qh])), (qw, .inl (cI, 10, .inl fw)), (qh, .inl (cI, 10, .inl fh)), (qr, .inr (3, [.int br])), (qf, .inr (1, [.ref qx, .ref qy, .ref qz, .ref qu, .int (nI nC), .int (nI nR), .int nf])), (qx, .inl (cI, 36, .inl fx)), (qy, .inl (cI, 36, .inl fy)), (qz, .inl (cI, 36, .inl fz)), (qu, .inl (cZ, 36, .inl fu)), (qT, .inl (cI, 33, .inl gt)), (qP, .inl (cI, 36, .inl gp)), (qQ, .inl (cI, 36, .inl gq)), (qZ, .inl (cI, 36, .inl gz)), (qU, .inl (cI, 36, .inl gu))] H → va_D A [(qo, .inr (4, [.ref qm, .ref qb, .ref qr, .ref qf])), (qm, .inr (2, [.ref qw, .ref qh])), (qw, .inl (cI, 10, .inl fw)), (qh, .inl (cI, 10, .inl fh)), (qr, .inr (3, [.int br])), (qf, .inr (1, [.ref qx, .ref qy, .ref qz, .ref qu, .int (nI nC), .int (nI nR), .int nf])), (qx, .inl (cI, 36, .inl fx)), (qy, .inl (cI, 36, .inl fy)), (qz, .inl (cI, 36, .inl fz)), (qu, .inl (cZ, 36, .inl fu)), (qT, .inl (cI, 33, .inl gt)), (qP, .inl (cI, 36, .inl gp)), (qQ, .inl (cI, 36, .inl gq)), (qZ, .inl (cI, 36, .inl gz)), (qU, .inl (cI, 36, .inl gu))] → va_S A s.heap H locs → ∀ (ls : Array Slot), lv_has ls 15 [(11, .int (v_L_sheets_295 y)), (10, .int (v_L_sheets_263 y)), (7, .int ((nI nC) * (nI nR))), (0, .ref qo), (1, .int y), (2, .ref qT), (3, .ref qP), (4, .ref qQ), (5, .ref qZ), (6, .ref qU), (8, .int ((lp_L_sheets_20 nC nR gp gq gz gu (nC * nR)).1)), (9, .int ((lp_L_sheets_20 nC nR gp gq gz gu (nC * nR)).2)), (12, .int (nI (sh_c nC (v_L_sheets_295 y)))), (13, .int (nI (sh_r nR (v_L_sheets_263 y))))] → W p l e (headSpec wsL_sheets rm_L_sheets).room s m ([.ref qo, .int y, .ref qT, .ref qP, .ref qQ, .ref qZ, .ref qU]).toArray below meth c H locs 608 3648 (MQ below (Qc_L_sheets D cI cZ cJ cD qo qm qb qr qf qw qh fw fh br qx qy qz qu nC nR nf fx fy fz fu qT gt qP qQ qZ qU gp gq gz gu y A) ([.ref qo, .int y, .ref qT, .ref qP, .ref qQ, .ref qZ, .ref qU]).toArray s 700 4200 A) (F0 m 485 ls [.int v55_0]) := by
                          intro v55_0 hv55_0 H locs hP hD hS ls hl
                          subst hv55_0
                          refine W.widen (k := 700) (n := 4200) (by decide) (by decide) ?_
                          have e56 : s_L_sheets fw fh br nC nR nf fx fy fz fu gp gq gz gu y = (if (s_L_of nC nR nf fx fy fz fu 3 0 (-1)) = (-1001) then 1 else 0) := by
                            unfold s_L_sheets
                            exact ((if_pos c34).trans ((if_pos c37).trans ((if_pos c42).trans ((if_pos c45).trans ((if_pos c48).trans (if_pos c51))))))
                          exact W.zret (v := (if (s_L_of nC nR nf fx fy fz fu 3 0 (-1)) = (-1001) then 1 else 0)) hx hb hr (z_b (by (repeat' split) <;> simp)) (fun t ht hW => ⟨⟨_, (), rfl, e56.symm, ⟨(by rw [ht]; exact hP), va_K.moved hW.alike hK, hD⟩⟩, hS.F ht⟩) hS.2.2 dL_sheets_485
                        refine lv_icmp_ne (tgt := 484) hx hb dL_sheets_477 (by decide) (fun c57 => ?_) (fun c57 => ?_)
                        · refine lv_iconst (v := 0) hx hb dL_sheets_484 (by decide) ?_
                          exact K55 _ (if_neg c57).symm _ _ hP hD hS _ (lv_sub hl [0, 1, 2, 3, 4, 5, 6, 7, 8, 9, 10, 11, 12, 13] rfl)
                        · refine lv_iconst (v := 1) hx hb dL_sheets_480 (by decide) ?_
                          refine lv_goto (tgt := 485) hx hb dL_sheets_481 (by decide) ?_
                          exact K55 _ (if_pos c57).symm _ _ hP hD hS _ (lv_sub hl [0, 1, 2, 3, 4, 5, 6, 7, 8, 9, 10, 11, 12, 13] rfl)
              refine lv_icmp_ge (tgt := 411) hx hb dL_sheets_403 (by decide) (fun c58 => ?_) (fun c58 => ?_)
              · refine lv_bipush (v := 10) hx hb dL_sheets_411 (by decide) ?_
                refine lv_iload hx hb dL_sheets_413 (lv_at hl 12 rfl) ?_
                refine lv_imul hx hb dL_sheets_415 ?_
                refine lv_iload hx hb dL_sheets_416 (lv_at hl 13 rfl) ?_
                refine lv_iadd hx hb dL_sheets_418 ?_
                exact K41 _ (if_pos c58).symm _ _ hP hD hS _ (lv_sub hl [0, 1, 2, 3, 4, 5, 6, 7, 8, 9, 10, 11, 12, 13] rfl)
              · refine lv_ldc (v := (-9000001)) hx hb hown (hts (.constant RL 65 (-9000001)) (List.mem_cons_of_mem _ (List.mem_append_left _ (List.mem_append_left _ (List.mem_append_left _ (List.mem_append_left _ (List.mem_append_left _ (List.mem_append_left _ (List.mem_append_left _ (List.mem_of_getElem? (i := 0) rfl)))))))))) dL_sheets_406 ?_
                refine lv_goto (tgt := 419) hx hb dL_sheets_408 (by decide) ?_
                exact K41 _ (if_neg c58).symm _ _ hP hD hS _ (lv_sub hl [0, 1, 2, 3, 4, 5, 6, 7, 8, 9, 10, 11, 12, 13] rfl)
        have L32 : ∀ (n32 k : Nat), k ≤ sh_r nR (v_L_sheets_263 y) → sh_r nR (v_L_sheets_263 y) < k + n32 → ∀ (H : Heap) (locs : List Loc), va_P D vwCl [(qo, .inr (4, [.ref qm, .ref qb, .ref qr, .ref qf])), (qm, .inr (2, [.ref qw, .ref qh])), (qw, .inl (cI, 10, .inl fw)), (qh, .inl (cI, 10, .inl fh)), (qr, .inr (3, [.int br])), (qf, .inr (1, [.ref qx, .ref qy, .ref qz, .ref qu, .int (nI nC), .int (nI nR), .int nf])), (qx, .inl (cI, 36, .inl fx)), (qy, .inl (cI, 36, .inl fy)), (qz, .inl (cI, 36, .inl fz)), (qu, .inl (cZ, 36, .inl fu)), (qT, .inl (cI, 33, .inl gt)), (qP, .inl (cI, 36, .inl gp)), (qQ, .inl (cI, 36, .inl gq)), (qZ, .inl (cI, 36, .inl gz)), (qU, .inl (cI, 36, .inl gu))] H → va_D A [(qo, .inr (4, [.ref qm, .ref qb, .ref qr, .ref qf])), (qm, .inr (2, [.ref qw, .ref qh])), (qw, .inl (cI, 10, .inl fw)), (qh, .inl (cI, 10, .inl fh)), (qr, .inr (3, [.int br])), (qf, .inr (1, [.ref qx, .ref qy, .ref qz, .ref qu, .int (nI nC), .int (nI nR), .int nf])), (qx, .inl (cI, 36, .inl fx)), (qy, .inl (cI, 36, .inl fy)), (qz, .inl (cI, 36, .inl fz)), (qu, .inl (cZ, 36, .inl fu)), (qT, .inl (cI, 33, .inl gt)), (qP, .inl (cI, 36, .inl gp)), (qQ, .inl (cI, 36, .inl gq)), (qZ, .inl (cI, 36, .inl gz)), (qU, .inl (cI, 36, .inl gu))] → va_S A s.heap H locs → ∀ (ls : Array Slot), lv_has ls 15 [(11, .int (v_L_sheets_295 y)), (10, .int (v_L_sheets_263 y)), (7, .int ((nI nC) * (nI nR))), (0, .ref qo), (1, .int y), (2, .ref qT), (3, .ref qP), (4, .ref qQ), (5, .ref qZ), (6, .ref qU), (8, .int ((lp_L_sheets_20 nC nR gp gq gz gu (nC * nR)).1)), (9, .int ((lp_L_sheets_20 nC nR gp gq gz gu (nC * nR)).2)), (12, .int (nI (sh_c nC (v_L_sheets_295 y)))), (13, .int (nI k))] → W p l e (headSpec wsL_sheets rm_L_sheets).room s m ([.ref qo, .int y, .ref qT, .ref qP, .ref qQ, .ref qZ, .ref qU]).toArray below meth c H locs 576 3456 (MQ below (Qc_L_sheets D cI cZ cJ cD qo qm qb qr qf qw qh fw fh br qx qy qz qu nC nR nf fx fy fz fu qT gt qP qQ qZ qU gp gq gz gu y A) ([.ref qo, .int y, .ref qT, .ref qP, .ref qQ, .ref qZ, .ref qU]).toArray s 700 4200 A) (F0 m 331 ls []) := by
          intro n32
          induction n32 with
          | zero =>
            intro k  hkk hf32
            exact absurd hf32 (by omega)
          | succ n32 ih32 =>
            intro k  hkk hf32  H locs hP hD hS ls hl
            refine lv_iload hx hb dL_sheets_331 (lv_at hl 13 rfl) ?_
            refine lv_iconst (v := 1) hx hb dL_sheets_333 (by decide) ?_
            refine lv_iadd hx hb dL_sheets_334 ?_
            refine lv_aload_n hx hb dL_sheets_335 rfl (lv_at hl 5 rfl) ?_
            refine lv_bipush (v := 31) hx hb dL_sheets_336 (by decide) ?_
            refine va_iald hx hb hK hP 10 0 rfl rfl (z_inc (k := 31) rfl (by decide)) dL_sheets_338 ?_
            rw [show gt (31 : Int32).toNatClampNeg = nI nR from h31]
            refine lv_icmp_ge (tgt := 369) hx hb dL_sheets_339 (by decide) (fun c59 => ?_) (fun c59 => ?_)
            · have hgek : sh_r nR (v_L_sheets_263 y) ≤ k := sh_rge1 hN1.2.2 hkk c59
              have ekk : k = sh_r nR (v_L_sheets_263 y) := by omega
              subst ekk
              exact X32 _ _ hP hD hS _ (lv_sub hl [0, 1, 2, 3, 4, 5, 6, 7, 8, 9, 10, 11, 12, 13] rfl)
            · refine lv_iload hx hb dL_sheets_342 (lv_at hl 13 rfl) ?_
              refine lv_iconst (v := 1) hx hb dL_sheets_344 (by decide) ?_
              refine lv_iadd hx hb dL_sheets_345 ?_
              refine lv_sipush (v := 180) hx hb dL_sheets_346 (by decide) ?_
              refine lv_imul hx hb dL_sheets_349 ?_
              refine lv_bipush (v := 90) hx hb dL_sheets_350 (by decide) ?_
              refine lv_iload hx hb dL_sheets_352 (lv_at hl 1 rfl) ?_
              refine lv_isub hx hb dL_sheets_354 ?_
              refine lv_aload_n hx hb dL_sheets_355 rfl (lv_at hl 5 rfl) ?_
              refine lv_bipush (v := 31) hx hb dL_sheets_356 (by decide) ?_
              refine va_iald hx hb hK hP 10 0 rfl rfl (z_inc (k := 31) rfl (by decide)) dL_sheets_358 ?_
              rw [show gt (31 : Int32).toNatClampNeg = nI nR from h31]
              refine lv_imul hx hb dL_sheets_359 ?_
              refine lv_icmp_gt (tgt := 369) hx hb dL_sheets_360 (by decide) (fun c60 => ?_) (fun c60 => ?_)
              · have hgek : sh_r nR (v_L_sheets_263 y) ≤ k := sh_rge2 hN1.2.2 hkk c60
                have ekk : k = sh_r nR (v_L_sheets_263 y) := by omega
                subst ekk
                exact X32 _ _ hP hD hS _ (lv_sub hl [0, 1, 2, 3, 4, 5, 6, 7, 8, 9, 10, 11, 12, 13] rfl)
              · refine lv_iinc (v := nI (k + 1)) (lv' := [(13, .int (nI (k + 1))), (11, .int (v_L_sheets_295 y)), (10, .int (v_L_sheets_263 y)), (7, .int ((nI nC) * (nI nR))), (0, .ref qo), (1, .int y), (2, .ref qT), (3, .ref qP), (4, .ref qQ), (5, .ref qZ), (6, .ref qU), (8, .int ((lp_L_sheets_20 nC nR gp gq gz gu (nC * nR)).1)), (9, .int ((lp_L_sheets_20 nC nR gp gq gz gu (nC * nR)).2)), (12, .int (nI (sh_c nC (v_L_sheets_295 y))))]) hx hb dL_sheets_363 hl (k := 13) rfl (nI_succ k).symm (by decide) rfl (fun ls hl => ?_)
                refine lv_goto (tgt := 331) hx hb dL_sheets_366 (by decide) ?_
                have hltk : k < sh_r nR (v_L_sheets_263 y) := sh_rlt hN1.2.2 hkk c59 c60
                exact ih32 (k + 1)  (by omega) (by omega)  _ _ hP hD hS _ (lv_sub hl [1, 2, 3, 4, 5, 6, 7, 8, 9, 10, 11, 12, 13, 0] rfl)
        exact L32 (sh_r nR (v_L_sheets_263 y) + 1) 0  (Nat.zero_le _) (by omega)  _ _ hP hD hS _ (zlv (lv_sub (l' := [(11, .int (v_L_sheets_295 y)), (10, .int (v_L_sheets_263 y)), (7, .int ((nI nC) * (nI nR))), (0, .ref qo), (1, .int y), (2, .ref qT), (3, .ref qP), (4, .ref qQ), (5, .ref qZ), (6, .ref qU), (8, .int ((lp_L_sheets_20 nC nR gp gq gz gu (nC * nR)).1)), (9, .int ((lp_L_sheets_20 nC nR gp gq gz gu (nC * nR)).2)), (12, .int (nI (sh_c nC (v_L_sheets_295 y)))), (13, .int 0)]) hl [1, 2, 3, 4, 5, 6, 7, 8, 9, 10, 11, 12, 13, 0] rfl) (by rfl))
      have L31 : ∀ (n31 k : Nat), k ≤ sh_c nC (v_L_sheets_295 y) → sh_c nC (v_L_sheets_295 y) < k + n31 → ∀ (H : Heap) (locs : List Loc), va_P D vwCl [(qo, .inr (4, [.ref qm, .ref qb, .ref qr, .ref qf])), (qm, .inr (2, [.ref qw, .ref qh])), (qw, .inl (cI, 10, .inl fw)), (qh, .inl (cI, 10, .inl fh)), (qr, .inr (3, [.int br])), (qf, .inr (1, [.ref qx, .ref qy, .ref qz, .ref qu, .int (nI nC), .int (nI nR), .int nf])), (qx, .inl (cI, 36, .inl fx)), (qy, .inl (cI, 36, .inl fy)), (qz, .inl (cI, 36, .inl fz)), (qu, .inl (cZ, 36, .inl fu)), (qT, .inl (cI, 33, .inl gt)), (qP, .inl (cI, 36, .inl gp)), (qQ, .inl (cI, 36, .inl gq)), (qZ, .inl (cI, 36, .inl gz)), (qU, .inl (cI, 36, .inl gu))] H → va_D A [(qo, .inr (4, [.ref qm, .ref qb, .ref qr, .ref qf])), (qm, .inr (2, [.ref qw, .ref qh])), (qw, .inl (cI, 10, .inl fw)), (qh, .inl (cI, 10, .inl fh)), (qr, .inr (3, [.int br])), (qf, .inr (1, [.ref qx, .ref qy, .ref qz, .ref qu, .int (nI nC), .int (nI nR), .int nf])), (qx, .inl (cI, 36, .inl fx)), (qy, .inl (cI, 36, .inl fy)), (qz, .inl (cI, 36, .inl fz)), (qu, .inl (cZ, 36, .inl fu)), (qT, .inl (cI, 33, .inl gt)), (qP, .inl (cI, 36, .inl gp)), (qQ, .inl (cI, 36, .inl gq)), (qZ, .inl (cI, 36, .inl gz)), (qU, .inl (cI, 36, .inl gu))] → va_S A s.heap H locs → ∀ (ls : Array Slot), lv_has ls 15 [(11, .int (v_L_sheets_295 y)), (10, .int (v_L_sheets_263 y)), (7, .int ((nI nC) * (nI nR))), (0, .ref qo), (1, .int y), (2, .ref qT), (3, .ref qP), (4, .ref qQ), (5, .ref qZ), (6, .ref qU), (8, .int ((lp_L_sheets_20 nC nR gp gq gz gu (nC * nR)).1)), (9, .int ((lp_L_sheets_20 nC nR gp gq gz gu (nC * nR)).2)), (12, .int (nI k))] → W p l e (headSpec wsL_sheets rm_L_sheets).room s m ([.ref qo, .int y, .ref qT, .ref qP, .ref qQ, .ref qZ, .ref qU]).toArray below meth c H locs 576 3456 (MQ below (Qc_L_sheets D cI cZ cJ cD qo qm qb qr qf qw qh fw fh br qx qy qz qu nC nR nf fx fy fz fu qT gt qP qQ qZ qU gp gq gz gu y A) ([.ref qo, .int y, .ref qT, .ref qP, .ref qQ, .ref qZ, .ref qU]).toArray s 700 4200 A) (F0 m 300 ls []) := by
        intro n31
        induction n31 with
        | zero =>
          intro k  hkk hf31
          exact absurd hf31 (by omega)
        | succ n31 ih31 =>
          intro k  hkk hf31  H locs hP hD hS ls hl
          refine lv_iload hx hb dL_sheets_300 (lv_at hl 12 rfl) ?_
          refine lv_iconst (v := 1) hx hb dL_sheets_302 (by decide) ?_
          refine lv_iadd hx hb dL_sheets_303 ?_
          refine lv_sipush (v := 360) hx hb dL_sheets_304 (by decide) ?_
          refine lv_imul hx hb dL_sheets_307 ?_
          refine lv_iload hx hb dL_sheets_308 (lv_at hl 0 rfl) ?_
          refine lv_sipush (v := 180) hx hb dL_sheets_310 (by decide) ?_
          refine lv_iadd hx hb dL_sheets_313 ?_
          refine lv_aload_n hx hb dL_sheets_314 rfl (lv_at hl 5 rfl) ?_
          refine lv_bipush (v := 30) hx hb dL_sheets_315 (by decide) ?_
          refine va_iald hx hb hK hP 10 0 rfl rfl (z_inc (k := 30) rfl (by decide)) dL_sheets_317 ?_
          rw [show gt (30 : Int32).toNatClampNeg = nI nC from h30]
          refine lv_imul hx hb dL_sheets_318 ?_
          refine lv_icmp_gt (tgt := 328) hx hb dL_sheets_319 (by decide) (fun c61 => ?_) (fun c61 => ?_)
          · have hgek : sh_c nC (v_L_sheets_295 y) ≤ k := sh_cge ⟨hN1.1, hN1.2.1⟩ hkk c61
            have ekk : k = sh_c nC (v_L_sheets_295 y) := by omega
            subst ekk
            exact X31 _ _ hP hD hS _ (lv_sub hl [0, 1, 2, 3, 4, 5, 6, 7, 8, 9, 10, 11, 12] rfl)
          · refine lv_iinc (v := nI (k + 1)) (lv' := [(12, .int (nI (k + 1))), (11, .int (v_L_sheets_295 y)), (10, .int (v_L_sheets_263 y)), (7, .int ((nI nC) * (nI nR))), (0, .ref qo), (1, .int y), (2, .ref qT), (3, .ref qP), (4, .ref qQ), (5, .ref qZ), (6, .ref qU), (8, .int ((lp_L_sheets_20 nC nR gp gq gz gu (nC * nR)).1)), (9, .int ((lp_L_sheets_20 nC nR gp gq gz gu (nC * nR)).2))]) hx hb dL_sheets_322 hl (k := 12) rfl (nI_succ k).symm (by decide) rfl (fun ls hl => ?_)
            refine lv_goto (tgt := 300) hx hb dL_sheets_325 (by decide) ?_
            have hltk : k < sh_c nC (v_L_sheets_295 y) := sh_clt ⟨hN1.1, hN1.2.1⟩ hkk c61
            exact ih31 (k + 1)  (by omega) (by omega)  _ _ hP hD hS _ (lv_sub hl [1, 2, 3, 4, 5, 6, 7, 8, 9, 10, 11, 12, 0] rfl)
      exact L31 (sh_c nC (v_L_sheets_295 y) + 1) 0  (Nat.zero_le _) (by omega)  _ _ hP hD hS _ (zlv (lv_sub (l' := [(11, .int (v_L_sheets_295 y)), (10, .int (v_L_sheets_263 y)), (7, .int ((nI nC) * (nI nR))), (0, .ref qo), (1, .int y), (2, .ref qT), (3, .ref qP), (4, .ref qQ), (5, .ref qZ), (6, .ref qU), (8, .int ((lp_L_sheets_20 nC nR gp gq gz gu (nC * nR)).1)), (9, .int ((lp_L_sheets_20 nC nR gp gq gz gu (nC * nR)).2)), (12, .int 0)]) hl [1, 2, 3, 4, 5, 6, 7, 8, 9, 10, 11, 12, 0] rfl) (by rfl))
    refine lv_if_ne (tgt := 282) hx hb dL_sheets_273 (by decide) (fun c62 => ?_) (fun c62 => ?_)
    · refine lv_iload_n hx hb dL_sheets_282 rfl (lv_at hl 3 rfl) ?_
      refine lv_iconst (v := 5) hx hb dL_sheets_283 (by decide) ?_
      refine lv_ishr hx hb dL_sheets_284 ?_
      refine lv_sipush (v := 360) hx hb dL_sheets_285 (by decide) ?_
      refine va_calli (va_runS (As := [.int (y >>> ((5 : Int32) &&& 31)), .int 360]) (rest := []) ⟨hx, hb, hml, hown, hts⟩ (c_L_some l D cI cZ cJ cD (y >>> ((5 : Int32) &&& 31)) 360 (by decide)) (va_cwS 2 hts gL_sheets_L_some rfl rfl rfl (by decide +kernel) ⟨Nat.le_of_ble_eq_true rfl, Nat.le_of_ble_eq_true rfl⟩) ⟨zblind, (fun U hU hW => ⟨rfl, by rw [hU]; exact hP.sub (ws' := []) [] rfl, va_K.moved hW.alike hK⟩)⟩ rfl rfl hl.1 rfl (lv_room (Nat.le_of_ble_eq_true rfl)) dL_sheets_288 ⟨(show _ ≤ 700 from by omega), (show _ ≤ 4200 from by omega)⟩) hS (fun q _ h => h.elim) (fun q h => h.elim) (fun r63 u t H locs ht hvm hw hB hz1 hk1 hS => ?_)
      rw [hw]
      have hP := zk hP hk1
      refine lv_sipush (v := 180) hx hb dL_sheets_291 (by decide) ?_
      refine lv_isub hx hb dL_sheets_294 ?_
      exact K30 _ (if_neg c62).symm _ _ hP hD hS _ (lv_sub hl [0, 1, 2, 3, 4, 5, 6, 7, 8, 9, 10] rfl)
    · refine lv_sipush (v := (-181)) hx hb dL_sheets_276 (by decide) ?_
      refine lv_goto (tgt := 295) hx hb dL_sheets_279 (by decide) ?_
      exact K30 _ (if_pos c62).symm _ _ hP hD hS _ (lv_sub hl [0, 1, 2, 3, 4, 5, 6, 7, 8, 9, 10] rfl)
  have L26 : ∀ (n26 k : Nat) (acc26_0 : Int32) (acc26_1 : Int32), k ≤ nC * nR → nC * nR < k + n26 → acc26_0 = (lp_L_sheets_20 nC nR gp gq gz gu k).1 → acc26_1 = (lp_L_sheets_20 nC nR gp gq gz gu k).2 → ∀ (nc ns : Nat), nc ≤ 0 + 16 * k → ns ≤ 0 + 96 * k → ∀ (H : Heap) (locs : List Loc), va_P D vwCl [(qo, .inr (4, [.ref qm, .ref qb, .ref qr, .ref qf])), (qm, .inr (2, [.ref qw, .ref qh])), (qw, .inl (cI, 10, .inl fw)), (qh, .inl (cI, 10, .inl fh)), (qr, .inr (3, [.int br])), (qf, .inr (1, [.ref qx, .ref qy, .ref qz, .ref qu, .int (nI nC), .int (nI nR), .int nf])), (qx, .inl (cI, 36, .inl fx)), (qy, .inl (cI, 36, .inl fy)), (qz, .inl (cI, 36, .inl fz)), (qu, .inl (cZ, 36, .inl fu)), (qT, .inl (cI, 33, .inl gt)), (qP, .inl (cI, 36, .inl gp)), (qQ, .inl (cI, 36, .inl gq)), (qZ, .inl (cI, 36, .inl gz)), (qU, .inl (cI, 36, .inl gu))] H → va_D A [(qo, .inr (4, [.ref qm, .ref qb, .ref qr, .ref qf])), (qm, .inr (2, [.ref qw, .ref qh])), (qw, .inl (cI, 10, .inl fw)), (qh, .inl (cI, 10, .inl fh)), (qr, .inr (3, [.int br])), (qf, .inr (1, [.ref qx, .ref qy, .ref qz, .ref qu, .int (nI nC), .int (nI nR), .int nf])), (qx, .inl (cI, 36, .inl fx)), (qy, .inl (cI, 36, .inl fy)), (qz, .inl (cI, 36, .inl fz)), (qu, .inl (cZ, 36, .inl fu)), (qT, .inl (cI, 33, .inl gt)), (qP, .inl (cI, 36, .inl gp)), (qQ, .inl (cI, 36, .inl gq)), (qZ, .inl (cI, 36, .inl gz)), (qU, .inl (cI, 36, .inl gu))] → va_S A s.heap H locs → ∀ (ls : Array Slot), lv_has ls 15 [(7, .int ((nI nC) * (nI nR))), (0, .ref qo), (1, .int y), (2, .ref qT), (3, .ref qP), (4, .ref qQ), (5, .ref qZ), (6, .ref qU), (10, .int (nI k)), (8, .int acc26_0), (9, .int acc26_1)] → W p l e (headSpec wsL_sheets rm_L_sheets).room s m ([.ref qo, .int y, .ref qT, .ref qP, .ref qQ, .ref qZ, .ref qU]).toArray below meth c H locs nc ns (MQ below (Qc_L_sheets D cI cZ cJ cD qo qm qb qr qf qw qh fw fh br qx qy qz qu nC nR nf fx fy fz fu qT gt qP qQ qZ qU gp gq gz gu y A) ([.ref qo, .int y, .ref qT, .ref qP, .ref qQ, .ref qZ, .ref qU]).toArray s 700 4200 A) (F0 m 20 ls []) := by
    intro n26
    induction n26 with
    | zero =>
      intro k acc26_0 acc26_1 hkk hf26
      exact absurd hf26 (by omega)
    | succ n26 ih26 =>
      intro k acc26_0 acc26_1 hkk hf26 hacc26_0 hacc26_1 nc ns hnc hns H locs hP hD hS ls hl
      subst hacc26_0
      subst hacc26_1
      refine lv_iload hx hb dL_sheets_20 (lv_at hl 8 rfl) ?_
      refine lv_iload hx hb dL_sheets_22 (lv_at hl 0 rfl) ?_
      refine lv_icmp_ge (tgt := 253) hx hb dL_sheets_24 (by decide) (fun c64 => ?_) (fun c64 => ?_)
      · have hgek : nC * nR ≤ k := sh_ge hN hkk c64
        have ekk : k = nC * nR := by omega
        subst ekk
        refine W.widen (k := 576) (n := 3456) (by omega) (by omega) ?_
        exact X26 _ _ hP hD hS _ (lv_sub hl [0, 1, 2, 3, 4, 5, 6, 7, 9, 10] rfl)
      · refine lv_iconst (v := 0) hx hb dL_sheets_27 (by decide) ?_
        refine lv_istore (lv' := [(11, .int 0), (7, .int ((nI nC) * (nI nR))), (0, .ref qo), (1, .int y), (2, .ref qT), (3, .ref qP), (4, .ref qQ), (5, .ref qZ), (6, .ref qU), (10, .int (nI k)), (8, .int ((lp_L_sheets_20 nC nR gp gq gz gu k).1)), (9, .int ((lp_L_sheets_20 nC nR gp gq gz gu k).2))]) hx hb dL_sheets_28 hl (by decide) rfl (fun ls hl => ?_)
        refine lv_iconst (v := 0) hx hb dL_sheets_30 (by decide) ?_
        refine lv_istore (lv' := [(12, .int 0), (11, .int 0), (7, .int ((nI nC) * (nI nR))), (0, .ref qo), (1, .int y), (2, .ref qT), (3, .ref qP), (4, .ref qQ), (5, .ref qZ), (6, .ref qU), (10, .int (nI k)), (8, .int ((lp_L_sheets_20 nC nR gp gq gz gu k).1)), (9, .int ((lp_L_sheets_20 nC nR gp gq gz gu k).2))]) hx hb dL_sheets_31 hl (by decide) rfl (fun ls hl => ?_)
        refine lv_iconst (v := 0) hx hb dL_sheets_33 (by decide) ?_
        refine lv_istore (lv' := [(13, .int 0), (12, .int 0), (11, .int 0), (7, .int ((nI nC) * (nI nR))), (0, .ref qo), (1, .int y), (2, .ref qT), (3, .ref qP), (4, .ref qQ), (5, .ref qZ), (6, .ref qU), (10, .int (nI k)), (8, .int ((lp_L_sheets_20 nC nR gp gq gz gu k).1)), (9, .int ((lp_L_sheets_20 nC nR gp gq gz gu k).2))]) hx hb dL_sheets_34 hl (by decide) rfl (fun ls hl => ?_)
        have X65 : ∀ (H : Heap) (locs : List Loc), va_P D vwCl [(qo, .inr (4, [.ref qm, .ref qb, .ref qr, .ref qf])), (qm, .inr (2, [.ref qw, .ref qh])), (qw, .inl (cI, 10, .inl fw)), (qh, .inl (cI, 10, .inl fh)), (qr, .inr (3, [.int br])), (qf, .inr (1, [.ref qx, .ref qy, .ref qz, .ref qu, .int (nI nC), .int (nI nR), .int nf])), (qx, .inl (cI, 36, .inl fx)), (qy, .inl (cI, 36, .inl fy)), (qz, .inl (cI, 36, .inl fz)), (qu, .inl (cZ, 36, .inl fu)), (qT, .inl (cI, 33, .inl gt)), (qP, .inl (cI, 36, .inl gp)), (qQ, .inl (cI, 36, .inl gq)), (qZ, .inl (cI, 36, .inl gz)), (qU, .inl (cI, 36, .inl gu))] H → va_D A [(qo, .inr (4, [.ref qm, .ref qb, .ref qr, .ref qf])), (qm, .inr (2, [.ref qw, .ref qh])), (qw, .inl (cI, 10, .inl fw)), (qh, .inl (cI, 10, .inl fh)), (qr, .inr (3, [.int br])), (qf, .inr (1, [.ref qx, .ref qy, .ref qz, .ref qu, .int (nI nC), .int (nI nR), .int nf])), (qx, .inl (cI, 36, .inl fx)), (qy, .inl (cI, 36, .inl fy)), (qz, .inl (cI, 36, .inl fz)), (qu, .inl (cZ, 36, .inl fu)), (qT, .inl (cI, 33, .inl gt)), (qP, .inl (cI, 36, .inl gp)), (qQ, .inl (cI, 36, .inl gq)), (qZ, .inl (cI, 36, .inl gz)), (qU, .inl (cI, 36, .inl gu))] → va_S A s.heap H locs → ∀ (ls : Array Slot), lv_has ls 15 [(7, .int ((nI nC) * (nI nR))), (0, .ref qo), (1, .int y), (2, .ref qT), (3, .ref qP), (4, .ref qQ), (5, .ref qZ), (6, .ref qU), (10, .int (nI k)), (8, .int ((lp_L_sheets_20 nC nR gp gq gz gu k).1)), (9, .int ((lp_L_sheets_20 nC nR gp gq gz gu k).2)), (12, .int ((lp_L_sheets_36 gp gq gz k (nC * nR)).1)), (11, .int ((lp_L_sheets_36 gp gq gz k (nC * nR)).2))] → W p l e (headSpec wsL_sheets rm_L_sheets).room s m ([.ref qo, .int y, .ref qT, .ref qP, .ref qQ, .ref qZ, .ref qU]).toArray below meth c H locs nc ns (MQ below (Qc_L_sheets D cI cZ cJ cD qo qm qb qr qf qw qh fw fh br qx qy qz qu nC nR nf fx fy fz fu qT gt qP qQ qZ qU gp gq gz gu y A) ([.ref qo, .int y, .ref qT, .ref qP, .ref qQ, .ref qZ, .ref qU]).toArray s 700 4200 A) (F0 m 123 ls []) := by
          intro H locs hP hD hS ls hl
          refine lv_iload hx hb dL_sheets_123 (lv_at hl 8 rfl) ?_
          refine lv_aload_n hx hb dL_sheets_125 rfl (lv_at hl 3 rfl) ?_
          refine lv_bipush (v := 30) hx hb dL_sheets_126 (by decide) ?_
          refine va_iald hx hb hK hP 10 0 rfl rfl (z_inc (k := 30) rfl (by decide)) dL_sheets_128 ?_
          rw [show gt (30 : Int32).toNatClampNeg = nI nC from h30]
          refine lv_irem hx hb dL_sheets_129 (nI_ne0 hN1.1 (by omega)) ?_
          refine lv_istore (lv' := [(13, .int ((nI k) - (nI k) / (nI nC) * (nI nC))), (7, .int ((nI nC) * (nI nR))), (0, .ref qo), (1, .int y), (2, .ref qT), (3, .ref qP), (4, .ref qQ), (5, .ref qZ), (6, .ref qU), (10, .int (nI k)), (8, .int ((lp_L_sheets_20 nC nR gp gq gz gu k).1)), (9, .int ((lp_L_sheets_20 nC nR gp gq gz gu k).2)), (12, .int ((lp_L_sheets_36 gp gq gz k (nC * nR)).1)), (11, .int ((lp_L_sheets_36 gp gq gz k (nC * nR)).2))]) hx hb dL_sheets_130 hl (by decide) rfl (fun ls hl => ?_)
          refine lv_iload hx hb dL_sheets_132 (lv_at hl 9 rfl) ?_
          refine lv_aload_n hx hb dL_sheets_134 rfl (lv_at hl 4 rfl) ?_
          refine lv_bipush (v := 30) hx hb dL_sheets_135 (by decide) ?_
          refine va_iald hx hb hK hP 10 0 rfl rfl (z_inc (k := 30) rfl (by decide)) dL_sheets_137 ?_
          rw [show gt (30 : Int32).toNatClampNeg = nI nC from h30]
          refine lv_idiv hx hb dL_sheets_138 (nI_ne0 hN1.1 (by omega)) ?_
          refine lv_istore (lv' := [(14, .int ((nI k) / (nI nC))), (13, .int ((nI k) - (nI k) / (nI nC) * (nI nC))), (7, .int ((nI nC) * (nI nR))), (0, .ref qo), (1, .int y), (2, .ref qT), (3, .ref qP), (4, .ref qQ), (5, .ref qZ), (6, .ref qU), (10, .int (nI k)), (8, .int ((lp_L_sheets_20 nC nR gp gq gz gu k).1)), (9, .int ((lp_L_sheets_20 nC nR gp gq gz gu k).2)), (12, .int ((lp_L_sheets_36 gp gq gz k (nC * nR)).1)), (11, .int ((lp_L_sheets_36 gp gq gz k (nC * nR)).2))]) hx hb dL_sheets_139 hl (by decide) rfl (fun ls hl => ?_)
          refine lv_iload hx hb dL_sheets_141 (lv_at hl 13 rfl) ?_
          refine lv_iload hx hb dL_sheets_143 (lv_at hl 11 rfl) ?_
          have K67 : ∀ v67_0 : Int32, v67_0 = (if ((lp_L_sheets_36 gp gq gz k (nC * nR)).1) ≤ ((lp_L_sheets_20 nC nR gp gq gz gu k).1) then (lp_L_sheets_20 nC nR gp gq gz gu k).1 else (lp_L_sheets_36 gp gq gz k (nC * nR)).1) → ∀ (H : Heap) (locs : List Loc), va_P D vwCl [(qo, .inr (4, [.ref qm, .ref qb, .ref qr, .ref qf])), (qm, .inr (2, [.ref qw, .ref qh])), (qw, .inl (cI, 10, .inl fw)), (qh, .inl (cI, 10, .inl fh)), (qr, .inr (3, [.int br])), (qf, .inr (1, [.ref qx, .ref qy, .ref qz, .ref qu, .int (nI nC), .int (nI nR), .int nf])), (qx, .inl (cI, 36, .inl fx)), (qy, .inl (cI, 36, .inl fy)), (qz, .inl (cI, 36, .inl fz)), (qu, .inl (cZ, 36, .inl fu)), (qT, .inl (cI, 33, .inl gt)), (qP, .inl (cI, 36, .inl gp)), (qQ, .inl (cI, 36, .inl gq)), (qZ, .inl (cI, 36, .inl gz)), (qU, .inl (cI, 36, .inl gu))] H → va_D A [(qo, .inr (4, [.ref qm, .ref qb, .ref qr, .ref qf])), (qm, .inr (2, [.ref qw, .ref qh])), (qw, .inl (cI, 10, .inl fw)), (qh, .inl (cI, 10, .inl fh)), (qr, .inr (3, [.int br])), (qf, .inr (1, [.ref qx, .ref qy, .ref qz, .ref qu, .int (nI nC), .int (nI nR), .int nf])), (qx, .inl (cI, 36, .inl fx)), (qy, .inl (cI, 36, .inl fy)), (qz, .inl (cI, 36, .inl fz)), (qu, .inl (cZ, 36, .inl fu)), (qT, .inl (cI, 33, .inl gt)), (qP, .inl (cI, 36, .inl gp)), (qQ, .inl (cI, 36, .inl gq)), (qZ, .inl (cI, 36, .inl gz)), (qU, .inl (cI, 36, .inl gu))] → va_S A s.heap H locs → ∀ (ls : Array Slot), lv_has ls 15 [(14, .int ((nI k) / (nI nC))), (13, .int ((nI k) - (nI k) / (nI nC) * (nI nC))), (7, .int ((nI nC) * (nI nR))), (0, .ref qo), (1, .int y), (2, .ref qT), (3, .ref qP), (4, .ref qQ), (5, .ref qZ), (6, .ref qU), (10, .int (nI k)), (8, .int ((lp_L_sheets_20 nC nR gp gq gz gu k).1)), (9, .int ((lp_L_sheets_20 nC nR gp gq gz gu k).2)), (12, .int ((lp_L_sheets_36 gp gq gz k (nC * nR)).1)), (11, .int ((lp_L_sheets_36 gp gq gz k (nC * nR)).2))] → W p l e (headSpec wsL_sheets rm_L_sheets).room s m ([.ref qo, .int y, .ref qT, .ref qP, .ref qQ, .ref qZ, .ref qU]).toArray below meth c H locs nc ns (MQ below (Qc_L_sheets D cI cZ cJ cD qo qm qb qr qf qw qh fw fh br qx qy qz qu nC nR nf fx fy fz fu qT gt qP qQ qZ qU gp gq gz gu y A) ([.ref qo, .int y, .ref qT, .ref qP, .ref qQ, .ref qZ, .ref qU]).toArray s 700 4200 A) (F0 m 155 ls [.int v67_0]) := by
            intro v67_0 hv67_0 H locs hP hD hS ls hl
            subst hv67_0
            refine lv_istore (lv' := [(8, .int (if ((lp_L_sheets_36 gp gq gz k (nC * nR)).1) ≤ ((lp_L_sheets_20 nC nR gp gq gz gu k).1) then (lp_L_sheets_20 nC nR gp gq gz gu k).1 else (lp_L_sheets_36 gp gq gz k (nC * nR)).1)), (14, .int ((nI k) / (nI nC))), (13, .int ((nI k) - (nI k) / (nI nC) * (nI nC))), (7, .int ((nI nC) * (nI nR))), (0, .ref qo), (1, .int y), (2, .ref qT), (3, .ref qP), (4, .ref qQ), (5, .ref qZ), (6, .ref qU), (10, .int (nI k)), (9, .int ((lp_L_sheets_20 nC nR gp gq gz gu k).2)), (12, .int ((lp_L_sheets_36 gp gq gz k (nC * nR)).1)), (11, .int ((lp_L_sheets_36 gp gq gz k (nC * nR)).2))]) hx hb dL_sheets_155 hl (by decide) rfl (fun ls hl => ?_)
            have hl : lv_has ls 15 [(8, .int (v_L_sheets_155 nC nR gp gq gz ((lp_L_sheets_20 nC nR gp gq gz gu k).1) k)), (14, .int ((nI k) / (nI nC))), (13, .int ((nI k) - (nI k) / (nI nC) * (nI nC))), (7, .int ((nI nC) * (nI nR))), (0, .ref qo), (1, .int y), (2, .ref qT), (3, .ref qP), (4, .ref qQ), (5, .ref qZ), (6, .ref qU), (10, .int (nI k)), (9, .int ((lp_L_sheets_20 nC nR gp gq gz gu k).2)), (12, .int ((lp_L_sheets_36 gp gq gz k (nC * nR)).1)), (11, .int ((lp_L_sheets_36 gp gq gz k (nC * nR)).2))] := hl
            refine lv_iload hx hb dL_sheets_157 (lv_at hl 12 rfl) ?_
            refine lv_iload hx hb dL_sheets_159 (lv_at hl 14 rfl) ?_
            have K69 : ∀ v69_0 : Int32, v69_0 = (if ((lp_L_sheets_36 gp gq gz k (nC * nR)).2) = 0 then (if (gu (nI k).toNatClampNeg) = 1 then 1 else 0) else 0) → ∀ (H : Heap) (locs : List Loc), va_P D vwCl [(qo, .inr (4, [.ref qm, .ref qb, .ref qr, .ref qf])), (qm, .inr (2, [.ref qw, .ref qh])), (qw, .inl (cI, 10, .inl fw)), (qh, .inl (cI, 10, .inl fh)), (qr, .inr (3, [.int br])), (qf, .inr (1, [.ref qx, .ref qy, .ref qz, .ref qu, .int (nI nC), .int (nI nR), .int nf])), (qx, .inl (cI, 36, .inl fx)), (qy, .inl (cI, 36, .inl fy)), (qz, .inl (cI, 36, .inl fz)), (qu, .inl (cZ, 36, .inl fu)), (qT, .inl (cI, 33, .inl gt)), (qP, .inl (cI, 36, .inl gp)), (qQ, .inl (cI, 36, .inl gq)), (qZ, .inl (cI, 36, .inl gz)), (qU, .inl (cI, 36, .inl gu))] H → va_D A [(qo, .inr (4, [.ref qm, .ref qb, .ref qr, .ref qf])), (qm, .inr (2, [.ref qw, .ref qh])), (qw, .inl (cI, 10, .inl fw)), (qh, .inl (cI, 10, .inl fh)), (qr, .inr (3, [.int br])), (qf, .inr (1, [.ref qx, .ref qy, .ref qz, .ref qu, .int (nI nC), .int (nI nR), .int nf])), (qx, .inl (cI, 36, .inl fx)), (qy, .inl (cI, 36, .inl fy)), (qz, .inl (cI, 36, .inl fz)), (qu, .inl (cZ, 36, .inl fu)), (qT, .inl (cI, 33, .inl gt)), (qP, .inl (cI, 36, .inl gp)), (qQ, .inl (cI, 36, .inl gq)), (qZ, .inl (cI, 36, .inl gz)), (qU, .inl (cI, 36, .inl gu))] → va_S A s.heap H locs → ∀ (ls : Array Slot), lv_has ls 15 [(8, .int (v_L_sheets_155 nC nR gp gq gz ((lp_L_sheets_20 nC nR gp gq gz gu k).1) k)), (14, .int ((nI k) / (nI nC))), (13, .int ((nI k) - (nI k) / (nI nC) * (nI nC))), (7, .int ((nI nC) * (nI nR))), (0, .ref qo), (1, .int y), (2, .ref qT), (3, .ref qP), (4, .ref qQ), (5, .ref qZ), (6, .ref qU), (10, .int (nI k)), (9, .int ((lp_L_sheets_20 nC nR gp gq gz gu k).2)), (12, .int ((lp_L_sheets_36 gp gq gz k (nC * nR)).1)), (11, .int ((lp_L_sheets_36 gp gq gz k (nC * nR)).2))] → W p l e (headSpec wsL_sheets rm_L_sheets).room s m ([.ref qo, .int y, .ref qT, .ref qP, .ref qQ, .ref qZ, .ref qU]).toArray below meth c H locs nc ns (MQ below (Qc_L_sheets D cI cZ cJ cD qo qm qb qr qf qw qh fw fh br qx qy qz qu nC nR nf fx fy fz fu qT gt qP qQ qZ qU gp gq gz gu y A) ([.ref qo, .int y, .ref qT, .ref qP, .ref qQ, .ref qZ, .ref qU]).toArray s 700 4200 A) (F0 m 178 ls [.int v69_0, .int ((lp_L_sheets_20 nC nR gp gq gz gu k).2)]) := by
              intro v69_0 hv69_0 H locs hP hD hS ls hl
              subst hv69_0
              refine lv_iadd hx hb dL_sheets_178 ?_
              refine lv_istore (lv' := [(9, .int (((lp_L_sheets_20 nC nR gp gq gz gu k).2) + (if ((lp_L_sheets_36 gp gq gz k (nC * nR)).2) = 0 then (if (gu (nI k).toNatClampNeg) = 1 then 1 else 0) else 0))), (8, .int (v_L_sheets_155 nC nR gp gq gz ((lp_L_sheets_20 nC nR gp gq gz gu k).1) k)), (14, .int ((nI k) / (nI nC))), (13, .int ((nI k) - (nI k) / (nI nC) * (nI nC))), (7, .int ((nI nC) * (nI nR))), (0, .ref qo), (1, .int y), (2, .ref qT), (3, .ref qP), (4, .ref qQ), (5, .ref qZ), (6, .ref qU), (10, .int (nI k)), (12, .int ((lp_L_sheets_36 gp gq gz k (nC * nR)).1)), (11, .int ((lp_L_sheets_36 gp gq gz k (nC * nR)).2))]) hx hb dL_sheets_179 hl (by decide) rfl (fun ls hl => ?_)
              have hl : lv_has ls 15 [(9, .int (v_L_sheets_179 nC nR gp gq gz gu ((lp_L_sheets_20 nC nR gp gq gz gu k).2) k)), (8, .int (v_L_sheets_155 nC nR gp gq gz ((lp_L_sheets_20 nC nR gp gq gz gu k).1) k)), (14, .int ((nI k) / (nI nC))), (13, .int ((nI k) - (nI k) / (nI nC) * (nI nC))), (7, .int ((nI nC) * (nI nR))), (0, .ref qo), (1, .int y), (2, .ref qT), (3, .ref qP), (4, .ref qQ), (5, .ref qZ), (6, .ref qU), (10, .int (nI k)), (12, .int ((lp_L_sheets_36 gp gq gz k (nC * nR)).1)), (11, .int ((lp_L_sheets_36 gp gq gz k (nC * nR)).2))] := hl
              refine lv_aload_n hx hb dL_sheets_181 rfl (lv_at hl 5 rfl) ?_
              refine lv_iconst (v := 0) hx hb dL_sheets_182 (by decide) ?_
              refine lv_iload hx hb dL_sheets_183 (lv_at hl 3 rfl) ?_
              refine lv_iload hx hb dL_sheets_185 (lv_at hl 2 rfl) ?_
              have hPc := hP.sub (ws' := [(qo, .inr (4, [.ref qm, .ref qb, .ref qr, .ref qf])), (qf, .inr (1, [.ref qx, .ref qy, .ref qz, .ref qu, .int (nI nC), .int (nI nR), .int nf])), (qx, .inl (cI, 36, .inl fx)), (qy, .inl (cI, 36, .inl fy)), (qz, .inl (cI, 36, .inl fz)), (qu, .inl (cZ, 36, .inl fu))]) [0, 5, 6, 7, 8, 9] rfl
              have hDc := hD.sub (ws' := [(qo, .inr (4, [.ref qm, .ref qb, .ref qr, .ref qf])), (qf, .inr (1, [.ref qx, .ref qy, .ref qz, .ref qu, .int (nI nC), .int (nI nR), .int nf])), (qx, .inl (cI, 36, .inl fx)), (qy, .inl (cI, 36, .inl fy)), (qz, .inl (cI, 36, .inl fz)), (qu, .inl (cZ, 36, .inl fu))]) [0, 5, 6, 7, 8, 9] (by decide) rfl
              have hFc := va_free (wc := [(qo, .inr (4, [.ref qm, .ref qb, .ref qr, .ref qf])), (qf, .inr (1, [.ref qx, .ref qy, .ref qz, .ref qu, .int (nI nC), .int (nI nR), .int nf])), (qx, .inl (cI, 36, .inl fx)), (qy, .inl (cI, 36, .inl fy)), (qz, .inl (cI, 36, .inl fz)), (qu, .inl (cZ, 36, .inl fu))]) hD hS hA [0, 5, 6, 7, 8, 9] rfl
              refine vx_calli (vx_runSX (As := [.ref qo, .int 0, .int ((nI k) - (nI k) / (nI nC) * (nI nC)), .int ((nI k) / (nI nC))]) (rest := []) ⟨hx, hb, hml, hown, hts⟩ (c_L_of l hnt D cI cZ cJ cD qo qm qb qr qf qx qy qz qu nC nR nf fx fy fz fu 0 ((nI k) - (nI k) / (nI nC) * (nI nC)) ((nI k) / (nI nC)) H.size hN hC hR) (vx_cwSW 4 hts gL_sheets_L_of rfl rfl rfl (by decide +kernel) ⟨Nat.le_of_ble_eq_true rfl, Nat.le_of_ble_eq_true rfl⟩) ⟨zblindWE, (fun U hU hW => ⟨rfl, by rw [hU], by rw [hU]; exact hPc, va_K.moved hW.alike hK, hDc.weaken (fun _ _ _ _ => trivial), zEnv.go hE hS hFc hU hW⟩)⟩ rfl rfl hl.1 rfl (lv_room (Nat.le_of_ble_eq_true rfl)) dL_sheets_187 ⟨(show _ ≤ 700 from by omega), (show _ ≤ 4200 from by omega)⟩) hS (fun q _ h => hFc q h) hFc (fun q _ h => hFc q h) (fun E ce q9 u t H locs ht hvm hpx hB hz1 hk1 hS hq9 hce hcl => ?_) (fun r70 u t H locs ht hvm hw hB hz1 hk1 hS => ?_)
              · exact hB.elim
              rw [hw]
              obtain ⟨hP1, hK1, hD1⟩ := hB
              rw [ht] at hP1
              obtain ⟨hP, hD⟩ := va_join (wr := [(qm, .inr (2, [.ref qw, .ref qh])), (qw, .inl (cI, 10, .inl fw)), (qh, .inl (cI, 10, .inl fh)), (qr, .inr (3, [.int br])), (qT, .inl (cI, 33, .inl gt)), (qP, .inl (cI, 36, .inl gp)), (qQ, .inl (cI, 36, .inl gq)), (qZ, .inl (cI, 36, .inl gz)), (qU, .inl (cI, 36, .inl gu))]) (w1 := [(qo, .inr (4, [.ref qm, .ref qb, .ref qr, .ref qf])), (qf, .inr (1, [.ref qx, .ref qy, .ref qz, .ref qu, .int (nI nC), .int (nI nR), .int nf])), (qx, .inl (cI, 36, .inl fx)), (qy, .inl (cI, 36, .inl fy)), (qz, .inl (cI, 36, .inl fz)), (qu, .inl (cZ, 36, .inl fu))]) hP hD [0, 5, 6, 7, 8, 9] [1, 2, 3, 4, 10, 11, 12, 13, 14] rfl rfl (by decide) (by decide) hk1 hFc hP1 hD1
              have hP := hP.sub (ws' := [(qo, .inr (4, [.ref qm, .ref qb, .ref qr, .ref qf])), (qm, .inr (2, [.ref qw, .ref qh])), (qw, .inl (cI, 10, .inl fw)), (qh, .inl (cI, 10, .inl fh)), (qr, .inr (3, [.int br])), (qf, .inr (1, [.ref qx, .ref qy, .ref qz, .ref qu, .int (nI nC), .int (nI nR), .int nf])), (qx, .inl (cI, 36, .inl fx)), (qy, .inl (cI, 36, .inl fy)), (qz, .inl (cI, 36, .inl fz)), (qu, .inl (cZ, 36, .inl fu)), (qT, .inl (cI, 33, .inl gt)), (qP, .inl (cI, 36, .inl gp)), (qQ, .inl (cI, 36, .inl gq)), (qZ, .inl (cI, 36, .inl gz)), (qU, .inl (cI, 36, .inl gu))]) [9, 0, 1, 2, 3, 10, 11, 12, 13, 14, 4, 5, 6, 7, 8] rfl
              have hD := hD.sub (ws' := [(qo, .inr (4, [.ref qm, .ref qb, .ref qr, .ref qf])), (qm, .inr (2, [.ref qw, .ref qh])), (qw, .inl (cI, 10, .inl fw)), (qh, .inl (cI, 10, .inl fh)), (qr, .inr (3, [.int br])), (qf, .inr (1, [.ref qx, .ref qy, .ref qz, .ref qu, .int (nI nC), .int (nI nR), .int nf])), (qx, .inl (cI, 36, .inl fx)), (qy, .inl (cI, 36, .inl fy)), (qz, .inl (cI, 36, .inl fz)), (qu, .inl (cZ, 36, .inl fu)), (qT, .inl (cI, 33, .inl gt)), (qP, .inl (cI, 36, .inl gp)), (qQ, .inl (cI, 36, .inl gq)), (qZ, .inl (cI, 36, .inl gz)), (qU, .inl (cI, 36, .inl gu))]) [9, 0, 1, 2, 3, 10, 11, 12, 13, 14, 4, 5, 6, 7, 8] (by decide) rfl
              refine W.widen (k := (nc + 4)) (n := (ns + 24)) (by omega) (by omega) ?_
              refine lv_aload_n hx hb dL_sheets_190 rfl (lv_at hl 8 rfl) ?_
              refine lv_iload hx hb dL_sheets_191 (lv_at hl 12 rfl) ?_
              refine va_iald hx hb hK hP 11 0 rfl rfl (sh_in hN (sh_lt hN hkk c64)) dL_sheets_193 ?_
              refine lv_icmp_ne (tgt := 245) hx hb dL_sheets_194 (by decide) (fun c71 => ?_) (fun c71 => ?_)
              · exact absurd (sh_0 hSh hN1 (sh_lt hN hkk c64)) c71
              · refine lv_aload_n hx hb dL_sheets_197 rfl (lv_at hl 5 rfl) ?_
                refine lv_iconst (v := 1) hx hb dL_sheets_198 (by decide) ?_
                refine lv_iload hx hb dL_sheets_199 (lv_at hl 3 rfl) ?_
                refine lv_iload hx hb dL_sheets_201 (lv_at hl 2 rfl) ?_
                have hPc := hP.sub (ws' := [(qo, .inr (4, [.ref qm, .ref qb, .ref qr, .ref qf])), (qf, .inr (1, [.ref qx, .ref qy, .ref qz, .ref qu, .int (nI nC), .int (nI nR), .int nf])), (qx, .inl (cI, 36, .inl fx)), (qy, .inl (cI, 36, .inl fy)), (qz, .inl (cI, 36, .inl fz)), (qu, .inl (cZ, 36, .inl fu))]) [0, 5, 6, 7, 8, 9] rfl
                have hDc := hD.sub (ws' := [(qo, .inr (4, [.ref qm, .ref qb, .ref qr, .ref qf])), (qf, .inr (1, [.ref qx, .ref qy, .ref qz, .ref qu, .int (nI nC), .int (nI nR), .int nf])), (qx, .inl (cI, 36, .inl fx)), (qy, .inl (cI, 36, .inl fy)), (qz, .inl (cI, 36, .inl fz)), (qu, .inl (cZ, 36, .inl fu))]) [0, 5, 6, 7, 8, 9] (by decide) rfl
                have hFc := va_free (wc := [(qo, .inr (4, [.ref qm, .ref qb, .ref qr, .ref qf])), (qf, .inr (1, [.ref qx, .ref qy, .ref qz, .ref qu, .int (nI nC), .int (nI nR), .int nf])), (qx, .inl (cI, 36, .inl fx)), (qy, .inl (cI, 36, .inl fy)), (qz, .inl (cI, 36, .inl fz)), (qu, .inl (cZ, 36, .inl fu))]) hD hS hA [0, 5, 6, 7, 8, 9] rfl
                refine vx_calli (vx_runSX (As := [.ref qo, .int 1, .int ((nI k) - (nI k) / (nI nC) * (nI nC)), .int ((nI k) / (nI nC))]) (rest := []) ⟨hx, hb, hml, hown, hts⟩ (c_L_of l hnt D cI cZ cJ cD qo qm qb qr qf qx qy qz qu nC nR nf fx fy fz fu 1 ((nI k) - (nI k) / (nI nC) * (nI nC)) ((nI k) / (nI nC)) H.size hN hC hR) (vx_cwSW 4 hts gL_sheets_L_of rfl rfl rfl (by decide +kernel) ⟨Nat.le_of_ble_eq_true rfl, Nat.le_of_ble_eq_true rfl⟩) ⟨zblindWE, (fun U hU hW => ⟨rfl, by rw [hU], by rw [hU]; exact hPc, va_K.moved hW.alike hK, hDc.weaken (fun _ _ _ _ => trivial), zEnv.go hE hS hFc hU hW⟩)⟩ rfl rfl hl.1 rfl (lv_room (Nat.le_of_ble_eq_true rfl)) dL_sheets_203 ⟨(show _ ≤ 700 from by omega), (show _ ≤ 4200 from by omega)⟩) hS (fun q _ h => hFc q h) hFc (fun q _ h => hFc q h) (fun E ce q9 u t H locs ht hvm hpx hB hz1 hk1 hS hq9 hce hcl => ?_) (fun r72 u t H locs ht hvm hw hB hz1 hk1 hS => ?_)
                · exact hB.elim
                rw [hw]
                obtain ⟨hP1, hK1, hD1⟩ := hB
                rw [ht] at hP1
                obtain ⟨hP, hD⟩ := va_join (wr := [(qm, .inr (2, [.ref qw, .ref qh])), (qw, .inl (cI, 10, .inl fw)), (qh, .inl (cI, 10, .inl fh)), (qr, .inr (3, [.int br])), (qT, .inl (cI, 33, .inl gt)), (qP, .inl (cI, 36, .inl gp)), (qQ, .inl (cI, 36, .inl gq)), (qZ, .inl (cI, 36, .inl gz)), (qU, .inl (cI, 36, .inl gu))]) (w1 := [(qo, .inr (4, [.ref qm, .ref qb, .ref qr, .ref qf])), (qf, .inr (1, [.ref qx, .ref qy, .ref qz, .ref qu, .int (nI nC), .int (nI nR), .int nf])), (qx, .inl (cI, 36, .inl fx)), (qy, .inl (cI, 36, .inl fy)), (qz, .inl (cI, 36, .inl fz)), (qu, .inl (cZ, 36, .inl fu))]) hP hD [0, 5, 6, 7, 8, 9] [1, 2, 3, 4, 10, 11, 12, 13, 14] rfl rfl (by decide) (by decide) hk1 hFc hP1 hD1
                have hP := hP.sub (ws' := [(qo, .inr (4, [.ref qm, .ref qb, .ref qr, .ref qf])), (qm, .inr (2, [.ref qw, .ref qh])), (qw, .inl (cI, 10, .inl fw)), (qh, .inl (cI, 10, .inl fh)), (qr, .inr (3, [.int br])), (qf, .inr (1, [.ref qx, .ref qy, .ref qz, .ref qu, .int (nI nC), .int (nI nR), .int nf])), (qx, .inl (cI, 36, .inl fx)), (qy, .inl (cI, 36, .inl fy)), (qz, .inl (cI, 36, .inl fz)), (qu, .inl (cZ, 36, .inl fu)), (qT, .inl (cI, 33, .inl gt)), (qP, .inl (cI, 36, .inl gp)), (qQ, .inl (cI, 36, .inl gq)), (qZ, .inl (cI, 36, .inl gz)), (qU, .inl (cI, 36, .inl gu))]) [9, 0, 1, 2, 3, 10, 11, 12, 13, 14, 4, 5, 6, 7, 8] rfl
                have hD := hD.sub (ws' := [(qo, .inr (4, [.ref qm, .ref qb, .ref qr, .ref qf])), (qm, .inr (2, [.ref qw, .ref qh])), (qw, .inl (cI, 10, .inl fw)), (qh, .inl (cI, 10, .inl fh)), (qr, .inr (3, [.int br])), (qf, .inr (1, [.ref qx, .ref qy, .ref qz, .ref qu, .int (nI nC), .int (nI nR), .int nf])), (qx, .inl (cI, 36, .inl fx)), (qy, .inl (cI, 36, .inl fy)), (qz, .inl (cI, 36, .inl fz)), (qu, .inl (cZ, 36, .inl fu)), (qT, .inl (cI, 33, .inl gt)), (qP, .inl (cI, 36, .inl gp)), (qQ, .inl (cI, 36, .inl gq)), (qZ, .inl (cI, 36, .inl gz)), (qU, .inl (cI, 36, .inl gu))]) [9, 0, 1, 2, 3, 10, 11, 12, 13, 14, 4, 5, 6, 7, 8] (by decide) rfl
                refine W.widen (k := (nc + 8)) (n := (ns + 48)) (by omega) (by omega) ?_
                refine lv_aload hx hb dL_sheets_206 (lv_at hl 9 rfl) ?_
                refine lv_iload hx hb dL_sheets_208 (lv_at hl 12 rfl) ?_
                refine va_iald hx hb hK hP 12 0 rfl rfl (sh_in hN (sh_lt hN hkk c64)) dL_sheets_210 ?_
                refine lv_icmp_ne (tgt := 245) hx hb dL_sheets_211 (by decide) (fun c73 => ?_) (fun c73 => ?_)
                · exact absurd (sh_1 hSh hN1 (sh_lt hN hkk c64)) c73
                · refine lv_aload_n hx hb dL_sheets_214 rfl (lv_at hl 5 rfl) ?_
                  refine lv_iconst (v := 2) hx hb dL_sheets_215 (by decide) ?_
                  refine lv_iload hx hb dL_sheets_216 (lv_at hl 3 rfl) ?_
                  refine lv_iload hx hb dL_sheets_218 (lv_at hl 2 rfl) ?_
                  have hPc := hP.sub (ws' := [(qo, .inr (4, [.ref qm, .ref qb, .ref qr, .ref qf])), (qf, .inr (1, [.ref qx, .ref qy, .ref qz, .ref qu, .int (nI nC), .int (nI nR), .int nf])), (qx, .inl (cI, 36, .inl fx)), (qy, .inl (cI, 36, .inl fy)), (qz, .inl (cI, 36, .inl fz)), (qu, .inl (cZ, 36, .inl fu))]) [0, 5, 6, 7, 8, 9] rfl
                  have hDc := hD.sub (ws' := [(qo, .inr (4, [.ref qm, .ref qb, .ref qr, .ref qf])), (qf, .inr (1, [.ref qx, .ref qy, .ref qz, .ref qu, .int (nI nC), .int (nI nR), .int nf])), (qx, .inl (cI, 36, .inl fx)), (qy, .inl (cI, 36, .inl fy)), (qz, .inl (cI, 36, .inl fz)), (qu, .inl (cZ, 36, .inl fu))]) [0, 5, 6, 7, 8, 9] (by decide) rfl
                  have hFc := va_free (wc := [(qo, .inr (4, [.ref qm, .ref qb, .ref qr, .ref qf])), (qf, .inr (1, [.ref qx, .ref qy, .ref qz, .ref qu, .int (nI nC), .int (nI nR), .int nf])), (qx, .inl (cI, 36, .inl fx)), (qy, .inl (cI, 36, .inl fy)), (qz, .inl (cI, 36, .inl fz)), (qu, .inl (cZ, 36, .inl fu))]) hD hS hA [0, 5, 6, 7, 8, 9] rfl
                  refine vx_calli (vx_runSX (As := [.ref qo, .int 2, .int ((nI k) - (nI k) / (nI nC) * (nI nC)), .int ((nI k) / (nI nC))]) (rest := []) ⟨hx, hb, hml, hown, hts⟩ (c_L_of l hnt D cI cZ cJ cD qo qm qb qr qf qx qy qz qu nC nR nf fx fy fz fu 2 ((nI k) - (nI k) / (nI nC) * (nI nC)) ((nI k) / (nI nC)) H.size hN hC hR) (vx_cwSW 4 hts gL_sheets_L_of rfl rfl rfl (by decide +kernel) ⟨Nat.le_of_ble_eq_true rfl, Nat.le_of_ble_eq_true rfl⟩) ⟨zblindWE, (fun U hU hW => ⟨rfl, by rw [hU], by rw [hU]; exact hPc, va_K.moved hW.alike hK, hDc.weaken (fun _ _ _ _ => trivial), zEnv.go hE hS hFc hU hW⟩)⟩ rfl rfl hl.1 rfl (lv_room (Nat.le_of_ble_eq_true rfl)) dL_sheets_220 ⟨(show _ ≤ 700 from by omega), (show _ ≤ 4200 from by omega)⟩) hS (fun q _ h => hFc q h) hFc (fun q _ h => hFc q h) (fun E ce q9 u t H locs ht hvm hpx hB hz1 hk1 hS hq9 hce hcl => ?_) (fun r74 u t H locs ht hvm hw hB hz1 hk1 hS => ?_)
                  · exact hB.elim
                  rw [hw]
                  obtain ⟨hP1, hK1, hD1⟩ := hB
                  rw [ht] at hP1
                  obtain ⟨hP, hD⟩ := va_join (wr := [(qm, .inr (2, [.ref qw, .ref qh])), (qw, .inl (cI, 10, .inl fw)), (qh, .inl (cI, 10, .inl fh)), (qr, .inr (3, [.int br])), (qT, .inl (cI, 33, .inl gt)), (qP, .inl (cI, 36, .inl gp)), (qQ, .inl (cI, 36, .inl gq)), (qZ, .inl (cI, 36, .inl gz)), (qU, .inl (cI, 36, .inl gu))]) (w1 := [(qo, .inr (4, [.ref qm, .ref qb, .ref qr, .ref qf])), (qf, .inr (1, [.ref qx, .ref qy, .ref qz, .ref qu, .int (nI nC), .int (nI nR), .int nf])), (qx, .inl (cI, 36, .inl fx)), (qy, .inl (cI, 36, .inl fy)), (qz, .inl (cI, 36, .inl fz)), (qu, .inl (cZ, 36, .inl fu))]) hP hD [0, 5, 6, 7, 8, 9] [1, 2, 3, 4, 10, 11, 12, 13, 14] rfl rfl (by decide) (by decide) hk1 hFc hP1 hD1
                  have hP := hP.sub (ws' := [(qo, .inr (4, [.ref qm, .ref qb, .ref qr, .ref qf])), (qm, .inr (2, [.ref qw, .ref qh])), (qw, .inl (cI, 10, .inl fw)), (qh, .inl (cI, 10, .inl fh)), (qr, .inr (3, [.int br])), (qf, .inr (1, [.ref qx, .ref qy, .ref qz, .ref qu, .int (nI nC), .int (nI nR), .int nf])), (qx, .inl (cI, 36, .inl fx)), (qy, .inl (cI, 36, .inl fy)), (qz, .inl (cI, 36, .inl fz)), (qu, .inl (cZ, 36, .inl fu)), (qT, .inl (cI, 33, .inl gt)), (qP, .inl (cI, 36, .inl gp)), (qQ, .inl (cI, 36, .inl gq)), (qZ, .inl (cI, 36, .inl gz)), (qU, .inl (cI, 36, .inl gu))]) [9, 0, 1, 2, 3, 10, 11, 12, 13, 14, 4, 5, 6, 7, 8] rfl
                  have hD := hD.sub (ws' := [(qo, .inr (4, [.ref qm, .ref qb, .ref qr, .ref qf])), (qm, .inr (2, [.ref qw, .ref qh])), (qw, .inl (cI, 10, .inl fw)), (qh, .inl (cI, 10, .inl fh)), (qr, .inr (3, [.int br])), (qf, .inr (1, [.ref qx, .ref qy, .ref qz, .ref qu, .int (nI nC), .int (nI nR), .int nf])), (qx, .inl (cI, 36, .inl fx)), (qy, .inl (cI, 36, .inl fy)), (qz, .inl (cI, 36, .inl fz)), (qu, .inl (cZ, 36, .inl fu)), (qT, .inl (cI, 33, .inl gt)), (qP, .inl (cI, 36, .inl gp)), (qQ, .inl (cI, 36, .inl gq)), (qZ, .inl (cI, 36, .inl gz)), (qU, .inl (cI, 36, .inl gu))]) [9, 0, 1, 2, 3, 10, 11, 12, 13, 14, 4, 5, 6, 7, 8] (by decide) rfl
                  refine W.widen (k := (nc + 12)) (n := (ns + 72)) (by omega) (by omega) ?_
                  refine lv_iload hx hb dL_sheets_223 (lv_at hl 14 rfl) ?_
                  refine lv_icmp_ne (tgt := 245) hx hb dL_sheets_225 (by decide) (fun c75 => ?_) (fun c75 => ?_)
                  · exact absurd (sh_2 hSh hN1 (sh_lt hN hkk c64)) c75
                  · refine lv_aload_n hx hb dL_sheets_228 rfl (lv_at hl 5 rfl) ?_
                    refine lv_iconst (v := 3) hx hb dL_sheets_229 (by decide) ?_
                    refine lv_iload hx hb dL_sheets_230 (lv_at hl 3 rfl) ?_
                    refine lv_iload hx hb dL_sheets_232 (lv_at hl 2 rfl) ?_
                    have hPc := hP.sub (ws' := [(qo, .inr (4, [.ref qm, .ref qb, .ref qr, .ref qf])), (qf, .inr (1, [.ref qx, .ref qy, .ref qz, .ref qu, .int (nI nC), .int (nI nR), .int nf])), (qx, .inl (cI, 36, .inl fx)), (qy, .inl (cI, 36, .inl fy)), (qz, .inl (cI, 36, .inl fz)), (qu, .inl (cZ, 36, .inl fu))]) [0, 5, 6, 7, 8, 9] rfl
                    have hDc := hD.sub (ws' := [(qo, .inr (4, [.ref qm, .ref qb, .ref qr, .ref qf])), (qf, .inr (1, [.ref qx, .ref qy, .ref qz, .ref qu, .int (nI nC), .int (nI nR), .int nf])), (qx, .inl (cI, 36, .inl fx)), (qy, .inl (cI, 36, .inl fy)), (qz, .inl (cI, 36, .inl fz)), (qu, .inl (cZ, 36, .inl fu))]) [0, 5, 6, 7, 8, 9] (by decide) rfl
                    have hFc := va_free (wc := [(qo, .inr (4, [.ref qm, .ref qb, .ref qr, .ref qf])), (qf, .inr (1, [.ref qx, .ref qy, .ref qz, .ref qu, .int (nI nC), .int (nI nR), .int nf])), (qx, .inl (cI, 36, .inl fx)), (qy, .inl (cI, 36, .inl fy)), (qz, .inl (cI, 36, .inl fz)), (qu, .inl (cZ, 36, .inl fu))]) hD hS hA [0, 5, 6, 7, 8, 9] rfl
                    refine vx_calli (vx_runSX (As := [.ref qo, .int 3, .int ((nI k) - (nI k) / (nI nC) * (nI nC)), .int ((nI k) / (nI nC))]) (rest := []) ⟨hx, hb, hml, hown, hts⟩ (c_L_of l hnt D cI cZ cJ cD qo qm qb qr qf qx qy qz qu nC nR nf fx fy fz fu 3 ((nI k) - (nI k) / (nI nC) * (nI nC)) ((nI k) / (nI nC)) H.size hN hC hR) (vx_cwSW 4 hts gL_sheets_L_of rfl rfl rfl (by decide +kernel) ⟨Nat.le_of_ble_eq_true rfl, Nat.le_of_ble_eq_true rfl⟩) ⟨zblindWE, (fun U hU hW => ⟨rfl, by rw [hU], by rw [hU]; exact hPc, va_K.moved hW.alike hK, hDc.weaken (fun _ _ _ _ => trivial), zEnv.go hE hS hFc hU hW⟩)⟩ rfl rfl hl.1 rfl (lv_room (Nat.le_of_ble_eq_true rfl)) dL_sheets_234 ⟨(show _ ≤ 700 from by omega), (show _ ≤ 4200 from by omega)⟩) hS (fun q _ h => hFc q h) hFc (fun q _ h => hFc q h) (fun E ce q9 u t H locs ht hvm hpx hB hz1 hk1 hS hq9 hce hcl => ?_) (fun r76 u t H locs ht hvm hw hB hz1 hk1 hS => ?_)
                    · exact hB.elim
                    rw [hw]
                    obtain ⟨hP1, hK1, hD1⟩ := hB
                    rw [ht] at hP1
                    obtain ⟨hP, hD⟩ := va_join (wr := [(qm, .inr (2, [.ref qw, .ref qh])), (qw, .inl (cI, 10, .inl fw)), (qh, .inl (cI, 10, .inl fh)), (qr, .inr (3, [.int br])), (qT, .inl (cI, 33, .inl gt)), (qP, .inl (cI, 36, .inl gp)), (qQ, .inl (cI, 36, .inl gq)), (qZ, .inl (cI, 36, .inl gz)), (qU, .inl (cI, 36, .inl gu))]) (w1 := [(qo, .inr (4, [.ref qm, .ref qb, .ref qr, .ref qf])), (qf, .inr (1, [.ref qx, .ref qy, .ref qz, .ref qu, .int (nI nC), .int (nI nR), .int nf])), (qx, .inl (cI, 36, .inl fx)), (qy, .inl (cI, 36, .inl fy)), (qz, .inl (cI, 36, .inl fz)), (qu, .inl (cZ, 36, .inl fu))]) hP hD [0, 5, 6, 7, 8, 9] [1, 2, 3, 4, 10, 11, 12, 13, 14] rfl rfl (by decide) (by decide) hk1 hFc hP1 hD1
                    have hP := hP.sub (ws' := [(qo, .inr (4, [.ref qm, .ref qb, .ref qr, .ref qf])), (qm, .inr (2, [.ref qw, .ref qh])), (qw, .inl (cI, 10, .inl fw)), (qh, .inl (cI, 10, .inl fh)), (qr, .inr (3, [.int br])), (qf, .inr (1, [.ref qx, .ref qy, .ref qz, .ref qu, .int (nI nC), .int (nI nR), .int nf])), (qx, .inl (cI, 36, .inl fx)), (qy, .inl (cI, 36, .inl fy)), (qz, .inl (cI, 36, .inl fz)), (qu, .inl (cZ, 36, .inl fu)), (qT, .inl (cI, 33, .inl gt)), (qP, .inl (cI, 36, .inl gp)), (qQ, .inl (cI, 36, .inl gq)), (qZ, .inl (cI, 36, .inl gz)), (qU, .inl (cI, 36, .inl gu))]) [9, 0, 1, 2, 3, 10, 11, 12, 13, 14, 4, 5, 6, 7, 8] rfl
                    have hD := hD.sub (ws' := [(qo, .inr (4, [.ref qm, .ref qb, .ref qr, .ref qf])), (qm, .inr (2, [.ref qw, .ref qh])), (qw, .inl (cI, 10, .inl fw)), (qh, .inl (cI, 10, .inl fh)), (qr, .inr (3, [.int br])), (qf, .inr (1, [.ref qx, .ref qy, .ref qz, .ref qu, .int (nI nC), .int (nI nR), .int nf])), (qx, .inl (cI, 36, .inl fx)), (qy, .inl (cI, 36, .inl fy)), (qz, .inl (cI, 36, .inl fz)), (qu, .inl (cZ, 36, .inl fu)), (qT, .inl (cI, 33, .inl gt)), (qP, .inl (cI, 36, .inl gp)), (qQ, .inl (cI, 36, .inl gq)), (qZ, .inl (cI, 36, .inl gz)), (qU, .inl (cI, 36, .inl gu))]) [9, 0, 1, 2, 3, 10, 11, 12, 13, 14, 4, 5, 6, 7, 8] (by decide) rfl
                    refine W.widen (k := (nc + 16)) (n := (ns + 96)) (by omega) (by omega) ?_
                    refine lv_aload hx hb dL_sheets_237 (lv_at hl 11 rfl) ?_
                    refine lv_iload hx hb dL_sheets_239 (lv_at hl 12 rfl) ?_
                    refine va_iald hx hb hK hP 14 0 rfl rfl (sh_in hN (sh_lt hN hkk c64)) dL_sheets_241 ?_
                    refine lv_icmp_eq (tgt := 247) hx hb dL_sheets_242 (by decide) (fun c77 => ?_) (fun c77 => ?_)
                    · refine lv_iinc (v := nI (k + 1)) (lv' := [(10, .int (nI (k + 1))), (9, .int (v_L_sheets_179 nC nR gp gq gz gu ((lp_L_sheets_20 nC nR gp gq gz gu k).2) k)), (8, .int (v_L_sheets_155 nC nR gp gq gz ((lp_L_sheets_20 nC nR gp gq gz gu k).1) k)), (14, .int ((nI k) / (nI nC))), (13, .int ((nI k) - (nI k) / (nI nC) * (nI nC))), (7, .int ((nI nC) * (nI nR))), (0, .ref qo), (1, .int y), (2, .ref qT), (3, .ref qP), (4, .ref qQ), (5, .ref qZ), (6, .ref qU), (12, .int ((lp_L_sheets_36 gp gq gz k (nC * nR)).1)), (11, .int ((lp_L_sheets_36 gp gq gz k (nC * nR)).2))]) hx hb dL_sheets_247 hl (k := 12) rfl (nI_succ k).symm (by decide) rfl (fun ls hl => ?_)
                      refine lv_goto (tgt := 20) hx hb dL_sheets_250 (by decide) ?_
                      have hltk : k < nC * nR := sh_lt hN hkk c64
                      exact ih26 (k + 1) _ _ (by omega) (by omega) rfl rfl _ _ (by omega) (by omega) _ _ hP hD hS _ (lv_sub hl [5, 6, 7, 8, 9, 10, 11, 12, 0, 2, 1] rfl)
                    · exact absurd (sh_3 hSh hN1 (sh_lt hN hkk c64)) c77
            refine lv_if_ne (tgt := 177) hx hb dL_sheets_161 (by decide) (fun c78 => ?_) (fun c78 => ?_)
            · refine lv_iconst (v := 0) hx hb dL_sheets_177 (by decide) ?_
              exact K69 _ (if_neg c78).symm _ _ hP hD hS _ (lv_sub hl [0, 1, 2, 3, 4, 5, 6, 7, 8, 9, 10, 11, 12, 13, 14] rfl)
            · refine lv_aload hx hb dL_sheets_164 (lv_at hl 10 rfl) ?_
              refine lv_iload hx hb dL_sheets_166 (lv_at hl 11 rfl) ?_
              refine va_iald hx hb hK hP 14 0 rfl rfl (sh_in hN (sh_lt hN hkk c64)) dL_sheets_168 ?_
              refine lv_iconst (v := 1) hx hb dL_sheets_169 (by decide) ?_
              refine lv_icmp_ne (tgt := 177) hx hb dL_sheets_170 (by decide) (fun c79 => ?_) (fun c79 => ?_)
              · refine lv_iconst (v := 0) hx hb dL_sheets_177 (by decide) ?_
                exact K69 _ ((if_pos c78).trans (if_neg c79)).symm _ _ hP hD hS _ (lv_sub hl [0, 1, 2, 3, 4, 5, 6, 7, 8, 9, 10, 11, 12, 13, 14] rfl)
              · refine lv_iconst (v := 1) hx hb dL_sheets_173 (by decide) ?_
                refine lv_goto (tgt := 178) hx hb dL_sheets_174 (by decide) ?_
                exact K69 _ ((if_pos c78).trans (if_pos c79)).symm _ _ hP hD hS _ (lv_sub hl [0, 1, 2, 3, 4, 5, 6, 7, 8, 9, 10, 11, 12, 13, 14] rfl)
          refine lv_icmp_le (tgt := 153) hx hb dL_sheets_145 (by decide) (fun c80 => ?_) (fun c80 => ?_)
          · refine lv_iload hx hb dL_sheets_153 (lv_at hl 11 rfl) ?_
            exact K67 _ (if_pos c80).symm _ _ hP hD hS _ (lv_sub hl [0, 1, 2, 3, 4, 5, 6, 7, 8, 9, 10, 11, 12, 13, 14] rfl)
          · refine lv_iload hx hb dL_sheets_148 (lv_at hl 13 rfl) ?_
            refine lv_goto (tgt := 155) hx hb dL_sheets_150 (by decide) ?_
            exact K67 _ (if_neg c80).symm _ _ hP hD hS _ (lv_sub hl [0, 1, 2, 3, 4, 5, 6, 7, 8, 9, 10, 11, 12, 13, 14] rfl)
        have L65 : ∀ (n65 j : Nat) (acc65_0 : Int32) (acc65_1 : Int32), j ≤ nC * nR → nC * nR < j + n65 → acc65_0 = (lp_L_sheets_36 gp gq gz k j).1 → acc65_1 = (lp_L_sheets_36 gp gq gz k j).2 → ∀ (H : Heap) (locs : List Loc), va_P D vwCl [(qo, .inr (4, [.ref qm, .ref qb, .ref qr, .ref qf])), (qm, .inr (2, [.ref qw, .ref qh])), (qw, .inl (cI, 10, .inl fw)), (qh, .inl (cI, 10, .inl fh)), (qr, .inr (3, [.int br])), (qf, .inr (1, [.ref qx, .ref qy, .ref qz, .ref qu, .int (nI nC), .int (nI nR), .int nf])), (qx, .inl (cI, 36, .inl fx)), (qy, .inl (cI, 36, .inl fy)), (qz, .inl (cI, 36, .inl fz)), (qu, .inl (cZ, 36, .inl fu)), (qT, .inl (cI, 33, .inl gt)), (qP, .inl (cI, 36, .inl gp)), (qQ, .inl (cI, 36, .inl gq)), (qZ, .inl (cI, 36, .inl gz)), (qU, .inl (cI, 36, .inl gu))] H → va_D A [(qo, .inr (4, [.ref qm, .ref qb, .ref qr, .ref qf])), (qm, .inr (2, [.ref qw, .ref qh])), (qw, .inl (cI, 10, .inl fw)), (qh, .inl (cI, 10, .inl fh)), (qr, .inr (3, [.int br])), (qf, .inr (1, [.ref qx, .ref qy, .ref qz, .ref qu, .int (nI nC), .int (nI nR), .int nf])), (qx, .inl (cI, 36, .inl fx)), (qy, .inl (cI, 36, .inl fy)), (qz, .inl (cI, 36, .inl fz)), (qu, .inl (cZ, 36, .inl fu)), (qT, .inl (cI, 33, .inl gt)), (qP, .inl (cI, 36, .inl gp)), (qQ, .inl (cI, 36, .inl gq)), (qZ, .inl (cI, 36, .inl gz)), (qU, .inl (cI, 36, .inl gu))] → va_S A s.heap H locs → ∀ (ls : Array Slot), lv_has ls 15 [(7, .int ((nI nC) * (nI nR))), (0, .ref qo), (1, .int y), (2, .ref qT), (3, .ref qP), (4, .ref qQ), (5, .ref qZ), (6, .ref qU), (10, .int (nI k)), (8, .int ((lp_L_sheets_20 nC nR gp gq gz gu k).1)), (9, .int ((lp_L_sheets_20 nC nR gp gq gz gu k).2)), (13, .int (nI j)), (12, .int acc65_0), (11, .int acc65_1)] → W p l e (headSpec wsL_sheets rm_L_sheets).room s m ([.ref qo, .int y, .ref qT, .ref qP, .ref qQ, .ref qZ, .ref qU]).toArray below meth c H locs nc ns (MQ below (Qc_L_sheets D cI cZ cJ cD qo qm qb qr qf qw qh fw fh br qx qy qz qu nC nR nf fx fy fz fu qT gt qP qQ qZ qU gp gq gz gu y A) ([.ref qo, .int y, .ref qT, .ref qP, .ref qQ, .ref qZ, .ref qU]).toArray s 700 4200 A) (F0 m 36 ls []) := by
          intro n65
          induction n65 with
          | zero =>
            intro j acc65_0 acc65_1 hkj hf65
            exact absurd hf65 (by omega)
          | succ n65 ih65 =>
            intro j acc65_0 acc65_1 hkj hf65 hacc65_0 hacc65_1 H locs hP hD hS ls hl
            subst hacc65_0
            subst hacc65_1
            refine lv_iload hx hb dL_sheets_36 (lv_at hl 11 rfl) ?_
            refine lv_iload hx hb dL_sheets_38 (lv_at hl 0 rfl) ?_
            refine lv_icmp_ge (tgt := 123) hx hb dL_sheets_40 (by decide) (fun c81 => ?_) (fun c81 => ?_)
            · have hgej : nC * nR ≤ j := sh_ge hN hkj c81
              have ekj : j = nC * nR := by omega
              subst ekj
              exact X65 _ _ hP hD hS _ (lv_sub hl [0, 1, 2, 3, 4, 5, 6, 7, 8, 9, 10, 12, 13] rfl)
            · refine lv_aload_n hx hb dL_sheets_43 rfl (lv_at hl 4 rfl) ?_
              refine lv_iload hx hb dL_sheets_44 (lv_at hl 11 rfl) ?_
              refine va_iald hx hb hK hP 11 0 rfl rfl (sh_in hN (sh_lt hN hkj c81)) dL_sheets_46 ?_
              refine lv_aload_n hx hb dL_sheets_47 rfl (lv_at hl 4 rfl) ?_
              refine lv_iload hx hb dL_sheets_48 (lv_at hl 8 rfl) ?_
              refine va_iald hx hb hK hP 11 0 rfl rfl (sh_in hN (sh_lt hN hkk c64)) dL_sheets_50 ?_
              have K83 : ∀ v83_0 : Int32, v83_0 = (if (gp (nI j).toNatClampNeg) = (gp (nI k).toNatClampNeg) then (if (gq (nI j).toNatClampNeg) = (gq (nI k).toNatClampNeg) then 1 else 0) else 0) → ∀ (H : Heap) (locs : List Loc), va_P D vwCl [(qo, .inr (4, [.ref qm, .ref qb, .ref qr, .ref qf])), (qm, .inr (2, [.ref qw, .ref qh])), (qw, .inl (cI, 10, .inl fw)), (qh, .inl (cI, 10, .inl fh)), (qr, .inr (3, [.int br])), (qf, .inr (1, [.ref qx, .ref qy, .ref qz, .ref qu, .int (nI nC), .int (nI nR), .int nf])), (qx, .inl (cI, 36, .inl fx)), (qy, .inl (cI, 36, .inl fy)), (qz, .inl (cI, 36, .inl fz)), (qu, .inl (cZ, 36, .inl fu)), (qT, .inl (cI, 33, .inl gt)), (qP, .inl (cI, 36, .inl gp)), (qQ, .inl (cI, 36, .inl gq)), (qZ, .inl (cI, 36, .inl gz)), (qU, .inl (cI, 36, .inl gu))] H → va_D A [(qo, .inr (4, [.ref qm, .ref qb, .ref qr, .ref qf])), (qm, .inr (2, [.ref qw, .ref qh])), (qw, .inl (cI, 10, .inl fw)), (qh, .inl (cI, 10, .inl fh)), (qr, .inr (3, [.int br])), (qf, .inr (1, [.ref qx, .ref qy, .ref qz, .ref qu, .int (nI nC), .int (nI nR), .int nf])), (qx, .inl (cI, 36, .inl fx)), (qy, .inl (cI, 36, .inl fy)), (qz, .inl (cI, 36, .inl fz)), (qu, .inl (cZ, 36, .inl fu)), (qT, .inl (cI, 33, .inl gt)), (qP, .inl (cI, 36, .inl gp)), (qQ, .inl (cI, 36, .inl gq)), (qZ, .inl (cI, 36, .inl gz)), (qU, .inl (cI, 36, .inl gu))] → va_S A s.heap H locs → ∀ (ls : Array Slot), lv_has ls 15 [(7, .int ((nI nC) * (nI nR))), (0, .ref qo), (1, .int y), (2, .ref qT), (3, .ref qP), (4, .ref qQ), (5, .ref qZ), (6, .ref qU), (10, .int (nI k)), (8, .int ((lp_L_sheets_20 nC nR gp gq gz gu k).1)), (9, .int ((lp_L_sheets_20 nC nR gp gq gz gu k).2)), (13, .int (nI j)), (12, .int ((lp_L_sheets_36 gp gq gz k j).1)), (11, .int ((lp_L_sheets_36 gp gq gz k j).2))] → W p l e (headSpec wsL_sheets rm_L_sheets).room s m ([.ref qo, .int y, .ref qT, .ref qP, .ref qQ, .ref qZ, .ref qU]).toArray below meth c H locs nc ns (MQ below (Qc_L_sheets D cI cZ cJ cD qo qm qb qr qf qw qh fw fh br qx qy qz qu nC nR nf fx fy fz fu qT gt qP qQ qZ qU gp gq gz gu y A) ([.ref qo, .int y, .ref qT, .ref qP, .ref qQ, .ref qZ, .ref qU]).toArray s 700 4200 A) (F0 m 72 ls [.int v83_0]) := by
                intro v83_0 hv83_0 H locs hP hD hS ls hl
                subst hv83_0
                refine lv_istore (lv' := [(14, .int (if (gp (nI j).toNatClampNeg) = (gp (nI k).toNatClampNeg) then (if (gq (nI j).toNatClampNeg) = (gq (nI k).toNatClampNeg) then 1 else 0) else 0)), (7, .int ((nI nC) * (nI nR))), (0, .ref qo), (1, .int y), (2, .ref qT), (3, .ref qP), (4, .ref qQ), (5, .ref qZ), (6, .ref qU), (10, .int (nI k)), (8, .int ((lp_L_sheets_20 nC nR gp gq gz gu k).1)), (9, .int ((lp_L_sheets_20 nC nR gp gq gz gu k).2)), (13, .int (nI j)), (12, .int ((lp_L_sheets_36 gp gq gz k j).1)), (11, .int ((lp_L_sheets_36 gp gq gz k j).2))]) hx hb dL_sheets_72 hl (by decide) rfl (fun ls hl => ?_)
                have hl : lv_has ls 15 [(14, .int (v_L_sheets_72 gp gq j k)), (7, .int ((nI nC) * (nI nR))), (0, .ref qo), (1, .int y), (2, .ref qT), (3, .ref qP), (4, .ref qQ), (5, .ref qZ), (6, .ref qU), (10, .int (nI k)), (8, .int ((lp_L_sheets_20 nC nR gp gq gz gu k).1)), (9, .int ((lp_L_sheets_20 nC nR gp gq gz gu k).2)), (13, .int (nI j)), (12, .int ((lp_L_sheets_36 gp gq gz k j).1)), (11, .int ((lp_L_sheets_36 gp gq gz k j).2))] := hl
                refine lv_iload hx hb dL_sheets_74 (lv_at hl 13 rfl) ?_
                refine lv_iload hx hb dL_sheets_76 (lv_at hl 0 rfl) ?_
                have K85 : ∀ v85_0 : Int32, v85_0 = (if (v_L_sheets_72 gp gq j k) = 0 then 0 else 1) → ∀ (H : Heap) (locs : List Loc), va_P D vwCl [(qo, .inr (4, [.ref qm, .ref qb, .ref qr, .ref qf])), (qm, .inr (2, [.ref qw, .ref qh])), (qw, .inl (cI, 10, .inl fw)), (qh, .inl (cI, 10, .inl fh)), (qr, .inr (3, [.int br])), (qf, .inr (1, [.ref qx, .ref qy, .ref qz, .ref qu, .int (nI nC), .int (nI nR), .int nf])), (qx, .inl (cI, 36, .inl fx)), (qy, .inl (cI, 36, .inl fy)), (qz, .inl (cI, 36, .inl fz)), (qu, .inl (cZ, 36, .inl fu)), (qT, .inl (cI, 33, .inl gt)), (qP, .inl (cI, 36, .inl gp)), (qQ, .inl (cI, 36, .inl gq)), (qZ, .inl (cI, 36, .inl gz)), (qU, .inl (cI, 36, .inl gu))] H → va_D A [(qo, .inr (4, [.ref qm, .ref qb, .ref qr, .ref qf])), (qm, .inr (2, [.ref qw, .ref qh])), (qw, .inl (cI, 10, .inl fw)), (qh, .inl (cI, 10, .inl fh)), (qr, .inr (3, [.int br])), (qf, .inr (1, [.ref qx, .ref qy, .ref qz, .ref qu, .int (nI nC), .int (nI nR), .int nf])), (qx, .inl (cI, 36, .inl fx)), (qy, .inl (cI, 36, .inl fy)), (qz, .inl (cI, 36, .inl fz)), (qu, .inl (cZ, 36, .inl fu)), (qT, .inl (cI, 33, .inl gt)), (qP, .inl (cI, 36, .inl gp)), (qQ, .inl (cI, 36, .inl gq)), (qZ, .inl (cI, 36, .inl gz)), (qU, .inl (cI, 36, .inl gu))] → va_S A s.heap H locs → ∀ (ls : Array Slot), lv_has ls 15 [(14, .int (v_L_sheets_72 gp gq j k)), (7, .int ((nI nC) * (nI nR))), (0, .ref qo), (1, .int y), (2, .ref qT), (3, .ref qP), (4, .ref qQ), (5, .ref qZ), (6, .ref qU), (10, .int (nI k)), (8, .int ((lp_L_sheets_20 nC nR gp gq gz gu k).1)), (9, .int ((lp_L_sheets_20 nC nR gp gq gz gu k).2)), (13, .int (nI j)), (12, .int ((lp_L_sheets_36 gp gq gz k j).1)), (11, .int ((lp_L_sheets_36 gp gq gz k j).2))] → W p l e (headSpec wsL_sheets rm_L_sheets).room s m ([.ref qo, .int y, .ref qT, .ref qP, .ref qQ, .ref qZ, .ref qU]).toArray below meth c H locs nc ns (MQ below (Qc_L_sheets D cI cZ cJ cD qo qm qb qr qf qw qh fw fh br qx qy qz qu nC nR nf fx fy fz fu qT gt qP qQ qZ qU gp gq gz gu y A) ([.ref qo, .int y, .ref qT, .ref qP, .ref qQ, .ref qZ, .ref qU]).toArray s 700 4200 A) (F0 m 86 ls [.int v85_0, .int ((lp_L_sheets_36 gp gq gz k j).1)]) := by
                  intro v85_0 hv85_0 H locs hP hD hS ls hl
                  subst hv85_0
                  refine lv_iadd hx hb dL_sheets_86 ?_
                  refine lv_istore (lv' := [(12, .int (((lp_L_sheets_36 gp gq gz k j).1) + (if (v_L_sheets_72 gp gq j k) = 0 then 0 else 1))), (14, .int (v_L_sheets_72 gp gq j k)), (7, .int ((nI nC) * (nI nR))), (0, .ref qo), (1, .int y), (2, .ref qT), (3, .ref qP), (4, .ref qQ), (5, .ref qZ), (6, .ref qU), (10, .int (nI k)), (8, .int ((lp_L_sheets_20 nC nR gp gq gz gu k).1)), (9, .int ((lp_L_sheets_20 nC nR gp gq gz gu k).2)), (13, .int (nI j)), (11, .int ((lp_L_sheets_36 gp gq gz k j).2))]) hx hb dL_sheets_87 hl (by decide) rfl (fun ls hl => ?_)
                  have hl : lv_has ls 15 [(12, .int (v_L_sheets_87 gp gq ((lp_L_sheets_36 gp gq gz k j).1) j k)), (14, .int (v_L_sheets_72 gp gq j k)), (7, .int ((nI nC) * (nI nR))), (0, .ref qo), (1, .int y), (2, .ref qT), (3, .ref qP), (4, .ref qQ), (5, .ref qZ), (6, .ref qU), (10, .int (nI k)), (8, .int ((lp_L_sheets_20 nC nR gp gq gz gu k).1)), (9, .int ((lp_L_sheets_20 nC nR gp gq gz gu k).2)), (13, .int (nI j)), (11, .int ((lp_L_sheets_36 gp gq gz k j).2))] := hl
                  refine lv_iload hx hb dL_sheets_89 (lv_at hl 14 rfl) ?_
                  refine lv_iload hx hb dL_sheets_91 (lv_at hl 1 rfl) ?_
                  have K87 : ∀ v87_0 : Int32, v87_0 = (if (v_L_sheets_72 gp gq j k) = 0 then 0 else (if (gz (nI j).toNatClampNeg) ≤ (gz (nI k).toNatClampNeg) then 0 else 1)) → ∀ (H : Heap) (locs : List Loc), va_P D vwCl [(qo, .inr (4, [.ref qm, .ref qb, .ref qr, .ref qf])), (qm, .inr (2, [.ref qw, .ref qh])), (qw, .inl (cI, 10, .inl fw)), (qh, .inl (cI, 10, .inl fh)), (qr, .inr (3, [.int br])), (qf, .inr (1, [.ref qx, .ref qy, .ref qz, .ref qu, .int (nI nC), .int (nI nR), .int nf])), (qx, .inl (cI, 36, .inl fx)), (qy, .inl (cI, 36, .inl fy)), (qz, .inl (cI, 36, .inl fz)), (qu, .inl (cZ, 36, .inl fu)), (qT, .inl (cI, 33, .inl gt)), (qP, .inl (cI, 36, .inl gp)), (qQ, .inl (cI, 36, .inl gq)), (qZ, .inl (cI, 36, .inl gz)), (qU, .inl (cI, 36, .inl gu))] H → va_D A [(qo, .inr (4, [.ref qm, .ref qb, .ref qr, .ref qf])), (qm, .inr (2, [.ref qw, .ref qh])), (qw, .inl (cI, 10, .inl fw)), (qh, .inl (cI, 10, .inl fh)), (qr, .inr (3, [.int br])), (qf, .inr (1, [.ref qx, .ref qy, .ref qz, .ref qu, .int (nI nC), .int (nI nR), .int nf])), (qx, .inl (cI, 36, .inl fx)), (qy, .inl (cI, 36, .inl fy)), (qz, .inl (cI, 36, .inl fz)), (qu, .inl (cZ, 36, .inl fu)), (qT, .inl (cI, 33, .inl gt)), (qP, .inl (cI, 36, .inl gp)), (qQ, .inl (cI, 36, .inl gq)), (qZ, .inl (cI, 36, .inl gz)), (qU, .inl (cI, 36, .inl gu))] → va_S A s.heap H locs → ∀ (ls : Array Slot), lv_has ls 15 [(12, .int (v_L_sheets_87 gp gq ((lp_L_sheets_36 gp gq gz k j).1) j k)), (14, .int (v_L_sheets_72 gp gq j k)), (7, .int ((nI nC) * (nI nR))), (0, .ref qo), (1, .int y), (2, .ref qT), (3, .ref qP), (4, .ref qQ), (5, .ref qZ), (6, .ref qU), (10, .int (nI k)), (8, .int ((lp_L_sheets_20 nC nR gp gq gz gu k).1)), (9, .int ((lp_L_sheets_20 nC nR gp gq gz gu k).2)), (13, .int (nI j)), (11, .int ((lp_L_sheets_36 gp gq gz k j).2))] → W p l e (headSpec wsL_sheets rm_L_sheets).room s m ([.ref qo, .int y, .ref qT, .ref qP, .ref qQ, .ref qZ, .ref qU]).toArray below meth c H locs nc ns (MQ below (Qc_L_sheets D cI cZ cJ cD qo qm qb qr qf qw qh fw fh br qx qy qz qu nC nR nf fx fy fz fu qT gt qP qQ qZ qU gp gq gz gu y A) ([.ref qo, .int y, .ref qT, .ref qP, .ref qQ, .ref qZ, .ref qU]).toArray s 700 4200 A) (F0 m 114 ls [.int v87_0, .int ((lp_L_sheets_36 gp gq gz k j).2)]) := by
                    intro v87_0 hv87_0 H locs hP hD hS ls hl
                    subst hv87_0
                    refine lv_iadd hx hb dL_sheets_114 ?_
                    refine lv_istore (lv' := [(11, .int (((lp_L_sheets_36 gp gq gz k j).2) + (if (v_L_sheets_72 gp gq j k) = 0 then 0 else (if (gz (nI j).toNatClampNeg) ≤ (gz (nI k).toNatClampNeg) then 0 else 1)))), (12, .int (v_L_sheets_87 gp gq ((lp_L_sheets_36 gp gq gz k j).1) j k)), (14, .int (v_L_sheets_72 gp gq j k)), (7, .int ((nI nC) * (nI nR))), (0, .ref qo), (1, .int y), (2, .ref qT), (3, .ref qP), (4, .ref qQ), (5, .ref qZ), (6, .ref qU), (10, .int (nI k)), (8, .int ((lp_L_sheets_20 nC nR gp gq gz gu k).1)), (9, .int ((lp_L_sheets_20 nC nR gp gq gz gu k).2)), (13, .int (nI j))]) hx hb dL_sheets_115 hl (by decide) rfl (fun ls hl => ?_)
                    have hl : lv_has ls 15 [(11, .int (v_L_sheets_115 gp gq gz ((lp_L_sheets_36 gp gq gz k j).2) j k)), (12, .int (v_L_sheets_87 gp gq ((lp_L_sheets_36 gp gq gz k j).1) j k)), (14, .int (v_L_sheets_72 gp gq j k)), (7, .int ((nI nC) * (nI nR))), (0, .ref qo), (1, .int y), (2, .ref qT), (3, .ref qP), (4, .ref qQ), (5, .ref qZ), (6, .ref qU), (10, .int (nI k)), (8, .int ((lp_L_sheets_20 nC nR gp gq gz gu k).1)), (9, .int ((lp_L_sheets_20 nC nR gp gq gz gu k).2)), (13, .int (nI j))] := hl
                    refine lv_iinc (v := nI (j + 1)) (lv' := [(13, .int (nI (j + 1))), (11, .int (v_L_sheets_115 gp gq gz ((lp_L_sheets_36 gp gq gz k j).2) j k)), (12, .int (v_L_sheets_87 gp gq ((lp_L_sheets_36 gp gq gz k j).1) j k)), (14, .int (v_L_sheets_72 gp gq j k)), (7, .int ((nI nC) * (nI nR))), (0, .ref qo), (1, .int y), (2, .ref qT), (3, .ref qP), (4, .ref qQ), (5, .ref qZ), (6, .ref qU), (10, .int (nI k)), (8, .int ((lp_L_sheets_20 nC nR gp gq gz gu k).1)), (9, .int ((lp_L_sheets_20 nC nR gp gq gz gu k).2))]) hx hb dL_sheets_117 hl (k := 14) rfl (nI_succ j).symm (by decide) rfl (fun ls hl => ?_)
                    refine lv_goto (tgt := 36) hx hb dL_sheets_120 (by decide) ?_
                    have hltj : j < nC * nR := sh_lt hN hkj c81
                    exact ih65 (j + 1) _ _ (by omega) (by omega) rfl rfl _ _ hP hD hS _ (lv_sub hl [4, 5, 6, 7, 8, 9, 10, 11, 12, 13, 14, 0, 2, 1] rfl)
                  refine lv_if_eq (tgt := 113) hx hb dL_sheets_93 (by decide) (fun c88 => ?_) (fun c88 => ?_)
                  · refine lv_iconst (v := 0) hx hb dL_sheets_113 (by decide) ?_
                    exact K87 _ (if_pos c88).symm _ _ hP hD hS _ (lv_sub hl [0, 1, 2, 3, 4, 5, 6, 7, 8, 9, 10, 11, 12, 13, 14] rfl)
                  · refine lv_aload hx hb dL_sheets_96 (lv_at hl 8 rfl) ?_
                    refine lv_iload hx hb dL_sheets_98 (lv_at hl 13 rfl) ?_
                    refine va_iald hx hb hK hP 13 0 rfl rfl (sh_in hN (sh_lt hN hkj c81)) dL_sheets_100 ?_
                    refine lv_aload hx hb dL_sheets_101 (lv_at hl 8 rfl) ?_
                    refine lv_iload hx hb dL_sheets_103 (lv_at hl 10 rfl) ?_
                    refine va_iald hx hb hK hP 13 0 rfl rfl (sh_in hN (sh_lt hN hkk c64)) dL_sheets_105 ?_
                    refine lv_icmp_le (tgt := 113) hx hb dL_sheets_106 (by decide) (fun c89 => ?_) (fun c89 => ?_)
                    · refine lv_iconst (v := 0) hx hb dL_sheets_113 (by decide) ?_
                      exact K87 _ ((if_neg c88).trans (if_pos c89)).symm _ _ hP hD hS _ (lv_sub hl [0, 1, 2, 3, 4, 5, 6, 7, 8, 9, 10, 11, 12, 13, 14] rfl)
                    · refine lv_iconst (v := 1) hx hb dL_sheets_109 (by decide) ?_
                      refine lv_goto (tgt := 114) hx hb dL_sheets_110 (by decide) ?_
                      exact K87 _ ((if_neg c88).trans (if_neg c89)).symm _ _ hP hD hS _ (lv_sub hl [0, 1, 2, 3, 4, 5, 6, 7, 8, 9, 10, 11, 12, 13, 14] rfl)
                refine lv_if_eq (tgt := 85) hx hb dL_sheets_78 (by decide) (fun c90 => ?_) (fun c90 => ?_)
                · refine lv_iconst (v := 0) hx hb dL_sheets_85 (by decide) ?_
                  exact K85 _ (if_pos c90).symm _ _ hP hD hS _ (lv_sub hl [0, 1, 2, 3, 4, 5, 6, 7, 8, 9, 10, 11, 12, 13, 14] rfl)
                · refine lv_iconst (v := 1) hx hb dL_sheets_81 (by decide) ?_
                  refine lv_goto (tgt := 86) hx hb dL_sheets_82 (by decide) ?_
                  exact K85 _ (if_neg c90).symm _ _ hP hD hS _ (lv_sub hl [0, 1, 2, 3, 4, 5, 6, 7, 8, 9, 10, 11, 12, 13, 14] rfl)
              refine lv_icmp_ne (tgt := 71) hx hb dL_sheets_51 (by decide) (fun c91 => ?_) (fun c91 => ?_)
              · refine lv_iconst (v := 0) hx hb dL_sheets_71 (by decide) ?_
                exact K83 _ (if_neg c91).symm _ _ hP hD hS _ (lv_sub hl [0, 1, 2, 3, 4, 5, 6, 7, 8, 9, 10, 11, 12, 13] rfl)
              · refine lv_aload hx hb dL_sheets_54 (lv_at hl 5 rfl) ?_
                refine lv_iload hx hb dL_sheets_56 (lv_at hl 11 rfl) ?_
                refine va_iald hx hb hK hP 12 0 rfl rfl (sh_in hN (sh_lt hN hkj c81)) dL_sheets_58 ?_
                refine lv_aload hx hb dL_sheets_59 (lv_at hl 5 rfl) ?_
                refine lv_iload hx hb dL_sheets_61 (lv_at hl 8 rfl) ?_
                refine va_iald hx hb hK hP 12 0 rfl rfl (sh_in hN (sh_lt hN hkk c64)) dL_sheets_63 ?_
                refine lv_icmp_ne (tgt := 71) hx hb dL_sheets_64 (by decide) (fun c92 => ?_) (fun c92 => ?_)
                · refine lv_iconst (v := 0) hx hb dL_sheets_71 (by decide) ?_
                  exact K83 _ ((if_pos c91).trans (if_neg c92)).symm _ _ hP hD hS _ (lv_sub hl [0, 1, 2, 3, 4, 5, 6, 7, 8, 9, 10, 11, 12, 13] rfl)
                · refine lv_iconst (v := 1) hx hb dL_sheets_67 (by decide) ?_
                  refine lv_goto (tgt := 72) hx hb dL_sheets_68 (by decide) ?_
                  exact K83 _ ((if_pos c91).trans (if_pos c92)).symm _ _ hP hD hS _ (lv_sub hl [0, 1, 2, 3, 4, 5, 6, 7, 8, 9, 10, 11, 12, 13] rfl)
        exact L65 (nC * nR + 1) 0 _ _ (Nat.zero_le _) (by omega) rfl rfl _ _ hP hD hS _ (zlv (lv_sub (l' := [(7, .int ((nI nC) * (nI nR))), (0, .ref qo), (1, .int y), (2, .ref qT), (3, .ref qP), (4, .ref qQ), (5, .ref qZ), (6, .ref qU), (10, .int (nI k)), (8, .int ((lp_L_sheets_20 nC nR gp gq gz gu k).1)), (9, .int ((lp_L_sheets_20 nC nR gp gq gz gu k).2)), (13, .int 0), (12, .int 0), (11, .int 0)]) hl [3, 4, 5, 6, 7, 8, 9, 10, 11, 12, 13, 0, 1, 2] rfl) (by rfl))
  exact L26 (nC * nR + 1) 0 _ _ (Nat.zero_le _) (by omega) rfl rfl _ _ (by omega) (by omega) _ _ hP hD hS _ (zlv (lv_sub (l' := [(7, .int ((nI nC) * (nI nR))), (0, .ref qo), (1, .int y), (2, .ref qT), (3, .ref qP), (4, .ref qQ), (5, .ref qZ), (6, .ref qU), (10, .int 0), (8, .int 0), (9, .int 0)]) hl [3, 4, 5, 6, 7, 8, 9, 10, 0, 2, 1] rfl) (by rfl))
