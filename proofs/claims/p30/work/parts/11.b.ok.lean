theorem z_pe {α β : Type} {a c : α} {b d : β} (h1 : a = c) (h2 : b = d) : (a, b) = (c, d) := by rw [h1, h2]
theorem p_q1 {d q n : Nat} (hd : 1 ≤ d) (h : 360 = d * q) : (360 + n) / d = q + n / d := by
  rw [h, Nat.mul_add_div (by omega)]
theorem p_q2 {d q : Nat} (hd : 1 ≤ d) (h : 360 = d * q) : 359 / d + 1 = q := by
  have h1 : 359 / d < q := (Nat.div_lt_iff_lt_mul (by omega)).mpr (by rw [Nat.mul_comm]; omega)
  obtain ⟨r, rfl⟩ : ∃ r, q = r + 1 := ⟨q - 1, by generalize 359 / d = w at h1; omega⟩
  have h2 : r ≤ 359 / d := (Nat.le_div_iff_mul_le (by omega)).mpr (by rw [Nat.mul_comm]; rw [Nat.mul_add] at h; omega)
  generalize 359 / d = w at h1 h2 ⊢
  omega
theorem p_q3 {d u : Nat} (hd : 1 ≤ d) : (u + 1) / d = u / d ∨ (u + 1) / d = u / d + 1 := by
  have h1 : u / d ≤ (u + 1) / d := Nat.div_le_div_right (by omega)
  have h2 : (u + 1) / d ≤ (u + d) / d := Nat.div_le_div_right (by omega)
  rw [Nat.add_div_right u (by omega)] at h2
  omega
/-- the breadth of a zone -/
def zZn (br : Int32) : Prop := ∃ d : Nat, 1 ≤ d ∧ d ≤ 360 ∧ 360 % d = 0 ∧ br = nI d
theorem rg_neg {x : Int32} (h1 : -360 < x.toInt) (h2 : x.toInt < 0) : x - x / 360 * 360 = x := by
  have e : x / 360 = 0 := by
    apply Int32.toInt_inj.mp
    have e3 : (360 : Int32).toInt = 360 := rfl
    have e4 : x.toInt.tdiv 360 = 0 := by
      have h := Int.tdiv_eq_zero_of_lt (a := -x.toInt) (b := 360) (by omega) (by omega)
      rw [Int.neg_tdiv] at h
      omega
    rw [Int32.toInt_div, e3, e4]
    rfl
  rw [e, Int32.zero_mul, Int32.sub_zero]
theorem rg_RR {x : Int32} (h1 : -360 < x.toInt) (h2 : x.toInt < 2000) : (x - x / 360 * 360 + 360) - (x - x / 360 * 360 + 360) / 360 * 360 = nI ((x.toInt % 360).toNat) := by
  have e3 : (360 : Int32).toInt = 360 := rfl
  by_cases c : x.toInt < 0
  · rw [rg_neg h1 c]
    have e : (x + 360).toInt = ((x.toInt + 360).toNat : Int) := by
      rw [z_addI (by rw [e3]; omega) (by rw [e3]; omega), e3]
      omega
    rw [rg_rem e]
    exact congrArg nI (by omega)
  · rw [rg_rem (x := x) (a := x.toInt.toNat) (by omega)]
    have e : (nI (x.toInt.toNat % 360) + 360).toInt = ((x.toInt.toNat % 360 + 360 : Nat) : Int) := by
      have e4 : (nI (x.toInt.toNat % 360)).toInt = (x.toInt.toNat % 360 : Nat) := nI_toInt (by omega)
      rw [z_addI (by rw [e3, e4]; omega) (by rw [e3, e4]; omega), e3, e4]
      omega
    rw [rg_rem e]
    exact congrArg nI (by omega)
theorem rg_223 {y : Int32} {u k : Nat} (hu : (v_L_rings_26 y).toInt = (u : Int) - 180) (hu2 : u < 360) (hk : k ≤ 180) (hs : v_L_rings_182 y = 1 ∨ v_L_rings_182 y = -1) : v_L_rings_223 y k = nI (((u : Int) + k * (v_L_rings_182 y).toInt) % 360).toNat := by
  have e8 : (180 : Int32).toInt = 180 := rfl
  have ea : (v_L_rings_26 y + 180).toInt = u := by
    rw [z_addI (by rw [e8]; omega) (by rw [e8]; omega), e8]
    omega
  have ek : (nI k).toInt = (k : Int) := nI_toInt (by omega)
  unfold v_L_rings_223
  rcases hs with h | h
  · rw [h]
    have e1 : (1 : Int32).toInt = 1 := rfl
    have ex : (v_L_rings_26 y + 180 + nI k * 1).toInt = (u : Int) + k * 1 := by
      rw [Int32.mul_one, z_addI (by rw [ea, ek]; omega) (by rw [ea, ek]; omega), ea, ek]
      omega
    rw [rg_RR (by rw [ex]; omega) (by rw [ex]; omega), ex, e1]
  · rw [h]
    have e1 : (-1 : Int32).toInt = -1 := rfl
    have em : (nI k * -1).toInt = (k : Int) * -1 := by
      rw [z_mulI (by rw [ek, e1]; omega) (by rw [ek, e1]; omega), ek, e1]
    have ex : (v_L_rings_26 y + 180 + nI k * -1).toInt = (u : Int) + k * -1 := by
      rw [z_addI (by rw [ea, em]; omega) (by rw [ea, em]; omega), ea, em]
    rw [rg_RR (by rw [ex]; omega) (by rw [ex]; omega), ex, e1]
theorem rg_238 {y : Int32} {a k : Nat} (ha : v_L_rings_223 y k = nI a) (ha2 : a < 360) (hs : v_L_rings_182 y = 1 ∨ v_L_rings_182 y = -1) : v_L_rings_238 y k = nI (((a : Int) + (v_L_rings_182 y).toInt) % 360).toNat := by
  have e3 : (360 : Int32).toInt = 360 := rfl
  have ea : (nI a).toInt = (a : Int) := nI_toInt (by omega)
  have es : -1 ≤ (v_L_rings_182 y).toInt ∧ (v_L_rings_182 y).toInt ≤ 1 := by
    rcases hs with h | h <;> rw [h] <;> decide
  unfold v_L_rings_238
  rw [ha]
  have e1 : (nI a + v_L_rings_182 y).toInt = (a : Int) + (v_L_rings_182 y).toInt := by
    rw [z_addI (by rw [ea]; omega) (by rw [ea]; omega), ea]
  have e2 : (nI a + v_L_rings_182 y + 360).toInt = (((a : Int) + (v_L_rings_182 y).toInt + 360).toNat : Int) := by
    rw [z_addI (by rw [e1, e3]; omega) (by rw [e1, e3]; omega), e1, e3]
    omega
  rw [rg_rem e2]
  exact congrArg nI (by omega)
theorem rg_E {br y : Int32} {d q u : Nat} (hb : br = nI d) (hd : 1 ≤ d) (hd2 : d ≤ 360) (hq : 360 = d * q) (hu : (v_L_rings_26 y).toInt = (u : Int) - 180) (hu2 : u < 360) (hs : v_L_rings_182 y = 1) : ∀ k : Nat, k ≤ 180 → lp_L_rings_193 br y k = (nI ((u + k) / d - u / d), if 360 ≤ u + k then 1 else 0)
  | 0, _ => by
    rw [Nat.add_zero, Nat.sub_self, if_neg (by omega)]
    rfl
  | k + 1, hk => by
    have ih := rg_E hb hd hd2 hq hu hu2 hs k (by omega)
    have e1 : (1 : Int32).toInt = 1 := rfl
    have h2 := rg_223 hu hu2 (k := k) (by omega) (Or.inl hs)
    rw [hs, e1] at h2
    show (v_L_rings_300 br y ((lp_L_rings_193 br y k).1) k, v_L_rings_316 y ((lp_L_rings_193 br y k).2) k) = _
    rw [ih]
    have k1 : u / d ≤ 360 := Nat.le_trans (Nat.div_le_self _ _) (by omega)
    have k3 : u / d ≤ (u + k) / d := Nat.div_le_div_right (by omega)
    have k4 : (u + k) / d ≤ 540 := Nat.le_trans (Nat.div_le_self _ _) (by omega)
    unfold v_L_rings_300 v_L_rings_316 v_L_rings_268
    rw [hs, if_neg (show ¬ (1 : Int32) ≤ 0 by decide)]
    rcases (show u + k < 359 ∨ u + k = 359 ∨ 360 ≤ u + k by omega) with c | c | c
    · have ea : v_L_rings_223 y k = nI (u + k) := by
        rw [h2]
        exact congrArg nI (by omega)
      have h3 := rg_238 ea (by omega) (Or.inl hs)
      rw [hs, e1] at h3
      have eb : v_L_rings_238 y k = nI (u + k + 1) := by
        rw [h3]
        exact congrArg nI (by omega)
      rw [ea, eb, if_neg (nI_ne0 (by omega) (by omega)), if_pos rfl, if_pos rfl, hb, pk_div (by omega) (by omega) (by omega), pk_div (by omega) (by omega) (by omega), if_neg (show ¬ 360 ≤ u + k by omega), if_neg (show ¬ 360 ≤ u + (k + 1) by omega), ← Nat.add_assoc]
      refine z_pe ?_ (Int32.add_zero _)
      have k2 : (u + k + 1) / d ≤ 540 := Nat.le_trans (Nat.div_le_self _ _) (by omega)
      rcases p_q3 (u := u + k) hd with e | e
      · rw [if_pos (by rw [e]), Int32.add_zero, e]
      · rw [if_neg (fun hh => by rw [nI_eq (by omega) (by omega)] at hh; omega), e, show (1 : Int32) = nI 1 from rfl, nI_add]
        exact congrArg nI (by omega)
    · have ea : v_L_rings_223 y k = nI 359 := by
        rw [h2]
        exact congrArg nI (by omega)
      have h3 := rg_238 ea (by omega) (Or.inl hs)
      rw [hs, e1] at h3
      have eb : v_L_rings_238 y k = 0 := h3
      rw [eb, if_pos rfl, if_neg (show ¬ (1 : Int32) = 0 by decide), if_neg (show ¬ (1 : Int32) = 0 by decide), if_neg (show ¬ 360 ≤ u + k by omega), if_pos (show 360 ≤ u + (k + 1) by omega), ← Nat.add_assoc, c]
      refine z_pe ?_ (show (0 : Int32) + 1 = 1 by decide)
      have q2 := p_q2 hd hq
      have q1 := p_q1 (n := 0) hd hq
      rw [Nat.zero_div] at q1
      rw [c] at k3
      rw [show 359 + 1 = 360 + 0 from rfl, q1, show (1 : Int32) = nI 1 from rfl, nI_add]
      congr 1
      generalize 359 / d = w at q2 k3 ⊢
      omega
    · obtain ⟨w, hw⟩ : ∃ w, u + k = 360 + w := ⟨u + k - 360, by omega⟩
      have ea : v_L_rings_223 y k = nI w := by
        rw [h2]
        exact congrArg nI (by omega)
      have h3 := rg_238 ea (by omega) (Or.inl hs)
      rw [hs, e1] at h3
      have eb : v_L_rings_238 y k = nI (w + 1) := by
        rw [h3]
        exact congrArg nI (by omega)
      have q1 := p_q1 (n := w) hd hq
      have q1b := p_q1 (n := w + 1) hd hq
      rw [ea, eb, if_neg (nI_ne0 (by omega) (by omega)), if_pos rfl, if_pos rfl, hb, pk_div (by omega) (by omega) (by omega), pk_div (by omega) (by omega) (by omega), if_pos c, if_pos (show 360 ≤ u + (k + 1) by omega), ← Nat.add_assoc]
      refine z_pe ?_ (Int32.add_zero _)
      have k2 : (w + 1) / d ≤ 540 := Nat.le_trans (Nat.div_le_self _ _) (by omega)
      have k5 : w / d ≤ 540 := Nat.le_trans (Nat.div_le_self _ _) (by omega)
      rw [hw] at k3 k4 ⊢
      rw [Nat.add_assoc, q1b, q1]
      rw [q1] at k3 k4
      rcases p_q3 (u := w) hd with e | e
      · rw [if_pos (by rw [e]), Int32.add_zero, e]
      · rw [if_neg (fun hh => by rw [nI_eq (by omega) (by omega)] at hh; omega), e, show (1 : Int32) = nI 1 from rfl, nI_add]
        exact congrArg nI (by omega)
theorem rg_W {br y : Int32} {d q u : Nat} (hb : br = nI d) (hd : 1 ≤ d) (hd2 : d ≤ 360) (hq : 360 = d * q) (hu : (v_L_rings_26 y).toInt = (u : Int) - 180) (hu2 : u < 360) (hs : v_L_rings_182 y = -1) : ∀ k : Nat, k ≤ 180 → lp_L_rings_193 br y k = (nI ((360 + u) / d - (360 + u - k) / d), if u < k then -1 else 0)
  | 0, _ => by
    rw [Nat.sub_zero, Nat.sub_self, if_neg (by omega)]
    rfl
  | k + 1, hk => by
    have ih := rg_W hb hd hd2 hq hu hu2 hs k (by omega)
    have e1 : (-1 : Int32).toInt = -1 := rfl
    have h2 := rg_223 hu hu2 (k := k) (by omega) (Or.inr hs)
    rw [hs, e1] at h2
    show (v_L_rings_300 br y ((lp_L_rings_193 br y k).1) k, v_L_rings_316 y ((lp_L_rings_193 br y k).2) k) = _
    rw [ih]
    have k3 : (360 + u - k) / d ≤ (360 + u) / d := Nat.div_le_div_right (by omega)
    have k4 : (360 + u) / d ≤ 720 := Nat.le_trans (Nat.div_le_self _ _) (by omega)
    unfold v_L_rings_300 v_L_rings_316 v_L_rings_268
    rw [hs, if_pos (show (-1 : Int32) ≤ 0 by decide)]
    rcases (show k < u ∨ k = u ∨ u < k by omega) with c | c | c
    · obtain ⟨w, hw⟩ : ∃ w, u - k = w + 1 := ⟨u - k - 1, by omega⟩
      have ea : v_L_rings_223 y k = nI (w + 1) := by
        rw [h2]
        exact congrArg nI (by omega)
      have h3 := rg_238 ea (by omega) (Or.inr hs)
      rw [hs, e1] at h3
      have eb : v_L_rings_238 y k = nI w := by
        rw [h3]
        exact congrArg nI (by omega)
      have q1 := p_q1 (n := w) hd hq
      have q1b := p_q1 (n := w + 1) hd hq
      have k2 : (w + 1) / d ≤ 540 := Nat.le_trans (Nat.div_le_self _ _) (by omega)
      have k5 : w / d ≤ 540 := Nat.le_trans (Nat.div_le_self _ _) (by omega)
      rw [ea, eb, if_neg (nI_ne0 (by omega) (by omega)), if_pos rfl, if_pos rfl, hb, pk_div (by omega) (by omega) (by omega), pk_div (by omega) (by omega) (by omega), if_neg (show ¬ u < k by omega), if_neg (show ¬ u < k + 1 by omega)]
      refine z_pe ?_ (Int32.add_zero _)
      rw [show 360 + u - (k + 1) = 360 + w by omega, show 360 + u - k = 360 + (w + 1) by omega, q1, q1b]
      rw [show 360 + u - k = 360 + (w + 1) by omega, q1b] at k3
      rcases p_q3 (u := w) hd with e | e
      · rw [if_pos (by rw [e]), Int32.add_zero, e]
      · rw [if_neg (fun hh => by rw [nI_eq (by omega) (by omega)] at hh; omega), show (1 : Int32) = nI 1 from rfl, nI_add]
        exact congrArg nI (by omega)
    · have ea : v_L_rings_223 y k = 0 := by
        rw [h2]
        show nI _ = nI 0
        exact congrArg nI (by omega)
      rw [ea, if_pos rfl, if_neg (show ¬ (1 : Int32) = 0 by decide), if_neg (show ¬ (1 : Int32) = 0 by decide), if_neg (show ¬ u < k by omega), if_pos (show u < k + 1 by omega)]
      refine z_pe ?_ (show (0 : Int32) + -1 = -1 by decide)
      have q2 := p_q2 hd hq
      have q1 := p_q1 (n := 0) hd hq
      rw [Nat.zero_div] at q1
      rw [show 360 + u - k = 360 + 0 by omega, q1] at k3
      rw [show 360 + u - (k + 1) = 359 by omega, show 360 + u - k = 360 + 0 by omega, q1, show (1 : Int32) = nI 1 from rfl, nI_add]
      congr 1
      generalize 359 / d = w at q2 ⊢
      omega
    · obtain ⟨w, hw⟩ : ∃ w, 360 + u - k = w + 1 := ⟨360 + u - k - 1, by omega⟩
      have ea : v_L_rings_223 y k = nI (w + 1) := by
        rw [h2]
        exact congrArg nI (by omega)
      have h3 := rg_238 ea (by omega) (Or.inr hs)
      rw [hs, e1] at h3
      have eb : v_L_rings_238 y k = nI w := by
        rw [h3]
        exact congrArg nI (by omega)
      have k2 : (w + 1) / d ≤ 540 := Nat.le_trans (Nat.div_le_self _ _) (by omega)
      have k5 : w / d ≤ 540 := Nat.le_trans (Nat.div_le_self _ _) (by omega)
      rw [ea, eb, if_neg (nI_ne0 (by omega) (by omega)), if_pos rfl, if_pos rfl, hb, pk_div (by omega) (by omega) (by omega), pk_div (by omega) (by omega) (by omega), if_pos c, if_pos (show u < k + 1 by omega)]
      refine z_pe ?_ (Int32.add_zero _)
      rw [hw] at k3
      rw [show 360 + u - (k + 1) = w by omega, hw]
      rcases p_q3 (u := w) hd with e | e
      · rw [if_pos (by rw [e]), Int32.add_zero, e]
      · rw [if_neg (fun hh => by rw [nI_eq (by omega) (by omega)] at hh; omega), show (1 : Int32) = nI 1 from rfl, nI_add]
        exact congrArg nI (by omega)
theorem rg_f0 {y : Int32} (c : v_L_rings_112 y = 0) : k_X4_requireLongitude (v_L_rings_26 y) = 2 := by
  unfold v_L_rings_112 at c
  by_cases h : v_L_rings_26 y < -180
  · rw [Int32.lt_iff_toInt_lt, show (-180 : Int32).toInt = -180 from rfl] at h
    exact q_lonn (Or.inl h)
  · rw [if_neg h] at c
    exact absurd c (by decide)
theorem rg_f1 {y : Int32} (c : ¬ v_L_rings_112 y = 0) : -180 ≤ (v_L_rings_26 y).toInt ∧ (v_L_rings_26 y).toInt ≤ 179 := by
  have h1 := rg_o1 y
  unfold v_L_rings_112 at c
  have h := z_n1 c
  rw [Int32.lt_iff_toInt_lt, show (-180 : Int32).toInt = -180 from rfl] at h
  omega
theorem rg_de {o1 o2 : Int32} (h1 : -180 ≤ o1.toInt ∧ o1.toInt ≤ 179) (h2 : -180 ≤ o2.toInt ∧ o2.toInt ≤ 179) : s_X4_degreesEast o1 o2 = nI (rg_n o1 o2) := by
  have e : (o2 - o1).toInt = o2.toInt - o1.toInt := z_subI (by omega) (by omega)
  have e3 : (360 : Int32).toInt = 360 := rfl
  have e0 : (0 : Int32).toInt = 0 := rfl
  have en : (nI (rg_n o1 o2)).toInt = (rg_n o1 o2 : Int) := nI_toInt (by have := rg_nl o1 o2; omega)
  apply Int32.toInt_inj.mp
  rw [en]
  unfold s_X4_degreesEast rg_n
  by_cases c : 0 ≤ o2 - o1
  · rw [if_pos c, e]
    rw [Int32.le_iff_toInt_le, e, e0] at c
    omega
  · rw [if_neg c, z_addI (by rw [e, e3]; omega) (by rw [e, e3]; omega), e, e3]
    rw [Int32.le_iff_toInt_le, e, e0] at c
    omega
theorem rg_lt1 {n : Nat} (hn : n < 360) : (180 : Int32) < nI n ↔ 180 < n := by
  rw [Int32.lt_iff_toInt_lt, nI_toInt (by omega), show (180 : Int32).toInt = 180 from rfl]
  omega
theorem rg_sw {y : Int32} (h1 : -180 ≤ (v_L_rings_26 y).toInt ∧ (v_L_rings_26 y).toInt ≤ 179) : s_X4_shorterWay (v_L_rings_26 y) (v_L_rings_68 y) = v_L_rings_167 y := by
  have hl := rg_nl (v_L_rings_26 y) (v_L_rings_68 y)
  unfold s_X4_shorterWay v_L_rings_167
  rw [rg_de h1 (rg_o2 y)]
  generalize rg_n (v_L_rings_26 y) (v_L_rings_68 y) = n at hl ⊢
  have e : (360 : Int32) - nI n = nI (360 - n) := pk_sub (a := 360) (by omega)
  rw [e]
  have e1 : (nI n).toInt = (n : Int) := nI_toInt (by omega)
  have e2 : (nI (360 - n)).toInt = ((360 - n : Nat) : Int) := nI_toInt (by omega)
  by_cases c : 180 < n
  · rw [if_pos ((rg_lt1 hl).mpr c), if_pos (by rw [Int32.lt_iff_toInt_lt, e1, e2]; omega)]
  · rw [if_neg (fun h => c ((rg_lt1 hl).mp h)), if_neg (by rw [Int32.lt_iff_toInt_lt, e1, e2]; omega)]
theorem rg_by2 (fw fh : Nat → Int32) (br : Int32) (nC nR : Nat) (nf y : Int32) : s_L_by fw fh br nC nR nf 2 (v_L_rings_26 y) (v_L_rings_68 y) 0 = (if (v_L_rings_112 y) = 0 then (-9000001) else v_L_rings_167 y) := by
  rw [by_2]
  unfold k_X4_apart s_X4_apart
  have h2 := rg_o2 y
  have q2 := q_lon (x := v_L_rings_68 y) h2.1 h2.2
  by_cases c : v_L_rings_112 y = 0
  · have q := rg_f0 c
    simp [c, q]
  · have h1 := rg_f1 c
    have q := q_lon h1.1 h1.2
    simp [c, q, q2, rg_sw h1]
theorem rg_by3 (fw fh : Nat → Int32) (br : Int32) (nC nR : Nat) (nf y : Int32) : s_L_by fw fh br nC nR nf 3 (v_L_rings_26 y) (v_L_rings_68 y) (v_L_rings_98 y) = (if (v_L_rings_112 y) = 0 then (-9000001) else (if (v_L_rings_98 y) < (-90) then (-9000001) else (v_L_rings_167 y) * (s_L_wide fw fh (v_L_rings_98 y)))) := by
  rw [by_3]
  unfold k_X4_ringWay s_X4_ringWay
  have h2 := rg_o2 y
  have q2 := q_lon (x := v_L_rings_68 y) h2.1 h2.2
  by_cases d : v_L_rings_98 y < -90
  · have d2 := Int32.lt_iff_toInt_lt.mp d
    rw [show (-90 : Int32).toInt = -90 from rfl] at d2
    have q3 := q_latn (Or.inl d2)
    simp [d, q3]
  · have d3 := rg_lat d
    have q3 := q_lat d3.1 d3.2
    by_cases c : v_L_rings_112 y = 0
    · have q := rg_f0 c
      simp [c, q, q3]
    · have h1 := rg_f1 c
      have q := q_lon h1.1 h1.2
      simp [c, q, q2, q3, d, rg_sw h1, s_L_wide]
theorem rg_zb {br he : Int32} {d u : Nat} (hb : br = nI d) (hd : 1 ≤ d) (hd2 : d ≤ 360) (h : he.toInt = (u : Int) - 180) (hu : u < 1000) : s_X3_zonesBefore br he = nI (u / d) ∧ (he + 180) / br = nI (u / d) := by
  have e : he + 180 = nI u := by
    apply Int32.toInt_inj.mp
    rw [z_addI (by rw [show (180 : Int32).toInt = 180 from rfl]; omega) (by rw [show (180 : Int32).toInt = 180 from rfl]; omega), nI_toInt (by omega), show (180 : Int32).toInt = 180 from rfl]
    omega
  unfold s_X3_zonesBefore
  rw [if_pos (by rw [hb]; exact nI_le (a := 1) hd (by omega)), Int32.sub_neg, e, hb, pk_div (by omega) (by omega) (by omega)]
  exact ⟨rfl, rfl⟩
theorem rg_by4 (fw fh : Nat → Int32) {br : Int32} (hZ : zZn br) (nC nR : Nat) (nf y : Int32) : s_L_by fw fh br nC nR nf 4 (v_L_rings_26 y) 0 0 = (if (v_L_rings_112 y) = 0 then (-9000001) else ((v_L_rings_26 y) + 180) / br) := by
  obtain ⟨d, hd, hd2, -, hb⟩ := hZ
  rw [by_4]
  unfold k_X4_zone s_X4_zone
  by_cases c : v_L_rings_112 y = 0
  · have q := rg_f0 c
    simp [c, q]
  · have h1 := rg_f1 c
    have q := q_lon h1.1 h1.2
    have z := rg_zb hb hd hd2 (he := v_L_rings_26 y) (u := ((v_L_rings_26 y).toInt + 180).toNat) (by omega) (by omega)
    simp [c, q, z.1, z.2]
theorem rg_cross {br y : Int32} (hZ : zZn br) (h1 : -180 ≤ (v_L_rings_26 y).toInt ∧ (v_L_rings_26 y).toInt ≤ 179) : s_X3_seamsEastOf br (if (s_X4_goesEast (v_L_rings_26 y) (v_L_rings_68 y)) = 0 then v_L_rings_68 y else v_L_rings_26 y) (s_X4_shorterWay (v_L_rings_26 y) (v_L_rings_68 y)) = (lp_L_rings_193 br y ((v_L_rings_167 y).toInt.toNat)).1 ∧ (if (s_X4_goesEast (v_L_rings_26 y) (v_L_rings_68 y)) = 0 then (if v_L_rings_68 y ≤ v_L_rings_26 y then 0 else (-1)) else (if v_L_rings_26 y ≤ v_L_rings_68 y then 0 else 1)) = (lp_L_rings_193 br y ((v_L_rings_167 y).toInt.toNat)).2 := by
  obtain ⟨d, hd, hd2, hm, hb⟩ := hZ
  obtain ⟨q, hq⟩ : ∃ q, 360 = d * q := ⟨360 / d, by have := Nat.div_add_mod 360 d; omega⟩
  have h2 := rg_o2 y
  have hl := rg_nl (v_L_rings_26 y) (v_L_rings_68 y)
  rw [rg_sw h1]
  obtain ⟨u, hu⟩ : ∃ u : Nat, (v_L_rings_26 y).toInt = (u : Int) - 180 := ⟨((v_L_rings_26 y).toInt + 180).toNat, by omega⟩
  obtain ⟨v, hv⟩ : ∃ v : Nat, (v_L_rings_68 y).toInt = (v : Int) - 180 := ⟨((v_L_rings_68 y).toInt + 180).toNat, by omega⟩
  obtain ⟨n, hn⟩ : ∃ n, n = rg_n (v_L_rings_26 y) (v_L_rings_68 y) := ⟨_, rfl⟩
  have hn2 : n = (((v : Int) - u) % 360).toNat := by
    rw [hn]
    unfold rg_n
    rw [hu, hv]
    congr 1
    omega
  unfold s_X4_goesEast
  rw [rg_de h1 h2]
  have e167 : v_L_rings_167 y = if 180 < nI n then 360 - nI n else nI n := by
    rw [hn]
    rfl
  have e182 : v_L_rings_182 y = if 180 < nI n then -1 else 1 := by
    rw [hn]
    rfl
  rw [← hn] at hl ⊢
  have en : (nI n).toInt = (n : Int) := nI_toInt (by omega)
  unfold s_X3_seamsEastOf
  by_cases c : 180 < n
  · have c2 := (rg_lt1 hl).mpr c
    rw [if_pos c2] at e167 e182
    rw [show (360 : Int32) - nI n = nI (360 - n) from pk_sub (a := 360) (by omega)] at e167
    have em : (nI (360 - n)).toInt = ((360 - n : Nat) : Int) := nI_toInt (by omega)
    rw [if_pos c2, if_pos rfl, if_pos rfl, e167, em, Int.toNat_natCast, rg_W hb hd hd2 hq hu (by omega) e182 (360 - n) (by omega)]
    have ev : (v_L_rings_68 y + nI (360 - n)).toInt = ((v + (360 - n) : Nat) : Int) - 180 := by
      rw [z_addI (by rw [em]; omega) (by rw [em]; omega), em]
      omega
    rw [(rg_zb hb hd hd2 ev (by omega)).1, (rg_zb hb hd hd2 hv (by omega)).1]
    have q1 := p_q1 (n := u) hd hq
    have q2 := p_q1 (n := v) hd hq
    constructor
    · show _ = nI _
      have k1 : v / d ≤ (v + (360 - n)) / d := Nat.div_le_div_right (by omega)
      rw [pk_sub k1]
      by_cases cc : v ≤ u
      · rw [show v + (360 - n) = u by omega, show 360 + u - (360 - n) = 360 + v by omega, q1, q2]
        exact congrArg nI (by omega)
      · rw [show v + (360 - n) = 360 + u by omega, show 360 + u - (360 - n) = v by omega]
    · by_cases cc : v ≤ u
      · rw [if_pos (by rw [Int32.le_iff_toInt_le]; omega)]
        show _ = (if u < 360 - n then (-1 : Int32) else 0)
        rw [if_neg (by omega)]
      · rw [if_neg (by rw [Int32.le_iff_toInt_le]; omega)]
        show _ = (if u < 360 - n then (-1 : Int32) else 0)
        rw [if_pos (by omega)]
  · have c2 : ¬ (180 : Int32) < nI n := fun h => c ((rg_lt1 hl).mp h)
    rw [if_neg c2] at e167 e182
    rw [if_neg c2, if_neg (show ¬ (1 : Int32) = 0 by decide), if_neg (show ¬ (1 : Int32) = 0 by decide), e167, en, Int.toNat_natCast, rg_E hb hd hd2 hq hu (by omega) e182 n (by omega)]
    have ev : (v_L_rings_26 y + nI n).toInt = ((u + n : Nat) : Int) - 180 := by
      rw [z_addI (by rw [en]; omega) (by rw [en]; omega), en]
      omega
    rw [(rg_zb hb hd hd2 ev (by omega)).1, (rg_zb hb hd hd2 hu (by omega)).1]
    constructor
    · show _ = nI _
      exact pk_sub (Nat.div_le_div_right (by omega))
    · by_cases cc : u ≤ v
      · rw [if_pos (by rw [Int32.le_iff_toInt_le]; omega)]
        show _ = (if 360 ≤ u + n then (1 : Int32) else 0)
        rw [if_neg (by omega)]
      · rw [if_neg (by rw [Int32.le_iff_toInt_le]; omega)]
        show _ = (if 360 ≤ u + n then (1 : Int32) else 0)
        rw [if_pos (by omega)]
theorem rg_by5 (fw fh : Nat → Int32) {br : Int32} (hZ : zZn br) (nC nR : Nat) (nf y : Int32) : s_L_by fw fh br nC nR nf 5 (v_L_rings_26 y) (v_L_rings_68 y) 0 = (if (v_L_rings_112 y) = 0 then (-9000001) else (lp_L_rings_193 br y ((v_L_rings_167 y).toInt.toNat)).1) := by
  rw [by_5]
  unfold k_X4_seams s_X4_seams
  have h2 := rg_o2 y
  have q2 := q_lon (x := v_L_rings_68 y) h2.1 h2.2
  by_cases c : v_L_rings_112 y = 0
  · have q := rg_f0 c
    simp [c, q]
  · have h1 := rg_f1 c
    have q := q_lon h1.1 h1.2
    rw [← (rg_cross hZ h1).1, if_neg c, q, q2, if_pos rfl, if_pos rfl, if_pos rfl, if_pos rfl, if_pos rfl]
theorem rg_by6 (fw fh : Nat → Int32) {br : Int32} (hZ : zZn br) (nC nR : Nat) (nf y : Int32) : s_L_by fw fh br nC nR nf 6 (v_L_rings_26 y) (v_L_rings_68 y) 0 = (if (v_L_rings_112 y) = 0 then (-9000001) else (lp_L_rings_193 br y ((v_L_rings_167 y).toInt.toNat)).2) := by
  rw [by_6]
  unfold k_X4_dateLine s_X4_dateLine
  have h2 := rg_o2 y
  have q2 := q_lon (x := v_L_rings_68 y) h2.1 h2.2
  by_cases c : v_L_rings_112 y = 0
  · have q := rg_f0 c
    simp [c, q]
  · have h1 := rg_f1 c
    have q := q_lon h1.1 h1.2
    rw [← (rg_cross hZ h1).2, if_neg c, q, q2, if_pos rfl, if_pos rfl, if_pos rfl, if_pos rfl, if_pos rfl]
theorem rings_ok (fw fh : Nat → Int32) {br : Int32} (hZ : zZn br) (nC nR : Nat) (nf y : Int32) : s_L_rings fw fh br nC nR nf y = 1 := by
  unfold s_L_rings
  rw [if_pos (rg_by2 fw fh br nC nR nf y), if_pos (rg_by3 fw fh br nC nR nf y), if_pos (rg_by4 fw fh hZ nC nR nf y), if_pos (rg_by5 fw fh hZ nC nR nf y), if_pos (rg_by6 fw fh hZ nC nR nf y)]
