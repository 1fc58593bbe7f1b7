/-! the law's own instructions -/
def zus (x y : Int32) : Int32 := (x.toUInt32 >>> (y.toUInt32 &&& Int32.toUInt32 31)).toInt32
def zul (x : Int64) (y : Int32) : Int64 := (x.toUInt64 >>> (y.toInt64.toUInt64 &&& Int64.toUInt64 63)).toInt64
/-- the law's table t against the class's rows -/
def zLT (gt fw fh : Nat → Int32) : Prop := ∀ j : Nat, j < 10 → gt j = fw j ∧ gt (10 + j) = fh j
theorem zr_d10 {d : Nat} (h : d ≤ 90) : nI d / 10 = nI (d / 10) := pk_div (a := d) (d := 10) (by omega) (by omega) (by omega)
theorem zr_0 {d : Nat} (h : d ≤ 90) : nI d / 10 * 10 = nI (d / 10 * 10 + 0) := by
  rw [zr_d10 h, show (10 : Int32) = nI 10 from rfl, pk_mul]
  rfl
theorem zr_ia {b d : Nat} (hb : b = 0 ∨ b = 10) (h : d ≤ 90) : vp_in (nI b + nI d / 10) 33 := by
  rw [zr_d10 h, nI_add]
  exact vp_in_nI (by omega) (by omega)
theorem zr_ib {b d k : Nat} (hb : b = 0 ∨ b = 10) (h : d ≤ 90) (hk : k < d % 10) : vp_in (nI b + nI (d / 10 * 10 + k) / 10) 33 := zr_ia hb (by omega)
theorem zr_ic {b d k : Nat} (hb : b = 0 ∨ b = 10) (h : d ≤ 90) (hk : k < d % 10) : vp_in ((nI b + nI (d / 10 * 10 + k) / 10) + 1) 33 := by
  rw [zr_d10 (show d / 10 * 10 + k ≤ 90 by omega), nI_add, nI_1]
  exact vp_in_nI (by omega) (by omega)
theorem zr_ge {d k : Nat} (h : d ≤ 90) (hk : k ≤ d % 10) (c : nI d ≤ nI (d / 10 * 10 + k)) : d % 10 ≤ k := by
  have := (nI_leI (by omega) (by omega)).mp c
  omega
theorem zr_lt {d k : Nat} (h : d ≤ 90) (hk : k ≤ d % 10) (c : ¬ nI d ≤ nI (d / 10 * 10 + k)) : k < d % 10 := by
  rcases Nat.lt_or_ge k (d % 10) with q | q
  · exact q
  · exact absurd (nI_le (by omega) (by omega)) c
theorem zr_inc (m k : Nat) : nI (m + k) + Int32.ofInt 1 = nI (m + (k + 1)) := (nI_succ (m + k)).symm
theorem zr_abs {lat : Int32} (h : -90 ≤ lat.toInt ∧ lat.toInt ≤ 90) : (if lat ≤ 0 then -lat else lat) = nI lat.toInt.natAbs := by
  have e0 : (0 : Int32).toInt = 0 := rfl
  apply Int32.toInt_inj.mp
  rw [nI_toInt (by omega)]
  by_cases c : lat ≤ 0
  · rw [if_pos c]
    rw [Int32.le_iff_toInt_le] at c
    rw [Int32.toInt_neg, z_bm (by omega) (by omega)]
    omega
  · rw [if_neg c]
    rw [Int32.le_iff_toInt_le] at c
    omega
theorem zr_absn {lat : Int32} (h : -90 ≤ lat.toInt ∧ lat.toInt ≤ 90) (c : ¬ 0 ≤ lat) : -lat = nI lat.toInt.natAbs := by
  have e := zr_abs h
  rw [if_pos (Int32.le_of_lt (Int32.not_le.mp c))] at e
  exact e
theorem zr_absp {lat : Int32} (h : -90 ≤ lat.toInt ∧ lat.toInt ≤ 90) (c : 0 ≤ lat) : lat = nI lat.toInt.natAbs := by
  have e0 : (0 : Int32).toInt = 0 := rfl
  apply Int32.toInt_inj.mp
  rw [nI_toInt (by omega)]
  rw [Int32.le_iff_toInt_le] at c
  omega
theorem zr_ab {lat : Int32} (h : -90 ≤ lat.toInt ∧ lat.toInt ≤ 90) : lat.toInt.natAbs ≤ 90 := by omega
theorem zl_a0 {so no : Int32} {k : Nat} (h1 : -90 ≤ so.toInt) (h2 : so.toInt ≤ no.toInt) (h3 : no.toInt ≤ 90) (hk : k ≤ (no.toInt - so.toInt).toNat) : -90 ≤ (so + nI k).toInt ∧ (so + nI k).toInt ≤ 90 := by
  rw [z_fadd h1 (by omega)]
  omega
theorem zl_a1 {so no : Int32} {k : Nat} (h1 : -90 ≤ so.toInt) (h2 : so.toInt ≤ no.toInt) (h3 : no.toInt ≤ 90) (hk : k ≤ (no.toInt - so.toInt).toNat) (h : ¬ no ≤ so + nI k) : -90 ≤ ((so + nI k) + 1).toInt ∧ ((so + nI k) + 1).toInt ≤ 90 := by
  have h4 := z_flt h1 h2 h3 hk h
  rw [show (so + nI k) + 1 = so + nI (k + 1) from z_adds so k]
  exact zl_a0 h1 h2 h3 (by omega)
/-! ten times a table's value, d degrees out -/
theorem z_abs {lat : Int32} (h : -90 ≤ lat.toInt ∧ lat.toInt ≤ 90) : ∃ n : Nat, n ≤ 90 ∧ n = lat.toInt.natAbs ∧ (if 0 ≤ lat then lat else -lat) = nI n := by
  refine ⟨lat.toInt.natAbs, by omega, rfl, ?_⟩
  have e0 : (0 : Int32).toInt = 0 := rfl
  apply Int32.toInt_inj.mp
  rw [nI_toInt (by omega)]
  by_cases c : 0 ≤ lat
  · rw [if_pos c]
    rw [Int32.le_iff_toInt_le] at c
    omega
  · rw [if_neg c]
    rw [Int32.le_iff_toInt_le] at c
    rw [Int32.toInt_neg, z_bm (by omega) (by omega)]
    omega
theorem z_d10 (n : Nat) (h : n ≤ 90) : nI n / 10 = nI (n / 10) := pk_div (a := n) (d := 10) (by omega) (by omega) (by omega)
theorem z_r10 (n : Nat) (h : n ≤ 90) : nI n - nI n / 10 * 10 = nI (n % 10) := pk_rem (a := n) (d := 10) (by omega) (by omega) (by omega)
def p_T (f : Nat → Int32) (d : Nat) : Int32 := nI (10 - d % 10) * f (d / 10) + (if d % 10 = 0 then 0 else nI (d % 10) * f (d / 10 + 1))
theorem p_sub {a b : Nat} (h : b ≤ a) : nI a - nI b = nI (a - b) := (Int32.ofNat_sub a b h).symm
theorem p_ten (f : Nat → Int32) (n : Nat) (h : n ≤ 90) : s_X2_tenTimesAt f (nI n) = p_T f n := by
  unfold s_X2_tenTimesAt p_T
  rw [z_r10 n h, z_d10 n h, show (10 : Int32) - nI (n % 10) = nI (10 - n % 10) from p_sub (a := 10) (by omega), nI_1]
  have v1 : s_X2_valueAt f (nI (n / 10)) = f (n / 10) := by
    unfold s_X2_valueAt
    rw [if_neg (nI_pos (by omega)), if_neg (show ¬ (10 : Int32) ≤ nI (n / 10) from nI_ge (b := 10) (by omega) (by omega)), nI_clamp (by omega)]
  rw [v1]
  by_cases hr : n % 10 = 0
  · rw [if_pos hr, hr, nI_0, Int32.zero_mul]
  · rw [if_neg hr]
    have v2 : s_X2_valueAt f (nI (n / 10 + 1)) = f (n / 10 + 1) := by
      unfold s_X2_valueAt
      rw [if_neg (nI_pos (by omega)), if_neg (show ¬ (10 : Int32) ≤ nI (n / 10 + 1) from nI_ge (b := 10) (by omega) (by omega)), nI_clamp (by omega)]
    rw [v2]
theorem p_tw (f fh : Nat → Int32) {lat : Int32} (h : -90 ≤ lat.toInt ∧ lat.toInt ≤ 90) : s_X2_tenWidths f fh lat = p_T f lat.toInt.natAbs := by
  obtain ⟨n, hn, hm, e⟩ := z_abs h
  unfold s_X2_tenWidths
  rw [Int32.zero_sub, e, p_ten f n hn, ← hm]
theorem p_th (fw f : Nat → Int32) {lat : Int32} (h : -90 ≤ lat.toInt ∧ lat.toInt ≤ 90) : s_X2_tenHeights fw f lat = if 0 ≤ lat then p_T f lat.toInt.natAbs else -(p_T f lat.toInt.natAbs) := by
  obtain ⟨n, hn, hm, e⟩ := z_abs h
  unfold s_X2_tenHeights
  rw [Int32.zero_sub, e, p_ten f n hn, ← hm]
theorem p_Tc {f g : Nat → Int32} (h : ∀ j : Nat, j < 10 → f j = g j) {n : Nat} (hn : n ≤ 90) : p_T f n = p_T g n := by
  unfold p_T
  rw [h (n / 10) (by omega)]
  by_cases hr : n % 10 = 0
  · rw [if_pos hr, if_pos hr]
  · rw [if_neg hr, if_neg hr, h (n / 10 + 1) (by omega)]
/-- the widths in their range -/
def zWB (fw : Nat → Int32) : Prop := ∀ j : Nat, j < 10 → 0 ≤ (fw j).toInt ∧ (fw j).toInt ≤ 1000
theorem p_TI {f : Nat → Int32} (hf : ∀ j : Nat, j < 10 → 0 ≤ (f j).toInt ∧ (f j).toInt ≤ 9999) {n : Nat} (h : n ≤ 90) : (p_T f n).toInt = (10 - (n % 10 : Nat) : Int) * (f (n / 10)).toInt + (n % 10 : Nat) * (if n % 10 = 0 then 0 else (f (n / 10 + 1)).toInt) := by
  have b1 := hf (n / 10) (by omega)
  have hr : n % 10 < 10 := Nat.mod_lt _ (by omega)
  unfold p_T
  by_cases h0 : n % 10 = 0
  · rw [if_pos h0, if_pos h0, h0, Int32.add_zero, z_mulI (by rw [nI_toInt (by omega)]; omega) (by rw [nI_toInt (by omega)]; omega), nI_toInt (by omega)]
    omega
  · have b2 := hf (n / 10 + 1) (by omega)
    rw [if_neg h0, if_neg h0]
    generalize (f (n / 10 + 1)) = y at b2 ⊢
    generalize (f (n / 10)) = x at b1 ⊢
    generalize n % 10 = r at hr h0 ⊢
    have ea : (nI (10 - r) * x).toInt = (10 - (r : Int)) * x.toInt := by
      rcases (show r = 1 ∨ r = 2 ∨ r = 3 ∨ r = 4 ∨ r = 5 ∨ r = 6 ∨ r = 7 ∨ r = 8 ∨ r = 9 by omega) with rfl | rfl | rfl | rfl | rfl | rfl | rfl | rfl | rfl <;> (rw [z_mulI (by rw [nI_toInt (by omega)]; omega) (by rw [nI_toInt (by omega)]; omega), nI_toInt (by omega)]; omega)
    have eb : (nI r * y).toInt = (r : Int) * y.toInt := by
      rcases (show r = 1 ∨ r = 2 ∨ r = 3 ∨ r = 4 ∨ r = 5 ∨ r = 6 ∨ r = 7 ∨ r = 8 ∨ r = 9 by omega) with rfl | rfl | rfl | rfl | rfl | rfl | rfl | rfl | rfl <;> (rw [z_mulI (by rw [nI_toInt (by omega)]; omega) (by rw [nI_toInt (by omega)]; omega), nI_toInt (by omega)])
    have hs : -2147483648 ≤ (10 - (r : Int)) * x.toInt + (r : Int) * y.toInt ∧ (10 - (r : Int)) * x.toInt + (r : Int) * y.toInt < 2147483648 := by
      rcases (show r = 1 ∨ r = 2 ∨ r = 3 ∨ r = 4 ∨ r = 5 ∨ r = 6 ∨ r = 7 ∨ r = 8 ∨ r = 9 by omega) with rfl | rfl | rfl | rfl | rfl | rfl | rfl | rfl | rfl <;> omega
    rw [z_addI (by rw [ea, eb]; exact hs.1) (by rw [ea, eb]; exact hs.2), ea, eb]

def s_L_cell (L : Nat) (xs : Nat → Int32) (k : Int32) : Int32 := (if (Int32.ofNat L) ≤ k then ((zul (2147483659 * ((k + 15).toInt64)) 4).toInt32) ^^^ (k * 40503) else xs k.toNatClampNeg)
abbrev rm_L_cell : Room := { frames := 0, cells := 0, slots := 0, locals := 0 }
abbrev Qc_L_cell (D : va_G) (cI cZ cJ cD : ClassId) (qs : Nat) (L : Nat) (xs : Nat → Int32) (k : Int32) : Array Value → State → Outcome → State → Prop := va_Qi (fun (r : Int32) (_ : Unit) => r = s_L_cell L xs k) (fun _ _ => True) (fun _ : Nat => False)
set_option maxHeartbeats 4000000 in
set_option maxRecDepth 100000 in
theorem c_L_cell (l : Launch) (D : va_G) (cI cZ cJ cD : ClassId) (qs : Nat) (L : Nat) (xs : Nat → Int32) (k : Int32) (hL : L < 2 ^ 31) (hk : ¬ k < 0) : Met l yL_cell wsL_cell rm_L_cell (va_Pc [.ref qs, .int k] (zPre D cI cZ cJ cD [(qs, .inl (cI, L, .inl xs))])) (Qc_L_cell D cI cZ cJ cD qs L xs k ) 0 0 (fun _ : Nat => False) := by
  refine Met.ofW (cc := cL_cell) (maxL := 2) (ret := (some .int)) (by decide) rfl ?_
  intro p e s m args below meth c s₁ B hml hv
  obtain ⟨rfl, hP, hK⟩ := hv
  have hx := B.exec
  have hb := B.bytes
  have hr := B.returns
  have hts := atoms_spec (ws := wsL_cell) B.pre
  have hown : s.vm.findClass RL = some m.cls := findClass_of_methodNamed B.named
  have hlocks := B.notSynchronized
  have hS : va_S (fun _ : Nat => False) s.heap s.heap [] := va_S.rf
  have hl := lv_entry ([.ref qs, .int k]) (n := 2) (Nat.le_of_ble_eq_true rfl)
  rw [lg_entry_eq]
  generalize (lg_sl ([.ref qs, .int k]) ++ List.replicate (2 - (lg_sl ([.ref qs, .int k])).length) Slot.unset).toArray = ls at hl ⊢
  have hl : lv_has ls 2 [(0, .ref qs), (1, .int k)] := hl
  have hP : va_P D vwCl [(qs, .inl (cI, L, .inl xs))] s.heap := hP
  have hP := hP
  refine lv_iload_n hx hb dL_cell_0 rfl (lv_at hl 1 rfl) ?_
  refine lv_aload_n hx hb dL_cell_1 rfl (lv_at hl 0 rfl) ?_
  refine va_alen (v := Int32.ofNat L) hx hb hK hP 0 0 rfl rfl rfl dL_cell_2 ?_
  have K5 : ∀ v5_0 : Int32, v5_0 = (if (Int32.ofNat L) ≤ k then ((zul (2147483659 * ((k + 15).toInt64)) 4).toInt32) ^^^ (k * 40503) else xs k.toNatClampNeg) → ∀ (H : Heap) (locs : List Loc), va_P D vwCl [(qs, .inl (cI, L, .inl xs))] H → va_S (fun _ : Nat => False) s.heap H locs → ∀ (ls : Array Slot), lv_has ls 2 [(0, .ref qs), (1, .int k)] → W p l e (headSpec wsL_cell rm_L_cell).room s m ([.ref qs, .int k]).toArray below meth c H locs 0 0 (MQ below (Qc_L_cell D cI cZ cJ cD qs L xs k) ([.ref qs, .int k]).toArray s 0 0 (fun _ : Nat => False)) (F0 m 29 ls [.int v5_0]) := by
    intro v5_0 hv5_0 H locs hP hS ls hl
    subst hv5_0
    have e6 : s_L_cell L xs k = (if (Int32.ofNat L) ≤ k then ((zul (2147483659 * ((k + 15).toInt64)) 4).toInt32) ^^^ (k * 40503) else xs k.toNatClampNeg) := rfl
    exact W.iret (v := (if (Int32.ofNat L) ≤ k then ((zul (2147483659 * ((k + 15).toInt64)) 4).toInt32) ^^^ (k * 40503) else xs k.toNatClampNeg)) hx hb hr (fun t ht hW => ⟨⟨_, (), rfl, e6.symm, trivial⟩, hS.F ht⟩) hS.2.2 dL_cell_29
  refine lv_icmp_ge (tgt := 12) hx hb dL_cell_3 (by decide) (fun c7 => ?_) (fun c7 => ?_)
  · refine lv_ldc2 (v := 2147483659) hx hb hown (hts (.constantLong RL 7 (2147483659)) (List.mem_cons_of_mem _ (List.mem_of_getElem? (i := 0) rfl))) dL_cell_12 ?_
    refine lv_iload_n hx hb dL_cell_15 rfl (lv_at hl 1 rfl) ?_
    refine lv_bipush (v := 15) hx hb dL_cell_16 (by decide) ?_
    refine lv_iadd hx hb dL_cell_18 ?_
    refine lv_i2l hx hb dL_cell_19 rfl ?_
    refine lv_lmul hx hb dL_cell_20 ?_
    refine lv_iconst (v := 4) hx hb dL_cell_21 (by decide) ?_
    refine lv_lushr (v := zul (2147483659 * ((k + 15).toInt64)) 4) hx hb dL_cell_22 rfl ?_
    refine lv_l2i hx hb dL_cell_23 rfl ?_
    refine lv_iload_n hx hb dL_cell_24 rfl (lv_at hl 1 rfl) ?_
    refine lv_ldc (v := 40503) hx hb hown (hts (.constant RL 9 (40503)) (List.mem_cons_of_mem _ (List.mem_of_getElem? (i := 1) rfl))) dL_cell_25 ?_
    refine lv_imul hx hb dL_cell_27 ?_
    refine lv_ixor hx hb dL_cell_28 ?_
    exact K5 _ (if_pos c7).symm _ _ hP hS _ (lv_sub hl [0, 1] rfl)
  · refine lv_aload_n hx hb dL_cell_6 rfl (lv_at hl 0 rfl) ?_
    refine lv_iload_n hx hb dL_cell_7 rfl (lv_at hl 1 rfl) ?_
    refine va_iald hx hb hK hP 0 0 rfl rfl (z_in (nI_toInt hL) hk c7) dL_cell_8 ?_
    refine lv_goto (tgt := 29) hx hb dL_cell_9 (by decide) ?_
    exact K5 _ (if_neg c7).symm _ _ hP hS _ (lv_sub hl [0, 1] rfl)
def s_L_some (v : Int32) (n : Int32) : Int32 := (zus v 2) - (zus v 2) / n * n
abbrev rm_L_some : Room := { frames := 0, cells := 0, slots := 0, locals := 0 }
abbrev Qc_L_some (D : va_G) (cI cZ cJ cD : ClassId) (v : Int32) (n : Int32) : Array Value → State → Outcome → State → Prop := va_Qi (fun (r : Int32) (_ : Unit) => r = s_L_some v n) (fun _ _ => True) (fun _ : Nat => False)
set_option maxHeartbeats 4000000 in
set_option maxRecDepth 100000 in
theorem c_L_some (l : Launch) (D : va_G) (cI cZ cJ cD : ClassId) (v : Int32) (n : Int32) (hn : ¬ n = 0) : Met l yL_some wsL_some rm_L_some (va_Pc [.int v, .int n] (zPre D cI cZ cJ cD [])) (Qc_L_some D cI cZ cJ cD v n ) 0 0 (fun _ : Nat => False) := by
  refine Met.ofW (cc := cL_some) (maxL := 2) (ret := (some .int)) (by decide) rfl ?_
  intro p e s m args below meth c s₁ B hml hv
  obtain ⟨rfl, hP, hK⟩ := hv
  have hx := B.exec
  have hb := B.bytes
  have hr := B.returns
  have hts := atoms_spec (ws := wsL_some) B.pre
  have hown : s.vm.findClass RL = some m.cls := findClass_of_methodNamed B.named
  have hlocks := B.notSynchronized
  have hS : va_S (fun _ : Nat => False) s.heap s.heap [] := va_S.rf
  have hl := lv_entry ([.int v, .int n]) (n := 2) (Nat.le_of_ble_eq_true rfl)
  rw [lg_entry_eq]
  generalize (lg_sl ([.int v, .int n]) ++ List.replicate (2 - (lg_sl ([.int v, .int n])).length) Slot.unset).toArray = ls at hl ⊢
  have hl : lv_has ls 2 [(0, .int v), (1, .int n)] := hl
  have hP : va_P D vwCl [] s.heap := hP
  have hP := hP
  refine lv_iload_n hx hb dL_some_0 rfl (lv_at hl 0 rfl) ?_
  refine lv_iconst (v := 2) hx hb dL_some_1 (by decide) ?_
  refine lv_iushr (v := zus v 2) hx hb dL_some_2 rfl ?_
  refine lv_iload_n hx hb dL_some_3 rfl (lv_at hl 1 rfl) ?_
  refine lv_irem hx hb dL_some_4 hn ?_
  have e1 : s_L_some v n = (zus v 2) - (zus v 2) / n * n := rfl
  exact W.iret (v := ((zus v 2) - (zus v 2) / n * n)) hx hb hr (fun t ht hW => ⟨⟨_, (), rfl, e1.symm, trivial⟩, hS.F ht⟩) hS.2.2 dL_some_5
def v_L_read_11 (gt : Nat → Int32) (b : Nat) (d : Nat) : Int32 := 10 * (gt ((nI b) + ((nI d) / 10)).toNatClampNeg)
def v_L_read_50 (gt : Nat → Int32) (b : Nat) (d : Nat) (a21_0 : Int32) (k : Nat) : Int32 := (a21_0) + ((gt (((nI b) + ((nI (d / 10 * 10 + k)) / 10)) + 1).toNatClampNeg) - (gt ((nI b) + ((nI (d / 10 * 10 + k)) / 10)).toNatClampNeg))
def lp_L_read_21 (gt : Nat → Int32) (b : Nat) (d : Nat) : Nat → Int32
  | 0 => v_L_read_11 gt b d
  | k + 1 => v_L_read_50 gt b d (lp_L_read_21 gt b d k) k
def s_L_read (gt : Nat → Int32) (b : Nat) (d : Nat) : Int32 := lp_L_read_21 gt b d (d % 10)
abbrev rm_L_read : Room := { frames := 0, cells := 0, slots := 0, locals := 0 }
abbrev Qc_L_read (D : va_G) (cI cZ cJ cD : ClassId) (qT : Nat) (gt : Nat → Int32) (fr : Int32) (lat : Int32) (b : Nat) (d : Nat) : Array Value → State → Outcome → State → Prop := va_Qi (fun (r : Int32) (_ : Unit) => r = s_L_read gt b d) (fun _ _ => True) (fun _ : Nat => False)
set_option maxHeartbeats 4000000 in
set_option maxRecDepth 100000 in
theorem c_L_read (l : Launch) (D : va_G) (cI cZ cJ cD : ClassId) (qT : Nat) (gt : Nat → Int32) (fr : Int32) (lat : Int32) (b : Nat) (d : Nat) (efr : fr = nI b) (elat : lat = nI d) (hb9 : b = 0 ∨ b = 10) (hd : d ≤ 90) : Met l yL_read wsL_read rm_L_read (va_Pc [.ref qT, .int fr, .int lat] (zPre D cI cZ cJ cD [(qT, .inl (cI, 33, .inl gt))])) (Qc_L_read D cI cZ cJ cD qT gt fr lat b d ) 0 0 (fun _ : Nat => False) := by
  subst efr
  subst elat
  refine Met.ofW (cc := cL_read) (maxL := 5) (ret := (some .int)) (by decide) rfl ?_
  intro p e s m args below meth c s₁ B hml hv
  obtain ⟨rfl, hP, hK⟩ := hv
  have hx := B.exec
  have hb := B.bytes
  have hr := B.returns
  have hts := atoms_spec (ws := wsL_read) B.pre
  have hown : s.vm.findClass RL = some m.cls := findClass_of_methodNamed B.named
  have hlocks := B.notSynchronized
  have hS : va_S (fun _ : Nat => False) s.heap s.heap [] := va_S.rf
  have hl := lv_entry ([.ref qT, .int (nI b), .int (nI d)]) (n := 5) (Nat.le_of_ble_eq_true rfl)
  rw [lg_entry_eq]
  generalize (lg_sl ([.ref qT, .int (nI b), .int (nI d)]) ++ List.replicate (5 - (lg_sl ([.ref qT, .int (nI b), .int (nI d)])).length) Slot.unset).toArray = ls at hl ⊢
  have hl : lv_has ls 5 [(0, .ref qT), (1, .int (nI b)), (2, .int (nI d))] := hl
  have hP : va_P D vwCl [(qT, .inl (cI, 33, .inl gt))] s.heap := hP
  have hP := hP
  refine lv_bipush (v := 10) hx hb dL_read_0 (by decide) ?_
  refine lv_aload_n hx hb dL_read_2 rfl (lv_at hl 0 rfl) ?_
  refine lv_iload_n hx hb dL_read_3 rfl (lv_at hl 1 rfl) ?_
  refine lv_iload_n hx hb dL_read_4 rfl (lv_at hl 2 rfl) ?_
  refine lv_bipush (v := 10) hx hb dL_read_5 (by decide) ?_
  refine lv_idiv hx hb dL_read_7 (by decide) ?_
  refine lv_iadd hx hb dL_read_8 ?_
  refine va_iald hx hb hK hP 0 0 rfl rfl (zr_ia hb9 hd) dL_read_9 ?_
  refine lv_imul hx hb dL_read_10 ?_
  refine lv_istore_n (lv' := [(3, .int (10 * (gt ((nI b) + ((nI d) / 10)).toNatClampNeg))), (0, .ref qT), (1, .int (nI b)), (2, .int (nI d))]) hx hb dL_read_11 rfl hl (by decide) rfl (fun ls hl => ?_)
  have hl : lv_has ls 5 [(3, .int (v_L_read_11 gt b d)), (0, .ref qT), (1, .int (nI b)), (2, .int (nI d))] := hl
  refine lv_iload_n hx hb dL_read_12 rfl (lv_at hl 3 rfl) ?_
  refine lv_bipush (v := 10) hx hb dL_read_13 (by decide) ?_
  refine lv_idiv hx hb dL_read_15 (by decide) ?_
  refine lv_bipush (v := 10) hx hb dL_read_16 (by decide) ?_
  refine lv_imul hx hb dL_read_18 ?_
  refine lv_istore (lv' := [(4, .int (((nI d) / 10) * 10)), (3, .int (v_L_read_11 gt b d)), (0, .ref qT), (1, .int (nI b)), (2, .int (nI d))]) hx hb dL_read_19 hl (by decide) rfl (fun ls hl => ?_)
  have X1 : ∀ (H : Heap) (locs : List Loc), va_P D vwCl [(qT, .inl (cI, 33, .inl gt))] H → va_S (fun _ : Nat => False) s.heap H locs → ∀ (ls : Array Slot), lv_has ls 5 [(0, .ref qT), (1, .int (nI b)), (2, .int (nI d)), (3, .int (lp_L_read_21 gt b d (d % 10)))] → W p l e (headSpec wsL_read rm_L_read).room s m ([.ref qT, .int (nI b), .int (nI d)]).toArray below meth c H locs 0 0 (MQ below (Qc_L_read D cI cZ cJ cD qT gt (nI b) (nI d) b d) ([.ref qT, .int (nI b), .int (nI d)]).toArray s 0 0 (fun _ : Nat => False)) (F0 m 57 ls []) := by
    intro H locs hP hS ls hl
    refine lv_iload_n hx hb dL_read_57 rfl (lv_at hl 3 rfl) ?_
    have e2 : s_L_read gt b d = lp_L_read_21 gt b d (d % 10) := rfl
    exact W.iret (v := (lp_L_read_21 gt b d (d % 10))) hx hb hr (fun t ht hW => ⟨⟨_, (), rfl, e2.symm, trivial⟩, hS.F ht⟩) hS.2.2 dL_read_58
  have L1 : ∀ (n1 k : Nat) (acc1_0 : Int32), k ≤ d % 10 → d % 10 < k + n1 → acc1_0 = lp_L_read_21 gt b d k → ∀ (H : Heap) (locs : List Loc), va_P D vwCl [(qT, .inl (cI, 33, .inl gt))] H → va_S (fun _ : Nat => False) s.heap H locs → ∀ (ls : Array Slot), lv_has ls 5 [(0, .ref qT), (1, .int (nI b)), (2, .int (nI d)), (4, .int (nI (d / 10 * 10 + k))), (3, .int acc1_0)] → W p l e (headSpec wsL_read rm_L_read).room s m ([.ref qT, .int (nI b), .int (nI d)]).toArray below meth c H locs 0 0 (MQ below (Qc_L_read D cI cZ cJ cD qT gt (nI b) (nI d) b d) ([.ref qT, .int (nI b), .int (nI d)]).toArray s 0 0 (fun _ : Nat => False)) (F0 m 21 ls []) := by
    intro n1
    induction n1 with
    | zero =>
      intro k acc1_0 hkk hf1
      exact absurd hf1 (by omega)
    | succ n1 ih1 =>
      intro k acc1_0 hkk hf1 hacc1_0 H locs hP hS ls hl
      subst hacc1_0
      refine lv_iload hx hb dL_read_21 (lv_at hl 3 rfl) ?_
      refine lv_iload_n hx hb dL_read_23 rfl (lv_at hl 2 rfl) ?_
      refine lv_icmp_ge (tgt := 57) hx hb dL_read_24 (by decide) (fun c3 => ?_) (fun c3 => ?_)
      · have hgek : d % 10 ≤ k := zr_ge hd hkk c3
        have ekk : k = d % 10 := by omega
        subst ekk
        exact X1 _ _ hP hS _ (lv_sub hl [0, 1, 2, 4] rfl)
      · refine lv_iload_n hx hb dL_read_27 rfl (lv_at hl 4 rfl) ?_
        refine lv_aload_n hx hb dL_read_28 rfl (lv_at hl 0 rfl) ?_
        refine lv_iload_n hx hb dL_read_29 rfl (lv_at hl 1 rfl) ?_
        refine lv_iload hx hb dL_read_30 (lv_at hl 3 rfl) ?_
        refine lv_bipush (v := 10) hx hb dL_read_32 (by decide) ?_
        refine lv_idiv hx hb dL_read_34 (by decide) ?_
        refine lv_iadd hx hb dL_read_35 ?_
        refine lv_iconst (v := 1) hx hb dL_read_36 (by decide) ?_
        refine lv_iadd hx hb dL_read_37 ?_
        refine va_iald hx hb hK hP 0 0 rfl rfl (zr_ic hb9 hd (zr_lt hd hkk c3)) dL_read_38 ?_
        refine lv_aload_n hx hb dL_read_39 rfl (lv_at hl 0 rfl) ?_
        refine lv_iload_n hx hb dL_read_40 rfl (lv_at hl 1 rfl) ?_
        refine lv_iload hx hb dL_read_41 (lv_at hl 3 rfl) ?_
        refine lv_bipush (v := 10) hx hb dL_read_43 (by decide) ?_
        refine lv_idiv hx hb dL_read_45 (by decide) ?_
        refine lv_iadd hx hb dL_read_46 ?_
        refine va_iald hx hb hK hP 0 0 rfl rfl (zr_ib hb9 hd (zr_lt hd hkk c3)) dL_read_47 ?_
        refine lv_isub hx hb dL_read_48 ?_
        refine lv_iadd hx hb dL_read_49 ?_
        refine lv_istore_n (lv' := [(3, .int ((lp_L_read_21 gt b d k) + ((gt (((nI b) + ((nI (d / 10 * 10 + k)) / 10)) + 1).toNatClampNeg) - (gt ((nI b) + ((nI (d / 10 * 10 + k)) / 10)).toNatClampNeg)))), (0, .ref qT), (1, .int (nI b)), (2, .int (nI d)), (4, .int (nI (d / 10 * 10 + k)))]) hx hb dL_read_50 rfl hl (by decide) rfl (fun ls hl => ?_)
        have hl : lv_has ls 5 [(3, .int (v_L_read_50 gt b d (lp_L_read_21 gt b d k) k)), (0, .ref qT), (1, .int (nI b)), (2, .int (nI d)), (4, .int (nI (d / 10 * 10 + k)))] := hl
        refine lv_iinc (v := nI (d / 10 * 10 + (k + 1))) (lv' := [(4, .int (nI (d / 10 * 10 + (k + 1)))), (3, .int (v_L_read_50 gt b d (lp_L_read_21 gt b d k) k)), (0, .ref qT), (1, .int (nI b)), (2, .int (nI d))]) hx hb dL_read_51 hl (k := 4) rfl (zr_inc (d / 10 * 10) k) (by decide) rfl (fun ls hl => ?_)
        refine lv_goto (tgt := 21) hx hb dL_read_54 (by decide) ?_
        have hltk : k < d % 10 := zr_lt hd hkk c3
        exact ih1 (k + 1) _ (by omega) (by omega) rfl _ _ hP hS _ (lv_sub hl [2, 3, 4, 0, 1] rfl)
  exact L1 (d % 10 + 1) 0 _ (Nat.zero_le _) (by omega) rfl _ _ hP hS _ (zlv (lv_sub (l' := [(0, .ref qT), (1, .int (nI b)), (2, .int (nI d)), (4, .int (((nI d) / 10) * 10)), (3, .int (v_L_read_11 gt b d))]) hl [2, 3, 4, 0, 1] rfl) (by rw [zr_0 hd]; first | done | rfl))
def s_L_wide (fw : Nat → Int32) (fh : Nat → Int32) (lat : Int32) : Int32 := s_X2_tenWidths fw fh lat
theorem zw_read {gt f : Nat → Int32} {b d : Nat} (hd : d ≤ 90) (hT : ∀ j : Nat, j < 10 → gt (b + j) = f j) (hb : b = 0 ∨ b = 10) : s_L_read gt b d = p_T f d := by
  have key : ∀ k : Nat, k ≤ d % 10 → lp_L_read_21 gt b d k = 10 * gt (b + d / 10) + nI k * (gt (b + d / 10 + 1) - gt (b + d / 10)) := by
    intro k
    induction k with
    | zero =>
      intro _
      show v_L_read_11 gt b d = _
      unfold v_L_read_11
      rw [zr_d10 hd, nI_add, nI_clamp (by omega), nI_0, Int32.zero_mul, Int32.add_zero]
    | succ k ih =>
      intro hk
      show v_L_read_50 gt b d (lp_L_read_21 gt b d k) k = _
      unfold v_L_read_50
      rw [ih (by omega), zr_d10 (show d / 10 * 10 + k ≤ 90 by omega), show (d / 10 * 10 + k) / 10 = d / 10 by omega, nI_add, nI_1, nI_clamp (by omega), nI_clamp (by omega), nI_succ, Int32.add_mul, Int32.one_mul, Int32.add_assoc]
  show lp_L_read_21 gt b d (d % 10) = _
  rw [key _ (Nat.le_refl _)]
  unfold p_T
  have e1 := hT (d / 10) (by omega)
  rw [e1]
  by_cases h0 : d % 10 = 0
  · rw [if_pos h0, h0, nI_0, Int32.zero_mul]
    rfl
  · have e2 := hT (d / 10 + 1) (by omega)
    rw [if_neg h0, Nat.add_assoc, e2, ← p_sub (a := 10) (by omega), show nI 10 = 10 from rfl, Int32.sub_mul, Int32.mul_sub]
    generalize nI (d % 10) * f (d / 10) = x
    generalize nI (d % 10) * f (d / 10 + 1) = y
    rw [Int32.sub_eq_add_neg, Int32.sub_eq_add_neg, Int32.add_assoc, Int32.add_comm y]
theorem zw_wide {gt fw fh : Nat → Int32} {lat : Int32} (hT : zLT gt fw fh) (hlat : -90 ≤ lat.toInt ∧ lat.toInt ≤ 90) : s_L_read gt 0 lat.toInt.natAbs = s_X2_tenWidths fw fh lat := by
  rw [p_tw fw fh hlat]
  exact zw_read (zr_ab hlat) (fun j hj => by rw [Nat.zero_add]; exact (hT j hj).1) (Or.inl rfl)
abbrev rm_L_wide : Room := { frames := 1, cells := 0, slots := 0, locals := 24 }
abbrev Qc_L_wide (D : va_G) (cI cZ cJ cD : ClassId) (qT : Nat) (gt : Nat → Int32) (fw : Nat → Int32) (fh : Nat → Int32) (lat : Int32) : Array Value → State → Outcome → State → Prop := va_Qi (fun (r : Int32) (_ : Unit) => r = s_L_wide fw fh lat) (fun _ _ => True) (fun _ : Nat => False)
set_option maxHeartbeats 4000000 in
set_option maxRecDepth 100000 in
theorem c_L_wide (l : Launch) (D : va_G) (cI cZ cJ cD : ClassId) (qT : Nat) (gt : Nat → Int32) (fw : Nat → Int32) (fh : Nat → Int32) (lat : Int32) (hT : zLT gt fw fh) (hlat : -90 ≤ lat.toInt ∧ lat.toInt ≤ 90) : Met l yL_wide wsL_wide rm_L_wide (va_Pc [.ref qT, .int lat] (zPre D cI cZ cJ cD [(qT, .inl (cI, 33, .inl gt))])) (Qc_L_wide D cI cZ cJ cD qT gt fw fh lat ) 0 0 (fun _ : Nat => False) := by
  refine Met.ofW (cc := cL_wide) (maxL := 2) (ret := (some .int)) (by decide) rfl ?_
  intro p e s m args below meth c s₁ B hml hv
  obtain ⟨rfl, hP, hK⟩ := hv
  have hx := B.exec
  have hb := B.bytes
  have hr := B.returns
  have hts := atoms_spec (ws := wsL_wide) B.pre
  have hown : s.vm.findClass RL = some m.cls := findClass_of_methodNamed B.named
  have hlocks := B.notSynchronized
  have hS : va_S (fun _ : Nat => False) s.heap s.heap [] := va_S.rf
  have hl := lv_entry ([.ref qT, .int lat]) (n := 2) (Nat.le_of_ble_eq_true rfl)
  rw [lg_entry_eq]
  generalize (lg_sl ([.ref qT, .int lat]) ++ List.replicate (2 - (lg_sl ([.ref qT, .int lat])).length) Slot.unset).toArray = ls at hl ⊢
  have hl : lv_has ls 2 [(0, .ref qT), (1, .int lat)] := hl
  have hP : va_P D vwCl [(qT, .inl (cI, 33, .inl gt))] s.heap := hP
  have hP := hP
  refine lv_aload_n hx hb dL_wide_0 rfl (lv_at hl 0 rfl) ?_
  refine lv_iconst (v := 0) hx hb dL_wide_1 (by decide) ?_
  refine lv_iload_n hx hb dL_wide_2 rfl (lv_at hl 1 rfl) ?_
  have K6 : ∀ v6_0 : Int32, v6_0 = (if lat ≤ 0 then -lat else lat) → ∀ (H : Heap) (locs : List Loc), va_P D vwCl [(qT, .inl (cI, 33, .inl gt))] H → va_S (fun _ : Nat => False) s.heap H locs → ∀ (ls : Array Slot), lv_has ls 2 [(0, .ref qT), (1, .int lat)] → W p l e (headSpec wsL_wide rm_L_wide).room s m ([.ref qT, .int lat]).toArray below meth c H locs 0 0 (MQ below (Qc_L_wide D cI cZ cJ cD qT gt fw fh lat) ([.ref qT, .int lat]).toArray s 0 0 (fun _ : Nat => False)) (F0 m 12 ls [.int v6_0, .int 0, .ref qT]) := by
    intro v6_0 hv6_0 H locs hP hS ls hl
    subst hv6_0
    refine va_calli (va_runS (As := [.ref qT, .int 0, .int (if lat ≤ 0 then -lat else lat)]) (rest := []) ⟨hx, hb, hml, hown, hts⟩ (c_L_read l D cI cZ cJ cD qT gt 0 (if lat ≤ 0 then -lat else lat) 0 lat.toInt.natAbs rfl (zr_abs hlat) (Or.inl rfl) (zr_ab hlat)) (va_cwS 3 hts gL_wide_L_read rfl rfl rfl (by decide +kernel) ⟨Nat.le_of_ble_eq_true rfl, Nat.le_of_ble_eq_true rfl⟩) ⟨zblind, (fun U hU hW => ⟨rfl, by rw [hU]; exact hP.sub (ws' := [(qT, .inl (cI, 33, .inl gt))]) [0] rfl, va_K.moved hW.alike hK⟩)⟩ rfl rfl hl.1 rfl (lv_room (Nat.le_of_ble_eq_true rfl)) dL_wide_12 ⟨(show _ ≤ 0 from by omega), (show _ ≤ 0 from by omega)⟩) hS (fun q _ h => h.elim) (fun q h => h.elim) (fun r7 u t H locs ht hvm hw hB hz1 hk1 hS => ?_)
    rw [hw]
    have hP := zk hP hk1
    exact W.iret (v := (s_L_read gt 0 lat.toInt.natAbs)) hx hb hr (fun t ht hW => ⟨⟨_, (), rfl, (zw_wide hT hlat), trivial⟩, hS.F ht⟩) hS.2.2 dL_wide_15
  refine lv_if_le (tgt := 10) hx hb dL_wide_3 (by decide) (fun c8 => ?_) (fun c8 => ?_)
  · refine lv_iload_n hx hb dL_wide_10 rfl (lv_at hl 1 rfl) ?_
    refine lv_ineg hx hb dL_wide_11 ?_
    exact K6 _ (if_pos c8).symm _ _ hP hS _ (lv_sub hl [0, 1] rfl)
  · refine lv_iload_n hx hb dL_wide_6 rfl (lv_at hl 1 rfl) ?_
    refine lv_goto (tgt := 12) hx hb dL_wide_7 (by decide) ?_
    exact K6 _ (if_neg c8).symm _ _ hP hS _ (lv_sub hl [0, 1] rfl)
def s_L_high (fw : Nat → Int32) (fh : Nat → Int32) (lat : Int32) : Int32 := s_X2_tenHeights fw fh lat
theorem zw_high {gt fw fh : Nat → Int32} {lat : Int32} (hT : zLT gt fw fh) (hlat : -90 ≤ lat.toInt ∧ lat.toInt ≤ 90) : (if 0 ≤ lat then s_L_read gt 10 lat.toInt.natAbs else -(s_L_read gt 10 lat.toInt.natAbs)) = s_X2_tenHeights fw fh lat := by
  rw [p_th fw fh hlat, zw_read (zr_ab hlat) (fun j hj => (hT j hj).2) (Or.inr rfl)]
abbrev rm_L_high : Room := { frames := 1, cells := 0, slots := 0, locals := 24 }
abbrev Qc_L_high (D : va_G) (cI cZ cJ cD : ClassId) (qT : Nat) (gt : Nat → Int32) (fw : Nat → Int32) (fh : Nat → Int32) (lat : Int32) : Array Value → State → Outcome → State → Prop := va_Qi (fun (r : Int32) (_ : Unit) => r = s_L_high fw fh lat) (fun _ _ => True) (fun _ : Nat => False)
set_option maxHeartbeats 4000000 in
set_option maxRecDepth 100000 in
theorem c_L_high (l : Launch) (D : va_G) (cI cZ cJ cD : ClassId) (qT : Nat) (gt : Nat → Int32) (fw : Nat → Int32) (fh : Nat → Int32) (lat : Int32) (hT : zLT gt fw fh) (hlat : -90 ≤ lat.toInt ∧ lat.toInt ≤ 90) : Met l yL_high wsL_high rm_L_high (va_Pc [.ref qT, .int lat] (zPre D cI cZ cJ cD [(qT, .inl (cI, 33, .inl gt))])) (Qc_L_high D cI cZ cJ cD qT gt fw fh lat ) 0 0 (fun _ : Nat => False) := by
  refine Met.ofW (cc := cL_high) (maxL := 2) (ret := (some .int)) (by decide) rfl ?_
  intro p e s m args below meth c s₁ B hml hv
  obtain ⟨rfl, hP, hK⟩ := hv
  have hx := B.exec
  have hb := B.bytes
  have hr := B.returns
  have hts := atoms_spec (ws := wsL_high) B.pre
  have hown : s.vm.findClass RL = some m.cls := findClass_of_methodNamed B.named
  have hlocks := B.notSynchronized
  have hS : va_S (fun _ : Nat => False) s.heap s.heap [] := va_S.rf
  have hl := lv_entry ([.ref qT, .int lat]) (n := 2) (Nat.le_of_ble_eq_true rfl)
  rw [lg_entry_eq]
  generalize (lg_sl ([.ref qT, .int lat]) ++ List.replicate (2 - (lg_sl ([.ref qT, .int lat])).length) Slot.unset).toArray = ls at hl ⊢
  have hl : lv_has ls 2 [(0, .ref qT), (1, .int lat)] := hl
  have hP : va_P D vwCl [(qT, .inl (cI, 33, .inl gt))] s.heap := hP
  have hP := hP
  refine lv_iload_n hx hb dL_high_0 rfl (lv_at hl 1 rfl) ?_
  have K7 : ∀ v7_0 : Int32, v7_0 = (if 0 ≤ lat then s_L_read gt 10 lat.toInt.natAbs else -(s_L_read gt 10 lat.toInt.natAbs)) → ∀ (H : Heap) (locs : List Loc), va_P D vwCl [(qT, .inl (cI, 33, .inl gt))] H → va_S (fun _ : Nat => False) s.heap H locs → ∀ (ls : Array Slot), lv_has ls 2 [(0, .ref qT), (1, .int lat)] → W p l e (headSpec wsL_high rm_L_high).room s m ([.ref qT, .int lat]).toArray below meth c H locs 0 0 (MQ below (Qc_L_high D cI cZ cJ cD qT gt fw fh lat) ([.ref qT, .int lat]).toArray s 0 0 (fun _ : Nat => False)) (F0 m 23 ls [.int v7_0]) := by
    intro v7_0 hv7_0 H locs hP hS ls hl
    subst hv7_0
    exact W.iret (v := (if 0 ≤ lat then s_L_read gt 10 lat.toInt.natAbs else -(s_L_read gt 10 lat.toInt.natAbs))) hx hb hr (fun t ht hW => ⟨⟨_, (), rfl, (zw_high hT hlat), trivial⟩, hS.F ht⟩) hS.2.2 dL_high_23
  refine lv_if_ge (tgt := 16) hx hb dL_high_1 (by decide) (fun c8 => ?_) (fun c8 => ?_)
  · refine lv_aload_n hx hb dL_high_16 rfl (lv_at hl 0 rfl) ?_
    refine lv_bipush (v := 10) hx hb dL_high_17 (by decide) ?_
    refine lv_iload_n hx hb dL_high_19 rfl (lv_at hl 1 rfl) ?_
    refine va_calli (va_runS (As := [.ref qT, .int 10, .int lat]) (rest := []) ⟨hx, hb, hml, hown, hts⟩ (c_L_read l D cI cZ cJ cD qT gt 10 lat 10 lat.toInt.natAbs rfl (zr_absp hlat c8) (Or.inr rfl) (zr_ab hlat)) (va_cwS 3 hts gL_high_L_read rfl rfl rfl (by decide +kernel) ⟨Nat.le_of_ble_eq_true rfl, Nat.le_of_ble_eq_true rfl⟩) ⟨zblind, (fun U hU hW => ⟨rfl, by rw [hU]; exact hP.sub (ws' := [(qT, .inl (cI, 33, .inl gt))]) [0] rfl, va_K.moved hW.alike hK⟩)⟩ rfl rfl hl.1 rfl (lv_room (Nat.le_of_ble_eq_true rfl)) dL_high_20 ⟨(show _ ≤ 0 from by omega), (show _ ≤ 0 from by omega)⟩) hS (fun q _ h => h.elim) (fun q h => h.elim) (fun r9 u t H locs ht hvm hw hB hz1 hk1 hS => ?_)
    rw [hw]
    have hP := zk hP hk1
    exact K7 _ (if_pos c8).symm _ _ hP hS _ (lv_sub hl [0, 1] rfl)
  · refine lv_aload_n hx hb dL_high_4 rfl (lv_at hl 0 rfl) ?_
    refine lv_bipush (v := 10) hx hb dL_high_5 (by decide) ?_
    refine lv_iload_n hx hb dL_high_7 rfl (lv_at hl 1 rfl) ?_
    refine lv_ineg hx hb dL_high_8 ?_
    refine va_calli (va_runS (As := [.ref qT, .int 10, .int (-lat)]) (rest := []) ⟨hx, hb, hml, hown, hts⟩ (c_L_read l D cI cZ cJ cD qT gt 10 (-lat) 10 lat.toInt.natAbs rfl (zr_absn hlat c8) (Or.inr rfl) (zr_ab hlat)) (va_cwS 3 hts gL_high_L_read rfl rfl rfl (by decide +kernel) ⟨Nat.le_of_ble_eq_true rfl, Nat.le_of_ble_eq_true rfl⟩) ⟨zblind, (fun U hU hW => ⟨rfl, by rw [hU]; exact hP.sub (ws' := [(qT, .inl (cI, 33, .inl gt))]) [0] rfl, va_K.moved hW.alike hK⟩)⟩ rfl rfl hl.1 rfl (lv_room (Nat.le_of_ble_eq_true rfl)) dL_high_9 ⟨(show _ ≤ 0 from by omega), (show _ ≤ 0 from by omega)⟩) hS (fun q _ h => h.elim) (fun q h => h.elim) (fun r10 u t H locs ht hvm hw hB hz1 hk1 hS => ?_)
    rw [hw]
    have hP := zk hP hk1
    refine lv_ineg hx hb dL_high_12 ?_
    refine lv_goto (tgt := 23) hx hb dL_high_13 (by decide) ?_
    exact K7 _ (if_neg c8).symm _ _ hP hS _ (lv_sub hl [0, 1] rfl)
def v_L_area_28 (fw : Nat → Int32) (fh : Nat → Int32) (so : Int32) (k : Nat) : Int64 := ((s_L_high fw fh ((so + nI k) + 1)) - (s_L_high fw fh (so + nI k))).toInt64
def v_L_area_62 (fw : Nat → Int32) (fh : Nat → Int32) (so : Int32) (dg : Int32) (a6_0 : Int64) (k : Nat) : Int64 := (a6_0) + ((((v_L_area_28 fw fh so k) * ((s_L_wide fw fh (so + nI k)).toInt64)) * dg.toInt64) + (((v_L_area_28 fw fh so k) * ((s_L_wide fw fh ((so + nI k) + 1)).toInt64)) * dg.toInt64))
def lp_L_area_6 (fw : Nat → Int32) (fh : Nat → Int32) (so : Int32) (dg : Int32) : Nat → Int64
  | 0 => 0
  | k + 1 => v_L_area_62 fw fh so dg (lp_L_area_6 fw fh so dg k) k
def s_L_area (fw : Nat → Int32) (fh : Nat → Int32) (so : Int32) (no : Int32) (dg : Int32) : Int64 := s_X2_fieldArea fw fh so no dg
theorem zw_wb {fw fh : Nat → Int32} {lat : Int32} (hA : zWB fw) (h : -90 ≤ lat.toInt ∧ lat.toInt ≤ 90) : 0 ≤ (s_X2_tenWidths fw fh lat).toInt ∧ (s_X2_tenWidths fw fh lat).toInt ≤ 20000 := by
  have hr : lat.toInt.natAbs ≤ 90 := by omega
  rw [p_tw fw fh h]
  have q := p_TI (fun j hj => ⟨(hA j hj).1, by have := (hA j hj).2; omega⟩) hr
  rw [q]
  have b1 := hA (lat.toInt.natAbs / 10) (by omega)
  by_cases h0 : lat.toInt.natAbs % 10 = 0
  · rw [if_pos h0, h0]
    omega
  · have b2 := hA (lat.toInt.natAbs / 10 + 1) (by omega)
    rw [if_neg h0]
    have hm : lat.toInt.natAbs % 10 < 10 := Nat.mod_lt _ (by omega)
    generalize (fw (lat.toInt.natAbs / 10 + 1)).toInt = y at b2 ⊢
    generalize (fw (lat.toInt.natAbs / 10)).toInt = x at b1 ⊢
    generalize lat.toInt.natAbs % 10 = r at hm h0 ⊢
    rcases (show r = 1 ∨ r = 2 ∨ r = 3 ∨ r = 4 ∨ r = 5 ∨ r = 6 ∨ r = 7 ∨ r = 8 ∨ r = 9 by omega) with rfl | rfl | rfl | rfl | rfl | rfl | rfl | rfl | rfl <;> omega
theorem zw_64 {a b : Int32} (h1 : -2147483648 ≤ a.toInt + b.toInt) (h2 : a.toInt + b.toInt < 2147483648) : (a + b).toInt64 = a.toInt64 + b.toInt64 := by
  apply Int64.toInt_inj.mp
  rw [Int32.toInt_toInt64, z_addI h1 h2, Int64.toInt_add, Int32.toInt_toInt64, Int32.toInt_toInt64, Int.bmod_eq_of_le (by omega) (by omega)]
theorem zw_area {fw fh : Nat → Int32} {so no dg : Int32} (hA : zWB fw) (h1 : -90 ≤ so.toInt) (h2 : so.toInt ≤ no.toInt) (h3 : no.toInt ≤ 90) : lp_L_area_6 fw fh so dg (no.toInt - so.toInt).toNat = s_X2_fieldArea fw fh so no dg := by
  have key : ∀ k : Nat, k ≤ (no.toInt - so.toInt).toNat → lp_L_area_6 fw fh so dg k = lp_X2_fieldArea_6 fw fh so no dg k := by
    intro k
    induction k with
    | zero => intro _; rfl
    | succ k ih =>
      intro hk
      show v_L_area_62 fw fh so dg (lp_L_area_6 fw fh so dg k) k = lp_X2_fieldArea_6 fw fh so no dg k + (dg.toInt64 * (s_X2_cellArea fw fh (so + nI k)))
      rw [ih (by omega)]
      unfold v_L_area_62 v_L_area_28 s_X2_cellArea s_L_high s_L_wide
      have a0 := zl_a0 h1 h2 h3 (k := k) (by omega)
      have a1 := zl_a0 h1 h2 h3 (k := k + 1) hk
      rw [← show (so + nI k) + 1 = so + nI (k + 1) from z_adds so k] at a1
      have w0 := zw_wb (fh := fh) hA a0
      have w1 := zw_wb (fh := fh) hA a1
      rw [zw_64 (by omega) (by omega)]
      generalize (s_X2_tenWidths fw fh (so + nI k)).toInt64 = x
      generalize (s_X2_tenWidths fw fh (so + nI k + 1)).toInt64 = y
      generalize (s_X2_tenHeights fw fh (so + nI k + 1) - s_X2_tenHeights fw fh (so + nI k)).toInt64 = r
      generalize dg.toInt64 = g
      congr 1
      rw [Int64.add_mul, Int64.mul_add, Int64.mul_comm r x, Int64.mul_comm r y, Int64.mul_comm (x * r) g, Int64.mul_comm (y * r) g]
  exact key _ (Nat.le_refl _)
abbrev rm_L_area : Room := { frames := 2, cells := 0, slots := 0, locals := 45 }
abbrev Qc_L_area (D : va_G) (cI cZ cJ cD : ClassId) (qT : Nat) (gt : Nat → Int32) (fw : Nat → Int32) (fh : Nat → Int32) (so : Int32) (no : Int32) (dg : Int32) : Array Value → State → Outcome → State → Prop := va_Ql (fun (r : Int64) (_ : Unit) => r = s_L_area fw fh so no dg) (fun _ _ => True) (fun _ : Nat => False)
set_option maxHeartbeats 4000000 in
set_option maxRecDepth 100000 in
theorem c_L_area (l : Launch) (D : va_G) (cI cZ cJ cD : ClassId) (qT : Nat) (gt : Nat → Int32) (fw : Nat → Int32) (fh : Nat → Int32) (so : Int32) (no : Int32) (dg : Int32) (hT : zLT gt fw fh) (hWB : zWB fw) (h1 : -90 ≤ so.toInt) (h2 : so.toInt ≤ no.toInt) (h3 : no.toInt ≤ 90) : Met l yL_area wsL_area rm_L_area (va_Pc [.ref qT, .int so, .int no, .int dg] (zPre D cI cZ cJ cD [(qT, .inl (cI, 33, .inl gt))])) (Qc_L_area D cI cZ cJ cD qT gt fw fh so no dg ) 0 0 (fun _ : Nat => False) := by
  refine Met.ofW (cc := cL_area) (maxL := 9) (ret := (some .long)) (by decide) rfl ?_
  intro p e s m args below meth c s₁ B hml hv
  obtain ⟨rfl, hP, hK⟩ := hv
  have hx := B.exec
  have hb := B.bytes
  have hr := B.returns
  have hts := atoms_spec (ws := wsL_area) B.pre
  have hown : s.vm.findClass RL = some m.cls := findClass_of_methodNamed B.named
  have hlocks := B.notSynchronized
  have hS : va_S (fun _ : Nat => False) s.heap s.heap [] := va_S.rf
  have hl := lv_entry ([.ref qT, .int so, .int no, .int dg]) (n := 9) (Nat.le_of_ble_eq_true rfl)
  rw [lg_entry_eq]
  generalize (lg_sl ([.ref qT, .int so, .int no, .int dg]) ++ List.replicate (9 - (lg_sl ([.ref qT, .int so, .int no, .int dg])).length) Slot.unset).toArray = ls at hl ⊢
  have hl : lv_has ls 9 [(0, .ref qT), (1, .int so), (2, .int no), (3, .int dg)] := hl
  have hP : va_P D vwCl [(qT, .inl (cI, 33, .inl gt))] s.heap := hP
  have hP := hP
  refine lv_lconst (v := 0) hx hb dL_area_0 (by decide) ?_
  refine lv_lstore (lv' := [(4, .long 0), (0, .ref qT), (1, .int so), (2, .int no), (3, .int dg)]) hx hb dL_area_1 hl (by decide) rfl (fun ls hl => ?_)
  refine lv_iload_n hx hb dL_area_3 rfl (lv_at hl 2 rfl) ?_
  refine lv_istore (lv' := [(6, .int so), (4, .long 0), (0, .ref qT), (1, .int so), (2, .int no), (3, .int dg)]) hx hb dL_area_4 hl (by decide) rfl (fun ls hl => ?_)
  have X1 : ∀ (H : Heap) (locs : List Loc), va_P D vwCl [(qT, .inl (cI, 33, .inl gt))] H → va_S (fun _ : Nat => False) s.heap H locs → ∀ (ls : Array Slot), lv_has ls 9 [(0, .ref qT), (1, .int so), (2, .int no), (3, .int dg), (4, .long (lp_L_area_6 fw fh so dg ((no.toInt - so.toInt).toNat)))] → W p l e (headSpec wsL_area rm_L_area).room s m ([.ref qT, .int so, .int no, .int dg]).toArray below meth c H locs 0 0 (MQ below (Qc_L_area D cI cZ cJ cD qT gt fw fh so no dg) ([.ref qT, .int so, .int no, .int dg]).toArray s 0 0 (fun _ : Nat => False)) (F0 m 70 ls []) := by
    intro H locs hP hS ls hl
    refine lv_lload hx hb dL_area_70 (lv_at hl 4 rfl) ?_
    exact W.lret (v := (lp_L_area_6 fw fh so dg ((no.toInt - so.toInt).toNat))) hx hb hr (fun t ht hW => ⟨⟨_, (), rfl, (zw_area hWB h1 h2 h3), trivial⟩, hS.F ht⟩) hS.2.2 dL_area_72
  have L1 : ∀ (n1 k : Nat) (acc1_0 : Int64), k ≤ (no.toInt - so.toInt).toNat → (no.toInt - so.toInt).toNat < k + n1 → acc1_0 = lp_L_area_6 fw fh so dg k → ∀ (H : Heap) (locs : List Loc), va_P D vwCl [(qT, .inl (cI, 33, .inl gt))] H → va_S (fun _ : Nat => False) s.heap H locs → ∀ (ls : Array Slot), lv_has ls 9 [(0, .ref qT), (1, .int so), (2, .int no), (3, .int dg), (6, .int (so + nI k)), (4, .long acc1_0)] → W p l e (headSpec wsL_area rm_L_area).room s m ([.ref qT, .int so, .int no, .int dg]).toArray below meth c H locs 0 0 (MQ below (Qc_L_area D cI cZ cJ cD qT gt fw fh so no dg) ([.ref qT, .int so, .int no, .int dg]).toArray s 0 0 (fun _ : Nat => False)) (F0 m 6 ls []) := by
    intro n1
    induction n1 with
    | zero =>
      intro k acc1_0 hkk hf1
      exact absurd hf1 (by omega)
    | succ n1 ih1 =>
      intro k acc1_0 hkk hf1 hacc1_0 H locs hP hS ls hl
      subst hacc1_0
      refine lv_iload hx hb dL_area_6 (lv_at hl 4 rfl) ?_
      refine lv_iload_n hx hb dL_area_8 rfl (lv_at hl 2 rfl) ?_
      refine lv_icmp_ge (tgt := 70) hx hb dL_area_9 (by decide) (fun c2 => ?_) (fun c2 => ?_)
      · have hgek : (no.toInt - so.toInt).toNat ≤ k := z_fge h1 h2 h3 hkk c2
        have ekk : k = (no.toInt - so.toInt).toNat := by omega
        subst ekk
        exact X1 _ _ hP hS _ (lv_sub hl [0, 1, 2, 3, 5] rfl)
      · refine lv_aload_n hx hb dL_area_12 rfl (lv_at hl 0 rfl) ?_
        refine lv_iload hx hb dL_area_13 (lv_at hl 4 rfl) ?_
        refine lv_iconst (v := 1) hx hb dL_area_15 (by decide) ?_
        refine lv_iadd hx hb dL_area_16 ?_
        refine va_calli (va_runS (As := [.ref qT, .int ((so + nI k) + 1)]) (rest := []) ⟨hx, hb, hml, hown, hts⟩ (c_L_high l D cI cZ cJ cD qT gt fw fh ((so + nI k) + 1) hT (zl_a1 h1 h2 h3 hkk c2)) (va_cwS 2 hts gL_area_L_high rfl rfl rfl (by decide +kernel) ⟨Nat.le_of_ble_eq_true rfl, Nat.le_of_ble_eq_true rfl⟩) ⟨zblind, (fun U hU hW => ⟨rfl, by rw [hU]; exact hP.sub (ws' := [(qT, .inl (cI, 33, .inl gt))]) [0] rfl, va_K.moved hW.alike hK⟩)⟩ rfl rfl hl.1 rfl (lv_room (Nat.le_of_ble_eq_true rfl)) dL_area_17 ⟨(show _ ≤ 0 from by omega), (show _ ≤ 0 from by omega)⟩) hS (fun q _ h => h.elim) (fun q h => h.elim) (fun r3 u t H locs ht hvm hw hB hz1 hk1 hS => ?_)
        rw [hw]
        have hP := zk hP hk1
        refine lv_aload_n hx hb dL_area_20 rfl (lv_at hl 0 rfl) ?_
        refine lv_iload hx hb dL_area_21 (lv_at hl 4 rfl) ?_
        refine va_calli (va_runS (As := [.ref qT, .int (so + nI k)]) (rest := [.int (s_L_high fw fh ((so + nI k) + 1))]) ⟨hx, hb, hml, hown, hts⟩ (c_L_high l D cI cZ cJ cD qT gt fw fh (so + nI k) hT (zl_a0 h1 h2 h3 hkk)) (va_cwS 2 hts gL_area_L_high rfl rfl rfl (by decide +kernel) ⟨Nat.le_of_ble_eq_true rfl, Nat.le_of_ble_eq_true rfl⟩) ⟨zblind, (fun U hU hW => ⟨rfl, by rw [hU]; exact hP.sub (ws' := [(qT, .inl (cI, 33, .inl gt))]) [0] rfl, va_K.moved hW.alike hK⟩)⟩ rfl rfl hl.1 rfl (lv_room (Nat.le_of_ble_eq_true rfl)) dL_area_23 ⟨(show _ ≤ 0 from by omega), (show _ ≤ 0 from by omega)⟩) hS (fun q _ h => h.elim) (fun q h => h.elim) (fun r4 u t H locs ht hvm hw hB hz1 hk1 hS => ?_)
        rw [hw]
        have hP := zk hP hk1
        refine lv_isub hx hb dL_area_26 ?_
        refine lv_i2l hx hb dL_area_27 rfl ?_
        refine lv_lstore (lv' := [(7, .long (((s_L_high fw fh ((so + nI k) + 1)) - (s_L_high fw fh (so + nI k))).toInt64)), (0, .ref qT), (1, .int so), (2, .int no), (3, .int dg), (6, .int (so + nI k)), (4, .long (lp_L_area_6 fw fh so dg k))]) hx hb dL_area_28 hl (by decide) rfl (fun ls hl => ?_)
        have hl : lv_has ls 9 [(7, .long (v_L_area_28 fw fh so k)), (0, .ref qT), (1, .int so), (2, .int no), (3, .int dg), (6, .int (so + nI k)), (4, .long (lp_L_area_6 fw fh so dg k))] := hl
        refine lv_lload hx hb dL_area_30 (lv_at hl 6 rfl) ?_
        refine lv_lload hx hb dL_area_32 (lv_at hl 0 rfl) ?_
        refine lv_aload_n hx hb dL_area_34 rfl (lv_at hl 1 rfl) ?_
        refine lv_iload hx hb dL_area_35 (lv_at hl 5 rfl) ?_
        refine va_calli (va_runS (As := [.ref qT, .int (so + nI k)]) (rest := [.long (v_L_area_28 fw fh so k), .long (lp_L_area_6 fw fh so dg k)]) ⟨hx, hb, hml, hown, hts⟩ (c_L_wide l D cI cZ cJ cD qT gt fw fh (so + nI k) hT (zl_a0 h1 h2 h3 hkk)) (va_cwS 2 hts gL_area_L_wide rfl rfl rfl (by decide +kernel) ⟨Nat.le_of_ble_eq_true rfl, Nat.le_of_ble_eq_true rfl⟩) ⟨zblind, (fun U hU hW => ⟨rfl, by rw [hU]; exact hP.sub (ws' := [(qT, .inl (cI, 33, .inl gt))]) [0] rfl, va_K.moved hW.alike hK⟩)⟩ rfl rfl hl.1 rfl (lv_room (Nat.le_of_ble_eq_true rfl)) dL_area_37 ⟨(show _ ≤ 0 from by omega), (show _ ≤ 0 from by omega)⟩) hS (fun q _ h => h.elim) (fun q h => h.elim) (fun r5 u t H locs ht hvm hw hB hz1 hk1 hS => ?_)
        rw [hw]
        have hP := zk hP hk1
        refine lv_i2l hx hb dL_area_40 rfl ?_
        refine lv_lmul hx hb dL_area_41 ?_
        refine lv_iload_n hx hb dL_area_42 rfl (lv_at hl 4 rfl) ?_
        refine lv_i2l hx hb dL_area_43 rfl ?_
        refine lv_lmul hx hb dL_area_44 ?_
        refine lv_lload hx hb dL_area_45 (lv_at hl 0 rfl) ?_
        refine lv_aload_n hx hb dL_area_47 rfl (lv_at hl 1 rfl) ?_
        refine lv_iload hx hb dL_area_48 (lv_at hl 5 rfl) ?_
        refine lv_iconst (v := 1) hx hb dL_area_50 (by decide) ?_
        refine lv_iadd hx hb dL_area_51 ?_
        refine va_calli (va_runS (As := [.ref qT, .int ((so + nI k) + 1)]) (rest := [.long (v_L_area_28 fw fh so k), .long (((v_L_area_28 fw fh so k) * ((s_L_wide fw fh (so + nI k)).toInt64)) * dg.toInt64), .long (lp_L_area_6 fw fh so dg k)]) ⟨hx, hb, hml, hown, hts⟩ (c_L_wide l D cI cZ cJ cD qT gt fw fh ((so + nI k) + 1) hT (zl_a1 h1 h2 h3 hkk c2)) (va_cwS 2 hts gL_area_L_wide rfl rfl rfl (by decide +kernel) ⟨Nat.le_of_ble_eq_true rfl, Nat.le_of_ble_eq_true rfl⟩) ⟨zblind, (fun U hU hW => ⟨rfl, by rw [hU]; exact hP.sub (ws' := [(qT, .inl (cI, 33, .inl gt))]) [0] rfl, va_K.moved hW.alike hK⟩)⟩ rfl rfl hl.1 rfl (lv_room (Nat.le_of_ble_eq_true rfl)) dL_area_52 ⟨(show _ ≤ 0 from by omega), (show _ ≤ 0 from by omega)⟩) hS (fun q _ h => h.elim) (fun q h => h.elim) (fun r6 u t H locs ht hvm hw hB hz1 hk1 hS => ?_)
        rw [hw]
        have hP := zk hP hk1
        refine lv_i2l hx hb dL_area_55 rfl ?_
        refine lv_lmul hx hb dL_area_56 ?_
        refine lv_iload_n hx hb dL_area_57 rfl (lv_at hl 4 rfl) ?_
        refine lv_i2l hx hb dL_area_58 rfl ?_
        refine lv_lmul hx hb dL_area_59 ?_
        refine lv_ladd hx hb dL_area_60 ?_
        refine lv_ladd hx hb dL_area_61 ?_
        refine lv_lstore (lv' := [(4, .long ((lp_L_area_6 fw fh so dg k) + ((((v_L_area_28 fw fh so k) * ((s_L_wide fw fh (so + nI k)).toInt64)) * dg.toInt64) + (((v_L_area_28 fw fh so k) * ((s_L_wide fw fh ((so + nI k) + 1)).toInt64)) * dg.toInt64)))), (7, .long (v_L_area_28 fw fh so k)), (0, .ref qT), (1, .int so), (2, .int no), (3, .int dg), (6, .int (so + nI k))]) hx hb dL_area_62 hl (by decide) rfl (fun ls hl => ?_)
        have hl : lv_has ls 9 [(4, .long (v_L_area_62 fw fh so dg (lp_L_area_6 fw fh so dg k) k)), (7, .long (v_L_area_28 fw fh so k)), (0, .ref qT), (1, .int so), (2, .int no), (3, .int dg), (6, .int (so + nI k))] := hl
        refine lv_iinc (v := so + nI (k + 1)) (lv' := [(6, .int (so + nI (k + 1))), (4, .long (v_L_area_62 fw fh so dg (lp_L_area_6 fw fh so dg k) k)), (7, .long (v_L_area_28 fw fh so k)), (0, .ref qT), (1, .int so), (2, .int no), (3, .int dg)]) hx hb dL_area_64 hl (k := 6) rfl (z_adds so k) (by decide) rfl (fun ls hl => ?_)
        refine lv_goto (tgt := 6) hx hb dL_area_67 (by decide) ?_
        have hltk : k < (no.toInt - so.toInt).toNat := z_flt h1 h2 h3 hkk c2
        exact ih1 (k + 1) _ (by omega) (by omega) rfl _ _ hP hS _ (lv_sub hl [3, 4, 5, 6, 0, 1] rfl)
  exact L1 ((no.toInt - so.toInt).toNat + 1) 0 _ (Nat.zero_le _) (by omega) rfl _ _ hP hS _ (zlv (lv_sub (l' := [(0, .ref qT), (1, .int so), (2, .int no), (3, .int dg), (6, .int so), (4, .long 0)]) hl [2, 3, 4, 5, 0, 1] rfl) (by rw [z_add0]; first | done | rfl))
