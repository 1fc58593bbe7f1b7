theorem z_is {row : Int32} (h : ¬ (if row < 0 then 0 else (if 9 < row then 0 else 1)) = (0 : Int32)) : vp_in row 10 := by
  have h1 := z_n1 h
  have h2 := z_n1 (z_n2 h)
  rw [Int32.lt_iff_toInt_lt] at h1 h2
  have e1 : (0 : Int32).toInt = 0 := rfl
  have e2 : (9 : Int32).toInt = 9 := rfl
  exact vp_in_iff.mpr (by omega)
theorem z_row1 {row : Int32} (h : ¬ (if row < 0 then 0 else (if 9 < row then 0 else 1)) = (0 : Int32)) (h0 : ¬ row ≤ 0) : vp_in (row - 1) 10 := by
  obtain ⟨j, hj, e⟩ := vp_in_of (z_is h) (by omega)
  rw [e] at h0 ⊢
  have : 0 < j := by
    rcases Nat.eq_zero_or_pos j with q | q
    · rw [q] at h0
      exact absurd (by decide) h0
    · exact q
  rw [show nI j = nI ((j - 1) + 1) by rw [Nat.sub_add_cancel this], nI_pred]
  exact vp_in_nI (by omega) (by omega)
theorem z_row2 {row : Int32} (h : ¬ (if row < 0 then 0 else (if 9 < row then 0 else 1)) = (0 : Int32)) (h0 : ¬ row = 9) : vp_in (row + 1) 10 := by
  obtain ⟨j, hj, e⟩ := vp_in_of (z_is h) (by omega)
  rw [e] at h0 ⊢
  have : j ≠ 9 := fun q => h0 (by rw [q]; rfl)
  rw [nI_1]
  exact vp_in_nI (by omega) (by omega)
theorem z_ma {a b c : Int32} (h : ¬ s_X5_mayAll a b c = 0) : ¬ a = 0 := fun ha => h (by unfold s_X5_mayAll; rw [if_pos ha]; rfl)
theorem z_mb1 {a b : Int32} (h : ¬ s_X5_mayBoth a b = 0) : ¬ a = 0 := fun ha => h (by unfold s_X5_mayBoth; rw [if_pos ha]; rfl)
theorem z_mb2 {a b : Int32} (h : ¬ s_X5_mayBoth a b = 0) : ¬ b = 0 := fun hb => by
  by_cases ha : a = 0
  · exact z_mb1 h ha
  · exact h (by unfold s_X5_mayBoth; rw [if_neg ha, if_pos hb]; rfl)
theorem z_k180 {k : Nat} (h : k ≤ 180) : -90 ≤ (90 - nI k).toInt ∧ (90 - nI k).toInt ≤ 90 := by
  rw [z_s90 (by omega)]
  omega
def lp_la (fh : Nat → Int32) (h : Int32) : Nat → Nat → Int32
  | 0, k => 90 - nI k
  | n + 1, k => if s_X5_high fh (90 - nI k) ≤ h then 90 - nI k else lp_la fh h n (k + 1)
theorem z_la_b {fh : Nat → Int32} {h : Int32} {k : Nat} (hm : ¬ (if h < s_X5_high fh (-90) then 0 else 1) = (0 : Int32)) (hk : k ≤ 180) (c : ¬ s_X5_high fh (90 - nI k) ≤ h) : k ≤ 179 := by
  rcases Nat.lt_or_ge k 180 with q | q
  · omega
  · have e : k = 180 := by omega
    rw [e, show (90 : Int32) - nI 180 = -90 by decide] at c
    exact absurd (Int32.not_lt.mp (z_n1 hm)) c
theorem z_la_s {fh : Nat → Int32} {h : Int32} {k : Nat} (hk : k ≤ 179) (c : ¬ s_X5_high fh (90 - nI k) ≤ h) (hr : lp_la fh h (180 - k) k = lp_la fh h 180 0) : lp_la fh h (180 - (k + 1)) (k + 1) = lp_la fh h 180 0 := by
  rw [show 180 - k = (179 - k) + 1 by omega] at hr
  rw [show 180 - (k + 1) = 179 - k by omega]
  exact (if_neg c).symm.trans hr
theorem z_la_e {fh : Nat → Int32} {h : Int32} {k : Nat} (c : s_X5_high fh (90 - nI k) ≤ h) (hr : lp_la fh h (180 - k) k = lp_la fh h 180 0) : 90 - nI k = lp_la fh h 180 0 := by
  generalize 180 - k = n at hr
  cases n with
  | zero => exact hr
  | succ n => exact (if_pos c).symm.trans hr
theorem z_la0 {so no : Int32} {k : Nat} (h1 : -90 ≤ so.toInt) (h2 : so.toInt ≤ no.toInt) (h3 : no.toInt ≤ 90) (hk : k ≤ (no.toInt - so.toInt).toNat) : -90 ≤ (so + nI k).toInt ∧ (so + nI k).toInt ≤ 90 := by
  rw [z_fadd h1 (by omega)]
  omega
theorem z_la1 {so no : Int32} {k : Nat} (h1 : -90 ≤ so.toInt) (h2 : so.toInt ≤ no.toInt) (h3 : no.toInt ≤ 90) (hk : k ≤ (no.toInt - so.toInt).toNat) (h : ¬ no ≤ so + nI k) : -90 ≤ ((so + nI k) + 1).toInt ∧ ((so + nI k) + 1).toInt ≤ 90 := by
  have h4 := z_flt h1 h2 h3 hk h
  rw [show (so + nI k) + 1 = so + nI (k + 1) from z_adds so k]
  exact z_la0 h1 h2 h3 (by omega)
theorem z_b10 {bd : Int32} (h : vp_in bd 9) : ∃ j : Nat, j < 9 ∧ bd = nI j ∧ (10 * bd).toInt = 10 * j ∧ (10 * bd + 10).toInt = 10 * j + 10 := by
  obtain ⟨j, hj, e⟩ := vp_in_of h (by omega)
  refine ⟨j, hj, e, ?_, ?_⟩
  · rw [e, show (10 : Int32) * nI j = nI (10 * j) from pk_mul 10 j, nI_toInt (by omega)]
    omega
  · rw [e, show (10 : Int32) * nI j = nI (10 * j) from pk_mul 10 j, show nI (10 * j) + 10 = nI (10 * j + 10) from nI_add _ 10, nI_toInt (by omega)]
    omega
theorem z_b1 {bd : Int32} (h : vp_in bd 9) : -90 ≤ (10 * bd).toInt := by
  obtain ⟨j, hj, -, e1, e2⟩ := z_b10 h
  omega
theorem z_b2 {bd : Int32} (h : vp_in bd 9) : (10 * bd).toInt ≤ (10 * bd + 10).toInt := by
  obtain ⟨j, hj, -, e1, e2⟩ := z_b10 h
  omega
theorem z_b3 {bd : Int32} (h : vp_in bd 9) : (10 * bd + 10).toInt ≤ 90 := by
  obtain ⟨j, hj, -, e1, e2⟩ := z_b10 h
  omega
theorem z_trj {ft : Nat → Int32} (htr : ∀ j : Nat, j < 9 → ¬ ft j = 0) {bd : Int32} (h : vp_in bd 9) : ¬ ft bd.toNatClampNeg = 0 := by
  obtain ⟨j, hj, e⟩ := vp_in_of h (by omega)
  rw [e, nI_clamp (by omega)]
  exact htr j hj
theorem z_36l {k : Nat} (hk : k ≤ 36) (h : ¬ 36 ≤ nI k) : k < 36 := z_ctl (n := 36) rfl (by omega) h
theorem z_36g {k : Nat} (hk : k ≤ 36) (h : 36 ≤ nI k) : 36 ≤ k := by
  have := z_ctr (n := 36) rfl (by omega) hk h
  omega
/-- where c holds, below m, anew -/
def zs (c : Nat → Bool) (g f : Nat → Int32) (k : Nat) : Nat → Int32 := fun p => if p < k ∧ c p = true then g p else f p
theorem zs_0 (c : Nat → Bool) (g f : Nat → Int32) : zs c g f 0 = f := funext fun p => if_neg (fun h => Nat.not_lt_zero p h.1)
theorem zs_at (c : Nat → Bool) (g f : Nat → Int32) {k : Nat} (hk : k < 36) : zs c g f k (nI k).toNatClampNeg = f k := by
  rw [nI_clamp (by omega)]
  exact if_neg (fun h => Nat.lt_irrefl k h.1)
theorem zs_skip {c : Nat → Bool} {g f : Nat → Int32} {k : Nat} (h : c k = false) : zs c g f k = zs c g f (k + 1) := by
  funext p
  unfold zs
  by_cases e : p = k
  · rw [if_neg (fun q => by omega), if_neg (fun q => by rw [e, h] at q; exact absurd q.2 (by decide))]
  · by_cases q : p < k ∧ c p = true
    · rw [if_pos q, if_pos ⟨by omega, q.2⟩]
    · rw [if_neg q, if_neg (fun q2 => q ⟨by omega, q2.2⟩)]
theorem zs_put {c : Nat → Bool} {g f : Nat → Int32} {k : Nat} {x : Int32} (hk : k < 36) (h : c k = true) (hx : x = g k) : upd (zs c g f k) (nI k).toNatClampNeg x = zs c g f (k + 1) := by
  funext p
  rw [nI_clamp (by omega), hx]
  unfold upd zs
  by_cases e : p = k
  · rw [if_pos e, e, if_pos ⟨by omega, h⟩]
  · rw [if_neg e]
    by_cases q : p < k ∧ c p = true
    · rw [if_pos q, if_pos ⟨by omega, q.2⟩]
    · rw [if_neg q, if_neg (fun q2 => q ⟨by omega, q2.2⟩)]
def n_X5_table_qg_11 (fh : Nat → Int32) (row : Int32) (wd : Int32) (hgt : Int32) : Int32 := n_X5_mayAll_qg_11 (if row < 0 then 0 else (if 9 < row then 0 else 1)) (if wd < 0 then 0 else (if 1000 < wd then 0 else (if hgt < 0 then 0 else (if 9999 < hgt then 0 else 1)))) (if (if row < 0 then 0 else (if 9 < row then 0 else 1)) = (0 : Int32) then 0 else (if row ≤ 0 then (if hgt = 0 then (if row = 9 then 1 else (if (fh (row + 1).toNatClampNeg) ≤ hgt then 0 else 1)) else 0) else (if hgt ≤ (fh (row - 1).toNatClampNeg) then 0 else (if row = 9 then 1 else (if (fh (row + 1).toNatClampNeg) ≤ hgt then 0 else 1)))))
def n_X5_table_qgw (fw : Nat → Int32) (fh : Nat → Int32) (row : Int32) (wd : Int32) (hgt : Int32) : Nat → Int32 := (if (s_X5_mayAll (if row < 0 then 0 else (if 9 < row then 0 else 1)) (if wd < 0 then 0 else (if 1000 < wd then 0 else (if hgt < 0 then 0 else (if 9999 < hgt then 0 else 1)))) (if (if row < 0 then 0 else (if 9 < row then 0 else 1)) = (0 : Int32) then 0 else (if row ≤ 0 then (if hgt = 0 then (if row = 9 then 1 else (if (fh (row + 1).toNatClampNeg) ≤ hgt then 0 else 1)) else 0) else (if hgt ≤ (fh (row - 1).toNatClampNeg) then 0 else (if row = 9 then 1 else (if (fh (row + 1).toNatClampNeg) ≤ hgt then 0 else 1)))))) = 0 then fw else upd fw row.toNatClampNeg wd)
def n_X5_table_qgh (fh : Nat → Int32) (row : Int32) (wd : Int32) (hgt : Int32) : Nat → Int32 := (if (s_X5_mayAll (if row < 0 then 0 else (if 9 < row then 0 else 1)) (if wd < 0 then 0 else (if 1000 < wd then 0 else (if hgt < 0 then 0 else (if 9999 < hgt then 0 else 1)))) (if (if row < 0 then 0 else (if 9 < row then 0 else 1)) = (0 : Int32) then 0 else (if row ≤ 0 then (if hgt = 0 then (if row = 9 then 1 else (if (fh (row + 1).toNatClampNeg) ≤ hgt then 0 else 1)) else 0) else (if hgt ≤ (fh (row - 1).toNatClampNeg) then 0 else (if row = 9 then 1 else (if (fh (row + 1).toNatClampNeg) ≤ hgt then 0 else 1)))))) = 0 then fh else upd fh row.toNatClampNeg hgt)
abbrev rm_X5_table : Room := { frames := 1, cells := 0, slots := 0, locals := 23 }
abbrev Qc_X5_table (D : va_G) (cI cZ cJ cD : ClassId) (qg : Nat) (qgw : Nat) (qgh : Nat) (qgt : Nat) (br : Int32) (jC : Int32) (jR : Int32) (nf : Int32) (qgx : Nat) (qgy : Nat) (qgz : Nat) (qgu : Nat) (th : Int32) (fw : Nat → Int32) (fh : Nat → Int32) (row : Int32) (wd : Int32) (hgt : Int32) (A : Nat → Prop) : Array Value → State → Outcome → State → Prop := va_Qv (fun _ : Unit => True) (zPost D cI cZ cJ cD A [(qg, .inr (5, [.ref qgw, .ref qgh, .ref qgt, .int br, .int jC, .int jR, .int nf, .ref qgx, .ref qgy, .ref qgz, .ref qgu, .int (n_X5_table_qg_11 fh row wd hgt)])), (qgw, .inl (cI, 10, .inl (n_X5_table_qgw fw fh row wd hgt))), (qgh, .inl (cI, 10, .inl (n_X5_table_qgh fh row wd hgt)))]) A
set_option maxHeartbeats 4000000 in
set_option maxRecDepth 100000 in
theorem c_X5_table (l : Launch) (D : va_G) (cI cZ cJ cD : ClassId) (qg : Nat) (qgw : Nat) (qgh : Nat) (qgt : Nat) (br : Int32) (jC : Int32) (jR : Int32) (nf : Int32) (qgx : Nat) (qgy : Nat) (qgz : Nat) (qgu : Nat) (th : Int32) (fw : Nat → Int32) (fh : Nat → Int32) (row : Int32) (wd : Int32) (hgt : Int32) (sz : Nat)  : Met l yX5_table wsX5_table rm_X5_table (va_Pc [.ref qg, .int row, .int wd, .int hgt] (zPreW D cI cZ cJ cD [(qg, .inr (5, [.ref qgw, .ref qgh, .ref qgt, .int br, .int jC, .int jR, .int nf, .ref qgx, .ref qgy, .ref qgz, .ref qgu, .int th])), (qgw, .inl (cI, 10, .inl fw)), (qgh, .inl (cI, 10, .inl fh))] sz)) (Qc_X5_table D cI cZ cJ cD qg qgw qgh qgt br jC jR nf qgx qgy qgz qgu th fw fh row wd hgt (va_A [(qg, .inr (5, [.ref qgw, .ref qgh, .ref qgt, .int br, .int jC, .int jR, .int nf, .ref qgx, .ref qgy, .ref qgz, .ref qgu, .int th])), (qgw, .inl (cI, 10, .inl fw)), (qgh, .inl (cI, 10, .inl fh))] sz)) 0 0 (va_A [(qg, .inr (5, [.ref qgw, .ref qgh, .ref qgt, .int br, .int jC, .int jR, .int nf, .ref qgx, .ref qgy, .ref qgz, .ref qgu, .int th])), (qgw, .inl (cI, 10, .inl fw)), (qgh, .inl (cI, 10, .inl fh))] sz) := by
  refine Met.ofW (cc := cX5_table) (maxL := 7) (ret := none) (by decide) rfl ?_
  intro p e s m args below meth c s₁ B hml hv
  obtain ⟨rfl, hsz, hP, hK, hD0⟩ := hv
  have hx := B.exec
  have hb := B.bytes
  have hr := B.returns
  have hts := atoms_spec (ws := wsX5_table) B.pre
  have hown : s.vm.findClass RX5 = some m.cls := findClass_of_methodNamed B.named
  have hlocks := B.notSynchronized
  subst hsz
  have hD := hD0.self (sz := s.heap.size)
  generalize hAe : va_A [(qg, .inr (5, [.ref qgw, .ref qgh, .ref qgt, .int br, .int jC, .int jR, .int nf, .ref qgx, .ref qgy, .ref qgz, .ref qgu, .int th])), (qgw, .inl (cI, 10, .inl fw)), (qgh, .inl (cI, 10, .inl fh))] s.heap.size = A at hD ⊢
  have hA : ∀ q : Nat, s.heap.size ≤ q → A q := fun q h => by rw [← hAe]; exact Or.inr h
  have hS : va_S A s.heap s.heap [] := va_S.rf
  have hl := lv_entry ([.ref qg, .int row, .int wd, .int hgt]) (n := 7) (Nat.le_of_ble_eq_true rfl)
  rw [lg_entry_eq]
  generalize (lg_sl ([.ref qg, .int row, .int wd, .int hgt]) ++ List.replicate (7 - (lg_sl ([.ref qg, .int row, .int wd, .int hgt])).length) Slot.unset).toArray = ls at hl ⊢
  have hl : lv_has ls 7 [(0, .ref qg), (1, .int row), (2, .int wd), (3, .int hgt)] := hl
  have hP : va_P D vwCl [(qg, .inr (5, [.ref qgw, .ref qgh, .ref qgt, .int br, .int jC, .int jR, .int nf, .ref qgx, .ref qgy, .ref qgz, .ref qgu, .int th])), (qgw, .inl (cI, 10, .inl fw)), (qgh, .inl (cI, 10, .inl fh))] s.heap := hP
  have hP := hP
  refine lv_iload_n hx hb dX5_table_0 rfl (lv_at hl 1 rfl) ?_
  have K24 : ∀ v24_0 : Int32, v24_0 = (if row < 0 then 0 else (if 9 < row then 0 else 1)) → ∀ (H : Heap) (locs : List Loc), va_P D vwCl [(qg, .inr (5, [.ref qgw, .ref qgh, .ref qgt, .int br, .int jC, .int jR, .int nf, .ref qgx, .ref qgy, .ref qgz, .ref qgu, .int th])), (qgw, .inl (cI, 10, .inl fw)), (qgh, .inl (cI, 10, .inl fh))] H → va_D A [(qg, .inr (5, [.ref qgw, .ref qgh, .ref qgt, .int br, .int jC, .int jR, .int nf, .ref qgx, .ref qgy, .ref qgz, .ref qgu, .int th])), (qgw, .inl (cI, 10, .inl fw)), (qgh, .inl (cI, 10, .inl fh))] → va_S A s.heap H locs → ∀ (ls : Array Slot), lv_has ls 7 [(0, .ref qg), (1, .int row), (2, .int wd), (3, .int hgt)] → W p l e (headSpec wsX5_table rm_X5_table).room s m ([.ref qg, .int row, .int wd, .int hgt]).toArray below meth c H locs 0 0 (MQ below (Qc_X5_table D cI cZ cJ cD qg qgw qgh qgt br jC jR nf qgx qgy qgz qgu th fw fh row wd hgt A) ([.ref qg, .int row, .int wd, .int hgt]).toArray s 0 0 A) (F0 m 15 ls [.int v24_0]) := by
    intro v24_0 hv24_0 H locs hP hD hS ls hl
    subst hv24_0
    refine lv_istore (lv' := [(4, .int (if row < 0 then 0 else (if 9 < row then 0 else 1))), (0, .ref qg), (1, .int row), (2, .int wd), (3, .int hgt)]) hx hb dX5_table_15 hl (by decide) rfl (fun ls hl => ?_)
    refine lv_iload_n hx hb dX5_table_17 rfl (lv_at hl 3 rfl) ?_
    have K26 : ∀ v26_0 : Int32, v26_0 = (if wd < 0 then 0 else (if 1000 < wd then 0 else (if hgt < 0 then 0 else (if 9999 < hgt then 0 else 1)))) → ∀ (H : Heap) (locs : List Loc), va_P D vwCl [(qg, .inr (5, [.ref qgw, .ref qgh, .ref qgt, .int br, .int jC, .int jR, .int nf, .ref qgx, .ref qgy, .ref qgz, .ref qgu, .int th])), (qgw, .inl (cI, 10, .inl fw)), (qgh, .inl (cI, 10, .inl fh))] H → va_D A [(qg, .inr (5, [.ref qgw, .ref qgh, .ref qgt, .int br, .int jC, .int jR, .int nf, .ref qgx, .ref qgy, .ref qgz, .ref qgu, .int th])), (qgw, .inl (cI, 10, .inl fw)), (qgh, .inl (cI, 10, .inl fh))] → va_S A s.heap H locs → ∀ (ls : Array Slot), lv_has ls 7 [(4, .int (if row < 0 then 0 else (if 9 < row then 0 else 1))), (0, .ref qg), (1, .int row), (2, .int wd), (3, .int hgt)] → W p l e (headSpec wsX5_table rm_X5_table).room s m ([.ref qg, .int row, .int wd, .int hgt]).toArray below meth c H locs 0 0 (MQ below (Qc_X5_table D cI cZ cJ cD qg qgw qgh qgt br jC jR nf qgx qgy qgz qgu th fw fh row wd hgt A) ([.ref qg, .int row, .int wd, .int hgt]).toArray s 0 0 A) (F0 m 44 ls [.int v26_0]) := by
      intro v26_0 hv26_0 H locs hP hD hS ls hl
      subst hv26_0
      refine lv_istore (lv' := [(5, .int (if wd < 0 then 0 else (if 1000 < wd then 0 else (if hgt < 0 then 0 else (if 9999 < hgt then 0 else 1))))), (4, .int (if row < 0 then 0 else (if 9 < row then 0 else 1))), (0, .ref qg), (1, .int row), (2, .int wd), (3, .int hgt)]) hx hb dX5_table_44 hl (by decide) rfl (fun ls hl => ?_)
      refine lv_iload hx hb dX5_table_46 (lv_at hl 1 rfl) ?_
      have K28 : ∀ v28_0 : Int32, v28_0 = (if (if row < 0 then 0 else (if 9 < row then 0 else 1)) = (0 : Int32) then 0 else (if row ≤ 0 then (if hgt = 0 then (if row = 9 then 1 else (if (fh (row + 1).toNatClampNeg) ≤ hgt then 0 else 1)) else 0) else (if hgt ≤ (fh (row - 1).toNatClampNeg) then 0 else (if row = 9 then 1 else (if (fh (row + 1).toNatClampNeg) ≤ hgt then 0 else 1))))) → ∀ (H : Heap) (locs : List Loc), va_P D vwCl [(qg, .inr (5, [.ref qgw, .ref qgh, .ref qgt, .int br, .int jC, .int jR, .int nf, .ref qgx, .ref qgy, .ref qgz, .ref qgu, .int th])), (qgw, .inl (cI, 10, .inl fw)), (qgh, .inl (cI, 10, .inl fh))] H → va_D A [(qg, .inr (5, [.ref qgw, .ref qgh, .ref qgt, .int br, .int jC, .int jR, .int nf, .ref qgx, .ref qgy, .ref qgz, .ref qgu, .int th])), (qgw, .inl (cI, 10, .inl fw)), (qgh, .inl (cI, 10, .inl fh))] → va_S A s.heap H locs → ∀ (ls : Array Slot), lv_has ls 7 [(5, .int (if wd < 0 then 0 else (if 1000 < wd then 0 else (if hgt < 0 then 0 else (if 9999 < hgt then 0 else 1))))), (4, .int (if row < 0 then 0 else (if 9 < row then 0 else 1))), (0, .ref qg), (1, .int row), (2, .int wd), (3, .int hgt)] → W p l e (headSpec wsX5_table rm_X5_table).room s m ([.ref qg, .int row, .int wd, .int hgt]).toArray below meth c H locs 0 0 (MQ below (Qc_X5_table D cI cZ cJ cD qg qgw qgh qgt br jC jR nf qgx qgy qgz qgu th fw fh row wd hgt A) ([.ref qg, .int row, .int wd, .int hgt]).toArray s 0 0 A) (F0 m 97 ls [.int v28_0]) := by
        intro v28_0 hv28_0 H locs hP hD hS ls hl
        subst hv28_0
        refine lv_istore (lv' := [(6, .int (if (if row < 0 then 0 else (if 9 < row then 0 else 1)) = (0 : Int32) then 0 else (if row ≤ 0 then (if hgt = 0 then (if row = 9 then 1 else (if (fh (row + 1).toNatClampNeg) ≤ hgt then 0 else 1)) else 0) else (if hgt ≤ (fh (row - 1).toNatClampNeg) then 0 else (if row = 9 then 1 else (if (fh (row + 1).toNatClampNeg) ≤ hgt then 0 else 1)))))), (5, .int (if wd < 0 then 0 else (if 1000 < wd then 0 else (if hgt < 0 then 0 else (if 9999 < hgt then 0 else 1))))), (4, .int (if row < 0 then 0 else (if 9 < row then 0 else 1))), (0, .ref qg), (1, .int row), (2, .int wd), (3, .int hgt)]) hx hb dX5_table_97 hl (by decide) rfl (fun ls hl => ?_)
        refine lv_aload_n hx hb dX5_table_99 rfl (lv_at hl 3 rfl) ?_
        refine lv_iload hx hb dX5_table_100 (lv_at hl 2 rfl) ?_
        refine lv_iload hx hb dX5_table_102 (lv_at hl 1 rfl) ?_
        refine lv_iload hx hb dX5_table_104 (lv_at hl 0 rfl) ?_
        have hPc := hP.sub (ws' := [(qg, .inr (5, [.ref qgw, .ref qgh, .ref qgt, .int br, .int jC, .int jR, .int nf, .ref qgx, .ref qgy, .ref qgz, .ref qgu, .int th]))]) [0] rfl
        have hDc := hD.sub (ws' := [(qg, .inr (5, [.ref qgw, .ref qgh, .ref qgt, .int br, .int jC, .int jR, .int nf, .ref qgx, .ref qgy, .ref qgz, .ref qgu, .int th]))]) [0] (by decide) rfl
        have hFc := va_free (wc := [(qg, .inr (5, [.ref qgw, .ref qgh, .ref qgt, .int br, .int jC, .int jR, .int nf, .ref qgx, .ref qgy, .ref qgz, .ref qgu, .int th]))]) hD hS hA [0] rfl
        refine va_calli (va_runV (As := [.int (if row < 0 then 0 else (if 9 < row then 0 else 1)), .int (if wd < 0 then 0 else (if 1000 < wd then 0 else (if hgt < 0 then 0 else (if 9999 < hgt then 0 else 1)))), .int (if (if row < 0 then 0 else (if 9 < row then 0 else 1)) = (0 : Int32) then 0 else (if row ≤ 0 then (if hgt = 0 then (if row = 9 then 1 else (if (fh (row + 1).toNatClampNeg) ≤ hgt then 0 else 1)) else 0) else (if hgt ≤ (fh (row - 1).toNatClampNeg) then 0 else (if row = 9 then 1 else (if (fh (row + 1).toNatClampNeg) ≤ hgt then 0 else 1)))))]) (rest := []) ⟨hx, hb, hml, hown, hts⟩ (c_X5_mayAll l D cI cZ cJ cD qg qgw qgh qgt br jC jR nf qgx qgy qgz qgu th (if row < 0 then 0 else (if 9 < row then 0 else 1)) (if wd < 0 then 0 else (if 1000 < wd then 0 else (if hgt < 0 then 0 else (if 9999 < hgt then 0 else 1)))) (if (if row < 0 then 0 else (if 9 < row then 0 else 1)) = (0 : Int32) then 0 else (if row ≤ 0 then (if hgt = 0 then (if row = 9 then 1 else (if (fh (row + 1).toNatClampNeg) ≤ hgt then 0 else 1)) else 0) else (if hgt ≤ (fh (row - 1).toNatClampNeg) then 0 else (if row = 9 then 1 else (if (fh (row + 1).toNatClampNeg) ≤ hgt then 0 else 1))))) H.size ) (cwV 3 hts gX5_table_X5_mayAll rfl rfl rfl (by decide +kernel) ⟨Nat.le_of_ble_eq_true rfl, Nat.le_of_ble_eq_true rfl⟩) ⟨zblindW, va_recv hK hP (ci := 5) (q0 := 0) rfl rfl, (fun U hU hW => ⟨rfl, by rw [hU], by rw [hU]; exact hPc, va_K.moved hW.alike hK, hDc.weaken (fun _ _ _ _ => trivial)⟩)⟩ rfl rfl hl.1 rfl (lv_room (Nat.le_of_ble_eq_true rfl)) dX5_table_106 ⟨Nat.le_of_ble_eq_true rfl, Nat.le_of_ble_eq_true rfl⟩) hS (fun q _ h => hFc q h) hFc (fun r29 u t H locs ht hvm hw hB hz1 hk1 hS => ?_)
        rw [hw]
        obtain ⟨hP1, hK1, hD1⟩ := hB
        rw [ht] at hP1
        obtain ⟨hP, hD⟩ := va_join (wr := [(qgw, .inl (cI, 10, .inl fw)), (qgh, .inl (cI, 10, .inl fh))]) (w1 := [(qg, .inr (5, [.ref qgw, .ref qgh, .ref qgt, .int br, .int jC, .int jR, .int nf, .ref qgx, .ref qgy, .ref qgz, .ref qgu, .int (n_X5_mayAll_qg_11 (if row < 0 then 0 else (if 9 < row then 0 else 1)) (if wd < 0 then 0 else (if 1000 < wd then 0 else (if hgt < 0 then 0 else (if 9999 < hgt then 0 else 1)))) (if (if row < 0 then 0 else (if 9 < row then 0 else 1)) = (0 : Int32) then 0 else (if row ≤ 0 then (if hgt = 0 then (if row = 9 then 1 else (if (fh (row + 1).toNatClampNeg) ≤ hgt then 0 else 1)) else 0) else (if hgt ≤ (fh (row - 1).toNatClampNeg) then 0 else (if row = 9 then 1 else (if (fh (row + 1).toNatClampNeg) ≤ hgt then 0 else 1))))))]))]) hP hD [0] [1, 2] rfl rfl (by decide) (by decide) hk1 hFc hP1 hD1
        have hP := hP.sub (ws' := [(qg, .inr (5, [.ref qgw, .ref qgh, .ref qgt, .int br, .int jC, .int jR, .int nf, .ref qgx, .ref qgy, .ref qgz, .ref qgu, .int (n_X5_mayAll_qg_11 (if row < 0 then 0 else (if 9 < row then 0 else 1)) (if wd < 0 then 0 else (if 1000 < wd then 0 else (if hgt < 0 then 0 else (if 9999 < hgt then 0 else 1)))) (if (if row < 0 then 0 else (if 9 < row then 0 else 1)) = (0 : Int32) then 0 else (if row ≤ 0 then (if hgt = 0 then (if row = 9 then 1 else (if (fh (row + 1).toNatClampNeg) ≤ hgt then 0 else 1)) else 0) else (if hgt ≤ (fh (row - 1).toNatClampNeg) then 0 else (if row = 9 then 1 else (if (fh (row + 1).toNatClampNeg) ≤ hgt then 0 else 1))))))])), (qgw, .inl (cI, 10, .inl fw)), (qgh, .inl (cI, 10, .inl fh))]) [2, 0, 1] rfl
        have hD := hD.sub (ws' := [(qg, .inr (5, [.ref qgw, .ref qgh, .ref qgt, .int br, .int jC, .int jR, .int nf, .ref qgx, .ref qgy, .ref qgz, .ref qgu, .int (n_X5_mayAll_qg_11 (if row < 0 then 0 else (if 9 < row then 0 else 1)) (if wd < 0 then 0 else (if 1000 < wd then 0 else (if hgt < 0 then 0 else (if 9999 < hgt then 0 else 1)))) (if (if row < 0 then 0 else (if 9 < row then 0 else 1)) = (0 : Int32) then 0 else (if row ≤ 0 then (if hgt = 0 then (if row = 9 then 1 else (if (fh (row + 1).toNatClampNeg) ≤ hgt then 0 else 1)) else 0) else (if hgt ≤ (fh (row - 1).toNatClampNeg) then 0 else (if row = 9 then 1 else (if (fh (row + 1).toNatClampNeg) ≤ hgt then 0 else 1))))))])), (qgw, .inl (cI, 10, .inl fw)), (qgh, .inl (cI, 10, .inl fh))]) [2, 0, 1] (by decide) rfl
        refine lv_if_eq (tgt := 126) hx hb dX5_table_109 (by decide) (fun c30 => ?_) (fun c30 => ?_)
        · have e31 : n_X5_table_qg_11 fh row wd hgt = n_X5_mayAll_qg_11 (if row < 0 then 0 else (if 9 < row then 0 else 1)) (if wd < 0 then 0 else (if 1000 < wd then 0 else (if hgt < 0 then 0 else (if 9999 < hgt then 0 else 1)))) (if (if row < 0 then 0 else (if 9 < row then 0 else 1)) = (0 : Int32) then 0 else (if row ≤ 0 then (if hgt = 0 then (if row = 9 then 1 else (if (fh (row + 1).toNatClampNeg) ≤ hgt then 0 else 1)) else 0) else (if hgt ≤ (fh (row - 1).toNatClampNeg) then 0 else (if row = 9 then 1 else (if (fh (row + 1).toNatClampNeg) ≤ hgt then 0 else 1))))) := rfl
          have e32 : n_X5_table_qgw fw fh row wd hgt = fw := by
            unfold n_X5_table_qgw
            exact (if_pos c30)
          have e33 : n_X5_table_qgh fh row wd hgt = fh := by
            unfold n_X5_table_qgh
            exact (if_pos c30)
          exact W.vret hx hb hr (fun t ht hW => ⟨⟨(), rfl, trivial, ⟨(by rw [e31, e32, e33]; rw [ht]; exact hP), va_K.moved hW.alike hK, (by rw [e31, e32, e33]; exact hD)⟩⟩, hS.F ht⟩) hS.2.2 dX5_table_126
        · refine lv_aload_n hx hb dX5_table_112 rfl (lv_at hl 3 rfl) ?_
          refine va_get (D := D) (ci := 5) (v := .ref qgw) (C := RX5) (T := TX5) (N := 12) hx hb hts (fun w h => List.mem_cons_of_mem _ (List.mem_append_right _ h)) hown hK hP 0 rfl rfl 0 (by decide) (hts (.fieldLink RX5 7 "AtlasFolderModel" "width" "[I") (List.mem_cons_of_mem _ (List.mem_append_left _ (List.mem_of_getElem? (i := 1) rfl)))) (fun _ h9 => h9) rfl dX5_table_113 ?_
          refine lv_iload_n hx hb dX5_table_116 rfl (lv_at hl 4 rfl) ?_
          refine lv_iload_n hx hb dX5_table_117 rfl (lv_at hl 5 rfl) ?_
          refine va_iast hx hb hK hP hD hS 1 0 rfl rfl (z_is (z_ma c30)) dX5_table_118 (fun H locs hP hD hS => ?_)
          have hP : va_P D vwCl [(qg, .inr (5, [.ref qgw, .ref qgh, .ref qgt, .int br, .int jC, .int jR, .int nf, .ref qgx, .ref qgy, .ref qgz, .ref qgu, .int (n_X5_mayAll_qg_11 (if row < 0 then 0 else (if 9 < row then 0 else 1)) (if wd < 0 then 0 else (if 1000 < wd then 0 else (if hgt < 0 then 0 else (if 9999 < hgt then 0 else 1)))) (if (if row < 0 then 0 else (if 9 < row then 0 else 1)) = (0 : Int32) then 0 else (if row ≤ 0 then (if hgt = 0 then (if row = 9 then 1 else (if (fh (row + 1).toNatClampNeg) ≤ hgt then 0 else 1)) else 0) else (if hgt ≤ (fh (row - 1).toNatClampNeg) then 0 else (if row = 9 then 1 else (if (fh (row + 1).toNatClampNeg) ≤ hgt then 0 else 1))))))])), (qgw, .inl (cI, 10, .inl (upd fw row.toNatClampNeg wd))), (qgh, .inl (cI, 10, .inl fh))] H := hP
          have hD : va_D A [(qg, .inr (5, [.ref qgw, .ref qgh, .ref qgt, .int br, .int jC, .int jR, .int nf, .ref qgx, .ref qgy, .ref qgz, .ref qgu, .int (n_X5_mayAll_qg_11 (if row < 0 then 0 else (if 9 < row then 0 else 1)) (if wd < 0 then 0 else (if 1000 < wd then 0 else (if hgt < 0 then 0 else (if 9999 < hgt then 0 else 1)))) (if (if row < 0 then 0 else (if 9 < row then 0 else 1)) = (0 : Int32) then 0 else (if row ≤ 0 then (if hgt = 0 then (if row = 9 then 1 else (if (fh (row + 1).toNatClampNeg) ≤ hgt then 0 else 1)) else 0) else (if hgt ≤ (fh (row - 1).toNatClampNeg) then 0 else (if row = 9 then 1 else (if (fh (row + 1).toNatClampNeg) ≤ hgt then 0 else 1))))))])), (qgw, .inl (cI, 10, .inl (upd fw row.toNatClampNeg wd))), (qgh, .inl (cI, 10, .inl fh))] := hD
          refine lv_aload_n hx hb dX5_table_119 rfl (lv_at hl 3 rfl) ?_
          refine va_get (D := D) (ci := 5) (v := .ref qgh) (C := RX5) (T := TX5) (N := 12) hx hb hts (fun w h => List.mem_cons_of_mem _ (List.mem_append_right _ h)) hown hK hP 0 rfl rfl 1 (by decide) (hts (.fieldLink RX5 13 "AtlasFolderModel" "height" "[I") (List.mem_cons_of_mem _ (List.mem_append_left _ (List.mem_of_getElem? (i := 0) rfl)))) (fun _ h9 => h9) rfl dX5_table_120 ?_
          refine lv_iload_n hx hb dX5_table_123 rfl (lv_at hl 4 rfl) ?_
          refine lv_iload_n hx hb dX5_table_124 rfl (lv_at hl 6 rfl) ?_
          refine va_iast hx hb hK hP hD hS 2 0 rfl rfl (z_is (z_ma c30)) dX5_table_125 (fun H locs hP hD hS => ?_)
          have hP : va_P D vwCl [(qg, .inr (5, [.ref qgw, .ref qgh, .ref qgt, .int br, .int jC, .int jR, .int nf, .ref qgx, .ref qgy, .ref qgz, .ref qgu, .int (n_X5_mayAll_qg_11 (if row < 0 then 0 else (if 9 < row then 0 else 1)) (if wd < 0 then 0 else (if 1000 < wd then 0 else (if hgt < 0 then 0 else (if 9999 < hgt then 0 else 1)))) (if (if row < 0 then 0 else (if 9 < row then 0 else 1)) = (0 : Int32) then 0 else (if row ≤ 0 then (if hgt = 0 then (if row = 9 then 1 else (if (fh (row + 1).toNatClampNeg) ≤ hgt then 0 else 1)) else 0) else (if hgt ≤ (fh (row - 1).toNatClampNeg) then 0 else (if row = 9 then 1 else (if (fh (row + 1).toNatClampNeg) ≤ hgt then 0 else 1))))))])), (qgw, .inl (cI, 10, .inl (upd fw row.toNatClampNeg wd))), (qgh, .inl (cI, 10, .inl (upd fh row.toNatClampNeg hgt)))] H := hP
          have hD : va_D A [(qg, .inr (5, [.ref qgw, .ref qgh, .ref qgt, .int br, .int jC, .int jR, .int nf, .ref qgx, .ref qgy, .ref qgz, .ref qgu, .int (n_X5_mayAll_qg_11 (if row < 0 then 0 else (if 9 < row then 0 else 1)) (if wd < 0 then 0 else (if 1000 < wd then 0 else (if hgt < 0 then 0 else (if 9999 < hgt then 0 else 1)))) (if (if row < 0 then 0 else (if 9 < row then 0 else 1)) = (0 : Int32) then 0 else (if row ≤ 0 then (if hgt = 0 then (if row = 9 then 1 else (if (fh (row + 1).toNatClampNeg) ≤ hgt then 0 else 1)) else 0) else (if hgt ≤ (fh (row - 1).toNatClampNeg) then 0 else (if row = 9 then 1 else (if (fh (row + 1).toNatClampNeg) ≤ hgt then 0 else 1))))))])), (qgw, .inl (cI, 10, .inl (upd fw row.toNatClampNeg wd))), (qgh, .inl (cI, 10, .inl (upd fh row.toNatClampNeg hgt)))] := hD
          have e34 : n_X5_table_qg_11 fh row wd hgt = n_X5_mayAll_qg_11 (if row < 0 then 0 else (if 9 < row then 0 else 1)) (if wd < 0 then 0 else (if 1000 < wd then 0 else (if hgt < 0 then 0 else (if 9999 < hgt then 0 else 1)))) (if (if row < 0 then 0 else (if 9 < row then 0 else 1)) = (0 : Int32) then 0 else (if row ≤ 0 then (if hgt = 0 then (if row = 9 then 1 else (if (fh (row + 1).toNatClampNeg) ≤ hgt then 0 else 1)) else 0) else (if hgt ≤ (fh (row - 1).toNatClampNeg) then 0 else (if row = 9 then 1 else (if (fh (row + 1).toNatClampNeg) ≤ hgt then 0 else 1))))) := rfl
          have e35 : n_X5_table_qgw fw fh row wd hgt = upd fw row.toNatClampNeg wd := by
            unfold n_X5_table_qgw
            exact (if_neg c30)
          have e36 : n_X5_table_qgh fh row wd hgt = upd fh row.toNatClampNeg hgt := by
            unfold n_X5_table_qgh
            exact (if_neg c30)
          exact W.vret hx hb hr (fun t ht hW => ⟨⟨(), rfl, trivial, ⟨(by rw [e34, e35, e36]; rw [ht]; exact hP), va_K.moved hW.alike hK, (by rw [e34, e35, e36]; exact hD)⟩⟩, hS.F ht⟩) hS.2.2 dX5_table_126
      refine lv_if_eq (tgt := 96) hx hb dX5_table_48 (by decide) (fun c37 => ?_) (fun c37 => ?_)
      · refine lv_iconst (v := 0) hx hb dX5_table_96 (by decide) ?_
        exact K28 _ (if_pos c37).symm _ _ hP hD hS _ (lv_sub hl [0, 1, 2, 3, 4, 5] rfl)
      · refine lv_iload_n hx hb dX5_table_51 rfl (lv_at hl 3 rfl) ?_
        refine lv_if_le (tgt := 70) hx hb dX5_table_52 (by decide) (fun c38 => ?_) (fun c38 => ?_)
        · refine lv_iload_n hx hb dX5_table_70 rfl (lv_at hl 5 rfl) ?_
          refine lv_if_ne (tgt := 96) hx hb dX5_table_71 (by decide) (fun c39 => ?_) (fun c39 => ?_)
          · refine lv_iconst (v := 0) hx hb dX5_table_96 (by decide) ?_
            exact K28 _ ((if_neg c37).trans ((if_pos c38).trans (if_neg c39))).symm _ _ hP hD hS _ (lv_sub hl [0, 1, 2, 3, 4, 5] rfl)
          · refine lv_iload_n hx hb dX5_table_74 rfl (lv_at hl 3 rfl) ?_
            refine lv_bipush (v := 9) hx hb dX5_table_75 (by decide) ?_
            refine lv_icmp_eq (tgt := 92) hx hb dX5_table_77 (by decide) (fun c40 => ?_) (fun c40 => ?_)
            · refine lv_iconst (v := 1) hx hb dX5_table_92 (by decide) ?_
              refine lv_goto (tgt := 97) hx hb dX5_table_93 (by decide) ?_
              exact K28 _ ((if_neg c37).trans ((if_pos c38).trans ((if_pos c39).trans (if_pos c40)))).symm _ _ hP hD hS _ (lv_sub hl [0, 1, 2, 3, 4, 5] rfl)
            · refine lv_iload_n hx hb dX5_table_80 rfl (lv_at hl 5 rfl) ?_
              refine lv_aload_n hx hb dX5_table_81 rfl (lv_at hl 2 rfl) ?_
              refine va_get (D := D) (ci := 5) (v := .ref qgh) (C := RX5) (T := TX5) (N := 12) hx hb hts (fun w h => List.mem_cons_of_mem _ (List.mem_append_right _ h)) hown hK hP 0 rfl rfl 1 (by decide) (hts (.fieldLink RX5 13 "AtlasFolderModel" "height" "[I") (List.mem_cons_of_mem _ (List.mem_append_left _ (List.mem_of_getElem? (i := 0) rfl)))) (fun _ h9 => h9) rfl dX5_table_82 ?_
              refine lv_iload_n hx hb dX5_table_85 rfl (lv_at hl 3 rfl) ?_
              refine lv_iconst (v := 1) hx hb dX5_table_86 (by decide) ?_
              refine lv_iadd hx hb dX5_table_87 ?_
              refine va_iald hx hb hK hP 2 0 rfl rfl (z_row2 c37 c40) dX5_table_88 ?_
              refine lv_icmp_ge (tgt := 96) hx hb dX5_table_89 (by decide) (fun c41 => ?_) (fun c41 => ?_)
              · refine lv_iconst (v := 0) hx hb dX5_table_96 (by decide) ?_
                exact K28 _ ((if_neg c37).trans ((if_pos c38).trans ((if_pos c39).trans ((if_neg c40).trans (if_pos c41))))).symm _ _ hP hD hS _ (lv_sub hl [0, 1, 2, 3, 4, 5] rfl)
              · refine lv_iconst (v := 1) hx hb dX5_table_92 (by decide) ?_
                refine lv_goto (tgt := 97) hx hb dX5_table_93 (by decide) ?_
                exact K28 _ ((if_neg c37).trans ((if_pos c38).trans ((if_pos c39).trans ((if_neg c40).trans (if_neg c41))))).symm _ _ hP hD hS _ (lv_sub hl [0, 1, 2, 3, 4, 5] rfl)
        · refine lv_iload_n hx hb dX5_table_55 rfl (lv_at hl 5 rfl) ?_
          refine lv_aload_n hx hb dX5_table_56 rfl (lv_at hl 2 rfl) ?_
          refine va_get (D := D) (ci := 5) (v := .ref qgh) (C := RX5) (T := TX5) (N := 12) hx hb hts (fun w h => List.mem_cons_of_mem _ (List.mem_append_right _ h)) hown hK hP 0 rfl rfl 1 (by decide) (hts (.fieldLink RX5 13 "AtlasFolderModel" "height" "[I") (List.mem_cons_of_mem _ (List.mem_append_left _ (List.mem_of_getElem? (i := 0) rfl)))) (fun _ h9 => h9) rfl dX5_table_57 ?_
          refine lv_iload_n hx hb dX5_table_60 rfl (lv_at hl 3 rfl) ?_
          refine lv_iconst (v := 1) hx hb dX5_table_61 (by decide) ?_
          refine lv_isub hx hb dX5_table_62 ?_
          refine va_iald hx hb hK hP 2 0 rfl rfl (z_row1 c37 c38) dX5_table_63 ?_
          refine lv_icmp_le (tgt := 96) hx hb dX5_table_64 (by decide) (fun c42 => ?_) (fun c42 => ?_)
          · refine lv_iconst (v := 0) hx hb dX5_table_96 (by decide) ?_
            exact K28 _ ((if_neg c37).trans ((if_neg c38).trans (if_pos c42))).symm _ _ hP hD hS _ (lv_sub hl [0, 1, 2, 3, 4, 5] rfl)
          · refine lv_goto (tgt := 74) hx hb dX5_table_67 (by decide) ?_
            refine lv_iload_n hx hb dX5_table_74 rfl (lv_at hl 3 rfl) ?_
            refine lv_bipush (v := 9) hx hb dX5_table_75 (by decide) ?_
            refine lv_icmp_eq (tgt := 92) hx hb dX5_table_77 (by decide) (fun c43 => ?_) (fun c43 => ?_)
            · refine lv_iconst (v := 1) hx hb dX5_table_92 (by decide) ?_
              refine lv_goto (tgt := 97) hx hb dX5_table_93 (by decide) ?_
              exact K28 _ ((if_neg c37).trans ((if_neg c38).trans ((if_neg c42).trans (if_pos c43)))).symm _ _ hP hD hS _ (lv_sub hl [0, 1, 2, 3, 4, 5] rfl)
            · refine lv_iload_n hx hb dX5_table_80 rfl (lv_at hl 5 rfl) ?_
              refine lv_aload_n hx hb dX5_table_81 rfl (lv_at hl 2 rfl) ?_
              refine va_get (D := D) (ci := 5) (v := .ref qgh) (C := RX5) (T := TX5) (N := 12) hx hb hts (fun w h => List.mem_cons_of_mem _ (List.mem_append_right _ h)) hown hK hP 0 rfl rfl 1 (by decide) (hts (.fieldLink RX5 13 "AtlasFolderModel" "height" "[I") (List.mem_cons_of_mem _ (List.mem_append_left _ (List.mem_of_getElem? (i := 0) rfl)))) (fun _ h9 => h9) rfl dX5_table_82 ?_
              refine lv_iload_n hx hb dX5_table_85 rfl (lv_at hl 3 rfl) ?_
              refine lv_iconst (v := 1) hx hb dX5_table_86 (by decide) ?_
              refine lv_iadd hx hb dX5_table_87 ?_
              refine va_iald hx hb hK hP 2 0 rfl rfl (z_row2 c37 c43) dX5_table_88 ?_
              refine lv_icmp_ge (tgt := 96) hx hb dX5_table_89 (by decide) (fun c44 => ?_) (fun c44 => ?_)
              · refine lv_iconst (v := 0) hx hb dX5_table_96 (by decide) ?_
                exact K28 _ ((if_neg c37).trans ((if_neg c38).trans ((if_neg c42).trans ((if_neg c43).trans (if_pos c44))))).symm _ _ hP hD hS _ (lv_sub hl [0, 1, 2, 3, 4, 5] rfl)
              · refine lv_iconst (v := 1) hx hb dX5_table_92 (by decide) ?_
                refine lv_goto (tgt := 97) hx hb dX5_table_93 (by decide) ?_
                exact K28 _ ((if_neg c37).trans ((if_neg c38).trans ((if_neg c42).trans ((if_neg c43).trans (if_neg c44))))).symm _ _ hP hD hS _ (lv_sub hl [0, 1, 2, 3, 4, 5] rfl)
    refine lv_if_lt (tgt := 43) hx hb dX5_table_18 (by decide) (fun c45 => ?_) (fun c45 => ?_)
    · refine lv_iconst (v := 0) hx hb dX5_table_43 (by decide) ?_
      exact K26 _ (if_pos c45).symm _ _ hP hD hS _ (lv_sub hl [0, 1, 2, 3, 4] rfl)
    · refine lv_iload_n hx hb dX5_table_21 rfl (lv_at hl 3 rfl) ?_
      refine lv_sipush (v := 1000) hx hb dX5_table_22 (by decide) ?_
      refine lv_icmp_gt (tgt := 43) hx hb dX5_table_25 (by decide) (fun c46 => ?_) (fun c46 => ?_)
      · refine lv_iconst (v := 0) hx hb dX5_table_43 (by decide) ?_
        exact K26 _ ((if_neg c45).trans (if_pos c46)).symm _ _ hP hD hS _ (lv_sub hl [0, 1, 2, 3, 4] rfl)
      · refine lv_iload_n hx hb dX5_table_28 rfl (lv_at hl 4 rfl) ?_
        refine lv_if_lt (tgt := 43) hx hb dX5_table_29 (by decide) (fun c47 => ?_) (fun c47 => ?_)
        · refine lv_iconst (v := 0) hx hb dX5_table_43 (by decide) ?_
          exact K26 _ ((if_neg c45).trans ((if_neg c46).trans (if_pos c47))).symm _ _ hP hD hS _ (lv_sub hl [0, 1, 2, 3, 4] rfl)
        · refine lv_iload_n hx hb dX5_table_32 rfl (lv_at hl 4 rfl) ?_
          refine lv_sipush (v := 9999) hx hb dX5_table_33 (by decide) ?_
          refine lv_icmp_gt (tgt := 43) hx hb dX5_table_36 (by decide) (fun c48 => ?_) (fun c48 => ?_)
          · refine lv_iconst (v := 0) hx hb dX5_table_43 (by decide) ?_
            exact K26 _ ((if_neg c45).trans ((if_neg c46).trans ((if_neg c47).trans (if_pos c48)))).symm _ _ hP hD hS _ (lv_sub hl [0, 1, 2, 3, 4] rfl)
          · refine lv_iconst (v := 1) hx hb dX5_table_39 (by decide) ?_
            refine lv_goto (tgt := 44) hx hb dX5_table_40 (by decide) ?_
            exact K26 _ ((if_neg c45).trans ((if_neg c46).trans ((if_neg c47).trans (if_neg c48)))).symm _ _ hP hD hS _ (lv_sub hl [0, 1, 2, 3, 4] rfl)
  refine lv_if_lt (tgt := 14) hx hb dX5_table_1 (by decide) (fun c49 => ?_) (fun c49 => ?_)
  · refine lv_iconst (v := 0) hx hb dX5_table_14 (by decide) ?_
    exact K24 _ (if_pos c49).symm _ _ hP hD hS _ (lv_sub hl [0, 1, 2, 3] rfl)
  · refine lv_iload_n hx hb dX5_table_4 rfl (lv_at hl 1 rfl) ?_
    refine lv_bipush (v := 9) hx hb dX5_table_5 (by decide) ?_
    refine lv_icmp_gt (tgt := 14) hx hb dX5_table_7 (by decide) (fun c50 => ?_) (fun c50 => ?_)
    · refine lv_iconst (v := 0) hx hb dX5_table_14 (by decide) ?_
      exact K24 _ ((if_neg c49).trans (if_pos c50)).symm _ _ hP hD hS _ (lv_sub hl [0, 1, 2, 3] rfl)
    · refine lv_iconst (v := 1) hx hb dX5_table_10 (by decide) ?_
      refine lv_goto (tgt := 15) hx hb dX5_table_11 (by decide) ?_
      exact K24 _ ((if_neg c49).trans (if_neg c50)).symm _ _ hP hD hS _ (lv_sub hl [0, 1, 2, 3] rfl)
def s_X5_truth (ft : Nat → Int32) (bd : Int32) (tr : Int32) : Int32 := (if (s_X5_mayBoth (s_X5_isBand bd) (if tr < 1 then 0 else (if 99999 < tr then 0 else 1))) = 0 then 0 else ft bd.toNatClampNeg)
def n_X5_truth_qg_11 (bd : Int32) (tr : Int32) : Int32 := n_X5_mayBoth_qg_11 (s_X5_isBand bd) (if tr < 1 then 0 else (if 99999 < tr then 0 else 1))
def n_X5_truth_qgt (ft : Nat → Int32) (bd : Int32) (tr : Int32) : Nat → Int32 := (if (s_X5_mayBoth (s_X5_isBand bd) (if tr < 1 then 0 else (if 99999 < tr then 0 else 1))) = 0 then ft else upd ft bd.toNatClampNeg tr)
abbrev rm_X5_truth : Room := { frames := 1, cells := 0, slots := 0, locals := 22 }
abbrev Qc_X5_truth (D : va_G) (cI cZ cJ cD : ClassId) (qg : Nat) (qgw : Nat) (qgh : Nat) (qgt : Nat) (br : Int32) (jC : Int32) (jR : Int32) (nf : Int32) (qgx : Nat) (qgy : Nat) (qgz : Nat) (qgu : Nat) (th : Int32) (ft : Nat → Int32) (bd : Int32) (tr : Int32) (A : Nat → Prop) : Array Value → State → Outcome → State → Prop := va_Qi (fun (r : Int32) (_ : Unit) => r = s_X5_truth ft bd tr) (zPost D cI cZ cJ cD A [(qg, .inr (5, [.ref qgw, .ref qgh, .ref qgt, .int br, .int jC, .int jR, .int nf, .ref qgx, .ref qgy, .ref qgz, .ref qgu, .int (n_X5_truth_qg_11 bd tr)])), (qgt, .inl (cI, 9, .inl (n_X5_truth_qgt ft bd tr)))]) A
set_option maxHeartbeats 4000000 in
set_option maxRecDepth 100000 in
theorem c_X5_truth (l : Launch) (D : va_G) (cI cZ cJ cD : ClassId) (qg : Nat) (qgw : Nat) (qgh : Nat) (qgt : Nat) (br : Int32) (jC : Int32) (jR : Int32) (nf : Int32) (qgx : Nat) (qgy : Nat) (qgz : Nat) (qgu : Nat) (th : Int32) (ft : Nat → Int32) (bd : Int32) (tr : Int32) (sz : Nat)  : Met l yX5_truth wsX5_truth rm_X5_truth (va_Pc [.ref qg, .int bd, .int tr] (zPreW D cI cZ cJ cD [(qg, .inr (5, [.ref qgw, .ref qgh, .ref qgt, .int br, .int jC, .int jR, .int nf, .ref qgx, .ref qgy, .ref qgz, .ref qgu, .int th])), (qgt, .inl (cI, 9, .inl ft))] sz)) (Qc_X5_truth D cI cZ cJ cD qg qgw qgh qgt br jC jR nf qgx qgy qgz qgu th ft bd tr (va_A [(qg, .inr (5, [.ref qgw, .ref qgh, .ref qgt, .int br, .int jC, .int jR, .int nf, .ref qgx, .ref qgy, .ref qgz, .ref qgu, .int th])), (qgt, .inl (cI, 9, .inl ft))] sz)) 0 0 (va_A [(qg, .inr (5, [.ref qgw, .ref qgh, .ref qgt, .int br, .int jC, .int jR, .int nf, .ref qgx, .ref qgy, .ref qgz, .ref qgu, .int th])), (qgt, .inl (cI, 9, .inl ft))] sz) := by
  refine Met.ofW (cc := cX5_truth) (maxL := 4) (ret := (some .int)) (by decide) rfl ?_
  intro p e s m args below meth c s₁ B hml hv
  obtain ⟨rfl, hsz, hP, hK, hD0⟩ := hv
  have hx := B.exec
  have hb := B.bytes
  have hr := B.returns
  have hts := atoms_spec (ws := wsX5_truth) B.pre
  have hown : s.vm.findClass RX5 = some m.cls := findClass_of_methodNamed B.named
  have hlocks := B.notSynchronized
  subst hsz
  have hD := hD0.self (sz := s.heap.size)
  generalize hAe : va_A [(qg, .inr (5, [.ref qgw, .ref qgh, .ref qgt, .int br, .int jC, .int jR, .int nf, .ref qgx, .ref qgy, .ref qgz, .ref qgu, .int th])), (qgt, .inl (cI, 9, .inl ft))] s.heap.size = A at hD ⊢
  have hA : ∀ q : Nat, s.heap.size ≤ q → A q := fun q h => by rw [← hAe]; exact Or.inr h
  have hS : va_S A s.heap s.heap [] := va_S.rf
  have hl := lv_entry ([.ref qg, .int bd, .int tr]) (n := 4) (Nat.le_of_ble_eq_true rfl)
  rw [lg_entry_eq]
  generalize (lg_sl ([.ref qg, .int bd, .int tr]) ++ List.replicate (4 - (lg_sl ([.ref qg, .int bd, .int tr])).length) Slot.unset).toArray = ls at hl ⊢
  have hl : lv_has ls 4 [(0, .ref qg), (1, .int bd), (2, .int tr)] := hl
  have hP : va_P D vwCl [(qg, .inr (5, [.ref qgw, .ref qgh, .ref qgt, .int br, .int jC, .int jR, .int nf, .ref qgx, .ref qgy, .ref qgz, .ref qgu, .int th])), (qgt, .inl (cI, 9, .inl ft))] s.heap := hP
  have hP := hP
  refine lv_aload_n hx hb dX5_truth_0 rfl (lv_at hl 0 rfl) ?_
  refine lv_iload_n hx hb dX5_truth_1 rfl (lv_at hl 1 rfl) ?_
  refine va_calli (va_runS (As := [.int bd]) (rest := [.ref qg]) ⟨hx, hb, hml, hown, hts⟩ (c_X5_isBand l D cI cZ cJ cD bd ) (va_cwS 1 hts gX5_truth_X5_isBand rfl rfl rfl (by decide +kernel) ⟨Nat.le_of_ble_eq_true rfl, Nat.le_of_ble_eq_true rfl⟩) ⟨zblind, (fun U hU hW => ⟨rfl, by rw [hU]; exact hP.sub (ws' := []) [] rfl, va_K.moved hW.alike hK⟩)⟩ rfl rfl hl.1 rfl (lv_room (Nat.le_of_ble_eq_true rfl)) dX5_truth_2 ⟨Nat.le_of_ble_eq_true rfl, Nat.le_of_ble_eq_true rfl⟩) hS (fun q _ h => h.elim) (fun q h => h.elim) (fun r8 u t H locs ht hvm hw hB hz1 hk1 hS => ?_)
  rw [hw]
  have hP := zk hP hk1
  refine lv_iload_n hx hb dX5_truth_5 rfl (lv_at hl 2 rfl) ?_
  refine lv_iconst (v := 1) hx hb dX5_truth_6 (by decide) ?_
  have K10 : ∀ v10_0 : Int32, v10_0 = (if tr < 1 then 0 else (if 99999 < tr then 0 else 1)) → ∀ (H : Heap) (locs : List Loc), va_P D vwCl [(qg, .inr (5, [.ref qgw, .ref qgh, .ref qgt, .int br, .int jC, .int jR, .int nf, .ref qgx, .ref qgy, .ref qgz, .ref qgu, .int th])), (qgt, .inl (cI, 9, .inl ft))] H → va_D A [(qg, .inr (5, [.ref qgw, .ref qgh, .ref qgt, .int br, .int jC, .int jR, .int nf, .ref qgx, .ref qgy, .ref qgz, .ref qgu, .int th])), (qgt, .inl (cI, 9, .inl ft))] → va_S A s.heap H locs → ∀ (ls : Array Slot), lv_has ls 4 [(0, .ref qg), (1, .int bd), (2, .int tr)] → W p l e (headSpec wsX5_truth rm_X5_truth).room s m ([.ref qg, .int bd, .int tr]).toArray below meth c H locs 0 0 (MQ below (Qc_X5_truth D cI cZ cJ cD qg qgw qgh qgt br jC jR nf qgx qgy qgz qgu th ft bd tr A) ([.ref qg, .int bd, .int tr]).toArray s 0 0 A) (F0 m 21 ls [.int v10_0, .int (s_X5_isBand bd), .ref qg]) := by
    intro v10_0 hv10_0 H locs hP hD hS ls hl
    subst hv10_0
    have hPc := hP.sub (ws' := [(qg, .inr (5, [.ref qgw, .ref qgh, .ref qgt, .int br, .int jC, .int jR, .int nf, .ref qgx, .ref qgy, .ref qgz, .ref qgu, .int th]))]) [0] rfl
    have hDc := hD.sub (ws' := [(qg, .inr (5, [.ref qgw, .ref qgh, .ref qgt, .int br, .int jC, .int jR, .int nf, .ref qgx, .ref qgy, .ref qgz, .ref qgu, .int th]))]) [0] (by decide) rfl
    have hFc := va_free (wc := [(qg, .inr (5, [.ref qgw, .ref qgh, .ref qgt, .int br, .int jC, .int jR, .int nf, .ref qgx, .ref qgy, .ref qgz, .ref qgu, .int th]))]) hD hS hA [0] rfl
    refine va_calli (va_runV (As := [.int (s_X5_isBand bd), .int (if tr < 1 then 0 else (if 99999 < tr then 0 else 1))]) (rest := []) ⟨hx, hb, hml, hown, hts⟩ (c_X5_mayBoth l D cI cZ cJ cD qg qgw qgh qgt br jC jR nf qgx qgy qgz qgu th (s_X5_isBand bd) (if tr < 1 then 0 else (if 99999 < tr then 0 else 1)) H.size ) (cwV 2 hts gX5_truth_X5_mayBoth rfl rfl rfl (by decide +kernel) ⟨Nat.le_of_ble_eq_true rfl, Nat.le_of_ble_eq_true rfl⟩) ⟨zblindW, va_recv hK hP (ci := 5) (q0 := 0) rfl rfl, (fun U hU hW => ⟨rfl, by rw [hU], by rw [hU]; exact hPc, va_K.moved hW.alike hK, hDc.weaken (fun _ _ _ _ => trivial)⟩)⟩ rfl rfl hl.1 rfl (lv_room (Nat.le_of_ble_eq_true rfl)) dX5_truth_21 ⟨Nat.le_of_ble_eq_true rfl, Nat.le_of_ble_eq_true rfl⟩) hS (fun q _ h => hFc q h) hFc (fun r11 u t H locs ht hvm hw hB hz1 hk1 hS => ?_)
    rw [hw]
    obtain ⟨hP1, hK1, hD1⟩ := hB
    rw [ht] at hP1
    obtain ⟨hP, hD⟩ := va_join (wr := [(qgt, .inl (cI, 9, .inl ft))]) (w1 := [(qg, .inr (5, [.ref qgw, .ref qgh, .ref qgt, .int br, .int jC, .int jR, .int nf, .ref qgx, .ref qgy, .ref qgz, .ref qgu, .int (n_X5_mayBoth_qg_11 (s_X5_isBand bd) (if tr < 1 then 0 else (if 99999 < tr then 0 else 1)))]))]) hP hD [0] [1] rfl rfl (by decide) (by decide) hk1 hFc hP1 hD1
    have hP := hP.sub (ws' := [(qg, .inr (5, [.ref qgw, .ref qgh, .ref qgt, .int br, .int jC, .int jR, .int nf, .ref qgx, .ref qgy, .ref qgz, .ref qgu, .int (n_X5_mayBoth_qg_11 (s_X5_isBand bd) (if tr < 1 then 0 else (if 99999 < tr then 0 else 1)))])), (qgt, .inl (cI, 9, .inl ft))]) [1, 0] rfl
    have hD := hD.sub (ws' := [(qg, .inr (5, [.ref qgw, .ref qgh, .ref qgt, .int br, .int jC, .int jR, .int nf, .ref qgx, .ref qgy, .ref qgz, .ref qgu, .int (n_X5_mayBoth_qg_11 (s_X5_isBand bd) (if tr < 1 then 0 else (if 99999 < tr then 0 else 1)))])), (qgt, .inl (cI, 9, .inl ft))]) [1, 0] (by decide) rfl
    refine lv_if_ne (tgt := 29) hx hb dX5_truth_24 (by decide) (fun c12 => ?_) (fun c12 => ?_)
    · refine lv_aload_n hx hb dX5_truth_29 rfl (lv_at hl 0 rfl) ?_
      refine va_get (D := D) (ci := 5) (v := .ref qgt) (C := RX5) (T := TX5) (N := 12) hx hb hts (fun w h => List.mem_cons_of_mem _ (List.mem_append_right _ h)) hown hK hP 0 rfl rfl 2 (by decide) (hts (.fieldLink RX5 16 "AtlasFolderModel" "truth" "[I") (List.mem_cons_of_mem _ (List.mem_append_left _ (List.mem_of_getElem? (i := 1) rfl)))) (fun _ h9 => h9) rfl dX5_truth_30 ?_
      refine lv_iload_n hx hb dX5_truth_33 rfl (lv_at hl 1 rfl) ?_
      refine va_iald hx hb hK hP 1 0 rfl rfl (z_bnd (z_mb1 c12)) dX5_truth_34 ?_
      refine lv_istore_n (lv' := [(3, .int (ft bd.toNatClampNeg)), (0, .ref qg), (1, .int bd), (2, .int tr)]) hx hb dX5_truth_35 rfl hl (by decide) rfl (fun ls hl => ?_)
      refine lv_aload_n hx hb dX5_truth_36 rfl (lv_at hl 1 rfl) ?_
      refine va_get (D := D) (ci := 5) (v := .ref qgt) (C := RX5) (T := TX5) (N := 12) hx hb hts (fun w h => List.mem_cons_of_mem _ (List.mem_append_right _ h)) hown hK hP 0 rfl rfl 2 (by decide) (hts (.fieldLink RX5 16 "AtlasFolderModel" "truth" "[I") (List.mem_cons_of_mem _ (List.mem_append_left _ (List.mem_of_getElem? (i := 1) rfl)))) (fun _ h9 => h9) rfl dX5_truth_37 ?_
      refine lv_iload_n hx hb dX5_truth_40 rfl (lv_at hl 2 rfl) ?_
      refine lv_iload_n hx hb dX5_truth_41 rfl (lv_at hl 3 rfl) ?_
      refine va_iast hx hb hK hP hD hS 1 0 rfl rfl (z_bnd (z_mb1 c12)) dX5_truth_42 (fun H locs hP hD hS => ?_)
      have hP : va_P D vwCl [(qg, .inr (5, [.ref qgw, .ref qgh, .ref qgt, .int br, .int jC, .int jR, .int nf, .ref qgx, .ref qgy, .ref qgz, .ref qgu, .int (n_X5_mayBoth_qg_11 (s_X5_isBand bd) (if tr < 1 then 0 else (if 99999 < tr then 0 else 1)))])), (qgt, .inl (cI, 9, .inl (upd ft bd.toNatClampNeg tr)))] H := hP
      have hD : va_D A [(qg, .inr (5, [.ref qgw, .ref qgh, .ref qgt, .int br, .int jC, .int jR, .int nf, .ref qgx, .ref qgy, .ref qgz, .ref qgu, .int (n_X5_mayBoth_qg_11 (s_X5_isBand bd) (if tr < 1 then 0 else (if 99999 < tr then 0 else 1)))])), (qgt, .inl (cI, 9, .inl (upd ft bd.toNatClampNeg tr)))] := hD
      refine lv_iload_n hx hb dX5_truth_43 rfl (lv_at hl 0 rfl) ?_
      have e13 : s_X5_truth ft bd tr = ft bd.toNatClampNeg := by
        unfold s_X5_truth
        exact (if_neg c12)
      have e14 : n_X5_truth_qg_11 bd tr = n_X5_mayBoth_qg_11 (s_X5_isBand bd) (if tr < 1 then 0 else (if 99999 < tr then 0 else 1)) := rfl
      have e15 : n_X5_truth_qgt ft bd tr = upd ft bd.toNatClampNeg tr := by
        unfold n_X5_truth_qgt
        exact (if_neg c12)
      exact W.iret (v := (ft bd.toNatClampNeg)) hx hb hr (fun t ht hW => ⟨⟨_, (), rfl, e13.symm, ⟨(by rw [e14, e15]; rw [ht]; exact hP), va_K.moved hW.alike hK, (by rw [e14, e15]; exact hD)⟩⟩, hS.F ht⟩) hS.2.2 dX5_truth_44
    · refine lv_iconst (v := 0) hx hb dX5_truth_27 (by decide) ?_
      have e16 : s_X5_truth ft bd tr = 0 := by
        unfold s_X5_truth
        exact (if_pos c12)
      have e17 : n_X5_truth_qg_11 bd tr = n_X5_mayBoth_qg_11 (s_X5_isBand bd) (if tr < 1 then 0 else (if 99999 < tr then 0 else 1)) := rfl
      have e18 : n_X5_truth_qgt ft bd tr = ft := by
        unfold n_X5_truth_qgt
        exact (if_pos c12)
      exact W.iret (v := 0) hx hb hr (fun t ht hW => ⟨⟨_, (), rfl, e16.symm, ⟨(by rw [e17, e18]; rw [ht]; exact hP), va_K.moved hW.alike hK, (by rw [e17, e18]; exact hD)⟩⟩, hS.F ht⟩) hS.2.2 dX5_truth_28
  refine lv_icmp_lt (tgt := 20) hx hb dX5_truth_7 (by decide) (fun c19 => ?_) (fun c19 => ?_)
  · refine lv_iconst (v := 0) hx hb dX5_truth_20 (by decide) ?_
    exact K10 _ (if_pos c19).symm _ _ hP hD hS _ (lv_sub hl [0, 1, 2] rfl)
  · refine lv_iload_n hx hb dX5_truth_10 rfl (lv_at hl 2 rfl) ?_
    refine lv_ldc (v := 99999) hx hb hown (hts (.constant RX5 87 (99999)) (List.mem_cons_of_mem _ (List.mem_append_left _ (List.mem_of_getElem? (i := 0) rfl)))) dX5_truth_11 ?_
    refine lv_icmp_gt (tgt := 20) hx hb dX5_truth_13 (by decide) (fun c20 => ?_) (fun c20 => ?_)
    · refine lv_iconst (v := 0) hx hb dX5_truth_20 (by decide) ?_
      exact K10 _ ((if_neg c19).trans (if_pos c20)).symm _ _ hP hD hS _ (lv_sub hl [0, 1, 2] rfl)
    · refine lv_iconst (v := 1) hx hb dX5_truth_16 (by decide) ?_
      refine lv_goto (tgt := 21) hx hb dX5_truth_17 (by decide) ?_
      exact K10 _ ((if_neg c19).trans (if_neg c20)).symm _ _ hP hD hS _ (lv_sub hl [0, 1, 2] rfl)
def s_X5_latitudeAt (fh : Nat → Int32) (hgt : Int32) : Int32 := (if (s_X5_mayBoth (if hgt < (-99990) then 0 else (if 99990 < hgt then 0 else 1)) (if hgt < (s_X5_high fh (-90)) then 0 else 1)) = 0 then 0 else lp_la fh hgt 180 0)
def n_X5_latitudeAt_qg_11 (fh : Nat → Int32) (hgt : Int32) : Int32 := n_X5_mayBoth_qg_11 (if hgt < (-99990) then 0 else (if 99990 < hgt then 0 else 1)) (if hgt < (s_X5_high fh (-90)) then 0 else 1)
abbrev rm_X5_latitudeAt : Room := { frames := 1, cells := 0, slots := 0, locals := 25 }
abbrev Qc_X5_latitudeAt (D : va_G) (cI cZ cJ cD : ClassId) (qg : Nat) (qgw : Nat) (qgh : Nat) (qgt : Nat) (br : Int32) (jC : Int32) (jR : Int32) (nf : Int32) (qgx : Nat) (qgy : Nat) (qgz : Nat) (qgu : Nat) (th : Int32) (fh : Nat → Int32) (hgt : Int32) (A : Nat → Prop) : Array Value → State → Outcome → State → Prop := va_Qi (fun (r : Int32) (_ : Unit) => r = s_X5_latitudeAt fh hgt) (zPost D cI cZ cJ cD A [(qg, .inr (5, [.ref qgw, .ref qgh, .ref qgt, .int br, .int jC, .int jR, .int nf, .ref qgx, .ref qgy, .ref qgz, .ref qgu, .int (n_X5_latitudeAt_qg_11 fh hgt)])), (qgh, .inl (cI, 10, .inl fh))]) A
set_option maxHeartbeats 4000000 in
set_option maxRecDepth 100000 in
theorem c_X5_latitudeAt (l : Launch) (D : va_G) (cI cZ cJ cD : ClassId) (qg : Nat) (qgw : Nat) (qgh : Nat) (qgt : Nat) (br : Int32) (jC : Int32) (jR : Int32) (nf : Int32) (qgx : Nat) (qgy : Nat) (qgz : Nat) (qgu : Nat) (th : Int32) (fh : Nat → Int32) (hgt : Int32) (sz : Nat)  : Met l yX5_latitudeAt wsX5_latitudeAt rm_X5_latitudeAt (va_Pc [.ref qg, .int hgt] (zPreW D cI cZ cJ cD [(qg, .inr (5, [.ref qgw, .ref qgh, .ref qgt, .int br, .int jC, .int jR, .int nf, .ref qgx, .ref qgy, .ref qgz, .ref qgu, .int th])), (qgh, .inl (cI, 10, .inl fh))] sz)) (Qc_X5_latitudeAt D cI cZ cJ cD qg qgw qgh qgt br jC jR nf qgx qgy qgz qgu th fh hgt (va_A [(qg, .inr (5, [.ref qgw, .ref qgh, .ref qgt, .int br, .int jC, .int jR, .int nf, .ref qgx, .ref qgy, .ref qgz, .ref qgu, .int th])), (qgh, .inl (cI, 10, .inl fh))] sz)) 0 0 (va_A [(qg, .inr (5, [.ref qgw, .ref qgh, .ref qgt, .int br, .int jC, .int jR, .int nf, .ref qgx, .ref qgy, .ref qgz, .ref qgu, .int th])), (qgh, .inl (cI, 10, .inl fh))] sz) := by
  refine Met.ofW (cc := cX5_latitudeAt) (maxL := 3) (ret := (some .int)) (by decide) rfl ?_
  intro p e s m args below meth c s₁ B hml hv
  obtain ⟨rfl, hsz, hP, hK, hD0⟩ := hv
  have hx := B.exec
  have hb := B.bytes
  have hr := B.returns
  have hts := atoms_spec (ws := wsX5_latitudeAt) B.pre
  have hown : s.vm.findClass RX5 = some m.cls := findClass_of_methodNamed B.named
  have hlocks := B.notSynchronized
  subst hsz
  have hD := hD0.self (sz := s.heap.size)
  generalize hAe : va_A [(qg, .inr (5, [.ref qgw, .ref qgh, .ref qgt, .int br, .int jC, .int jR, .int nf, .ref qgx, .ref qgy, .ref qgz, .ref qgu, .int th])), (qgh, .inl (cI, 10, .inl fh))] s.heap.size = A at hD ⊢
  have hA : ∀ q : Nat, s.heap.size ≤ q → A q := fun q h => by rw [← hAe]; exact Or.inr h
  have hS : va_S A s.heap s.heap [] := va_S.rf
  have hl := lv_entry ([.ref qg, .int hgt]) (n := 3) (Nat.le_of_ble_eq_true rfl)
  rw [lg_entry_eq]
  generalize (lg_sl ([.ref qg, .int hgt]) ++ List.replicate (3 - (lg_sl ([.ref qg, .int hgt])).length) Slot.unset).toArray = ls at hl ⊢
  have hl : lv_has ls 3 [(0, .ref qg), (1, .int hgt)] := hl
  have hP : va_P D vwCl [(qg, .inr (5, [.ref qgw, .ref qgh, .ref qgt, .int br, .int jC, .int jR, .int nf, .ref qgx, .ref qgy, .ref qgz, .ref qgu, .int th])), (qgh, .inl (cI, 10, .inl fh))] s.heap := hP
  have hP := hP
  refine lv_aload_n hx hb dX5_latitudeAt_0 rfl (lv_at hl 0 rfl) ?_
  refine lv_iload_n hx hb dX5_latitudeAt_1 rfl (lv_at hl 1 rfl) ?_
  refine lv_ldc (v := (-99990)) hx hb hown (hts (.constant RX5 70 (-99990)) (List.mem_cons_of_mem _ (List.mem_append_left _ (List.mem_of_getElem? (i := 0) rfl)))) dX5_latitudeAt_2 ?_
  have K12 : ∀ v12_0 : Int32, v12_0 = (if hgt < (-99990) then 0 else (if 99990 < hgt then 0 else 1)) → ∀ (H : Heap) (locs : List Loc), va_P D vwCl [(qg, .inr (5, [.ref qgw, .ref qgh, .ref qgt, .int br, .int jC, .int jR, .int nf, .ref qgx, .ref qgy, .ref qgz, .ref qgu, .int th])), (qgh, .inl (cI, 10, .inl fh))] H → va_D A [(qg, .inr (5, [.ref qgw, .ref qgh, .ref qgt, .int br, .int jC, .int jR, .int nf, .ref qgx, .ref qgy, .ref qgz, .ref qgu, .int th])), (qgh, .inl (cI, 10, .inl fh))] → va_S A s.heap H locs → ∀ (ls : Array Slot), lv_has ls 3 [(0, .ref qg), (1, .int hgt)] → W p l e (headSpec wsX5_latitudeAt rm_X5_latitudeAt).room s m ([.ref qg, .int hgt]).toArray below meth c H locs 0 0 (MQ below (Qc_X5_latitudeAt D cI cZ cJ cD qg qgw qgh qgt br jC jR nf qgx qgy qgz qgu th fh hgt A) ([.ref qg, .int hgt]).toArray s 0 0 A) (F0 m 18 ls [.int v12_0, .ref qg]) := by
    intro v12_0 hv12_0 H locs hP hD hS ls hl
    subst hv12_0
    refine lv_aload_n hx hb dX5_latitudeAt_18 rfl (lv_at hl 0 rfl) ?_
    refine lv_bipush (v := (-90)) hx hb dX5_latitudeAt_19 (by decide) ?_
    refine va_calli (va_runV (As := [.int (-90)]) (rest := [.int (if hgt < (-99990) then 0 else (if 99990 < hgt then 0 else 1)), .ref qg]) ⟨hx, hb, hml, hown, hts⟩ (c_X5_high l D cI cZ cJ cD qg qgw qgh qgt br jC jR nf qgx qgy qgz qgu th fh (-90) (by decide)) (cwV 1 hts gX5_latitudeAt_X5_high rfl rfl rfl (by decide +kernel) ⟨Nat.le_of_ble_eq_true rfl, Nat.le_of_ble_eq_true rfl⟩) ⟨zblind, va_recv hK hP (ci := 5) (q0 := 0) rfl rfl, (fun U hU hW => ⟨rfl, by rw [hU]; exact hP.sub (ws' := [(qg, .inr (5, [.ref qgw, .ref qgh, .ref qgt, .int br, .int jC, .int jR, .int nf, .ref qgx, .ref qgy, .ref qgz, .ref qgu, .int th])), (qgh, .inl (cI, 10, .inl fh))]) [0, 1] rfl, va_K.moved hW.alike hK⟩)⟩ rfl rfl hl.1 rfl (lv_room (Nat.le_of_ble_eq_true rfl)) dX5_latitudeAt_21 ⟨Nat.le_of_ble_eq_true rfl, Nat.le_of_ble_eq_true rfl⟩) hS (fun q _ h => h.elim) (fun q h => h.elim) (fun r13 u t H locs ht hvm hw hB hz1 hk1 hS => ?_)
    rw [hw]
    have hP := zk hP hk1
    refine lv_iload_n hx hb dX5_latitudeAt_24 rfl (lv_at hl 1 rfl) ?_
    have K15 : ∀ v15_0 : Int32, v15_0 = (if hgt < (s_X5_high fh (-90)) then 0 else 1) → ∀ (H : Heap) (locs : List Loc), va_P D vwCl [(qg, .inr (5, [.ref qgw, .ref qgh, .ref qgt, .int br, .int jC, .int jR, .int nf, .ref qgx, .ref qgy, .ref qgz, .ref qgu, .int th])), (qgh, .inl (cI, 10, .inl fh))] H → va_D A [(qg, .inr (5, [.ref qgw, .ref qgh, .ref qgt, .int br, .int jC, .int jR, .int nf, .ref qgx, .ref qgy, .ref qgz, .ref qgu, .int th])), (qgh, .inl (cI, 10, .inl fh))] → va_S A s.heap H locs → ∀ (ls : Array Slot), lv_has ls 3 [(0, .ref qg), (1, .int hgt)] → W p l e (headSpec wsX5_latitudeAt rm_X5_latitudeAt).room s m ([.ref qg, .int hgt]).toArray below meth c H locs 0 0 (MQ below (Qc_X5_latitudeAt D cI cZ cJ cD qg qgw qgh qgt br jC jR nf qgx qgy qgz qgu th fh hgt A) ([.ref qg, .int hgt]).toArray s 0 0 A) (F0 m 33 ls [.int v15_0, .int (if hgt < (-99990) then 0 else (if 99990 < hgt then 0 else 1)), .ref qg]) := by
      intro v15_0 hv15_0 H locs hP hD hS ls hl
      subst hv15_0
      have hPc := hP.sub (ws' := [(qg, .inr (5, [.ref qgw, .ref qgh, .ref qgt, .int br, .int jC, .int jR, .int nf, .ref qgx, .ref qgy, .ref qgz, .ref qgu, .int th]))]) [0] rfl
      have hDc := hD.sub (ws' := [(qg, .inr (5, [.ref qgw, .ref qgh, .ref qgt, .int br, .int jC, .int jR, .int nf, .ref qgx, .ref qgy, .ref qgz, .ref qgu, .int th]))]) [0] (by decide) rfl
      have hFc := va_free (wc := [(qg, .inr (5, [.ref qgw, .ref qgh, .ref qgt, .int br, .int jC, .int jR, .int nf, .ref qgx, .ref qgy, .ref qgz, .ref qgu, .int th]))]) hD hS hA [0] rfl
      refine va_calli (va_runV (As := [.int (if hgt < (-99990) then 0 else (if 99990 < hgt then 0 else 1)), .int (if hgt < (s_X5_high fh (-90)) then 0 else 1)]) (rest := []) ⟨hx, hb, hml, hown, hts⟩ (c_X5_mayBoth l D cI cZ cJ cD qg qgw qgh qgt br jC jR nf qgx qgy qgz qgu th (if hgt < (-99990) then 0 else (if 99990 < hgt then 0 else 1)) (if hgt < (s_X5_high fh (-90)) then 0 else 1) H.size ) (cwV 2 hts gX5_latitudeAt_X5_mayBoth rfl rfl rfl (by decide +kernel) ⟨Nat.le_of_ble_eq_true rfl, Nat.le_of_ble_eq_true rfl⟩) ⟨zblindW, va_recv hK hP (ci := 5) (q0 := 0) rfl rfl, (fun U hU hW => ⟨rfl, by rw [hU], by rw [hU]; exact hPc, va_K.moved hW.alike hK, hDc.weaken (fun _ _ _ _ => trivial)⟩)⟩ rfl rfl hl.1 rfl (lv_room (Nat.le_of_ble_eq_true rfl)) dX5_latitudeAt_33 ⟨Nat.le_of_ble_eq_true rfl, Nat.le_of_ble_eq_true rfl⟩) hS (fun q _ h => hFc q h) hFc (fun r16 u t H locs ht hvm hw hB hz1 hk1 hS => ?_)
      rw [hw]
      obtain ⟨hP1, hK1, hD1⟩ := hB
      rw [ht] at hP1
      obtain ⟨hP, hD⟩ := va_join (wr := [(qgh, .inl (cI, 10, .inl fh))]) (w1 := [(qg, .inr (5, [.ref qgw, .ref qgh, .ref qgt, .int br, .int jC, .int jR, .int nf, .ref qgx, .ref qgy, .ref qgz, .ref qgu, .int (n_X5_mayBoth_qg_11 (if hgt < (-99990) then 0 else (if 99990 < hgt then 0 else 1)) (if hgt < (s_X5_high fh (-90)) then 0 else 1))]))]) hP hD [0] [1] rfl rfl (by decide) (by decide) hk1 hFc hP1 hD1
      have hP := hP.sub (ws' := [(qg, .inr (5, [.ref qgw, .ref qgh, .ref qgt, .int br, .int jC, .int jR, .int nf, .ref qgx, .ref qgy, .ref qgz, .ref qgu, .int (n_X5_mayBoth_qg_11 (if hgt < (-99990) then 0 else (if 99990 < hgt then 0 else 1)) (if hgt < (s_X5_high fh (-90)) then 0 else 1))])), (qgh, .inl (cI, 10, .inl fh))]) [1, 0] rfl
      have hD := hD.sub (ws' := [(qg, .inr (5, [.ref qgw, .ref qgh, .ref qgt, .int br, .int jC, .int jR, .int nf, .ref qgx, .ref qgy, .ref qgz, .ref qgu, .int (n_X5_mayBoth_qg_11 (if hgt < (-99990) then 0 else (if 99990 < hgt then 0 else 1)) (if hgt < (s_X5_high fh (-90)) then 0 else 1))])), (qgh, .inl (cI, 10, .inl fh))]) [1, 0] (by decide) rfl
      refine lv_if_ne (tgt := 41) hx hb dX5_latitudeAt_36 (by decide) (fun c17 => ?_) (fun c17 => ?_)
      · refine lv_bipush (v := 90) hx hb dX5_latitudeAt_41 (by decide) ?_
        refine lv_istore_n (lv' := [(2, .int 90), (0, .ref qg), (1, .int hgt)]) hx hb dX5_latitudeAt_43 rfl hl (by decide) rfl (fun ls hl => ?_)
        have X18 : ∀ (H : Heap) (locs : List Loc), va_P D vwCl [(qg, .inr (5, [.ref qgw, .ref qgh, .ref qgt, .int br, .int jC, .int jR, .int nf, .ref qgx, .ref qgy, .ref qgz, .ref qgu, .int (n_X5_mayBoth_qg_11 (if hgt < (-99990) then 0 else (if 99990 < hgt then 0 else 1)) (if hgt < (s_X5_high fh (-90)) then 0 else 1))])), (qgh, .inl (cI, 10, .inl fh))] H → va_D A [(qg, .inr (5, [.ref qgw, .ref qgh, .ref qgt, .int br, .int jC, .int jR, .int nf, .ref qgx, .ref qgy, .ref qgz, .ref qgu, .int (n_X5_mayBoth_qg_11 (if hgt < (-99990) then 0 else (if 99990 < hgt then 0 else 1)) (if hgt < (s_X5_high fh (-90)) then 0 else 1))])), (qgh, .inl (cI, 10, .inl fh))] → va_S A s.heap H locs → ∀ (ls : Array Slot), lv_has ls 3 [(2, .int (lp_la fh hgt 180 0)), (0, .ref qg), (1, .int hgt)] → W p l e (headSpec wsX5_latitudeAt rm_X5_latitudeAt).room s m ([.ref qg, .int hgt]).toArray below meth c H locs 0 0 (MQ below (Qc_X5_latitudeAt D cI cZ cJ cD qg qgw qgh qgt br jC jR nf qgx qgy qgz qgu th fh hgt A) ([.ref qg, .int hgt]).toArray s 0 0 A) (F0 m 59 ls []) := by
          intro  H locs hP hD hS ls hl
          refine lv_iload_n hx hb dX5_latitudeAt_59 rfl (lv_at hl 0 rfl) ?_
          have e19 : s_X5_latitudeAt fh hgt = lp_la fh hgt 180 0 := by
            unfold s_X5_latitudeAt
            exact (if_neg c17)
          have e20 : n_X5_latitudeAt_qg_11 fh hgt = n_X5_mayBoth_qg_11 (if hgt < (-99990) then 0 else (if 99990 < hgt then 0 else 1)) (if hgt < (s_X5_high fh (-90)) then 0 else 1) := rfl
          exact W.iret (v := (lp_la fh hgt 180 0)) hx hb hr (fun t ht hW => ⟨⟨_, (), rfl, e19.symm, ⟨(by rw [e20]; rw [ht]; exact hP), va_K.moved hW.alike hK, (by rw [e20]; exact hD)⟩⟩, hS.F ht⟩) hS.2.2 dX5_latitudeAt_60
        have L18 : ∀ (n18 : Nat) (k : Nat), (k ≤ 180) → (lp_la fh hgt (180 - k) k = lp_la fh hgt 180 0) → (180 < k + n18) → ∀ (H : Heap) (locs : List Loc), va_P D vwCl [(qg, .inr (5, [.ref qgw, .ref qgh, .ref qgt, .int br, .int jC, .int jR, .int nf, .ref qgx, .ref qgy, .ref qgz, .ref qgu, .int (n_X5_mayBoth_qg_11 (if hgt < (-99990) then 0 else (if 99990 < hgt then 0 else 1)) (if hgt < (s_X5_high fh (-90)) then 0 else 1))])), (qgh, .inl (cI, 10, .inl fh))] H → va_D A [(qg, .inr (5, [.ref qgw, .ref qgh, .ref qgt, .int br, .int jC, .int jR, .int nf, .ref qgx, .ref qgy, .ref qgz, .ref qgu, .int (n_X5_mayBoth_qg_11 (if hgt < (-99990) then 0 else (if 99990 < hgt then 0 else 1)) (if hgt < (s_X5_high fh (-90)) then 0 else 1))])), (qgh, .inl (cI, 10, .inl fh))] → va_S A s.heap H locs → ∀ (ls : Array Slot), lv_has ls 3 [(2, .int (90 - nI k)), (0, .ref qg), (1, .int hgt)] → W p l e (headSpec wsX5_latitudeAt rm_X5_latitudeAt).room s m ([.ref qg, .int hgt]).toArray below meth c H locs 0 0 (MQ below (Qc_X5_latitudeAt D cI cZ cJ cD qg qgw qgh qgt br jC jR nf qgx qgy qgz qgu th fh hgt A) ([.ref qg, .int hgt]).toArray s 0 0 A) (F0 m 44 ls []) := by
          intro n18
          induction n18 with
          | zero =>
            intro k hk hr hf18
            exact absurd hf18 (by omega)
          | succ n18 ih18 =>
            intro k hk hr hf18 H locs hP hD hS ls hl
            refine lv_aload_n hx hb dX5_latitudeAt_44 rfl (lv_at hl 1 rfl) ?_
            refine lv_iload_n hx hb dX5_latitudeAt_45 rfl (lv_at hl 0 rfl) ?_
            refine va_calli (va_runV (As := [.int (90 - nI k)]) (rest := []) ⟨hx, hb, hml, hown, hts⟩ (c_X5_high l D cI cZ cJ cD qg qgw qgh qgt br jC jR nf qgx qgy qgz qgu (n_X5_mayBoth_qg_11 (if hgt < (-99990) then 0 else (if 99990 < hgt then 0 else 1)) (if hgt < (s_X5_high fh (-90)) then 0 else 1)) fh (90 - nI k) (z_k180 hk)) (cwV 1 hts gX5_latitudeAt_X5_high rfl rfl rfl (by decide +kernel) ⟨Nat.le_of_ble_eq_true rfl, Nat.le_of_ble_eq_true rfl⟩) ⟨zblind, va_recv hK hP (ci := 5) (q0 := 0) rfl rfl, (fun U hU hW => ⟨rfl, by rw [hU]; exact hP.sub (ws' := [(qg, .inr (5, [.ref qgw, .ref qgh, .ref qgt, .int br, .int jC, .int jR, .int nf, .ref qgx, .ref qgy, .ref qgz, .ref qgu, .int (n_X5_mayBoth_qg_11 (if hgt < (-99990) then 0 else (if 99990 < hgt then 0 else 1)) (if hgt < (s_X5_high fh (-90)) then 0 else 1))])), (qgh, .inl (cI, 10, .inl fh))]) [0, 1] rfl, va_K.moved hW.alike hK⟩)⟩ rfl rfl hl.1 rfl (lv_room (Nat.le_of_ble_eq_true rfl)) dX5_latitudeAt_46 ⟨Nat.le_of_ble_eq_true rfl, Nat.le_of_ble_eq_true rfl⟩) hS (fun q _ h => h.elim) (fun q h => h.elim) (fun r21 u t H locs ht hvm hw hB hz1 hk1 hS => ?_)
            rw [hw]
            have hP := zk hP hk1
            refine lv_iload_n hx hb dX5_latitudeAt_49 rfl (lv_at hl 2 rfl) ?_
            refine lv_icmp_le (tgt := 59) hx hb dX5_latitudeAt_50 (by decide) (fun c22 => ?_) (fun c22 => ?_)
            · have eg := z_la_e c22 hr
              exact X18  _ _ hP hD hS _ (zlv (lv_sub (l' := [(2, .int (90 - nI k)), (0, .ref qg), (1, .int hgt)]) hl [0, 1, 2] rfl) (by rw [eg]))
            · refine lv_iinc (v := 90 - nI (k + 1)) (lv' := [(2, .int (90 - nI (k + 1))), (0, .ref qg), (1, .int hgt)]) hx hb dX5_latitudeAt_53 hl (k := 0) rfl (z_dec k) (by decide) rfl (fun ls hl => ?_)
              refine lv_goto (tgt := 44) hx hb dX5_latitudeAt_56 (by decide) ?_
              have hk8 := z_la_b (z_mb2 c17) hk c22
              exact ih18 (k + 1) (by omega) (z_la_s hk8 c22 hr) (by omega) _ _ hP hD hS _ (lv_sub hl [0, 1, 2] rfl)
        exact L18 181 0 (by omega) rfl (by omega) _ _ hP hD hS _ (zlv (lv_sub (l' := [(2, .int 90), (0, .ref qg), (1, .int hgt)]) hl [0, 1, 2] rfl) (by rfl))
      · refine lv_iconst (v := 0) hx hb dX5_latitudeAt_39 (by decide) ?_
        have e23 : s_X5_latitudeAt fh hgt = 0 := by
          unfold s_X5_latitudeAt
          exact (if_pos c17)
        have e24 : n_X5_latitudeAt_qg_11 fh hgt = n_X5_mayBoth_qg_11 (if hgt < (-99990) then 0 else (if 99990 < hgt then 0 else 1)) (if hgt < (s_X5_high fh (-90)) then 0 else 1) := rfl
        exact W.iret (v := 0) hx hb hr (fun t ht hW => ⟨⟨_, (), rfl, e23.symm, ⟨(by rw [e24]; rw [ht]; exact hP), va_K.moved hW.alike hK, (by rw [e24]; exact hD)⟩⟩, hS.F ht⟩) hS.2.2 dX5_latitudeAt_40
    refine lv_icmp_gt (tgt := 32) hx hb dX5_latitudeAt_25 (by decide) (fun c25 => ?_) (fun c25 => ?_)
    · refine lv_iconst (v := 0) hx hb dX5_latitudeAt_32 (by decide) ?_
      exact K15 _ (if_pos c25).symm _ _ hP hD hS _ (lv_sub hl [0, 1] rfl)
    · refine lv_iconst (v := 1) hx hb dX5_latitudeAt_28 (by decide) ?_
      refine lv_goto (tgt := 33) hx hb dX5_latitudeAt_29 (by decide) ?_
      exact K15 _ (if_neg c25).symm _ _ hP hD hS _ (lv_sub hl [0, 1] rfl)
  refine lv_icmp_lt (tgt := 17) hx hb dX5_latitudeAt_4 (by decide) (fun c26 => ?_) (fun c26 => ?_)
  · refine lv_iconst (v := 0) hx hb dX5_latitudeAt_17 (by decide) ?_
    exact K12 _ (if_pos c26).symm _ _ hP hD hS _ (lv_sub hl [0, 1] rfl)
  · refine lv_iload_n hx hb dX5_latitudeAt_7 rfl (lv_at hl 1 rfl) ?_
    refine lv_ldc (v := 99990) hx hb hown (hts (.constant RX5 71 (99990)) (List.mem_cons_of_mem _ (List.mem_append_left _ (List.mem_of_getElem? (i := 1) rfl)))) dX5_latitudeAt_8 ?_
    refine lv_icmp_gt (tgt := 17) hx hb dX5_latitudeAt_10 (by decide) (fun c27 => ?_) (fun c27 => ?_)
    · refine lv_iconst (v := 0) hx hb dX5_latitudeAt_17 (by decide) ?_
      exact K12 _ ((if_neg c26).trans (if_pos c27)).symm _ _ hP hD hS _ (lv_sub hl [0, 1] rfl)
    · refine lv_iconst (v := 1) hx hb dX5_latitudeAt_13 (by decide) ?_
      refine lv_goto (tgt := 18) hx hb dX5_latitudeAt_14 (by decide) ?_
      exact K12 _ ((if_neg c26).trans (if_neg c27)).symm _ _ hP hD hS _ (lv_sub hl [0, 1] rfl)
def lp_X5_areaOf_6 (fw : Nat → Int32) (fh : Nat → Int32) (so : Int32) (dg : Int32) : Nat → Int64
  | 0 => 0
  | k + 1 => (lp_X5_areaOf_6 fw fh so dg k) + ((dg.toInt64 * (((s_X5_wide fw (so + nI k)) + (s_X5_wide fw ((so + nI k) + 1))).toInt64)) * (((s_X5_high fh ((so + nI k) + 1)) - (s_X5_high fh (so + nI k))).toInt64))
def s_X5_areaOf (fw : Nat → Int32) (fh : Nat → Int32) (so : Int32) (no : Int32) (dg : Int32) : Int64 := lp_X5_areaOf_6 fw fh so dg ((no.toInt - so.toInt).toNat)
abbrev rm_X5_areaOf : Room := { frames := 1, cells := 0, slots := 0, locals := 25 }
abbrev Qc_X5_areaOf (D : va_G) (cI cZ cJ cD : ClassId) (qg : Nat) (qgw : Nat) (qgh : Nat) (qgt : Nat) (br : Int32) (jC : Int32) (jR : Int32) (nf : Int32) (qgx : Nat) (qgy : Nat) (qgz : Nat) (qgu : Nat) (th : Int32) (fw : Nat → Int32) (fh : Nat → Int32) (so : Int32) (no : Int32) (dg : Int32) : Array Value → State → Outcome → State → Prop := va_Ql (fun (r : Int64) (_ : Unit) => r = s_X5_areaOf fw fh so no dg) (fun _ _ => True) (fun _ : Nat => False)
set_option maxHeartbeats 4000000 in
set_option maxRecDepth 100000 in
theorem c_X5_areaOf (l : Launch) (D : va_G) (cI cZ cJ cD : ClassId) (qg : Nat) (qgw : Nat) (qgh : Nat) (qgt : Nat) (br : Int32) (jC : Int32) (jR : Int32) (nf : Int32) (qgx : Nat) (qgy : Nat) (qgz : Nat) (qgu : Nat) (th : Int32) (fw : Nat → Int32) (fh : Nat → Int32) (so : Int32) (no : Int32) (dg : Int32) (h1 : -90 ≤ so.toInt) (h2 : so.toInt ≤ no.toInt) (h3 : no.toInt ≤ 90) : Met l yX5_areaOf wsX5_areaOf rm_X5_areaOf (va_Pc [.ref qg, .int so, .int no, .int dg] (zPre D cI cZ cJ cD [(qg, .inr (5, [.ref qgw, .ref qgh, .ref qgt, .int br, .int jC, .int jR, .int nf, .ref qgx, .ref qgy, .ref qgz, .ref qgu, .int th])), (qgw, .inl (cI, 10, .inl fw)), (qgh, .inl (cI, 10, .inl fh))])) (Qc_X5_areaOf D cI cZ cJ cD qg qgw qgh qgt br jC jR nf qgx qgy qgz qgu th fw fh so no dg ) 0 0 (fun _ : Nat => False) := by
  refine Met.ofW (cc := cX5_areaOf) (maxL := 7) (ret := (some .long)) (by decide) rfl ?_
  intro p e s m args below meth c s₁ B hml hv
  obtain ⟨rfl, hP, hK⟩ := hv
  have hx := B.exec
  have hb := B.bytes
  have hr := B.returns
  have hts := atoms_spec (ws := wsX5_areaOf) B.pre
  have hown : s.vm.findClass RX5 = some m.cls := findClass_of_methodNamed B.named
  have hlocks := B.notSynchronized
  have hS : va_S (fun _ : Nat => False) s.heap s.heap [] := va_S.rf
  have hl := lv_entry ([.ref qg, .int so, .int no, .int dg]) (n := 7) (Nat.le_of_ble_eq_true rfl)
  rw [lg_entry_eq]
  generalize (lg_sl ([.ref qg, .int so, .int no, .int dg]) ++ List.replicate (7 - (lg_sl ([.ref qg, .int so, .int no, .int dg])).length) Slot.unset).toArray = ls at hl ⊢
  have hl : lv_has ls 7 [(0, .ref qg), (1, .int so), (2, .int no), (3, .int dg)] := hl
  have hP : va_P D vwCl [(qg, .inr (5, [.ref qgw, .ref qgh, .ref qgt, .int br, .int jC, .int jR, .int nf, .ref qgx, .ref qgy, .ref qgz, .ref qgu, .int th])), (qgw, .inl (cI, 10, .inl fw)), (qgh, .inl (cI, 10, .inl fh))] s.heap := hP
  have hP := hP
  refine lv_lconst (v := 0) hx hb dX5_areaOf_0 (by decide) ?_
  refine lv_lstore (lv' := [(4, .long 0), (0, .ref qg), (1, .int so), (2, .int no), (3, .int dg)]) hx hb dX5_areaOf_1 hl (by decide) rfl (fun ls hl => ?_)
  refine lv_iload_n hx hb dX5_areaOf_3 rfl (lv_at hl 2 rfl) ?_
  refine lv_istore (lv' := [(6, .int so), (4, .long 0), (0, .ref qg), (1, .int so), (2, .int no), (3, .int dg)]) hx hb dX5_areaOf_4 hl (by decide) rfl (fun ls hl => ?_)
  have X1 : ∀ (H : Heap) (locs : List Loc), va_P D vwCl [(qg, .inr (5, [.ref qgw, .ref qgh, .ref qgt, .int br, .int jC, .int jR, .int nf, .ref qgx, .ref qgy, .ref qgz, .ref qgu, .int th])), (qgw, .inl (cI, 10, .inl fw)), (qgh, .inl (cI, 10, .inl fh))] H → va_S (fun _ : Nat => False) s.heap H locs → ∀ (ls : Array Slot), lv_has ls 7 [(0, .ref qg), (1, .int so), (2, .int no), (3, .int dg), (4, .long (lp_X5_areaOf_6 fw fh so dg ((no.toInt - so.toInt).toNat)))] → W p l e (headSpec wsX5_areaOf rm_X5_areaOf).room s m ([.ref qg, .int so, .int no, .int dg]).toArray below meth c H locs 0 0 (MQ below (Qc_X5_areaOf D cI cZ cJ cD qg qgw qgh qgt br jC jR nf qgx qgy qgz qgu th fw fh so no dg) ([.ref qg, .int so, .int no, .int dg]).toArray s 0 0 (fun _ : Nat => False)) (F0 m 59 ls []) := by
    intro H locs hP hS ls hl
    refine lv_lload hx hb dX5_areaOf_59 (lv_at hl 4 rfl) ?_
    have e2 : s_X5_areaOf fw fh so no dg = lp_X5_areaOf_6 fw fh so dg ((no.toInt - so.toInt).toNat) := rfl
    exact W.lret (v := (lp_X5_areaOf_6 fw fh so dg ((no.toInt - so.toInt).toNat))) hx hb hr (fun t ht hW => ⟨⟨_, (), rfl, e2.symm, trivial⟩, hS.F ht⟩) hS.2.2 dX5_areaOf_61
  have L1 : ∀ (n k : Nat) (acc : Int64), k ≤ (no.toInt - so.toInt).toNat → (no.toInt - so.toInt).toNat < k + n → acc = lp_X5_areaOf_6 fw fh so dg k → ∀ (H : Heap) (locs : List Loc), va_P D vwCl [(qg, .inr (5, [.ref qgw, .ref qgh, .ref qgt, .int br, .int jC, .int jR, .int nf, .ref qgx, .ref qgy, .ref qgz, .ref qgu, .int th])), (qgw, .inl (cI, 10, .inl fw)), (qgh, .inl (cI, 10, .inl fh))] H → va_S (fun _ : Nat => False) s.heap H locs → ∀ (ls : Array Slot), lv_has ls 7 [(0, .ref qg), (1, .int so), (2, .int no), (3, .int dg), (6, .int (so + nI k)), (4, .long acc)] → W p l e (headSpec wsX5_areaOf rm_X5_areaOf).room s m ([.ref qg, .int so, .int no, .int dg]).toArray below meth c H locs 0 0 (MQ below (Qc_X5_areaOf D cI cZ cJ cD qg qgw qgh qgt br jC jR nf qgx qgy qgz qgu th fw fh so no dg) ([.ref qg, .int so, .int no, .int dg]).toArray s 0 0 (fun _ : Nat => False)) (F0 m 6 ls []) := by
    intro n
    induction n with
    | zero =>
      intro k acc hk hf
      exact absurd hf (by omega)
    | succ n ih =>
      intro k acc hk hf hacc H locs hP hS ls hl
      subst hacc
      refine lv_iload hx hb dX5_areaOf_6 (lv_at hl 4 rfl) ?_
      refine lv_iload_n hx hb dX5_areaOf_8 rfl (lv_at hl 2 rfl) ?_
      refine lv_icmp_ge (tgt := 59) hx hb dX5_areaOf_9 (by decide) (fun c3 => ?_) (fun c3 => ?_)
      · have hge : (no.toInt - so.toInt).toNat ≤ k := z_fge h1 h2 h3 hk c3
        have ek : k = (no.toInt - so.toInt).toNat := by omega
        subst ek
        exact X1 _ _ hP hS _ (lv_sub hl [0, 1, 2, 3, 5] rfl)
      · refine lv_lload hx hb dX5_areaOf_12 (lv_at hl 5 rfl) ?_
        refine lv_iload_n hx hb dX5_areaOf_14 rfl (lv_at hl 3 rfl) ?_
        refine lv_i2l hx hb dX5_areaOf_15 rfl ?_
        refine lv_aload_n hx hb dX5_areaOf_16 rfl (lv_at hl 0 rfl) ?_
        refine lv_iload hx hb dX5_areaOf_17 (lv_at hl 4 rfl) ?_
        refine va_calli (va_runV (As := [.int (so + nI k)]) (rest := [.long dg.toInt64, .long (lp_X5_areaOf_6 fw fh so dg k)]) ⟨hx, hb, hml, hown, hts⟩ (c_X5_wide l D cI cZ cJ cD qg qgw qgh qgt br jC jR nf qgx qgy qgz qgu th fw (so + nI k) (z_la0 h1 h2 h3 hk)) (cwV 1 hts gX5_areaOf_X5_wide rfl rfl rfl (by decide +kernel) ⟨Nat.le_of_ble_eq_true rfl, Nat.le_of_ble_eq_true rfl⟩) ⟨zblind, va_recv hK hP (ci := 5) (q0 := 0) rfl rfl, (fun U hU hW => ⟨rfl, by rw [hU]; exact hP.sub (ws' := [(qg, .inr (5, [.ref qgw, .ref qgh, .ref qgt, .int br, .int jC, .int jR, .int nf, .ref qgx, .ref qgy, .ref qgz, .ref qgu, .int th])), (qgw, .inl (cI, 10, .inl fw))]) [0, 1] rfl, va_K.moved hW.alike hK⟩)⟩ rfl rfl hl.1 rfl (lv_room (Nat.le_of_ble_eq_true rfl)) dX5_areaOf_19 ⟨Nat.le_of_ble_eq_true rfl, Nat.le_of_ble_eq_true rfl⟩) hS (fun q _ h => h.elim) (fun q h => h.elim) (fun r4 u t H locs ht hvm hw hB hz1 hk1 hS => ?_)
        rw [hw]
        have hP := zk hP hk1
        refine lv_aload_n hx hb dX5_areaOf_22 rfl (lv_at hl 0 rfl) ?_
        refine lv_iload hx hb dX5_areaOf_23 (lv_at hl 4 rfl) ?_
        refine lv_iconst (v := 1) hx hb dX5_areaOf_25 (by decide) ?_
        refine lv_iadd hx hb dX5_areaOf_26 ?_
        refine va_calli (va_runV (As := [.int ((so + nI k) + 1)]) (rest := [.int (s_X5_wide fw (so + nI k)), .long dg.toInt64, .long (lp_X5_areaOf_6 fw fh so dg k)]) ⟨hx, hb, hml, hown, hts⟩ (c_X5_wide l D cI cZ cJ cD qg qgw qgh qgt br jC jR nf qgx qgy qgz qgu th fw ((so + nI k) + 1) (z_la1 h1 h2 h3 hk c3)) (cwV 1 hts gX5_areaOf_X5_wide rfl rfl rfl (by decide +kernel) ⟨Nat.le_of_ble_eq_true rfl, Nat.le_of_ble_eq_true rfl⟩) ⟨zblind, va_recv hK hP (ci := 5) (q0 := 0) rfl rfl, (fun U hU hW => ⟨rfl, by rw [hU]; exact hP.sub (ws' := [(qg, .inr (5, [.ref qgw, .ref qgh, .ref qgt, .int br, .int jC, .int jR, .int nf, .ref qgx, .ref qgy, .ref qgz, .ref qgu, .int th])), (qgw, .inl (cI, 10, .inl fw))]) [0, 1] rfl, va_K.moved hW.alike hK⟩)⟩ rfl rfl hl.1 rfl (lv_room (Nat.le_of_ble_eq_true rfl)) dX5_areaOf_27 ⟨Nat.le_of_ble_eq_true rfl, Nat.le_of_ble_eq_true rfl⟩) hS (fun q _ h => h.elim) (fun q h => h.elim) (fun r5 u t H locs ht hvm hw hB hz1 hk1 hS => ?_)
        rw [hw]
        have hP := zk hP hk1
        refine lv_iadd hx hb dX5_areaOf_30 ?_
        refine lv_i2l hx hb dX5_areaOf_31 rfl ?_
        refine lv_lmul hx hb dX5_areaOf_32 ?_
        refine lv_aload_n hx hb dX5_areaOf_33 rfl (lv_at hl 0 rfl) ?_
        refine lv_iload hx hb dX5_areaOf_34 (lv_at hl 4 rfl) ?_
        refine lv_iconst (v := 1) hx hb dX5_areaOf_36 (by decide) ?_
        refine lv_iadd hx hb dX5_areaOf_37 ?_
        refine va_calli (va_runV (As := [.int ((so + nI k) + 1)]) (rest := [.long (dg.toInt64 * (((s_X5_wide fw (so + nI k)) + (s_X5_wide fw ((so + nI k) + 1))).toInt64)), .long (lp_X5_areaOf_6 fw fh so dg k)]) ⟨hx, hb, hml, hown, hts⟩ (c_X5_high l D cI cZ cJ cD qg qgw qgh qgt br jC jR nf qgx qgy qgz qgu th fh ((so + nI k) + 1) (z_la1 h1 h2 h3 hk c3)) (cwV 1 hts gX5_areaOf_X5_high rfl rfl rfl (by decide +kernel) ⟨Nat.le_of_ble_eq_true rfl, Nat.le_of_ble_eq_true rfl⟩) ⟨zblind, va_recv hK hP (ci := 5) (q0 := 0) rfl rfl, (fun U hU hW => ⟨rfl, by rw [hU]; exact hP.sub (ws' := [(qg, .inr (5, [.ref qgw, .ref qgh, .ref qgt, .int br, .int jC, .int jR, .int nf, .ref qgx, .ref qgy, .ref qgz, .ref qgu, .int th])), (qgh, .inl (cI, 10, .inl fh))]) [0, 2] rfl, va_K.moved hW.alike hK⟩)⟩ rfl rfl hl.1 rfl (lv_room (Nat.le_of_ble_eq_true rfl)) dX5_areaOf_38 ⟨Nat.le_of_ble_eq_true rfl, Nat.le_of_ble_eq_true rfl⟩) hS (fun q _ h => h.elim) (fun q h => h.elim) (fun r6 u t H locs ht hvm hw hB hz1 hk1 hS => ?_)
        rw [hw]
        have hP := zk hP hk1
        refine lv_aload_n hx hb dX5_areaOf_41 rfl (lv_at hl 0 rfl) ?_
        refine lv_iload hx hb dX5_areaOf_42 (lv_at hl 4 rfl) ?_
        refine va_calli (va_runV (As := [.int (so + nI k)]) (rest := [.int (s_X5_high fh ((so + nI k) + 1)), .long (dg.toInt64 * (((s_X5_wide fw (so + nI k)) + (s_X5_wide fw ((so + nI k) + 1))).toInt64)), .long (lp_X5_areaOf_6 fw fh so dg k)]) ⟨hx, hb, hml, hown, hts⟩ (c_X5_high l D cI cZ cJ cD qg qgw qgh qgt br jC jR nf qgx qgy qgz qgu th fh (so + nI k) (z_la0 h1 h2 h3 hk)) (cwV 1 hts gX5_areaOf_X5_high rfl rfl rfl (by decide +kernel) ⟨Nat.le_of_ble_eq_true rfl, Nat.le_of_ble_eq_true rfl⟩) ⟨zblind, va_recv hK hP (ci := 5) (q0 := 0) rfl rfl, (fun U hU hW => ⟨rfl, by rw [hU]; exact hP.sub (ws' := [(qg, .inr (5, [.ref qgw, .ref qgh, .ref qgt, .int br, .int jC, .int jR, .int nf, .ref qgx, .ref qgy, .ref qgz, .ref qgu, .int th])), (qgh, .inl (cI, 10, .inl fh))]) [0, 2] rfl, va_K.moved hW.alike hK⟩)⟩ rfl rfl hl.1 rfl (lv_room (Nat.le_of_ble_eq_true rfl)) dX5_areaOf_44 ⟨Nat.le_of_ble_eq_true rfl, Nat.le_of_ble_eq_true rfl⟩) hS (fun q _ h => h.elim) (fun q h => h.elim) (fun r7 u t H locs ht hvm hw hB hz1 hk1 hS => ?_)
        rw [hw]
        have hP := zk hP hk1
        refine lv_isub hx hb dX5_areaOf_47 ?_
        refine lv_i2l hx hb dX5_areaOf_48 rfl ?_
        refine lv_lmul hx hb dX5_areaOf_49 ?_
        refine lv_ladd hx hb dX5_areaOf_50 ?_
        refine lv_lstore (lv' := [(4, .long ((lp_X5_areaOf_6 fw fh so dg k) + ((dg.toInt64 * (((s_X5_wide fw (so + nI k)) + (s_X5_wide fw ((so + nI k) + 1))).toInt64)) * (((s_X5_high fh ((so + nI k) + 1)) - (s_X5_high fh (so + nI k))).toInt64)))), (0, .ref qg), (1, .int so), (2, .int no), (3, .int dg), (6, .int (so + nI k))]) hx hb dX5_areaOf_51 hl (by decide) rfl (fun ls hl => ?_)
        refine lv_iinc (v := so + nI (k + 1)) (lv' := [(6, .int (so + nI (k + 1))), (4, .long ((lp_X5_areaOf_6 fw fh so dg k) + ((dg.toInt64 * (((s_X5_wide fw (so + nI k)) + (s_X5_wide fw ((so + nI k) + 1))).toInt64)) * (((s_X5_high fh ((so + nI k) + 1)) - (s_X5_high fh (so + nI k))).toInt64)))), (0, .ref qg), (1, .int so), (2, .int no), (3, .int dg)]) hx hb dX5_areaOf_53 hl (k := 5) rfl (z_adds so k) (by decide) rfl (fun ls hl => ?_)
        refine lv_goto (tgt := 6) hx hb dX5_areaOf_56 (by decide) ?_
        have hlt : k < (no.toInt - so.toInt).toNat := z_flt h1 h2 h3 hk c3
        exact ih (k + 1) _ (by omega) (by omega) rfl _ _ hP hS _ (lv_sub hl [2, 3, 4, 5, 0, 1] rfl)
  exact L1 ((no.toInt - so.toInt).toNat + 1) 0 _ (Nat.zero_le _) (by omega) rfl _ _ hP hS _ (zlv (lv_sub (l' := [(0, .ref qg), (1, .int so), (2, .int no), (3, .int dg), (6, .int so), (4, .long 0)]) hl [2, 3, 4, 5, 0, 1] rfl) (by rw [z_add0]; first | done | rfl))
def s_X5_area (fw : Nat → Int32) (fh : Nat → Int32) (so : Int32) (no : Int32) (we : Int32) (ea : Int32) : Int64 := (if (s_X5_may (if (s_X5_isLatitude so) = 0 then 0 else (if (s_X5_isLatitude no) = 0 then 0 else (if no < so then 0 else (if we < (-180) then 0 else (if 180 < ea then 0 else (if ea < we then 0 else 1))))))) = 0 then 0 else s_X5_areaOf fw fh so no (ea - we))
def n_X5_area_qg_11 (so : Int32) (no : Int32) (we : Int32) (ea : Int32) : Int32 := n_X5_may_qg_11 (if (s_X5_isLatitude so) = 0 then 0 else (if (s_X5_isLatitude no) = 0 then 0 else (if no < so then 0 else (if we < (-180) then 0 else (if 180 < ea then 0 else (if ea < we then 0 else 1))))))
abbrev rm_X5_area : Room := { frames := 2, cells := 0, slots := 0, locals := 51 }
abbrev Qc_X5_area (D : va_G) (cI cZ cJ cD : ClassId) (qg : Nat) (qgw : Nat) (qgh : Nat) (qgt : Nat) (br : Int32) (jC : Int32) (jR : Int32) (nf : Int32) (qgx : Nat) (qgy : Nat) (qgz : Nat) (qgu : Nat) (th : Int32) (fw : Nat → Int32) (fh : Nat → Int32) (so : Int32) (no : Int32) (we : Int32) (ea : Int32) (A : Nat → Prop) : Array Value → State → Outcome → State → Prop := va_Ql (fun (r : Int64) (_ : Unit) => r = s_X5_area fw fh so no we ea) (zPost D cI cZ cJ cD A [(qg, .inr (5, [.ref qgw, .ref qgh, .ref qgt, .int br, .int jC, .int jR, .int nf, .ref qgx, .ref qgy, .ref qgz, .ref qgu, .int (n_X5_area_qg_11 so no we ea)])), (qgw, .inl (cI, 10, .inl fw)), (qgh, .inl (cI, 10, .inl fh))]) A
set_option maxHeartbeats 4000000 in
set_option maxRecDepth 100000 in
theorem c_X5_area (l : Launch) (D : va_G) (cI cZ cJ cD : ClassId) (qg : Nat) (qgw : Nat) (qgh : Nat) (qgt : Nat) (br : Int32) (jC : Int32) (jR : Int32) (nf : Int32) (qgx : Nat) (qgy : Nat) (qgz : Nat) (qgu : Nat) (th : Int32) (fw : Nat → Int32) (fh : Nat → Int32) (so : Int32) (no : Int32) (we : Int32) (ea : Int32) (sz : Nat)  : Met l yX5_area wsX5_area rm_X5_area (va_Pc [.ref qg, .int so, .int no, .int we, .int ea] (zPreW D cI cZ cJ cD [(qg, .inr (5, [.ref qgw, .ref qgh, .ref qgt, .int br, .int jC, .int jR, .int nf, .ref qgx, .ref qgy, .ref qgz, .ref qgu, .int th])), (qgw, .inl (cI, 10, .inl fw)), (qgh, .inl (cI, 10, .inl fh))] sz)) (Qc_X5_area D cI cZ cJ cD qg qgw qgh qgt br jC jR nf qgx qgy qgz qgu th fw fh so no we ea (va_A [(qg, .inr (5, [.ref qgw, .ref qgh, .ref qgt, .int br, .int jC, .int jR, .int nf, .ref qgx, .ref qgy, .ref qgz, .ref qgu, .int th])), (qgw, .inl (cI, 10, .inl fw)), (qgh, .inl (cI, 10, .inl fh))] sz)) 0 0 (va_A [(qg, .inr (5, [.ref qgw, .ref qgh, .ref qgt, .int br, .int jC, .int jR, .int nf, .ref qgx, .ref qgy, .ref qgz, .ref qgu, .int th])), (qgw, .inl (cI, 10, .inl fw)), (qgh, .inl (cI, 10, .inl fh))] sz) := by
  refine Met.ofW (cc := cX5_area) (maxL := 6) (ret := (some .long)) (by decide) rfl ?_
  intro p e s m args below meth c s₁ B hml hv
  obtain ⟨rfl, hsz, hP, hK, hD0⟩ := hv
  have hx := B.exec
  have hb := B.bytes
  have hr := B.returns
  have hts := atoms_spec (ws := wsX5_area) B.pre
  have hown : s.vm.findClass RX5 = some m.cls := findClass_of_methodNamed B.named
  have hlocks := B.notSynchronized
  subst hsz
  have hD := hD0.self (sz := s.heap.size)
  generalize hAe : va_A [(qg, .inr (5, [.ref qgw, .ref qgh, .ref qgt, .int br, .int jC, .int jR, .int nf, .ref qgx, .ref qgy, .ref qgz, .ref qgu, .int th])), (qgw, .inl (cI, 10, .inl fw)), (qgh, .inl (cI, 10, .inl fh))] s.heap.size = A at hD ⊢
  have hA : ∀ q : Nat, s.heap.size ≤ q → A q := fun q h => by rw [← hAe]; exact Or.inr h
  have hS : va_S A s.heap s.heap [] := va_S.rf
  have hl := lv_entry ([.ref qg, .int so, .int no, .int we, .int ea]) (n := 6) (Nat.le_of_ble_eq_true rfl)
  rw [lg_entry_eq]
  generalize (lg_sl ([.ref qg, .int so, .int no, .int we, .int ea]) ++ List.replicate (6 - (lg_sl ([.ref qg, .int so, .int no, .int we, .int ea])).length) Slot.unset).toArray = ls at hl ⊢
  have hl : lv_has ls 6 [(0, .ref qg), (1, .int so), (2, .int no), (3, .int we), (4, .int ea)] := hl
  have hP : va_P D vwCl [(qg, .inr (5, [.ref qgw, .ref qgh, .ref qgt, .int br, .int jC, .int jR, .int nf, .ref qgx, .ref qgy, .ref qgz, .ref qgu, .int th])), (qgw, .inl (cI, 10, .inl fw)), (qgh, .inl (cI, 10, .inl fh))] s.heap := hP
  have hP := hP
  refine lv_iload_n hx hb dX5_area_0 rfl (lv_at hl 1 rfl) ?_
  refine va_calli (va_runS (As := [.int so]) (rest := []) ⟨hx, hb, hml, hown, hts⟩ (c_X5_isLatitude l D cI cZ cJ cD so ) (va_cwS 1 hts gX5_area_X5_isLatitude rfl rfl rfl (by decide +kernel) ⟨Nat.le_of_ble_eq_true rfl, Nat.le_of_ble_eq_true rfl⟩) ⟨zblind, (fun U hU hW => ⟨rfl, by rw [hU]; exact hP.sub (ws' := []) [] rfl, va_K.moved hW.alike hK⟩)⟩ rfl rfl hl.1 rfl (lv_room (Nat.le_of_ble_eq_true rfl)) dX5_area_1 ⟨Nat.le_of_ble_eq_true rfl, Nat.le_of_ble_eq_true rfl⟩) hS (fun q _ h => h.elim) (fun q h => h.elim) (fun r16 u t H locs ht hvm hw hB hz1 hk1 hS => ?_)
  rw [hw]
  have hP := zk hP hk1
  have K18 : ∀ v18_0 : Int32, v18_0 = (if (s_X5_isLatitude so) = 0 then 0 else (if (s_X5_isLatitude no) = 0 then 0 else (if no < so then 0 else (if we < (-180) then 0 else (if 180 < ea then 0 else (if ea < we then 0 else 1)))))) → ∀ (H : Heap) (locs : List Loc), va_P D vwCl [(qg, .inr (5, [.ref qgw, .ref qgh, .ref qgt, .int br, .int jC, .int jR, .int nf, .ref qgx, .ref qgy, .ref qgz, .ref qgu, .int th])), (qgw, .inl (cI, 10, .inl fw)), (qgh, .inl (cI, 10, .inl fh))] H → va_D A [(qg, .inr (5, [.ref qgw, .ref qgh, .ref qgt, .int br, .int jC, .int jR, .int nf, .ref qgx, .ref qgy, .ref qgz, .ref qgu, .int th])), (qgw, .inl (cI, 10, .inl fw)), (qgh, .inl (cI, 10, .inl fh))] → va_S A s.heap H locs → ∀ (ls : Array Slot), lv_has ls 6 [(0, .ref qg), (1, .int so), (2, .int no), (3, .int we), (4, .int ea)] → W p l e (headSpec wsX5_area rm_X5_area).room s m ([.ref qg, .int so, .int no, .int we, .int ea]).toArray below meth c H locs 0 0 (MQ below (Qc_X5_area D cI cZ cJ cD qg qgw qgh qgt br jC jR nf qgx qgy qgz qgu th fw fh so no we ea A) ([.ref qg, .int so, .int no, .int we, .int ea]).toArray s 0 0 A) (F0 m 45 ls [.int v18_0]) := by
    intro v18_0 hv18_0 H locs hP hD hS ls hl
    subst hv18_0
    refine lv_istore (lv' := [(5, .int (if (s_X5_isLatitude so) = 0 then 0 else (if (s_X5_isLatitude no) = 0 then 0 else (if no < so then 0 else (if we < (-180) then 0 else (if 180 < ea then 0 else (if ea < we then 0 else 1))))))), (0, .ref qg), (1, .int so), (2, .int no), (3, .int we), (4, .int ea)]) hx hb dX5_area_45 hl (by decide) rfl (fun ls hl => ?_)
    refine lv_aload_n hx hb dX5_area_47 rfl (lv_at hl 1 rfl) ?_
    refine lv_iload hx hb dX5_area_48 (lv_at hl 0 rfl) ?_
    have hPc := hP.sub (ws' := [(qg, .inr (5, [.ref qgw, .ref qgh, .ref qgt, .int br, .int jC, .int jR, .int nf, .ref qgx, .ref qgy, .ref qgz, .ref qgu, .int th]))]) [0] rfl
    have hDc := hD.sub (ws' := [(qg, .inr (5, [.ref qgw, .ref qgh, .ref qgt, .int br, .int jC, .int jR, .int nf, .ref qgx, .ref qgy, .ref qgz, .ref qgu, .int th]))]) [0] (by decide) rfl
    have hFc := va_free (wc := [(qg, .inr (5, [.ref qgw, .ref qgh, .ref qgt, .int br, .int jC, .int jR, .int nf, .ref qgx, .ref qgy, .ref qgz, .ref qgu, .int th]))]) hD hS hA [0] rfl
    refine va_calli (va_runV (As := [.int (if (s_X5_isLatitude so) = 0 then 0 else (if (s_X5_isLatitude no) = 0 then 0 else (if no < so then 0 else (if we < (-180) then 0 else (if 180 < ea then 0 else (if ea < we then 0 else 1))))))]) (rest := []) ⟨hx, hb, hml, hown, hts⟩ (c_X5_may l D cI cZ cJ cD qg qgw qgh qgt br jC jR nf qgx qgy qgz qgu th (if (s_X5_isLatitude so) = 0 then 0 else (if (s_X5_isLatitude no) = 0 then 0 else (if no < so then 0 else (if we < (-180) then 0 else (if 180 < ea then 0 else (if ea < we then 0 else 1)))))) H.size (by (repeat' split) <;> simp)) (cwV 1 hts gX5_area_X5_may rfl rfl rfl (by decide +kernel) ⟨Nat.le_of_ble_eq_true rfl, Nat.le_of_ble_eq_true rfl⟩) ⟨zblindW, va_recv hK hP (ci := 5) (q0 := 0) rfl rfl, (fun U hU hW => ⟨rfl, by rw [hU], by rw [hU]; exact hPc, va_K.moved hW.alike hK, hDc.weaken (fun _ _ _ _ => trivial)⟩)⟩ rfl rfl hl.1 rfl (lv_room (Nat.le_of_ble_eq_true rfl)) dX5_area_50 ⟨Nat.le_of_ble_eq_true rfl, Nat.le_of_ble_eq_true rfl⟩) hS (fun q _ h => hFc q h) hFc (fun r19 u t H locs ht hvm hw hB hz1 hk1 hS => ?_)
    rw [hw]
    obtain ⟨hP1, hK1, hD1⟩ := hB
    rw [ht] at hP1
    obtain ⟨hP, hD⟩ := va_join (wr := [(qgw, .inl (cI, 10, .inl fw)), (qgh, .inl (cI, 10, .inl fh))]) (w1 := [(qg, .inr (5, [.ref qgw, .ref qgh, .ref qgt, .int br, .int jC, .int jR, .int nf, .ref qgx, .ref qgy, .ref qgz, .ref qgu, .int (n_X5_may_qg_11 (if (s_X5_isLatitude so) = 0 then 0 else (if (s_X5_isLatitude no) = 0 then 0 else (if no < so then 0 else (if we < (-180) then 0 else (if 180 < ea then 0 else (if ea < we then 0 else 1)))))))]))]) hP hD [0] [1, 2] rfl rfl (by decide) (by decide) hk1 hFc hP1 hD1
    have hP := hP.sub (ws' := [(qg, .inr (5, [.ref qgw, .ref qgh, .ref qgt, .int br, .int jC, .int jR, .int nf, .ref qgx, .ref qgy, .ref qgz, .ref qgu, .int (n_X5_may_qg_11 (if (s_X5_isLatitude so) = 0 then 0 else (if (s_X5_isLatitude no) = 0 then 0 else (if no < so then 0 else (if we < (-180) then 0 else (if 180 < ea then 0 else (if ea < we then 0 else 1)))))))])), (qgw, .inl (cI, 10, .inl fw)), (qgh, .inl (cI, 10, .inl fh))]) [2, 0, 1] rfl
    have hD := hD.sub (ws' := [(qg, .inr (5, [.ref qgw, .ref qgh, .ref qgt, .int br, .int jC, .int jR, .int nf, .ref qgx, .ref qgy, .ref qgz, .ref qgu, .int (n_X5_may_qg_11 (if (s_X5_isLatitude so) = 0 then 0 else (if (s_X5_isLatitude no) = 0 then 0 else (if no < so then 0 else (if we < (-180) then 0 else (if 180 < ea then 0 else (if ea < we then 0 else 1)))))))])), (qgw, .inl (cI, 10, .inl fw)), (qgh, .inl (cI, 10, .inl fh))]) [2, 0, 1] (by decide) rfl
    have K21 : ∀ v21_0 : Int64, v21_0 = (if (s_X5_may (if (s_X5_isLatitude so) = 0 then 0 else (if (s_X5_isLatitude no) = 0 then 0 else (if no < so then 0 else (if we < (-180) then 0 else (if 180 < ea then 0 else (if ea < we then 0 else 1))))))) = 0 then 0 else s_X5_areaOf fw fh so no (ea - we)) → ∀ (H : Heap) (locs : List Loc), va_P D vwCl [(qg, .inr (5, [.ref qgw, .ref qgh, .ref qgt, .int br, .int jC, .int jR, .int nf, .ref qgx, .ref qgy, .ref qgz, .ref qgu, .int (n_X5_may_qg_11 (if (s_X5_isLatitude so) = 0 then 0 else (if (s_X5_isLatitude no) = 0 then 0 else (if no < so then 0 else (if we < (-180) then 0 else (if 180 < ea then 0 else (if ea < we then 0 else 1)))))))])), (qgw, .inl (cI, 10, .inl fw)), (qgh, .inl (cI, 10, .inl fh))] H → va_D A [(qg, .inr (5, [.ref qgw, .ref qgh, .ref qgt, .int br, .int jC, .int jR, .int nf, .ref qgx, .ref qgy, .ref qgz, .ref qgu, .int (n_X5_may_qg_11 (if (s_X5_isLatitude so) = 0 then 0 else (if (s_X5_isLatitude no) = 0 then 0 else (if no < so then 0 else (if we < (-180) then 0 else (if 180 < ea then 0 else (if ea < we then 0 else 1)))))))])), (qgw, .inl (cI, 10, .inl fw)), (qgh, .inl (cI, 10, .inl fh))] → va_S A s.heap H locs → ∀ (ls : Array Slot), lv_has ls 6 [(5, .int (if (s_X5_isLatitude so) = 0 then 0 else (if (s_X5_isLatitude no) = 0 then 0 else (if no < so then 0 else (if we < (-180) then 0 else (if 180 < ea then 0 else (if ea < we then 0 else 1))))))), (0, .ref qg), (1, .int so), (2, .int no), (3, .int we), (4, .int ea)] → W p l e (headSpec wsX5_area rm_X5_area).room s m ([.ref qg, .int so, .int no, .int we, .int ea]).toArray below meth c H locs 0 0 (MQ below (Qc_X5_area D cI cZ cJ cD qg qgw qgh qgt br jC jR nf qgx qgy qgz qgu th fw fh so no we ea A) ([.ref qg, .int so, .int no, .int we, .int ea]).toArray s 0 0 A) (F0 m 70 ls [.long v21_0]) := by
      intro v21_0 hv21_0 H locs hP hD hS ls hl
      subst hv21_0
      have e22 : s_X5_area fw fh so no we ea = (if (s_X5_may (if (s_X5_isLatitude so) = 0 then 0 else (if (s_X5_isLatitude no) = 0 then 0 else (if no < so then 0 else (if we < (-180) then 0 else (if 180 < ea then 0 else (if ea < we then 0 else 1))))))) = 0 then 0 else s_X5_areaOf fw fh so no (ea - we)) := rfl
      have e23 : n_X5_area_qg_11 so no we ea = n_X5_may_qg_11 (if (s_X5_isLatitude so) = 0 then 0 else (if (s_X5_isLatitude no) = 0 then 0 else (if no < so then 0 else (if we < (-180) then 0 else (if 180 < ea then 0 else (if ea < we then 0 else 1)))))) := rfl
      exact W.lret (v := (if (s_X5_may (if (s_X5_isLatitude so) = 0 then 0 else (if (s_X5_isLatitude no) = 0 then 0 else (if no < so then 0 else (if we < (-180) then 0 else (if 180 < ea then 0 else (if ea < we then 0 else 1))))))) = 0 then 0 else s_X5_areaOf fw fh so no (ea - we))) hx hb hr (fun t ht hW => ⟨⟨_, (), rfl, e22.symm, ⟨(by rw [e23]; rw [ht]; exact hP), va_K.moved hW.alike hK, (by rw [e23]; exact hD)⟩⟩, hS.F ht⟩) hS.2.2 dX5_area_70
    refine lv_if_eq (tgt := 69) hx hb dX5_area_53 (by decide) (fun c24 => ?_) (fun c24 => ?_)
    · refine lv_lconst (v := 0) hx hb dX5_area_69 (by decide) ?_
      exact K21 _ (if_pos c24).symm _ _ hP hD hS _ (lv_sub hl [0, 1, 2, 3, 4, 5] rfl)
    · refine lv_aload_n hx hb dX5_area_56 rfl (lv_at hl 1 rfl) ?_
      refine lv_iload_n hx hb dX5_area_57 rfl (lv_at hl 2 rfl) ?_
      refine lv_iload_n hx hb dX5_area_58 rfl (lv_at hl 3 rfl) ?_
      refine lv_iload hx hb dX5_area_59 (lv_at hl 5 rfl) ?_
      refine lv_iload_n hx hb dX5_area_61 rfl (lv_at hl 4 rfl) ?_
      refine lv_isub hx hb dX5_area_62 ?_
      refine va_calll (va_runV (As := [.int so, .int no, .int (ea - we)]) (rest := []) ⟨hx, hb, hml, hown, hts⟩ (c_X5_areaOf l D cI cZ cJ cD qg qgw qgh qgt br jC jR nf qgx qgy qgz qgu (n_X5_may_qg_11 (if (s_X5_isLatitude so) = 0 then 0 else (if (s_X5_isLatitude no) = 0 then 0 else (if no < so then 0 else (if we < (-180) then 0 else (if 180 < ea then 0 else (if ea < we then 0 else 1))))))) fw fh so no (ea - we) (z_lat (z_n1 c24)).1 (z_i2 (z_n1 (z_n2 (z_n2 c24)))) (z_lat (z_n1 (z_n2 c24))).2) (cwV 3 hts gX5_area_X5_areaOf rfl rfl rfl (by decide +kernel) ⟨Nat.le_of_ble_eq_true rfl, Nat.le_of_ble_eq_true rfl⟩) ⟨zblind, va_recv hK hP (ci := 5) (q0 := 0) rfl rfl, (fun U hU hW => ⟨rfl, by rw [hU]; exact hP.sub (ws' := [(qg, .inr (5, [.ref qgw, .ref qgh, .ref qgt, .int br, .int jC, .int jR, .int nf, .ref qgx, .ref qgy, .ref qgz, .ref qgu, .int (n_X5_may_qg_11 (if (s_X5_isLatitude so) = 0 then 0 else (if (s_X5_isLatitude no) = 0 then 0 else (if no < so then 0 else (if we < (-180) then 0 else (if 180 < ea then 0 else (if ea < we then 0 else 1)))))))])), (qgw, .inl (cI, 10, .inl fw)), (qgh, .inl (cI, 10, .inl fh))]) [0, 1, 2] rfl, va_K.moved hW.alike hK⟩)⟩ rfl rfl hl.1 rfl (lv_room (Nat.le_of_ble_eq_true rfl)) dX5_area_63 ⟨Nat.le_of_ble_eq_true rfl, Nat.le_of_ble_eq_true rfl⟩) hS (fun q _ h => h.elim) (fun q h => h.elim) (fun r25 u t H locs ht hvm hw hB hz1 hk1 hS => ?_)
      rw [hw]
      have hP := zk hP hk1
      refine lv_goto (tgt := 70) hx hb dX5_area_66 (by decide) ?_
      exact K21 _ (if_neg c24).symm _ _ hP hD hS _ (lv_sub hl [0, 1, 2, 3, 4, 5] rfl)
  refine lv_if_eq (tgt := 44) hx hb dX5_area_4 (by decide) (fun c26 => ?_) (fun c26 => ?_)
  · refine lv_iconst (v := 0) hx hb dX5_area_44 (by decide) ?_
    exact K18 _ (if_pos c26).symm _ _ hP hD hS _ (lv_sub hl [0, 1, 2, 3, 4] rfl)
  · refine lv_iload_n hx hb dX5_area_7 rfl (lv_at hl 2 rfl) ?_
    refine va_calli (va_runS (As := [.int no]) (rest := []) ⟨hx, hb, hml, hown, hts⟩ (c_X5_isLatitude l D cI cZ cJ cD no ) (va_cwS 1 hts gX5_area_X5_isLatitude rfl rfl rfl (by decide +kernel) ⟨Nat.le_of_ble_eq_true rfl, Nat.le_of_ble_eq_true rfl⟩) ⟨zblind, (fun U hU hW => ⟨rfl, by rw [hU]; exact hP.sub (ws' := []) [] rfl, va_K.moved hW.alike hK⟩)⟩ rfl rfl hl.1 rfl (lv_room (Nat.le_of_ble_eq_true rfl)) dX5_area_8 ⟨Nat.le_of_ble_eq_true rfl, Nat.le_of_ble_eq_true rfl⟩) hS (fun q _ h => h.elim) (fun q h => h.elim) (fun r27 u t H locs ht hvm hw hB hz1 hk1 hS => ?_)
    rw [hw]
    have hP := zk hP hk1
    refine lv_if_eq (tgt := 44) hx hb dX5_area_11 (by decide) (fun c28 => ?_) (fun c28 => ?_)
    · refine lv_iconst (v := 0) hx hb dX5_area_44 (by decide) ?_
      exact K18 _ ((if_neg c26).trans (if_pos c28)).symm _ _ hP hD hS _ (lv_sub hl [0, 1, 2, 3, 4] rfl)
    · refine lv_iload_n hx hb dX5_area_14 rfl (lv_at hl 1 rfl) ?_
      refine lv_iload_n hx hb dX5_area_15 rfl (lv_at hl 2 rfl) ?_
      refine lv_icmp_gt (tgt := 44) hx hb dX5_area_16 (by decide) (fun c29 => ?_) (fun c29 => ?_)
      · refine lv_iconst (v := 0) hx hb dX5_area_44 (by decide) ?_
        exact K18 _ ((if_neg c26).trans ((if_neg c28).trans (if_pos c29))).symm _ _ hP hD hS _ (lv_sub hl [0, 1, 2, 3, 4] rfl)
      · refine lv_iload_n hx hb dX5_area_19 rfl (lv_at hl 3 rfl) ?_
        refine lv_sipush (v := (-180)) hx hb dX5_area_20 (by decide) ?_
        refine lv_icmp_lt (tgt := 44) hx hb dX5_area_23 (by decide) (fun c30 => ?_) (fun c30 => ?_)
        · refine lv_iconst (v := 0) hx hb dX5_area_44 (by decide) ?_
          exact K18 _ ((if_neg c26).trans ((if_neg c28).trans ((if_neg c29).trans (if_pos c30)))).symm _ _ hP hD hS _ (lv_sub hl [0, 1, 2, 3, 4] rfl)
        · refine lv_iload hx hb dX5_area_26 (lv_at hl 4 rfl) ?_
          refine lv_sipush (v := 180) hx hb dX5_area_28 (by decide) ?_
          refine lv_icmp_gt (tgt := 44) hx hb dX5_area_31 (by decide) (fun c31 => ?_) (fun c31 => ?_)
          · refine lv_iconst (v := 0) hx hb dX5_area_44 (by decide) ?_
            exact K18 _ ((if_neg c26).trans ((if_neg c28).trans ((if_neg c29).trans ((if_neg c30).trans (if_pos c31))))).symm _ _ hP hD hS _ (lv_sub hl [0, 1, 2, 3, 4] rfl)
          · refine lv_iload_n hx hb dX5_area_34 rfl (lv_at hl 3 rfl) ?_
            refine lv_iload hx hb dX5_area_35 (lv_at hl 4 rfl) ?_
            refine lv_icmp_gt (tgt := 44) hx hb dX5_area_37 (by decide) (fun c32 => ?_) (fun c32 => ?_)
            · refine lv_iconst (v := 0) hx hb dX5_area_44 (by decide) ?_
              exact K18 _ ((if_neg c26).trans ((if_neg c28).trans ((if_neg c29).trans ((if_neg c30).trans ((if_neg c31).trans (if_pos c32)))))).symm _ _ hP hD hS _ (lv_sub hl [0, 1, 2, 3, 4] rfl)
            · refine lv_iconst (v := 1) hx hb dX5_area_40 (by decide) ?_
              refine lv_goto (tgt := 45) hx hb dX5_area_41 (by decide) ?_
              exact K18 _ ((if_neg c26).trans ((if_neg c28).trans ((if_neg c29).trans ((if_neg c30).trans ((if_neg c31).trans (if_neg c32)))))).symm _ _ hP hD hS _ (lv_sub hl [0, 1, 2, 3, 4] rfl)
def s_X5_areaByCells (fw : Nat → Int32) (fh : Nat → Int32) (so : Int32) (no : Int32) (we : Int32) (ea : Int32) : Int64 := s_X5_area fw fh so no we ea
def n_X5_areaByCells_qg_11 (so : Int32) (no : Int32) (we : Int32) (ea : Int32) : Int32 := n_X5_area_qg_11 so no we ea
abbrev rm_X5_areaByCells : Room := { frames := 3, cells := 0, slots := 0, locals := 76 }
abbrev Qc_X5_areaByCells (D : va_G) (cI cZ cJ cD : ClassId) (qg : Nat) (qgw : Nat) (qgh : Nat) (qgt : Nat) (br : Int32) (jC : Int32) (jR : Int32) (nf : Int32) (qgx : Nat) (qgy : Nat) (qgz : Nat) (qgu : Nat) (th : Int32) (fw : Nat → Int32) (fh : Nat → Int32) (so : Int32) (no : Int32) (we : Int32) (ea : Int32) (A : Nat → Prop) : Array Value → State → Outcome → State → Prop := va_Ql (fun (r : Int64) (_ : Unit) => r = s_X5_areaByCells fw fh so no we ea) (zPost D cI cZ cJ cD A [(qg, .inr (5, [.ref qgw, .ref qgh, .ref qgt, .int br, .int jC, .int jR, .int nf, .ref qgx, .ref qgy, .ref qgz, .ref qgu, .int (n_X5_areaByCells_qg_11 so no we ea)])), (qgw, .inl (cI, 10, .inl fw)), (qgh, .inl (cI, 10, .inl fh))]) A
set_option maxHeartbeats 4000000 in
set_option maxRecDepth 100000 in
theorem c_X5_areaByCells (l : Launch) (D : va_G) (cI cZ cJ cD : ClassId) (qg : Nat) (qgw : Nat) (qgh : Nat) (qgt : Nat) (br : Int32) (jC : Int32) (jR : Int32) (nf : Int32) (qgx : Nat) (qgy : Nat) (qgz : Nat) (qgu : Nat) (th : Int32) (fw : Nat → Int32) (fh : Nat → Int32) (so : Int32) (no : Int32) (we : Int32) (ea : Int32) (sz : Nat)  : Met l yX5_areaByCells wsX5_areaByCells rm_X5_areaByCells (va_Pc [.ref qg, .int so, .int no, .int we, .int ea] (zPreW D cI cZ cJ cD [(qg, .inr (5, [.ref qgw, .ref qgh, .ref qgt, .int br, .int jC, .int jR, .int nf, .ref qgx, .ref qgy, .ref qgz, .ref qgu, .int th])), (qgw, .inl (cI, 10, .inl fw)), (qgh, .inl (cI, 10, .inl fh))] sz)) (Qc_X5_areaByCells D cI cZ cJ cD qg qgw qgh qgt br jC jR nf qgx qgy qgz qgu th fw fh so no we ea (va_A [(qg, .inr (5, [.ref qgw, .ref qgh, .ref qgt, .int br, .int jC, .int jR, .int nf, .ref qgx, .ref qgy, .ref qgz, .ref qgu, .int th])), (qgw, .inl (cI, 10, .inl fw)), (qgh, .inl (cI, 10, .inl fh))] sz)) 0 0 (va_A [(qg, .inr (5, [.ref qgw, .ref qgh, .ref qgt, .int br, .int jC, .int jR, .int nf, .ref qgx, .ref qgy, .ref qgz, .ref qgu, .int th])), (qgw, .inl (cI, 10, .inl fw)), (qgh, .inl (cI, 10, .inl fh))] sz) := by
  refine Met.ofW (cc := cX5_areaByCells) (maxL := 5) (ret := (some .long)) (by decide) rfl ?_
  intro p e s m args below meth c s₁ B hml hv
  obtain ⟨rfl, hsz, hP, hK, hD0⟩ := hv
  have hx := B.exec
  have hb := B.bytes
  have hr := B.returns
  have hts := atoms_spec (ws := wsX5_areaByCells) B.pre
  have hown : s.vm.findClass RX5 = some m.cls := findClass_of_methodNamed B.named
  have hlocks := B.notSynchronized
  subst hsz
  have hD := hD0.self (sz := s.heap.size)
  generalize hAe : va_A [(qg, .inr (5, [.ref qgw, .ref qgh, .ref qgt, .int br, .int jC, .int jR, .int nf, .ref qgx, .ref qgy, .ref qgz, .ref qgu, .int th])), (qgw, .inl (cI, 10, .inl fw)), (qgh, .inl (cI, 10, .inl fh))] s.heap.size = A at hD ⊢
  have hA : ∀ q : Nat, s.heap.size ≤ q → A q := fun q h => by rw [← hAe]; exact Or.inr h
  have hS : va_S A s.heap s.heap [] := va_S.rf
  have hl := lv_entry ([.ref qg, .int so, .int no, .int we, .int ea]) (n := 5) (Nat.le_of_ble_eq_true rfl)
  rw [lg_entry_eq]
  generalize (lg_sl ([.ref qg, .int so, .int no, .int we, .int ea]) ++ List.replicate (5 - (lg_sl ([.ref qg, .int so, .int no, .int we, .int ea])).length) Slot.unset).toArray = ls at hl ⊢
  have hl : lv_has ls 5 [(0, .ref qg), (1, .int so), (2, .int no), (3, .int we), (4, .int ea)] := hl
  have hP : va_P D vwCl [(qg, .inr (5, [.ref qgw, .ref qgh, .ref qgt, .int br, .int jC, .int jR, .int nf, .ref qgx, .ref qgy, .ref qgz, .ref qgu, .int th])), (qgw, .inl (cI, 10, .inl fw)), (qgh, .inl (cI, 10, .inl fh))] s.heap := hP
  have hP := hP
  refine lv_aload_n hx hb dX5_areaByCells_0 rfl (lv_at hl 0 rfl) ?_
  refine lv_iload_n hx hb dX5_areaByCells_1 rfl (lv_at hl 1 rfl) ?_
  refine lv_iload_n hx hb dX5_areaByCells_2 rfl (lv_at hl 2 rfl) ?_
  refine lv_iload_n hx hb dX5_areaByCells_3 rfl (lv_at hl 3 rfl) ?_
  refine lv_iload hx hb dX5_areaByCells_4 (lv_at hl 4 rfl) ?_
  have hPc := hP.sub (ws' := [(qg, .inr (5, [.ref qgw, .ref qgh, .ref qgt, .int br, .int jC, .int jR, .int nf, .ref qgx, .ref qgy, .ref qgz, .ref qgu, .int th])), (qgw, .inl (cI, 10, .inl fw)), (qgh, .inl (cI, 10, .inl fh))]) [0, 1, 2] rfl
  have hDc := hD.sub (ws' := [(qg, .inr (5, [.ref qgw, .ref qgh, .ref qgt, .int br, .int jC, .int jR, .int nf, .ref qgx, .ref qgy, .ref qgz, .ref qgu, .int th])), (qgw, .inl (cI, 10, .inl fw)), (qgh, .inl (cI, 10, .inl fh))]) [0, 1, 2] (by decide) rfl
  have hFc := va_free (wc := [(qg, .inr (5, [.ref qgw, .ref qgh, .ref qgt, .int br, .int jC, .int jR, .int nf, .ref qgx, .ref qgy, .ref qgz, .ref qgu, .int th])), (qgw, .inl (cI, 10, .inl fw)), (qgh, .inl (cI, 10, .inl fh))]) hD hS hA [0, 1, 2] rfl
  refine va_calll (va_runV (As := [.int so, .int no, .int we, .int ea]) (rest := []) ⟨hx, hb, hml, hown, hts⟩ (c_X5_area l D cI cZ cJ cD qg qgw qgh qgt br jC jR nf qgx qgy qgz qgu th fw fh so no we ea s.heap.size ) (cwV 4 hts gX5_areaByCells_X5_area rfl rfl rfl (by decide +kernel) ⟨Nat.le_of_ble_eq_true rfl, Nat.le_of_ble_eq_true rfl⟩) ⟨zblindW, va_recv hK hP (ci := 5) (q0 := 0) rfl rfl, (fun U hU hW => ⟨rfl, by rw [hU], by rw [hU]; exact hPc, va_K.moved hW.alike hK, hDc.weaken (fun _ _ _ _ => trivial)⟩)⟩ rfl rfl hl.1 rfl (lv_room (Nat.le_of_ble_eq_true rfl)) dX5_areaByCells_6 ⟨Nat.le_of_ble_eq_true rfl, Nat.le_of_ble_eq_true rfl⟩) hS (fun q _ h => hFc q h) hFc (fun r2 u t H locs ht hvm hw hB hz1 hk1 hS => ?_)
  rw [hw]
  obtain ⟨hP1, hK1, hD1⟩ := hB
  rw [ht] at hP1
  obtain ⟨hP, hD⟩ := va_join (wr := []) (w1 := [(qg, .inr (5, [.ref qgw, .ref qgh, .ref qgt, .int br, .int jC, .int jR, .int nf, .ref qgx, .ref qgy, .ref qgz, .ref qgu, .int (n_X5_area_qg_11 so no we ea)])), (qgw, .inl (cI, 10, .inl fw)), (qgh, .inl (cI, 10, .inl fh))]) hP hD [0, 1, 2] [] rfl rfl (by decide) (by decide) hk1 hFc hP1 hD1
  have hP := hP.sub (ws' := [(qg, .inr (5, [.ref qgw, .ref qgh, .ref qgt, .int br, .int jC, .int jR, .int nf, .ref qgx, .ref qgy, .ref qgz, .ref qgu, .int (n_X5_area_qg_11 so no we ea)])), (qgw, .inl (cI, 10, .inl fw)), (qgh, .inl (cI, 10, .inl fh))]) [0, 1, 2] rfl
  have hD := hD.sub (ws' := [(qg, .inr (5, [.ref qgw, .ref qgh, .ref qgt, .int br, .int jC, .int jR, .int nf, .ref qgx, .ref qgy, .ref qgz, .ref qgu, .int (n_X5_area_qg_11 so no we ea)])), (qgw, .inl (cI, 10, .inl fw)), (qgh, .inl (cI, 10, .inl fh))]) [0, 1, 2] (by decide) rfl
  have e3 : s_X5_areaByCells fw fh so no we ea = s_X5_area fw fh so no we ea := rfl
  have e4 : n_X5_areaByCells_qg_11 so no we ea = n_X5_area_qg_11 so no we ea := rfl
  exact W.lret (v := (s_X5_area fw fh so no we ea)) hx hb hr (fun t ht hW => ⟨⟨_, (), rfl, e3.symm, ⟨(by rw [e4]; rw [ht]; exact hP), va_K.moved hW.alike hK, (by rw [e4]; exact hD)⟩⟩, hS.F ht⟩) hS.2.2 dX5_areaByCells_9
def s_X5_bandOf (fw : Nat → Int32) (fh : Nat → Int32) (bd : Int32) : Int64 := s_X5_areaOf fw fh (10 * bd) ((10 * bd) + 10) 360
abbrev rm_X5_bandOf : Room := { frames := 2, cells := 0, slots := 0, locals := 51 }
abbrev Qc_X5_bandOf (D : va_G) (cI cZ cJ cD : ClassId) (qg : Nat) (qgw : Nat) (qgh : Nat) (qgt : Nat) (br : Int32) (jC : Int32) (jR : Int32) (nf : Int32) (qgx : Nat) (qgy : Nat) (qgz : Nat) (qgu : Nat) (th : Int32) (fw : Nat → Int32) (fh : Nat → Int32) (bd : Int32) : Array Value → State → Outcome → State → Prop := va_Ql (fun (r : Int64) (_ : Unit) => r = s_X5_bandOf fw fh bd) (fun _ _ => True) (fun _ : Nat => False)
set_option maxHeartbeats 4000000 in
set_option maxRecDepth 100000 in
theorem c_X5_bandOf (l : Launch) (D : va_G) (cI cZ cJ cD : ClassId) (qg : Nat) (qgw : Nat) (qgh : Nat) (qgt : Nat) (br : Int32) (jC : Int32) (jR : Int32) (nf : Int32) (qgx : Nat) (qgy : Nat) (qgz : Nat) (qgu : Nat) (th : Int32) (fw : Nat → Int32) (fh : Nat → Int32) (bd : Int32) (hbd : vp_in bd 9) : Met l yX5_bandOf wsX5_bandOf rm_X5_bandOf (va_Pc [.ref qg, .int bd] (zPre D cI cZ cJ cD [(qg, .inr (5, [.ref qgw, .ref qgh, .ref qgt, .int br, .int jC, .int jR, .int nf, .ref qgx, .ref qgy, .ref qgz, .ref qgu, .int th])), (qgw, .inl (cI, 10, .inl fw)), (qgh, .inl (cI, 10, .inl fh))])) (Qc_X5_bandOf D cI cZ cJ cD qg qgw qgh qgt br jC jR nf qgx qgy qgz qgu th fw fh bd ) 0 0 (fun _ : Nat => False) := by
  refine Met.ofW (cc := cX5_bandOf) (maxL := 2) (ret := (some .long)) (by decide) rfl ?_
  intro p e s m args below meth c s₁ B hml hv
  obtain ⟨rfl, hP, hK⟩ := hv
  have hx := B.exec
  have hb := B.bytes
  have hr := B.returns
  have hts := atoms_spec (ws := wsX5_bandOf) B.pre
  have hown : s.vm.findClass RX5 = some m.cls := findClass_of_methodNamed B.named
  have hlocks := B.notSynchronized
  have hS : va_S (fun _ : Nat => False) s.heap s.heap [] := va_S.rf
  have hl := lv_entry ([.ref qg, .int bd]) (n := 2) (Nat.le_of_ble_eq_true rfl)
  rw [lg_entry_eq]
  generalize (lg_sl ([.ref qg, .int bd]) ++ List.replicate (2 - (lg_sl ([.ref qg, .int bd])).length) Slot.unset).toArray = ls at hl ⊢
  have hl : lv_has ls 2 [(0, .ref qg), (1, .int bd)] := hl
  have hP : va_P D vwCl [(qg, .inr (5, [.ref qgw, .ref qgh, .ref qgt, .int br, .int jC, .int jR, .int nf, .ref qgx, .ref qgy, .ref qgz, .ref qgu, .int th])), (qgw, .inl (cI, 10, .inl fw)), (qgh, .inl (cI, 10, .inl fh))] s.heap := hP
  have hP := hP
  refine lv_aload_n hx hb dX5_bandOf_0 rfl (lv_at hl 0 rfl) ?_
  refine lv_bipush (v := 10) hx hb dX5_bandOf_1 (by decide) ?_
  refine lv_iload_n hx hb dX5_bandOf_3 rfl (lv_at hl 1 rfl) ?_
  refine lv_imul hx hb dX5_bandOf_4 ?_
  refine lv_bipush (v := 10) hx hb dX5_bandOf_5 (by decide) ?_
  refine lv_iload_n hx hb dX5_bandOf_7 rfl (lv_at hl 1 rfl) ?_
  refine lv_imul hx hb dX5_bandOf_8 ?_
  refine lv_bipush (v := 10) hx hb dX5_bandOf_9 (by decide) ?_
  refine lv_iadd hx hb dX5_bandOf_11 ?_
  refine lv_sipush (v := 360) hx hb dX5_bandOf_12 (by decide) ?_
  refine va_calll (va_runV (As := [.int (10 * bd), .int ((10 * bd) + 10), .int 360]) (rest := []) ⟨hx, hb, hml, hown, hts⟩ (c_X5_areaOf l D cI cZ cJ cD qg qgw qgh qgt br jC jR nf qgx qgy qgz qgu th fw fh (10 * bd) ((10 * bd) + 10) 360 (z_b1 hbd) (z_b2 hbd) (z_b3 hbd)) (cwV 3 hts gX5_bandOf_X5_areaOf rfl rfl rfl (by decide +kernel) ⟨Nat.le_of_ble_eq_true rfl, Nat.le_of_ble_eq_true rfl⟩) ⟨zblind, va_recv hK hP (ci := 5) (q0 := 0) rfl rfl, (fun U hU hW => ⟨rfl, by rw [hU]; exact hP.sub (ws' := [(qg, .inr (5, [.ref qgw, .ref qgh, .ref qgt, .int br, .int jC, .int jR, .int nf, .ref qgx, .ref qgy, .ref qgz, .ref qgu, .int th])), (qgw, .inl (cI, 10, .inl fw)), (qgh, .inl (cI, 10, .inl fh))]) [0, 1, 2] rfl, va_K.moved hW.alike hK⟩)⟩ rfl rfl hl.1 rfl (lv_room (Nat.le_of_ble_eq_true rfl)) dX5_bandOf_15 ⟨Nat.le_of_ble_eq_true rfl, Nat.le_of_ble_eq_true rfl⟩) hS (fun q _ h => h.elim) (fun q h => h.elim) (fun r2 u t H locs ht hvm hw hB hz1 hk1 hS => ?_)
  rw [hw]
  have hP := zk hP hk1
  have e3 : s_X5_bandOf fw fh bd = s_X5_areaOf fw fh (10 * bd) ((10 * bd) + 10) 360 := rfl
  exact W.lret (v := (s_X5_areaOf fw fh (10 * bd) ((10 * bd) + 10) 360)) hx hb hr (fun t ht hW => ⟨⟨_, (), rfl, e3.symm, trivial⟩, hS.F ht⟩) hS.2.2 dX5_bandOf_18
def s_X5_keepsAreas (fw : Nat → Int32) (fh : Nat → Int32) (ft : Nat → Int32) : Int32 := (if (∀ i : Nat, i < 8 → ∀ j : Nat, j < i + 1 → lg_cmp ((s_X5_bandOf fw fh (nI (i + 1))) * (ft (nI j).toNatClampNeg).toInt64) ((s_X5_bandOf fw fh (nI j)) * (ft (nI (i + 1)).toNatClampNeg).toInt64) = 0) then 1 else 0)
def n_X5_keepsAreas_qg_11  : Int32 := 0
abbrev rm_X5_keepsAreas : Room := { frames := 3, cells := 0, slots := 0, locals := 72 }
abbrev Qc_X5_keepsAreas (D : va_G) (cI cZ cJ cD : ClassId) (qg : Nat) (qgw : Nat) (qgh : Nat) (qgt : Nat) (br : Int32) (jC : Int32) (jR : Int32) (nf : Int32) (qgx : Nat) (qgy : Nat) (qgz : Nat) (qgu : Nat) (th : Int32) (fw : Nat → Int32) (fh : Nat → Int32) (ft : Nat → Int32) (A : Nat → Prop) : Array Value → State → Outcome → State → Prop := va_Qi (fun (r : Int32) (_ : Unit) => r = s_X5_keepsAreas fw fh ft) (zPost D cI cZ cJ cD A [(qg, .inr (5, [.ref qgw, .ref qgh, .ref qgt, .int br, .int jC, .int jR, .int nf, .ref qgx, .ref qgy, .ref qgz, .ref qgu, .int n_X5_keepsAreas_qg_11])), (qgw, .inl (cI, 10, .inl fw)), (qgh, .inl (cI, 10, .inl fh)), (qgt, .inl (cI, 9, .inl ft))]) A
set_option maxHeartbeats 4000000 in
set_option maxRecDepth 100000 in
theorem c_X5_keepsAreas (l : Launch) (D : va_G) (cI cZ cJ cD : ClassId) (qg : Nat) (qgw : Nat) (qgh : Nat) (qgt : Nat) (br : Int32) (jC : Int32) (jR : Int32) (nf : Int32) (qgx : Nat) (qgy : Nat) (qgz : Nat) (qgu : Nat) (th : Int32) (fw : Nat → Int32) (fh : Nat → Int32) (ft : Nat → Int32) (sz : Nat)  : Met l yX5_keepsAreas wsX5_keepsAreas rm_X5_keepsAreas (va_Pc [.ref qg] (zPreW D cI cZ cJ cD [(qg, .inr (5, [.ref qgw, .ref qgh, .ref qgt, .int br, .int jC, .int jR, .int nf, .ref qgx, .ref qgy, .ref qgz, .ref qgu, .int th])), (qgw, .inl (cI, 10, .inl fw)), (qgh, .inl (cI, 10, .inl fh)), (qgt, .inl (cI, 9, .inl ft))] sz)) (Qc_X5_keepsAreas D cI cZ cJ cD qg qgw qgh qgt br jC jR nf qgx qgy qgz qgu th fw fh ft (va_A [(qg, .inr (5, [.ref qgw, .ref qgh, .ref qgt, .int br, .int jC, .int jR, .int nf, .ref qgx, .ref qgy, .ref qgz, .ref qgu, .int th])), (qgw, .inl (cI, 10, .inl fw)), (qgh, .inl (cI, 10, .inl fh)), (qgt, .inl (cI, 9, .inl ft))] sz)) 0 0 (va_A [(qg, .inr (5, [.ref qgw, .ref qgh, .ref qgt, .int br, .int jC, .int jR, .int nf, .ref qgx, .ref qgy, .ref qgz, .ref qgu, .int th])), (qgw, .inl (cI, 10, .inl fw)), (qgh, .inl (cI, 10, .inl fh)), (qgt, .inl (cI, 9, .inl ft))] sz) := by
  refine Met.ofW (cc := cX5_keepsAreas) (maxL := 3) (ret := (some .boolean)) (by decide) rfl ?_
  intro p e s m args below meth c s₁ B hml hv
  obtain ⟨rfl, hsz, hP, hK, hD0⟩ := hv
  have hx := B.exec
  have hb := B.bytes
  have hr := B.returns
  have hts := atoms_spec (ws := wsX5_keepsAreas) B.pre
  have hown : s.vm.findClass RX5 = some m.cls := findClass_of_methodNamed B.named
  have hlocks := B.notSynchronized
  subst hsz
  have hD := hD0.self (sz := s.heap.size)
  generalize hAe : va_A [(qg, .inr (5, [.ref qgw, .ref qgh, .ref qgt, .int br, .int jC, .int jR, .int nf, .ref qgx, .ref qgy, .ref qgz, .ref qgu, .int th])), (qgw, .inl (cI, 10, .inl fw)), (qgh, .inl (cI, 10, .inl fh)), (qgt, .inl (cI, 9, .inl ft))] s.heap.size = A at hD ⊢
  have hA : ∀ q : Nat, s.heap.size ≤ q → A q := fun q h => by rw [← hAe]; exact Or.inr h
  have hS : va_S A s.heap s.heap [] := va_S.rf
  have hl := lv_entry ([.ref qg]) (n := 3) (Nat.le_of_ble_eq_true rfl)
  rw [lg_entry_eq]
  generalize (lg_sl ([.ref qg]) ++ List.replicate (3 - (lg_sl ([.ref qg])).length) Slot.unset).toArray = ls at hl ⊢
  have hl : lv_has ls 3 [(0, .ref qg)] := hl
  have hP : va_P D vwCl [(qg, .inr (5, [.ref qgw, .ref qgh, .ref qgt, .int br, .int jC, .int jR, .int nf, .ref qgx, .ref qgy, .ref qgz, .ref qgu, .int th])), (qgw, .inl (cI, 10, .inl fw)), (qgh, .inl (cI, 10, .inl fh)), (qgt, .inl (cI, 9, .inl ft))] s.heap := hP
  have hP := hP
  refine lv_aload_n hx hb dX5_keepsAreas_0 rfl (lv_at hl 0 rfl) ?_
  refine lv_iconst (v := 0) hx hb dX5_keepsAreas_1 (by decide) ?_
  refine va_put (D := D) (ci := 5) (v := .int 0) (ty := .int) (C := RX5) (T := TX5) (N := 12) hx hb hts (fun w h => List.mem_cons_of_mem _ (List.mem_append_right _ h)) tyX5 tyX5_ok nmX5 hown hK hP hD hS 0 rfl rfl 11 (by decide) (hts (.fieldLink RX5 45 "AtlasFolderModel" "thrown" "I") (List.mem_cons_of_mem _ (List.mem_append_left _ (List.mem_of_getElem? (i := 0) rfl)))) (fun _ h9 => h9) rfl (by decide +kernel) rfl rfl (Nat.le_of_ble_eq_true rfl) dX5_keepsAreas_2 (fun H locs hP hD hS => ?_)
  have hP : va_P D vwCl [(qg, .inr (5, [.ref qgw, .ref qgh, .ref qgt, .int br, .int jC, .int jR, .int nf, .ref qgx, .ref qgy, .ref qgz, .ref qgu, .int 0])), (qgw, .inl (cI, 10, .inl fw)), (qgh, .inl (cI, 10, .inl fh)), (qgt, .inl (cI, 9, .inl ft))] H := hP
  have hD : va_D A [(qg, .inr (5, [.ref qgw, .ref qgh, .ref qgt, .int br, .int jC, .int jR, .int nf, .ref qgx, .ref qgy, .ref qgz, .ref qgu, .int 0])), (qgw, .inl (cI, 10, .inl fw)), (qgh, .inl (cI, 10, .inl fh)), (qgt, .inl (cI, 9, .inl ft))] := hD
  refine lv_iconst (v := 1) hx hb dX5_keepsAreas_5 (by decide) ?_
  refine lv_istore_n (lv' := [(1, .int 1), (0, .ref qg)]) hx hb dX5_keepsAreas_6 rfl hl (by decide) rfl (fun ls hl => ?_)
  have X1 : (∀ i : Nat, i < 8 → ∀ j : Nat, j < i + 1 → lg_cmp ((s_X5_bandOf fw fh (nI (i + 1))) * (ft (nI j).toNatClampNeg).toInt64) ((s_X5_bandOf fw fh (nI j)) * (ft (nI (i + 1)).toNatClampNeg).toInt64) = 0) → ∀ (H : Heap) (locs : List Loc), va_P D vwCl [(qg, .inr (5, [.ref qgw, .ref qgh, .ref qgt, .int br, .int jC, .int jR, .int nf, .ref qgx, .ref qgy, .ref qgz, .ref qgu, .int 0])), (qgw, .inl (cI, 10, .inl fw)), (qgh, .inl (cI, 10, .inl fh)), (qgt, .inl (cI, 9, .inl ft))] H → va_D A [(qg, .inr (5, [.ref qgw, .ref qgh, .ref qgt, .int br, .int jC, .int jR, .int nf, .ref qgx, .ref qgy, .ref qgz, .ref qgu, .int 0])), (qgw, .inl (cI, 10, .inl fw)), (qgh, .inl (cI, 10, .inl fh)), (qgt, .inl (cI, 9, .inl ft))] → va_S A s.heap H locs → ∀ (ls : Array Slot), lv_has ls 3 [(0, .ref qg)] → W p l e (headSpec wsX5_keepsAreas rm_X5_keepsAreas).room s m ([.ref qg]).toArray below meth c H locs 0 0 (MQ below (Qc_X5_keepsAreas D cI cZ cJ cD qg qgw qgh qgt br jC jR nf qgx qgy qgz qgu th fw fh ft A) ([.ref qg]).toArray s 0 0 A) (F0 m 64 ls []) := by
    intro hal8 H locs hP hD hS ls hl
    refine lv_iconst (v := 1) hx hb dX5_keepsAreas_64 (by decide) ?_
    have e2 : n_X5_keepsAreas_qg_11 = 0 := rfl
    exact W.zret (v := 1) hx hb hr (z_b (by (repeat' split) <;> simp)) (fun t ht hW => ⟨⟨_, (), rfl, (if_pos hal8).symm, ⟨(by rw [e2]; rw [ht]; exact hP), va_K.moved hW.alike hK, (by rw [e2]; exact hD)⟩⟩, hS.F ht⟩) hS.2.2 dX5_keepsAreas_65
  have L1 : ∀ (n1 : Nat) (k : Nat), (k ≤ 8) → (∀ i : Nat, i < k → ∀ j : Nat, j < i + 1 → lg_cmp ((s_X5_bandOf fw fh (nI (i + 1))) * (ft (nI j).toNatClampNeg).toInt64) ((s_X5_bandOf fw fh (nI j)) * (ft (nI (i + 1)).toNatClampNeg).toInt64) = 0) → (8 < k + n1) → ∀ (H : Heap) (locs : List Loc), va_P D vwCl [(qg, .inr (5, [.ref qgw, .ref qgh, .ref qgt, .int br, .int jC, .int jR, .int nf, .ref qgx, .ref qgy, .ref qgz, .ref qgu, .int 0])), (qgw, .inl (cI, 10, .inl fw)), (qgh, .inl (cI, 10, .inl fh)), (qgt, .inl (cI, 9, .inl ft))] H → va_D A [(qg, .inr (5, [.ref qgw, .ref qgh, .ref qgt, .int br, .int jC, .int jR, .int nf, .ref qgx, .ref qgy, .ref qgz, .ref qgu, .int 0])), (qgw, .inl (cI, 10, .inl fw)), (qgh, .inl (cI, 10, .inl fh)), (qgt, .inl (cI, 9, .inl ft))] → va_S A s.heap H locs → ∀ (ls : Array Slot), lv_has ls 3 [(1, .int (nI (k + 1))), (0, .ref qg)] → W p l e (headSpec wsX5_keepsAreas rm_X5_keepsAreas).room s m ([.ref qg]).toArray below meth c H locs 0 0 (MQ below (Qc_X5_keepsAreas D cI cZ cJ cD qg qgw qgh qgt br jC jR nf qgx qgy qgz qgu th fw fh ft A) ([.ref qg]).toArray s 0 0 A) (F0 m 7 ls []) := by
    intro n1
    induction n1 with
    | zero =>
      intro k hk hall hf1
      exact absurd hf1 (by omega)
    | succ n1 ih1 =>
      intro k hk hall hf1 H locs hP hD hS ls hl
      refine lv_iload_n hx hb dX5_keepsAreas_7 rfl (lv_at hl 0 rfl) ?_
      refine lv_bipush (v := 9) hx hb dX5_keepsAreas_8 (by decide) ?_
      refine lv_icmp_ge (tgt := 64) hx hb dX5_keepsAreas_10 (by decide) (fun c3 => ?_) (fun c3 => ?_)
      · have hge0 : 9 = k + 1 := (z_ctr (n := 9) rfl (by omega) (by omega) c3).symm
        exact X1 (fun i hi => hall i (by omega)) _ _ hP hD hS _ (lv_sub hl [1] rfl)
      · refine lv_iconst (v := 0) hx hb dX5_keepsAreas_13 (by decide) ?_
        refine lv_istore_n (lv' := [(2, .int 0), (1, .int (nI (k + 1))), (0, .ref qg)]) hx hb dX5_keepsAreas_14 rfl hl (by decide) rfl (fun ls hl => ?_)
        have L4 : ∀ (n4 : Nat) (j : Nat), (j ≤ k + 1) → (∀ i : Nat, i < j → lg_cmp ((s_X5_bandOf fw fh (nI (k + 1))) * (ft (nI i).toNatClampNeg).toInt64) ((s_X5_bandOf fw fh (nI i)) * (ft (nI (k + 1)).toNatClampNeg).toInt64) = 0) → (k + 1 < j + n4) → ∀ (H : Heap) (locs : List Loc), va_P D vwCl [(qg, .inr (5, [.ref qgw, .ref qgh, .ref qgt, .int br, .int jC, .int jR, .int nf, .ref qgx, .ref qgy, .ref qgz, .ref qgu, .int 0])), (qgw, .inl (cI, 10, .inl fw)), (qgh, .inl (cI, 10, .inl fh)), (qgt, .inl (cI, 9, .inl ft))] H → va_D A [(qg, .inr (5, [.ref qgw, .ref qgh, .ref qgt, .int br, .int jC, .int jR, .int nf, .ref qgx, .ref qgy, .ref qgz, .ref qgu, .int 0])), (qgw, .inl (cI, 10, .inl fw)), (qgh, .inl (cI, 10, .inl fh)), (qgt, .inl (cI, 9, .inl ft))] → va_S A s.heap H locs → ∀ (ls : Array Slot), lv_has ls 3 [(2, .int (nI j)), (1, .int (nI (k + 1))), (0, .ref qg)] → W p l e (headSpec wsX5_keepsAreas rm_X5_keepsAreas).room s m ([.ref qg]).toArray below meth c H locs 0 0 (MQ below (Qc_X5_keepsAreas D cI cZ cJ cD qg qgw qgh qgt br jC jR nf qgx qgy qgz qgu th fw fh ft A) ([.ref qg]).toArray s 0 0 A) (F0 m 15 ls []) := by
          intro n4
          induction n4 with
          | zero =>
            intro j hj hjj hf4
            exact absurd hf4 (by omega)
          | succ n4 ih4 =>
            intro j hj hjj hf4 H locs hP hD hS ls hl
            refine lv_iload_n hx hb dX5_keepsAreas_15 rfl (lv_at hl 0 rfl) ?_
            refine lv_iload_n hx hb dX5_keepsAreas_16 rfl (lv_at hl 1 rfl) ?_
            refine lv_icmp_ge (tgt := 58) hx hb dX5_keepsAreas_17 (by decide) (fun c5 => ?_) (fun c5 => ?_)
            · refine lv_iinc (v := nI (k + 1 + 1)) (lv' := [(1, .int (nI (k + 1 + 1))), (2, .int (nI j)), (0, .ref qg)]) hx hb dX5_keepsAreas_58 hl (k := 1) rfl (nI_succ (k + 1)).symm (by decide) rfl (fun ls hl => ?_)
              refine lv_goto (tgt := 7) hx hb dX5_keepsAreas_61 (by decide) ?_
              have hk8 := (z_ctl (n := 9) rfl (by omega) c3)
              have hj9 : j = k + 1 := z_nge (by omega) hj c5
              subst hj9
              exact ih1 (k + 1) (by omega) (fun i hi => (Nat.lt_succ_iff_lt_or_eq.mp hi).elim (hall i) (fun e => e ▸ hjj)) (by omega) _ _ hP hD hS _ (lv_sub hl [0, 2] rfl)
            · refine lv_aload_n hx hb dX5_keepsAreas_20 rfl (lv_at hl 2 rfl) ?_
              refine lv_iload_n hx hb dX5_keepsAreas_21 rfl (lv_at hl 1 rfl) ?_
              refine va_calll (va_runV (As := [.int (nI (k + 1))]) (rest := []) ⟨hx, hb, hml, hown, hts⟩ (c_X5_bandOf l D cI cZ cJ cD qg qgw qgh qgt br jC jR nf qgx qgy qgz qgu 0 fw fh (nI (k + 1)) (vp_in_nI (by have := (z_ctl (n := 9) rfl (by omega) c3); omega) (by omega))) (cwV 1 hts gX5_keepsAreas_X5_bandOf rfl rfl rfl (by decide +kernel) ⟨Nat.le_of_ble_eq_true rfl, Nat.le_of_ble_eq_true rfl⟩) ⟨zblind, va_recv hK hP (ci := 5) (q0 := 0) rfl rfl, (fun U hU hW => ⟨rfl, by rw [hU]; exact hP.sub (ws' := [(qg, .inr (5, [.ref qgw, .ref qgh, .ref qgt, .int br, .int jC, .int jR, .int nf, .ref qgx, .ref qgy, .ref qgz, .ref qgu, .int 0])), (qgw, .inl (cI, 10, .inl fw)), (qgh, .inl (cI, 10, .inl fh))]) [0, 1, 2] rfl, va_K.moved hW.alike hK⟩)⟩ rfl rfl hl.1 rfl (lv_room (Nat.le_of_ble_eq_true rfl)) dX5_keepsAreas_22 ⟨Nat.le_of_ble_eq_true rfl, Nat.le_of_ble_eq_true rfl⟩) hS (fun q _ h => h.elim) (fun q h => h.elim) (fun r6 u t H locs ht hvm hw hB hz1 hk1 hS => ?_)
              rw [hw]
              have hP := zk hP hk1
              refine lv_aload_n hx hb dX5_keepsAreas_25 rfl (lv_at hl 2 rfl) ?_
              refine va_get (D := D) (ci := 5) (v := .ref qgt) (C := RX5) (T := TX5) (N := 12) hx hb hts (fun w h => List.mem_cons_of_mem _ (List.mem_append_right _ h)) hown hK hP 0 rfl rfl 2 (by decide) (hts (.fieldLink RX5 16 "AtlasFolderModel" "truth" "[I") (List.mem_cons_of_mem _ (List.mem_append_left _ (List.mem_of_getElem? (i := 1) rfl)))) (fun _ h9 => h9) rfl dX5_keepsAreas_26 ?_
              refine lv_iload_n hx hb dX5_keepsAreas_29 rfl (lv_at hl 0 rfl) ?_
              refine va_iald hx hb hK hP 3 0 rfl rfl (vp_in_nI (by have := (z_ctl (n := 9) rfl (by omega) c3); have := (z_nlt (by omega) c5); omega) (by omega)) dX5_keepsAreas_30 ?_
              refine lv_i2l hx hb dX5_keepsAreas_31 rfl ?_
              refine lv_lmul hx hb dX5_keepsAreas_32 ?_
              refine lv_aload_n hx hb dX5_keepsAreas_33 rfl (lv_at hl 2 rfl) ?_
              refine lv_iload_n hx hb dX5_keepsAreas_34 rfl (lv_at hl 0 rfl) ?_
              refine va_calll (va_runV (As := [.int (nI j)]) (rest := [.long ((s_X5_bandOf fw fh (nI (k + 1))) * ((ft (nI j).toNatClampNeg).toInt64))]) ⟨hx, hb, hml, hown, hts⟩ (c_X5_bandOf l D cI cZ cJ cD qg qgw qgh qgt br jC jR nf qgx qgy qgz qgu 0 fw fh (nI j) (vp_in_nI (by have := (z_ctl (n := 9) rfl (by omega) c3); have := (z_nlt (by omega) c5); omega) (by omega))) (cwV 1 hts gX5_keepsAreas_X5_bandOf rfl rfl rfl (by decide +kernel) ⟨Nat.le_of_ble_eq_true rfl, Nat.le_of_ble_eq_true rfl⟩) ⟨zblind, va_recv hK hP (ci := 5) (q0 := 0) rfl rfl, (fun U hU hW => ⟨rfl, by rw [hU]; exact hP.sub (ws' := [(qg, .inr (5, [.ref qgw, .ref qgh, .ref qgt, .int br, .int jC, .int jR, .int nf, .ref qgx, .ref qgy, .ref qgz, .ref qgu, .int 0])), (qgw, .inl (cI, 10, .inl fw)), (qgh, .inl (cI, 10, .inl fh))]) [0, 1, 2] rfl, va_K.moved hW.alike hK⟩)⟩ rfl rfl hl.1 rfl (lv_room (Nat.le_of_ble_eq_true rfl)) dX5_keepsAreas_35 ⟨Nat.le_of_ble_eq_true rfl, Nat.le_of_ble_eq_true rfl⟩) hS (fun q _ h => h.elim) (fun q h => h.elim) (fun r7 u t H locs ht hvm hw hB hz1 hk1 hS => ?_)
              rw [hw]
              have hP := zk hP hk1
              refine lv_aload_n hx hb dX5_keepsAreas_38 rfl (lv_at hl 2 rfl) ?_
              refine va_get (D := D) (ci := 5) (v := .ref qgt) (C := RX5) (T := TX5) (N := 12) hx hb hts (fun w h => List.mem_cons_of_mem _ (List.mem_append_right _ h)) hown hK hP 0 rfl rfl 2 (by decide) (hts (.fieldLink RX5 16 "AtlasFolderModel" "truth" "[I") (List.mem_cons_of_mem _ (List.mem_append_left _ (List.mem_of_getElem? (i := 1) rfl)))) (fun _ h9 => h9) rfl dX5_keepsAreas_39 ?_
              refine lv_iload_n hx hb dX5_keepsAreas_42 rfl (lv_at hl 1 rfl) ?_
              refine va_iald hx hb hK hP 3 0 rfl rfl (vp_in_nI (by have := (z_ctl (n := 9) rfl (by omega) c3); omega) (by omega)) dX5_keepsAreas_43 ?_
              refine lv_i2l hx hb dX5_keepsAreas_44 rfl ?_
              refine lv_lmul hx hb dX5_keepsAreas_45 ?_
              refine W.lcmp hx hb dX5_keepsAreas_46 ?_
              refine lv_if_eq (tgt := 52) hx hb dX5_keepsAreas_47 (by decide) (fun c8 => ?_) (fun c8 => ?_)
              · refine lv_iinc (v := nI (j + 1)) (lv' := [(2, .int (nI (j + 1))), (1, .int (nI (k + 1))), (0, .ref qg)]) hx hb dX5_keepsAreas_52 hl (k := 0) rfl (nI_succ j).symm (by decide) rfl (fun ls hl => ?_)
                refine lv_goto (tgt := 15) hx hb dX5_keepsAreas_55 (by decide) ?_
                have hk8 := (z_ctl (n := 9) rfl (by omega) c3)
                have hj8 := (z_nlt (by omega) c5)
                exact ih4 (j + 1) (by omega) (fun i hi => (Nat.lt_succ_iff_lt_or_eq.mp hi).elim (hjj i) (fun e => e ▸ c8)) (by omega) _ _ hP hD hS _ (lv_sub hl [0, 1, 2] rfl)
              · refine lv_iconst (v := 0) hx hb dX5_keepsAreas_50 (by decide) ?_
                have e9 : n_X5_keepsAreas_qg_11 = 0 := rfl
                exact W.zret (v := 0) hx hb hr (z_b (by (repeat' split) <;> simp)) (fun t ht hW => ⟨⟨_, (), rfl, (if_neg (fun hh => c8 (hh k (by have := (z_ctl (n := 9) rfl (by omega) c3); omega) j ((z_nlt (by omega) c5))))).symm, ⟨(by rw [e9]; rw [ht]; exact hP), va_K.moved hW.alike hK, (by rw [e9]; exact hD)⟩⟩, hS.F ht⟩) hS.2.2 dX5_keepsAreas_51
        exact L4 (k + 2) 0 (by omega) (fun i hi => absurd hi (by omega)) (by omega) _ _ hP hD hS _ (zlv (lv_sub (l' := [(2, .int 0), (1, .int (nI (k + 1))), (0, .ref qg)]) hl [0, 1, 2] rfl) (by rfl))
  exact L1 9 0 (by omega) (fun i hi => absurd hi (by omega)) (by omega) _ _ hP hD hS _ (zlv (lv_sub (l' := [(1, .int 1), (0, .ref qg)]) hl [0, 1] rfl) (by rfl))
def lp_X5_widest_9 (fw : Nat → Int32) (fh : Nat → Int32) (ft : Nat → Int32) : Nat → Int32
  | 0 => 0
  | k + 1 => (if (lg_cmp ((s_X5_bandOf fw fh (nI (k + 1))) * ((ft (lp_X5_widest_9 fw fh ft k).toNatClampNeg).toInt64)) ((s_X5_bandOf fw fh (lp_X5_widest_9 fw fh ft k)) * ((ft (nI (k + 1)).toNatClampNeg).toInt64))) ≤ 0 then lp_X5_widest_9 fw fh ft k else nI (k + 1))
theorem z_wb (fw fh ft : Nat → Int32) : ∀ k : Nat, k ≤ 8 → ∃ j : Nat, j ≤ k ∧ lp_X5_widest_9 fw fh ft k = nI j
  | 0, _ => ⟨0, Nat.le_refl 0, rfl⟩
  | k + 1, h => by
    obtain ⟨j, hj, e⟩ := z_wb fw fh ft k (by omega)
    show ∃ i : Nat, i ≤ k + 1 ∧ (if (lg_cmp _ _) ≤ 0 then _ else _) = nI i
    split
    · exact ⟨j, by omega, e⟩
    · exact ⟨k + 1, by omega, rfl⟩
theorem z_wbi {fw fh ft : Nat → Int32} {k : Nat} (h : k ≤ 8) : vp_in (lp_X5_widest_9 fw fh ft k) 9 := by
  obtain ⟨j, hj, e⟩ := z_wb fw fh ft k h
  rw [e]
  exact vp_in_nI (by omega) (by omega)
def s_X5_widest (fw : Nat → Int32) (fh : Nat → Int32) (ft : Nat → Int32) : Int32 := lp_X5_widest_9 fw fh ft 8
def n_X5_widest_qg_11  : Int32 := 0
abbrev rm_X5_widest : Room := { frames := 3, cells := 0, slots := 0, locals := 72 }
abbrev Qc_X5_widest (D : va_G) (cI cZ cJ cD : ClassId) (qg : Nat) (qgw : Nat) (qgh : Nat) (qgt : Nat) (br : Int32) (jC : Int32) (jR : Int32) (nf : Int32) (qgx : Nat) (qgy : Nat) (qgz : Nat) (qgu : Nat) (th : Int32) (fw : Nat → Int32) (fh : Nat → Int32) (ft : Nat → Int32) (A : Nat → Prop) : Array Value → State → Outcome → State → Prop := va_Qi (fun (r : Int32) (_ : Unit) => r = s_X5_widest fw fh ft) (zPost D cI cZ cJ cD A [(qg, .inr (5, [.ref qgw, .ref qgh, .ref qgt, .int br, .int jC, .int jR, .int nf, .ref qgx, .ref qgy, .ref qgz, .ref qgu, .int n_X5_widest_qg_11])), (qgw, .inl (cI, 10, .inl fw)), (qgh, .inl (cI, 10, .inl fh)), (qgt, .inl (cI, 9, .inl ft))]) A
set_option maxHeartbeats 4000000 in
set_option maxRecDepth 100000 in
theorem c_X5_widest (l : Launch) (D : va_G) (cI cZ cJ cD : ClassId) (qg : Nat) (qgw : Nat) (qgh : Nat) (qgt : Nat) (br : Int32) (jC : Int32) (jR : Int32) (nf : Int32) (qgx : Nat) (qgy : Nat) (qgz : Nat) (qgu : Nat) (th : Int32) (fw : Nat → Int32) (fh : Nat → Int32) (ft : Nat → Int32) (sz : Nat)  : Met l yX5_widest wsX5_widest rm_X5_widest (va_Pc [.ref qg] (zPreW D cI cZ cJ cD [(qg, .inr (5, [.ref qgw, .ref qgh, .ref qgt, .int br, .int jC, .int jR, .int nf, .ref qgx, .ref qgy, .ref qgz, .ref qgu, .int th])), (qgw, .inl (cI, 10, .inl fw)), (qgh, .inl (cI, 10, .inl fh)), (qgt, .inl (cI, 9, .inl ft))] sz)) (Qc_X5_widest D cI cZ cJ cD qg qgw qgh qgt br jC jR nf qgx qgy qgz qgu th fw fh ft (va_A [(qg, .inr (5, [.ref qgw, .ref qgh, .ref qgt, .int br, .int jC, .int jR, .int nf, .ref qgx, .ref qgy, .ref qgz, .ref qgu, .int th])), (qgw, .inl (cI, 10, .inl fw)), (qgh, .inl (cI, 10, .inl fh)), (qgt, .inl (cI, 9, .inl ft))] sz)) 0 0 (va_A [(qg, .inr (5, [.ref qgw, .ref qgh, .ref qgt, .int br, .int jC, .int jR, .int nf, .ref qgx, .ref qgy, .ref qgz, .ref qgu, .int th])), (qgw, .inl (cI, 10, .inl fw)), (qgh, .inl (cI, 10, .inl fh)), (qgt, .inl (cI, 9, .inl ft))] sz) := by
  refine Met.ofW (cc := cX5_widest) (maxL := 3) (ret := (some .int)) (by decide) rfl ?_
  intro p e s m args below meth c s₁ B hml hv
  obtain ⟨rfl, hsz, hP, hK, hD0⟩ := hv
  have hx := B.exec
  have hb := B.bytes
  have hr := B.returns
  have hts := atoms_spec (ws := wsX5_widest) B.pre
  have hown : s.vm.findClass RX5 = some m.cls := findClass_of_methodNamed B.named
  have hlocks := B.notSynchronized
  subst hsz
  have hD := hD0.self (sz := s.heap.size)
  generalize hAe : va_A [(qg, .inr (5, [.ref qgw, .ref qgh, .ref qgt, .int br, .int jC, .int jR, .int nf, .ref qgx, .ref qgy, .ref qgz, .ref qgu, .int th])), (qgw, .inl (cI, 10, .inl fw)), (qgh, .inl (cI, 10, .inl fh)), (qgt, .inl (cI, 9, .inl ft))] s.heap.size = A at hD ⊢
  have hA : ∀ q : Nat, s.heap.size ≤ q → A q := fun q h => by rw [← hAe]; exact Or.inr h
  have hS : va_S A s.heap s.heap [] := va_S.rf
  have hl := lv_entry ([.ref qg]) (n := 3) (Nat.le_of_ble_eq_true rfl)
  rw [lg_entry_eq]
  generalize (lg_sl ([.ref qg]) ++ List.replicate (3 - (lg_sl ([.ref qg])).length) Slot.unset).toArray = ls at hl ⊢
  have hl : lv_has ls 3 [(0, .ref qg)] := hl
  have hP : va_P D vwCl [(qg, .inr (5, [.ref qgw, .ref qgh, .ref qgt, .int br, .int jC, .int jR, .int nf, .ref qgx, .ref qgy, .ref qgz, .ref qgu, .int th])), (qgw, .inl (cI, 10, .inl fw)), (qgh, .inl (cI, 10, .inl fh)), (qgt, .inl (cI, 9, .inl ft))] s.heap := hP
  have hP := hP
  refine lv_aload_n hx hb dX5_widest_0 rfl (lv_at hl 0 rfl) ?_
  refine lv_iconst (v := 0) hx hb dX5_widest_1 (by decide) ?_
  refine va_put (D := D) (ci := 5) (v := .int 0) (ty := .int) (C := RX5) (T := TX5) (N := 12) hx hb hts (fun w h => List.mem_cons_of_mem _ (List.mem_append_right _ h)) tyX5 tyX5_ok nmX5 hown hK hP hD hS 0 rfl rfl 11 (by decide) (hts (.fieldLink RX5 45 "AtlasFolderModel" "thrown" "I") (List.mem_cons_of_mem _ (List.mem_append_left _ (List.mem_of_getElem? (i := 0) rfl)))) (fun _ h9 => h9) rfl (by decide +kernel) rfl rfl (Nat.le_of_ble_eq_true rfl) dX5_widest_2 (fun H locs hP hD hS => ?_)
  have hP : va_P D vwCl [(qg, .inr (5, [.ref qgw, .ref qgh, .ref qgt, .int br, .int jC, .int jR, .int nf, .ref qgx, .ref qgy, .ref qgz, .ref qgu, .int 0])), (qgw, .inl (cI, 10, .inl fw)), (qgh, .inl (cI, 10, .inl fh)), (qgt, .inl (cI, 9, .inl ft))] H := hP
  have hD : va_D A [(qg, .inr (5, [.ref qgw, .ref qgh, .ref qgt, .int br, .int jC, .int jR, .int nf, .ref qgx, .ref qgy, .ref qgz, .ref qgu, .int 0])), (qgw, .inl (cI, 10, .inl fw)), (qgh, .inl (cI, 10, .inl fh)), (qgt, .inl (cI, 9, .inl ft))] := hD
  refine lv_iconst (v := 0) hx hb dX5_widest_5 (by decide) ?_
  refine lv_istore_n (lv' := [(1, .int 0), (0, .ref qg)]) hx hb dX5_widest_6 rfl hl (by decide) rfl (fun ls hl => ?_)
  refine lv_iconst (v := 1) hx hb dX5_widest_7 (by decide) ?_
  refine lv_istore_n (lv' := [(2, .int 1), (1, .int 0), (0, .ref qg)]) hx hb dX5_widest_8 rfl hl (by decide) rfl (fun ls hl => ?_)
  have X1 : ∀ (H : Heap) (locs : List Loc), va_P D vwCl [(qg, .inr (5, [.ref qgw, .ref qgh, .ref qgt, .int br, .int jC, .int jR, .int nf, .ref qgx, .ref qgy, .ref qgz, .ref qgu, .int 0])), (qgw, .inl (cI, 10, .inl fw)), (qgh, .inl (cI, 10, .inl fh)), (qgt, .inl (cI, 9, .inl ft))] H → va_D A [(qg, .inr (5, [.ref qgw, .ref qgh, .ref qgt, .int br, .int jC, .int jR, .int nf, .ref qgx, .ref qgy, .ref qgz, .ref qgu, .int 0])), (qgw, .inl (cI, 10, .inl fw)), (qgh, .inl (cI, 10, .inl fh)), (qgt, .inl (cI, 9, .inl ft))] → va_S A s.heap H locs → ∀ (ls : Array Slot), lv_has ls 3 [(0, .ref qg), (1, .int (lp_X5_widest_9 fw fh ft 8))] → W p l e (headSpec wsX5_widest rm_X5_widest).room s m ([.ref qg]).toArray below meth c H locs 0 0 (MQ below (Qc_X5_widest D cI cZ cJ cD qg qgw qgh qgt br jC jR nf qgx qgy qgz qgu th fw fh ft A) ([.ref qg]).toArray s 0 0 A) (F0 m 57 ls []) := by
    intro H locs hP hD hS ls hl
    refine lv_iload_n hx hb dX5_widest_57 rfl (lv_at hl 1 rfl) ?_
    have e2 : s_X5_widest fw fh ft = lp_X5_widest_9 fw fh ft 8 := rfl
    have e3 : n_X5_widest_qg_11 = 0 := rfl
    exact W.iret (v := (lp_X5_widest_9 fw fh ft 8)) hx hb hr (fun t ht hW => ⟨⟨_, (), rfl, e2.symm, ⟨(by rw [e3]; rw [ht]; exact hP), va_K.moved hW.alike hK, (by rw [e3]; exact hD)⟩⟩, hS.F ht⟩) hS.2.2 dX5_widest_58
  have L1 : ∀ (n k : Nat) (acc : Int32), k ≤ 8 → 8 < k + n → acc = lp_X5_widest_9 fw fh ft k → ∀ (H : Heap) (locs : List Loc), va_P D vwCl [(qg, .inr (5, [.ref qgw, .ref qgh, .ref qgt, .int br, .int jC, .int jR, .int nf, .ref qgx, .ref qgy, .ref qgz, .ref qgu, .int 0])), (qgw, .inl (cI, 10, .inl fw)), (qgh, .inl (cI, 10, .inl fh)), (qgt, .inl (cI, 9, .inl ft))] H → va_D A [(qg, .inr (5, [.ref qgw, .ref qgh, .ref qgt, .int br, .int jC, .int jR, .int nf, .ref qgx, .ref qgy, .ref qgz, .ref qgu, .int 0])), (qgw, .inl (cI, 10, .inl fw)), (qgh, .inl (cI, 10, .inl fh)), (qgt, .inl (cI, 9, .inl ft))] → va_S A s.heap H locs → ∀ (ls : Array Slot), lv_has ls 3 [(0, .ref qg), (2, .int (nI (k + 1))), (1, .int acc)] → W p l e (headSpec wsX5_widest rm_X5_widest).room s m ([.ref qg]).toArray below meth c H locs 0 0 (MQ below (Qc_X5_widest D cI cZ cJ cD qg qgw qgh qgt br jC jR nf qgx qgy qgz qgu th fw fh ft A) ([.ref qg]).toArray s 0 0 A) (F0 m 9 ls []) := by
    intro n
    induction n with
    | zero =>
      intro k acc hk hf
      exact absurd hf (by omega)
    | succ n ih =>
      intro k acc hk hf hacc H locs hP hD hS ls hl
      subst hacc
      refine lv_iload_n hx hb dX5_widest_9 rfl (lv_at hl 1 rfl) ?_
      refine lv_bipush (v := 9) hx hb dX5_widest_10 (by decide) ?_
      refine lv_icmp_ge (tgt := 57) hx hb dX5_widest_12 (by decide) (fun c4 => ?_) (fun c4 => ?_)
      · have hge : 8 ≤ k := (by have := (nI_leI (a := 9) (b := k + 1) (by omega) (by omega)).mp c4; omega)
        have ek : k = 8 := by omega
        subst ek
        exact X1 _ _ hP hD hS _ (lv_sub hl [0, 2] rfl)
      · refine lv_aload_n hx hb dX5_widest_15 rfl (lv_at hl 0 rfl) ?_
        refine lv_iload_n hx hb dX5_widest_16 rfl (lv_at hl 1 rfl) ?_
        refine va_calll (va_runV (As := [.int (nI (k + 1))]) (rest := []) ⟨hx, hb, hml, hown, hts⟩ (c_X5_bandOf l D cI cZ cJ cD qg qgw qgh qgt br jC jR nf qgx qgy qgz qgu 0 fw fh (nI (k + 1)) (vp_in_nI (z_ctl (n := 9) rfl (by omega) c4) (by omega))) (cwV 1 hts gX5_widest_X5_bandOf rfl rfl rfl (by decide +kernel) ⟨Nat.le_of_ble_eq_true rfl, Nat.le_of_ble_eq_true rfl⟩) ⟨zblind, va_recv hK hP (ci := 5) (q0 := 0) rfl rfl, (fun U hU hW => ⟨rfl, by rw [hU]; exact hP.sub (ws' := [(qg, .inr (5, [.ref qgw, .ref qgh, .ref qgt, .int br, .int jC, .int jR, .int nf, .ref qgx, .ref qgy, .ref qgz, .ref qgu, .int 0])), (qgw, .inl (cI, 10, .inl fw)), (qgh, .inl (cI, 10, .inl fh))]) [0, 1, 2] rfl, va_K.moved hW.alike hK⟩)⟩ rfl rfl hl.1 rfl (lv_room (Nat.le_of_ble_eq_true rfl)) dX5_widest_17 ⟨Nat.le_of_ble_eq_true rfl, Nat.le_of_ble_eq_true rfl⟩) hS (fun q _ h => h.elim) (fun q h => h.elim) (fun r5 u t H locs ht hvm hw hB hz1 hk1 hS => ?_)
        rw [hw]
        have hP := zk hP hk1
        refine lv_aload_n hx hb dX5_widest_20 rfl (lv_at hl 0 rfl) ?_
        refine va_get (D := D) (ci := 5) (v := .ref qgt) (C := RX5) (T := TX5) (N := 12) hx hb hts (fun w h => List.mem_cons_of_mem _ (List.mem_append_right _ h)) hown hK hP 0 rfl rfl 2 (by decide) (hts (.fieldLink RX5 16 "AtlasFolderModel" "truth" "[I") (List.mem_cons_of_mem _ (List.mem_append_left _ (List.mem_of_getElem? (i := 1) rfl)))) (fun _ h9 => h9) rfl dX5_widest_21 ?_
        refine lv_iload_n hx hb dX5_widest_24 rfl (lv_at hl 2 rfl) ?_
        refine va_iald hx hb hK hP 3 0 rfl rfl (z_wbi hk) dX5_widest_25 ?_
        refine lv_i2l hx hb dX5_widest_26 rfl ?_
        refine lv_lmul hx hb dX5_widest_27 ?_
        refine lv_aload_n hx hb dX5_widest_28 rfl (lv_at hl 0 rfl) ?_
        refine lv_iload_n hx hb dX5_widest_29 rfl (lv_at hl 2 rfl) ?_
        refine va_calll (va_runV (As := [.int (lp_X5_widest_9 fw fh ft k)]) (rest := [.long ((s_X5_bandOf fw fh (nI (k + 1))) * ((ft (lp_X5_widest_9 fw fh ft k).toNatClampNeg).toInt64))]) ⟨hx, hb, hml, hown, hts⟩ (c_X5_bandOf l D cI cZ cJ cD qg qgw qgh qgt br jC jR nf qgx qgy qgz qgu 0 fw fh (lp_X5_widest_9 fw fh ft k) (z_wbi hk)) (cwV 1 hts gX5_widest_X5_bandOf rfl rfl rfl (by decide +kernel) ⟨Nat.le_of_ble_eq_true rfl, Nat.le_of_ble_eq_true rfl⟩) ⟨zblind, va_recv hK hP (ci := 5) (q0 := 0) rfl rfl, (fun U hU hW => ⟨rfl, by rw [hU]; exact hP.sub (ws' := [(qg, .inr (5, [.ref qgw, .ref qgh, .ref qgt, .int br, .int jC, .int jR, .int nf, .ref qgx, .ref qgy, .ref qgz, .ref qgu, .int 0])), (qgw, .inl (cI, 10, .inl fw)), (qgh, .inl (cI, 10, .inl fh))]) [0, 1, 2] rfl, va_K.moved hW.alike hK⟩)⟩ rfl rfl hl.1 rfl (lv_room (Nat.le_of_ble_eq_true rfl)) dX5_widest_30 ⟨Nat.le_of_ble_eq_true rfl, Nat.le_of_ble_eq_true rfl⟩) hS (fun q _ h => h.elim) (fun q h => h.elim) (fun r6 u t H locs ht hvm hw hB hz1 hk1 hS => ?_)
        rw [hw]
        have hP := zk hP hk1
        refine lv_aload_n hx hb dX5_widest_33 rfl (lv_at hl 0 rfl) ?_
        refine va_get (D := D) (ci := 5) (v := .ref qgt) (C := RX5) (T := TX5) (N := 12) hx hb hts (fun w h => List.mem_cons_of_mem _ (List.mem_append_right _ h)) hown hK hP 0 rfl rfl 2 (by decide) (hts (.fieldLink RX5 16 "AtlasFolderModel" "truth" "[I") (List.mem_cons_of_mem _ (List.mem_append_left _ (List.mem_of_getElem? (i := 1) rfl)))) (fun _ h9 => h9) rfl dX5_widest_34 ?_
        refine lv_iload_n hx hb dX5_widest_37 rfl (lv_at hl 1 rfl) ?_
        refine va_iald hx hb hK hP 3 0 rfl rfl (vp_in_nI (z_ctl (n := 9) rfl (by omega) c4) (by omega)) dX5_widest_38 ?_
        refine lv_i2l hx hb dX5_widest_39 rfl ?_
        refine lv_lmul hx hb dX5_widest_40 ?_
        refine W.lcmp hx hb dX5_widest_41 ?_
        have K8 : ∀ v8_0 : Int32, v8_0 = (if (lg_cmp ((s_X5_bandOf fw fh (nI (k + 1))) * ((ft (lp_X5_widest_9 fw fh ft k).toNatClampNeg).toInt64)) ((s_X5_bandOf fw fh (lp_X5_widest_9 fw fh ft k)) * ((ft (nI (k + 1)).toNatClampNeg).toInt64))) ≤ 0 then lp_X5_widest_9 fw fh ft k else nI (k + 1)) → ∀ (H : Heap) (locs : List Loc), va_P D vwCl [(qg, .inr (5, [.ref qgw, .ref qgh, .ref qgt, .int br, .int jC, .int jR, .int nf, .ref qgx, .ref qgy, .ref qgz, .ref qgu, .int 0])), (qgw, .inl (cI, 10, .inl fw)), (qgh, .inl (cI, 10, .inl fh)), (qgt, .inl (cI, 9, .inl ft))] H → va_D A [(qg, .inr (5, [.ref qgw, .ref qgh, .ref qgt, .int br, .int jC, .int jR, .int nf, .ref qgx, .ref qgy, .ref qgz, .ref qgu, .int 0])), (qgw, .inl (cI, 10, .inl fw)), (qgh, .inl (cI, 10, .inl fh)), (qgt, .inl (cI, 9, .inl ft))] → va_S A s.heap H locs → ∀ (ls : Array Slot), lv_has ls 3 [(0, .ref qg), (2, .int (nI (k + 1))), (1, .int (lp_X5_widest_9 fw fh ft k))] → W p l e (headSpec wsX5_widest rm_X5_widest).room s m ([.ref qg]).toArray below meth c H locs 0 0 (MQ below (Qc_X5_widest D cI cZ cJ cD qg qgw qgh qgt br jC jR nf qgx qgy qgz qgu th fw fh ft A) ([.ref qg]).toArray s 0 0 A) (F0 m 50 ls [.int v8_0]) := by
          intro v8_0 hv8_0 H locs hP hD hS ls hl
          subst hv8_0
          refine lv_istore_n (lv' := [(1, .int (if (lg_cmp ((s_X5_bandOf fw fh (nI (k + 1))) * ((ft (lp_X5_widest_9 fw fh ft k).toNatClampNeg).toInt64)) ((s_X5_bandOf fw fh (lp_X5_widest_9 fw fh ft k)) * ((ft (nI (k + 1)).toNatClampNeg).toInt64))) ≤ 0 then lp_X5_widest_9 fw fh ft k else nI (k + 1))), (0, .ref qg), (2, .int (nI (k + 1)))]) hx hb dX5_widest_50 rfl hl (by decide) rfl (fun ls hl => ?_)
          refine lv_iinc (v := nI (k + 1 + 1)) (lv' := [(2, .int (nI (k + 1 + 1))), (1, .int (if (lg_cmp ((s_X5_bandOf fw fh (nI (k + 1))) * ((ft (lp_X5_widest_9 fw fh ft k).toNatClampNeg).toInt64)) ((s_X5_bandOf fw fh (lp_X5_widest_9 fw fh ft k)) * ((ft (nI (k + 1)).toNatClampNeg).toInt64))) ≤ 0 then lp_X5_widest_9 fw fh ft k else nI (k + 1))), (0, .ref qg)]) hx hb dX5_widest_51 hl (k := 2) rfl (nI_succ (k + 1)).symm (by decide) rfl (fun ls hl => ?_)
          refine lv_goto (tgt := 9) hx hb dX5_widest_54 (by decide) ?_
          have hlt : k < 8 := ((Nat.lt_or_ge (k + 1) 9).elim (fun q => by omega) (fun q => absurd (nI_le (a := 9) (b := k + 1) q (by omega)) c4))
          exact ih (k + 1) _ (by omega) (by omega) rfl _ _ hP hD hS _ (lv_sub hl [2, 0, 1] rfl)
        refine lv_if_le (tgt := 49) hx hb dX5_widest_42 (by decide) (fun c9 => ?_) (fun c9 => ?_)
        · refine lv_iload_n hx hb dX5_widest_49 rfl (lv_at hl 2 rfl) ?_
          exact K8 _ (if_pos c9).symm _ _ hP hD hS _ (lv_sub hl [0, 1, 2] rfl)
        · refine lv_iload_n hx hb dX5_widest_45 rfl (lv_at hl 1 rfl) ?_
          refine lv_goto (tgt := 50) hx hb dX5_widest_46 (by decide) ?_
          exact K8 _ (if_neg c9).symm _ _ hP hD hS _ (lv_sub hl [0, 1, 2] rfl)
  exact L1 (8 + 1) 0 _ (Nat.zero_le _) (by omega) rfl _ _ hP hD hS _ (lv_sub hl [2, 0, 1] rfl)
def s_X5_stretch (fw : Nat → Int32) (fh : Nat → Int32) (ft : Nat → Int32) (bd : Int32) : UInt32 := (if (s_X5_may (s_X5_isBand bd)) = 0 then FP.fconst0 else FP.fdiv (FP.l2f (s_X5_bandOf fw fh bd)) (FP.i2f (ft bd.toNatClampNeg)))
def n_X5_stretch_qg_11 (bd : Int32) : Int32 := n_X5_may_qg_11 (s_X5_isBand bd)
abbrev rm_X5_stretch : Room := { frames := 3, cells := 0, slots := 0, locals := 72 }
abbrev Qc_X5_stretch (D : va_G) (cI cZ cJ cD : ClassId) (qg : Nat) (qgw : Nat) (qgh : Nat) (qgt : Nat) (br : Int32) (jC : Int32) (jR : Int32) (nf : Int32) (qgx : Nat) (qgy : Nat) (qgz : Nat) (qgu : Nat) (th : Int32) (fw : Nat → Int32) (fh : Nat → Int32) (ft : Nat → Int32) (bd : Int32) (A : Nat → Prop) : Array Value → State → Outcome → State → Prop := va_Qf (fun (r : UInt32) (_ : Unit) => r = s_X5_stretch fw fh ft bd) (zPost D cI cZ cJ cD A [(qg, .inr (5, [.ref qgw, .ref qgh, .ref qgt, .int br, .int jC, .int jR, .int nf, .ref qgx, .ref qgy, .ref qgz, .ref qgu, .int (n_X5_stretch_qg_11 bd)])), (qgw, .inl (cI, 10, .inl fw)), (qgh, .inl (cI, 10, .inl fh)), (qgt, .inl (cI, 9, .inl ft))]) A
set_option maxHeartbeats 4000000 in
set_option maxRecDepth 100000 in
theorem c_X5_stretch (l : Launch) (D : va_G) (cI cZ cJ cD : ClassId) (qg : Nat) (qgw : Nat) (qgh : Nat) (qgt : Nat) (br : Int32) (jC : Int32) (jR : Int32) (nf : Int32) (qgx : Nat) (qgy : Nat) (qgz : Nat) (qgu : Nat) (th : Int32) (fw : Nat → Int32) (fh : Nat → Int32) (ft : Nat → Int32) (bd : Int32) (sz : Nat) (htr : ∀ j : Nat, j < 9 → ¬ ft j = 0) : Met l yX5_stretch wsX5_stretch rm_X5_stretch (va_Pc [.ref qg, .int bd] (zPreW D cI cZ cJ cD [(qg, .inr (5, [.ref qgw, .ref qgh, .ref qgt, .int br, .int jC, .int jR, .int nf, .ref qgx, .ref qgy, .ref qgz, .ref qgu, .int th])), (qgw, .inl (cI, 10, .inl fw)), (qgh, .inl (cI, 10, .inl fh)), (qgt, .inl (cI, 9, .inl ft))] sz)) (Qc_X5_stretch D cI cZ cJ cD qg qgw qgh qgt br jC jR nf qgx qgy qgz qgu th fw fh ft bd (va_A [(qg, .inr (5, [.ref qgw, .ref qgh, .ref qgt, .int br, .int jC, .int jR, .int nf, .ref qgx, .ref qgy, .ref qgz, .ref qgu, .int th])), (qgw, .inl (cI, 10, .inl fw)), (qgh, .inl (cI, 10, .inl fh)), (qgt, .inl (cI, 9, .inl ft))] sz)) 0 0 (va_A [(qg, .inr (5, [.ref qgw, .ref qgh, .ref qgt, .int br, .int jC, .int jR, .int nf, .ref qgx, .ref qgy, .ref qgz, .ref qgu, .int th])), (qgw, .inl (cI, 10, .inl fw)), (qgh, .inl (cI, 10, .inl fh)), (qgt, .inl (cI, 9, .inl ft))] sz) := by
  refine Met.ofW (cc := cX5_stretch) (maxL := 2) (ret := (some .float)) (by decide) rfl ?_
  intro p e s m args below meth c s₁ B hml hv
  obtain ⟨rfl, hsz, hP, hK, hD0⟩ := hv
  have hx := B.exec
  have hb := B.bytes
  have hr := B.returns
  have hts := atoms_spec (ws := wsX5_stretch) B.pre
  have hown : s.vm.findClass RX5 = some m.cls := findClass_of_methodNamed B.named
  have hlocks := B.notSynchronized
  subst hsz
  have hD := hD0.self (sz := s.heap.size)
  generalize hAe : va_A [(qg, .inr (5, [.ref qgw, .ref qgh, .ref qgt, .int br, .int jC, .int jR, .int nf, .ref qgx, .ref qgy, .ref qgz, .ref qgu, .int th])), (qgw, .inl (cI, 10, .inl fw)), (qgh, .inl (cI, 10, .inl fh)), (qgt, .inl (cI, 9, .inl ft))] s.heap.size = A at hD ⊢
  have hA : ∀ q : Nat, s.heap.size ≤ q → A q := fun q h => by rw [← hAe]; exact Or.inr h
  have hS : va_S A s.heap s.heap [] := va_S.rf
  have hl := lv_entry ([.ref qg, .int bd]) (n := 2) (Nat.le_of_ble_eq_true rfl)
  rw [lg_entry_eq]
  generalize (lg_sl ([.ref qg, .int bd]) ++ List.replicate (2 - (lg_sl ([.ref qg, .int bd])).length) Slot.unset).toArray = ls at hl ⊢
  have hl : lv_has ls 2 [(0, .ref qg), (1, .int bd)] := hl
  have hP : va_P D vwCl [(qg, .inr (5, [.ref qgw, .ref qgh, .ref qgt, .int br, .int jC, .int jR, .int nf, .ref qgx, .ref qgy, .ref qgz, .ref qgu, .int th])), (qgw, .inl (cI, 10, .inl fw)), (qgh, .inl (cI, 10, .inl fh)), (qgt, .inl (cI, 9, .inl ft))] s.heap := hP
  have hP := hP
  refine lv_aload_n hx hb dX5_stretch_0 rfl (lv_at hl 0 rfl) ?_
  refine lv_iload_n hx hb dX5_stretch_1 rfl (lv_at hl 1 rfl) ?_
  refine va_calli (va_runS (As := [.int bd]) (rest := [.ref qg]) ⟨hx, hb, hml, hown, hts⟩ (c_X5_isBand l D cI cZ cJ cD bd ) (va_cwS 1 hts gX5_stretch_X5_isBand rfl rfl rfl (by decide +kernel) ⟨Nat.le_of_ble_eq_true rfl, Nat.le_of_ble_eq_true rfl⟩) ⟨zblind, (fun U hU hW => ⟨rfl, by rw [hU]; exact hP.sub (ws' := []) [] rfl, va_K.moved hW.alike hK⟩)⟩ rfl rfl hl.1 rfl (lv_room (Nat.le_of_ble_eq_true rfl)) dX5_stretch_2 ⟨Nat.le_of_ble_eq_true rfl, Nat.le_of_ble_eq_true rfl⟩) hS (fun q _ h => h.elim) (fun q h => h.elim) (fun r7 u t H locs ht hvm hw hB hz1 hk1 hS => ?_)
  rw [hw]
  have hP := zk hP hk1
  have hPc := hP.sub (ws' := [(qg, .inr (5, [.ref qgw, .ref qgh, .ref qgt, .int br, .int jC, .int jR, .int nf, .ref qgx, .ref qgy, .ref qgz, .ref qgu, .int th]))]) [0] rfl
  have hDc := hD.sub (ws' := [(qg, .inr (5, [.ref qgw, .ref qgh, .ref qgt, .int br, .int jC, .int jR, .int nf, .ref qgx, .ref qgy, .ref qgz, .ref qgu, .int th]))]) [0] (by decide) rfl
  have hFc := va_free (wc := [(qg, .inr (5, [.ref qgw, .ref qgh, .ref qgt, .int br, .int jC, .int jR, .int nf, .ref qgx, .ref qgy, .ref qgz, .ref qgu, .int th]))]) hD hS hA [0] rfl
  refine va_calli (va_runV (As := [.int (s_X5_isBand bd)]) (rest := []) ⟨hx, hb, hml, hown, hts⟩ (c_X5_may l D cI cZ cJ cD qg qgw qgh qgt br jC jR nf qgx qgy qgz qgu th (s_X5_isBand bd) H.size (by unfold s_X5_isBand; (repeat' split) <;> simp)) (cwV 1 hts gX5_stretch_X5_may rfl rfl rfl (by decide +kernel) ⟨Nat.le_of_ble_eq_true rfl, Nat.le_of_ble_eq_true rfl⟩) ⟨zblindW, va_recv hK hP (ci := 5) (q0 := 0) rfl rfl, (fun U hU hW => ⟨rfl, by rw [hU], by rw [hU]; exact hPc, va_K.moved hW.alike hK, hDc.weaken (fun _ _ _ _ => trivial)⟩)⟩ rfl rfl hl.1 rfl (lv_room (Nat.le_of_ble_eq_true rfl)) dX5_stretch_5 ⟨Nat.le_of_ble_eq_true rfl, Nat.le_of_ble_eq_true rfl⟩) hS (fun q _ h => hFc q h) hFc (fun r8 u t H locs ht hvm hw hB hz1 hk1 hS => ?_)
  rw [hw]
  obtain ⟨hP1, hK1, hD1⟩ := hB
  rw [ht] at hP1
  obtain ⟨hP, hD⟩ := va_join (wr := [(qgw, .inl (cI, 10, .inl fw)), (qgh, .inl (cI, 10, .inl fh)), (qgt, .inl (cI, 9, .inl ft))]) (w1 := [(qg, .inr (5, [.ref qgw, .ref qgh, .ref qgt, .int br, .int jC, .int jR, .int nf, .ref qgx, .ref qgy, .ref qgz, .ref qgu, .int (n_X5_may_qg_11 (s_X5_isBand bd))]))]) hP hD [0] [1, 2, 3] rfl rfl (by decide) (by decide) hk1 hFc hP1 hD1
  have hP := hP.sub (ws' := [(qg, .inr (5, [.ref qgw, .ref qgh, .ref qgt, .int br, .int jC, .int jR, .int nf, .ref qgx, .ref qgy, .ref qgz, .ref qgu, .int (n_X5_may_qg_11 (s_X5_isBand bd))])), (qgw, .inl (cI, 10, .inl fw)), (qgh, .inl (cI, 10, .inl fh)), (qgt, .inl (cI, 9, .inl ft))]) [3, 0, 1, 2] rfl
  have hD := hD.sub (ws' := [(qg, .inr (5, [.ref qgw, .ref qgh, .ref qgt, .int br, .int jC, .int jR, .int nf, .ref qgx, .ref qgy, .ref qgz, .ref qgu, .int (n_X5_may_qg_11 (s_X5_isBand bd))])), (qgw, .inl (cI, 10, .inl fw)), (qgh, .inl (cI, 10, .inl fh)), (qgt, .inl (cI, 9, .inl ft))]) [3, 0, 1, 2] (by decide) rfl
  have K10 : ∀ v10_0 : UInt32, v10_0 = (if (s_X5_may (s_X5_isBand bd)) = 0 then FP.fconst0 else FP.fdiv (FP.l2f (s_X5_bandOf fw fh bd)) (FP.i2f (ft bd.toNatClampNeg))) → ∀ (H : Heap) (locs : List Loc), va_P D vwCl [(qg, .inr (5, [.ref qgw, .ref qgh, .ref qgt, .int br, .int jC, .int jR, .int nf, .ref qgx, .ref qgy, .ref qgz, .ref qgu, .int (n_X5_may_qg_11 (s_X5_isBand bd))])), (qgw, .inl (cI, 10, .inl fw)), (qgh, .inl (cI, 10, .inl fh)), (qgt, .inl (cI, 9, .inl ft))] H → va_D A [(qg, .inr (5, [.ref qgw, .ref qgh, .ref qgt, .int br, .int jC, .int jR, .int nf, .ref qgx, .ref qgy, .ref qgz, .ref qgu, .int (n_X5_may_qg_11 (s_X5_isBand bd))])), (qgw, .inl (cI, 10, .inl fw)), (qgh, .inl (cI, 10, .inl fh)), (qgt, .inl (cI, 9, .inl ft))] → va_S A s.heap H locs → ∀ (ls : Array Slot), lv_has ls 2 [(0, .ref qg), (1, .int bd)] → W p l e (headSpec wsX5_stretch rm_X5_stretch).room s m ([.ref qg, .int bd]).toArray below meth c H locs 0 0 (MQ below (Qc_X5_stretch D cI cZ cJ cD qg qgw qgh qgt br jC jR nf qgx qgy qgz qgu th fw fh ft bd A) ([.ref qg, .int bd]).toArray s 0 0 A) (F0 m 29 ls [.float v10_0]) := by
    intro v10_0 hv10_0 H locs hP hD hS ls hl
    subst hv10_0
    have e11 : s_X5_stretch fw fh ft bd = (if (s_X5_may (s_X5_isBand bd)) = 0 then FP.fconst0 else FP.fdiv (FP.l2f (s_X5_bandOf fw fh bd)) (FP.i2f (ft bd.toNatClampNeg))) := rfl
    have e12 : n_X5_stretch_qg_11 bd = n_X5_may_qg_11 (s_X5_isBand bd) := rfl
    exact W.fret (v := (if (s_X5_may (s_X5_isBand bd)) = 0 then FP.fconst0 else FP.fdiv (FP.l2f (s_X5_bandOf fw fh bd)) (FP.i2f (ft bd.toNatClampNeg)))) hx hb hr (fun t ht hW => ⟨⟨_, (), rfl, e11.symm, ⟨(by rw [e12]; rw [ht]; exact hP), va_K.moved hW.alike hK, (by rw [e12]; exact hD)⟩⟩, hS.F ht⟩) hS.2.2 dX5_stretch_29
  refine lv_if_eq (tgt := 28) hx hb dX5_stretch_8 (by decide) (fun c13 => ?_) (fun c13 => ?_)
  · refine lv_fconst0 hx hb dX5_stretch_28 ?_
    exact K10 _ (if_pos c13).symm _ _ hP hD hS _ (lv_sub hl [0, 1] rfl)
  · refine lv_aload_n hx hb dX5_stretch_11 rfl (lv_at hl 0 rfl) ?_
    refine lv_iload_n hx hb dX5_stretch_12 rfl (lv_at hl 1 rfl) ?_
    refine va_calll (va_runV (As := [.int bd]) (rest := []) ⟨hx, hb, hml, hown, hts⟩ (c_X5_bandOf l D cI cZ cJ cD qg qgw qgh qgt br jC jR nf qgx qgy qgz qgu (n_X5_may_qg_11 (s_X5_isBand bd)) fw fh bd (z_bnd c13)) (cwV 1 hts gX5_stretch_X5_bandOf rfl rfl rfl (by decide +kernel) ⟨Nat.le_of_ble_eq_true rfl, Nat.le_of_ble_eq_true rfl⟩) ⟨zblind, va_recv hK hP (ci := 5) (q0 := 0) rfl rfl, (fun U hU hW => ⟨rfl, by rw [hU]; exact hP.sub (ws' := [(qg, .inr (5, [.ref qgw, .ref qgh, .ref qgt, .int br, .int jC, .int jR, .int nf, .ref qgx, .ref qgy, .ref qgz, .ref qgu, .int (n_X5_may_qg_11 (s_X5_isBand bd))])), (qgw, .inl (cI, 10, .inl fw)), (qgh, .inl (cI, 10, .inl fh))]) [0, 1, 2] rfl, va_K.moved hW.alike hK⟩)⟩ rfl rfl hl.1 rfl (lv_room (Nat.le_of_ble_eq_true rfl)) dX5_stretch_13 ⟨Nat.le_of_ble_eq_true rfl, Nat.le_of_ble_eq_true rfl⟩) hS (fun q _ h => h.elim) (fun q h => h.elim) (fun r14 u t H locs ht hvm hw hB hz1 hk1 hS => ?_)
    rw [hw]
    have hP := zk hP hk1
    refine lv_l2f hx hb dX5_stretch_16 ?_
    refine lv_aload_n hx hb dX5_stretch_17 rfl (lv_at hl 0 rfl) ?_
    refine va_get (D := D) (ci := 5) (v := .ref qgt) (C := RX5) (T := TX5) (N := 12) hx hb hts (fun w h => List.mem_cons_of_mem _ (List.mem_append_right _ h)) hown hK hP 0 rfl rfl 2 (by decide) (hts (.fieldLink RX5 16 "AtlasFolderModel" "truth" "[I") (List.mem_cons_of_mem _ (List.mem_append_left _ (List.mem_append_left _ (List.mem_of_getElem? (i := 0) rfl))))) (fun _ h9 => h9) rfl dX5_stretch_18 ?_
    refine lv_iload_n hx hb dX5_stretch_21 rfl (lv_at hl 1 rfl) ?_
    refine va_iald hx hb hK hP 3 0 rfl rfl (z_bnd c13) dX5_stretch_22 ?_
    refine lv_i2f hx hb dX5_stretch_23 ?_
    refine lv_fdiv hx hb dX5_stretch_24 (z_fdiv _ _ (z_trj htr (z_bnd c13))) ?_
    refine lv_goto (tgt := 29) hx hb dX5_stretch_25 (by decide) ?_
    exact K10 _ (if_neg c13).symm _ _ hP hD hS _ (lv_sub hl [0, 1] rfl)
