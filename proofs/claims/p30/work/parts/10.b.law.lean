theorem z_n1 {p : Prop} [Decidable p] {x : Int32} (h : ¬ (if p then 0 else x) = 0) : ¬ p := fun hp => h (if_pos hp)
theorem z_n2 {p : Prop} [Decidable p] {x : Int32} (h : ¬ (if p then 0 else x) = 0) : ¬ x = 0 := fun hx => by
  by_cases hp : p
  · exact h (if_pos hp)
  · exact h ((if_neg hp).trans hx)
theorem l_us (v : Int32) : ∃ a : Nat, a < 2 ^ 30 ∧ zus v 2 = nI a := by
  have h := pk_ushr v 2 2 (by decide)
  have hl := v.toBitVec.isLt
  refine ⟨v.toBitVec.toNat / 2 ^ 2, by omega, ?_⟩
  apply Int32.toBitVec_inj.mp
  apply BitVec.eq_of_toNat_eq
  rw [pk_tn (by omega)]
  exact h
theorem l_some (v : Int32) {n : Int32} (m : Nat) (hn : n = nI m) (h0 : 0 < m) (hm : m < 2 ^ 31) : ∃ j : Nat, j < m ∧ s_L_some v n = nI j := by
  obtain ⟨a, ha, e⟩ := l_us v
  refine ⟨a % m, Nat.mod_lt _ h0, ?_⟩
  unfold s_L_some
  rw [e, hn, pk_rem (by omega) h0 hm]
theorem l_off (v : Int32) {n c : Int32} (m q : Nat) (hn : n = nI m) (hc : c = nI q) (h0 : 0 < m) (hm : m < 2 ^ 20) (hq : q < 2 ^ 20) : -(q : Int) ≤ (s_L_some v n - c).toInt ∧ (s_L_some v n - c).toInt < (m : Int) - q := by
  obtain ⟨j, hj, e⟩ := l_some v m hn h0 (by omega)
  rw [e, hc, pk_sub_toInt (by omega) (by omega)]
  omega
theorem l_b (v : Int32) {n : Int32} (m : Nat) (hn : n = nI m) (h0 : 0 < m) (hm : m < 2 ^ 31) : 0 ≤ (s_L_some v n).toInt ∧ (s_L_some v n).toInt < (m : Int) := by
  obtain ⟨j, hj, e⟩ := l_some v m hn h0 hm
  rw [e, nI_toInt (by omega)]
  omega
theorem kr_X4_requireLatitude (lat : Int32) : k_X4_requireLatitude lat = 0 ∨ k_X4_requireLatitude lat = 2 := by
  unfold k_X4_requireLatitude
  (repeat' split) <;> first | decide | decide
theorem kr_X4_requireLongitude (lon : Int32) : k_X4_requireLongitude lon = 0 ∨ k_X4_requireLongitude lon = 2 := by
  unfold k_X4_requireLongitude
  (repeat' split) <;> first | decide | decide
theorem kr_X4_requireBand (bd : Int32) : k_X4_requireBand bd = 0 ∨ k_X4_requireBand bd = 1 := by
  unfold k_X4_requireBand
  (repeat' split) <;> first | decide | decide
theorem kr_X4_someTurned (tn : Int32) : k_X4_someTurned tn = 0 ∨ k_X4_someTurned tn = 3 := by
  unfold k_X4_someTurned
  (repeat' split) <;> first | decide | decide
theorem kr_X4_requirePanel (nC : Nat) (nR : Nat) (nf : Int32) (co : Int32) (ro : Int32) : k_X4_requirePanel nC nR nf co ro = 0 ∨ k_X4_requirePanel nC nR nf co ro = 1 := by
  unfold k_X4_requirePanel
  (repeat' split) <;> first | decide | decide
theorem kr_X4_table (fw : Nat → Int32) (fh : Nat → Int32) (row : Int32) (wd : Int32) (hgt : Int32) : k_X4_table fw fh row wd hgt = 0 ∨ k_X4_table fw fh row wd hgt = 1 ∨ k_X4_table fw fh row wd hgt = 2 ∨ k_X4_table fw fh row wd hgt = 3 := by
  unfold k_X4_table
  (repeat' split) <;> first | decide | decide
theorem kr_X4_x (fw : Nat → Int32) (fh : Nat → Int32) (lat : Int32) (lon : Int32) : k_X4_x fw fh lat lon = 0 ∨ k_X4_x fw fh lat lon = 2 := by
  unfold k_X4_x
  (repeat' split) <;> first | decide | (rcases kr_X4_requireLatitude _ with h | h <;> rw [h] <;> decide) | (rcases kr_X4_requireLongitude _ with h | h <;> rw [h] <;> decide)
theorem kr_X4_y (fw : Nat → Int32) (fh : Nat → Int32) (lat : Int32) : k_X4_y fw fh lat = 0 ∨ k_X4_y fw fh lat = 2 := by
  unfold k_X4_y
  (repeat' split) <;> first | decide | (rcases kr_X4_requireLatitude _ with h | h <;> rw [h] <;> decide)
theorem kr_X4_latitudeAt (fw : Nat → Int32) (fh : Nat → Int32) (hgt : Int32) : k_X4_latitudeAt fw fh hgt = 0 ∨ k_X4_latitudeAt fw fh hgt = 2 ∨ k_X4_latitudeAt fw fh hgt = 3 := by
  unfold k_X4_latitudeAt
  (repeat' split) <;> first | decide | decide
theorem kr_X4_area (fw : Nat → Int32) (fh : Nat → Int32) (so : Int32) (no : Int32) (we : Int32) (ea : Int32) : k_X4_area fw fh so no we ea = 0 ∨ k_X4_area fw fh so no we ea = 2 := by
  unfold k_X4_area
  (repeat' split) <;> first | decide | decide
theorem kr_X4_areaByCells (fw : Nat → Int32) (fh : Nat → Int32) (so : Int32) (no : Int32) (we : Int32) (ea : Int32) : k_X4_areaByCells fw fh so no we ea = 0 ∨ k_X4_areaByCells fw fh so no we ea = 2 := by
  unfold k_X4_areaByCells
  (repeat' split) <;> first | decide | (rcases kr_X4_area _ _ _ _ _ _ with h | h <;> rw [h] <;> decide)
theorem kr_X4_truth (ft : Nat → Int32) (bd : Int32) (tr : Int32) : k_X4_truth ft bd tr = 0 ∨ k_X4_truth ft bd tr = 1 ∨ k_X4_truth ft bd tr = 2 := by
  unfold k_X4_truth
  (repeat' split) <;> first | decide | (rcases kr_X4_requireBand _ with h | h <;> rw [h] <;> decide)
theorem kr_X4_stretch (ft : Nat → Int32) (fw : Nat → Int32) (fh : Nat → Int32) (bd : Int32) : k_X4_stretch ft fw fh bd = 0 ∨ k_X4_stretch ft fw fh bd = 1 := by
  unfold k_X4_stretch
  (repeat' split) <;> first | decide | (rcases kr_X4_requireBand _ with h | h <;> rw [h] <;> decide)
theorem kr_X4_apart (o1 : Int32) (o2 : Int32) : k_X4_apart o1 o2 = 0 ∨ k_X4_apart o1 o2 = 2 := by
  unfold k_X4_apart
  (repeat' split) <;> first | decide | (rcases kr_X4_requireLongitude _ with h | h <;> rw [h] <;> decide) | (rcases kr_X4_requireLongitude _ with h | h <;> rw [h] <;> decide)
theorem kr_X4_ringWay (fw : Nat → Int32) (fh : Nat → Int32) (lat : Int32) (o1 : Int32) (o2 : Int32) : k_X4_ringWay fw fh lat o1 o2 = 0 ∨ k_X4_ringWay fw fh lat o1 o2 = 2 := by
  unfold k_X4_ringWay
  (repeat' split) <;> first | decide | (rcases kr_X4_requireLatitude _ with h | h <;> rw [h] <;> decide) | (rcases kr_X4_requireLongitude _ with h | h <;> rw [h] <;> decide) | (rcases kr_X4_requireLongitude _ with h | h <;> rw [h] <;> decide)
theorem kr_X4_zones (br : Int32) (nb : Int32) : k_X4_zones br nb = 0 ∨ k_X4_zones br nb = 2 := by
  unfold k_X4_zones
  (repeat' split) <;> first | decide | decide
theorem kr_X4_zone (br : Int32) (lon : Int32) : k_X4_zone br lon = 0 ∨ k_X4_zone br lon = 2 := by
  unfold k_X4_zone
  (repeat' split) <;> first | decide | (rcases kr_X4_requireLongitude _ with h | h <;> rw [h] <;> decide)
theorem kr_X4_seams (br : Int32) (o1 : Int32) (o2 : Int32) : k_X4_seams br o1 o2 = 0 ∨ k_X4_seams br o1 o2 = 2 := by
  unfold k_X4_seams
  (repeat' split) <;> first | decide | (rcases kr_X4_requireLongitude _ with h | h <;> rw [h] <;> decide) | (rcases kr_X4_requireLongitude _ with h | h <;> rw [h] <;> decide)
theorem kr_X4_dateLine (o1 : Int32) (o2 : Int32) : k_X4_dateLine o1 o2 = 0 ∨ k_X4_dateLine o1 o2 = 2 := by
  unfold k_X4_dateLine
  (repeat' split) <;> first | decide | (rcases kr_X4_requireLongitude _ with h | h <;> rw [h] <;> decide) | (rcases kr_X4_requireLongitude _ with h | h <;> rw [h] <;> decide)
theorem kr_X4_sheet (jC : Int32) (jR : Int32) (nf : Int32) (fx : Nat → Int32) (fy : Nat → Int32) (fz : Nat → Int32) (fu : Nat → Int32) (co : Int32) (ro : Int32) : k_X4_sheet jC jR nf fx fy fz fu co ro = 0 ∨ k_X4_sheet jC jR nf fx fy fz fu co ro = 2 := by
  unfold k_X4_sheet
  (repeat' split) <;> first | decide | decide
theorem kr_X4_foldColumns (nC : Nat) (nR : Nat) (nf : Int32) (fx : Nat → Int32) (fz : Nat → Int32) (fu : Nat → Int32) (b : Int32) : k_X4_foldColumns nC nR nf fx fz fu b = 0 ∨ k_X4_foldColumns nC nR nf fx fz fu b = 3 := by
  unfold k_X4_foldColumns
  (repeat' split) <;> first | decide | (rcases kr_X4_someTurned _ with h | h <;> rw [h] <;> decide)
theorem kr_X4_foldRows (nC : Nat) (nR : Nat) (nf : Int32) (fy : Nat → Int32) (fz : Nat → Int32) (fu : Nat → Int32) (b : Int32) : k_X4_foldRows nC nR nf fy fz fu b = 0 ∨ k_X4_foldRows nC nR nf fy fz fu b = 3 := by
  unfold k_X4_foldRows
  (repeat' split) <;> first | decide | (rcases kr_X4_someTurned _ with h | h <;> rw [h] <;> decide)
theorem kr_X4_panel (nC : Nat) (nR : Nat) (nf : Int32) (lat : Int32) (lon : Int32) : k_X4_panel nC nR nf lat lon = 0 ∨ k_X4_panel nC nR nf lat lon = 2 := by
  unfold k_X4_panel
  (repeat' split) <;> first | decide | (rcases kr_X4_requireLatitude _ with h | h <;> rw [h] <;> decide) | (rcases kr_X4_requireLongitude _ with h | h <;> rw [h] <;> decide)
theorem kr_X4_placeX (nC : Nat) (nR : Nat) (nf : Int32) (fx : Nat → Int32) (co : Int32) (ro : Int32) : k_X4_placeX nC nR nf fx co ro = 0 ∨ k_X4_placeX nC nR nf fx co ro = 1 := by
  unfold k_X4_placeX
  (repeat' split) <;> first | decide | (rcases kr_X4_requirePanel _ _ _ _ _ with h | h <;> rw [h] <;> decide)
theorem kr_X4_placeY (nC : Nat) (nR : Nat) (nf : Int32) (fy : Nat → Int32) (co : Int32) (ro : Int32) : k_X4_placeY nC nR nf fy co ro = 0 ∨ k_X4_placeY nC nR nf fy co ro = 1 := by
  unfold k_X4_placeY
  (repeat' split) <;> first | decide | (rcases kr_X4_requirePanel _ _ _ _ _ with h | h <;> rw [h] <;> decide)
theorem kr_X4_above (nC : Nat) (nR : Nat) (nf : Int32) (fx : Nat → Int32) (fy : Nat → Int32) (fz : Nat → Int32) (co : Int32) (ro : Int32) : k_X4_above nC nR nf fx fy fz co ro = 0 ∨ k_X4_above nC nR nf fx fy fz co ro = 1 := by
  unfold k_X4_above
  (repeat' split) <;> first | decide | (rcases kr_X4_requirePanel _ _ _ _ _ with h | h <;> rw [h] <;> decide)
theorem kr_X4_isUp (nC : Nat) (nR : Nat) (nf : Int32) (fu : Nat → Int32) (co : Int32) (ro : Int32) : k_X4_isUp nC nR nf fu co ro = 0 ∨ k_X4_isUp nC nR nf fu co ro = 1 := by
  unfold k_X4_isUp
  (repeat' split) <;> first | decide | (rcases kr_X4_requirePanel _ _ _ _ _ with h | h <;> rw [h] <;> decide)
theorem zl_stf {ft fw fh : Nat → Int32} (htr : ∀ j : Nat, j < 9 → ¬ ft j = 0) (bd : Int32) : vf_n32 (s_X4_stretch ft fw fh bd) := by
  unfold s_X4_stretch
  split
  · unfold s_X0_areaByTruth
    exact z_fdiv _ _ (z_trn htr bd)
  · exact z_n32 (by decide +kernel)
def s_L_tabled (fw : Nat → Int32) (fh : Nat → Int32) (row : Int32) (wd : Int32) (hgt : Int32) : Int32 := (if k_X4_table fw fh row wd hgt = 0 then 0 else (if k_X4_table fw fh row wd hgt = 1 then (-1) else (if k_X4_table fw fh row wd hgt = 2 then (-2) else (-3))))
def n_L_tabled_qw (fw : Nat → Int32) (fh : Nat → Int32) (row : Int32) (wd : Int32) (hgt : Int32) : Nat → Int32 := n_X4_table_qw fw fh row wd hgt
def n_L_tabled_qh (fw : Nat → Int32) (fh : Nat → Int32) (row : Int32) (wd : Int32) (hgt : Int32) : Nat → Int32 := n_X4_table_qh fw fh row wd hgt
abbrev rm_L_tabled : Room := { frames := 7, cells := 1, slots := 6, locals := 113 }
abbrev Qc_L_tabled (D : va_G) (cI cZ cJ cD : ClassId) (qo : Nat) (qm : Nat) (qb : Nat) (qr : Nat) (qf : Nat) (qw : Nat) (qh : Nat) (fw : Nat → Int32) (fh : Nat → Int32) (row : Int32) (wd : Int32) (hgt : Int32) (A : Nat → Prop) : Array Value → State → Outcome → State → Prop := va_Qi (fun (r : Int32) (_ : Unit) => r = s_L_tabled fw fh row wd hgt) (zPost D cI cZ cJ cD A [(qo, .inr (4, [.ref qm, .ref qb, .ref qr, .ref qf])), (qm, .inr (2, [.ref qw, .ref qh])), (qw, .inl (cI, 10, .inl (n_L_tabled_qw fw fh row wd hgt))), (qh, .inl (cI, 10, .inl (n_L_tabled_qh fw fh row wd hgt)))]) A
abbrev Xc_L_tabled (D : va_G) (cI cZ cJ cD : ClassId) (qo : Nat) (qm : Nat) (qb : Nat) (qr : Nat) (qf : Nat) (qw : Nat) (qh : Nat) (fw : Nat → Int32) (fh : Nat → Int32) (row : Int32) (wd : Int32) (hgt : Int32) (A : Nat → Prop) : String → State → State → Prop := vx_X (fun _ : Unit => True) (fun _ _ _ => False) A
set_option maxHeartbeats 4000000 in
set_option maxRecDepth 100000 in
theorem c_L_tabled (l : Launch) (hnt : l.stackTraces = false) (D : va_G) (cI cZ cJ cD : ClassId) (qo : Nat) (qm : Nat) (qb : Nat) (qr : Nat) (qf : Nat) (qw : Nat) (qh : Nat) (fw : Nat → Int32) (fh : Nat → Int32) (row : Int32) (wd : Int32) (hgt : Int32) (sz : Nat)  : vx_Met l yL_tabled wsL_tabled rm_L_tabled (va_Pc [.ref qo, .int row, .int wd, .int hgt] (zPreWE D cI cZ cJ cD [(qo, .inr (4, [.ref qm, .ref qb, .ref qr, .ref qf])), (qm, .inr (2, [.ref qw, .ref qh])), (qw, .inl (cI, 10, .inl fw)), (qh, .inl (cI, 10, .inl fh))] sz)) (Qc_L_tabled D cI cZ cJ cD qo qm qb qr qf qw qh fw fh row wd hgt (va_A [(qo, .inr (4, [.ref qm, .ref qb, .ref qr, .ref qf])), (qm, .inr (2, [.ref qw, .ref qh])), (qw, .inl (cI, 10, .inl fw)), (qh, .inl (cI, 10, .inl fh))] sz)) (Xc_L_tabled D cI cZ cJ cD qo qm qb qr qf qw qh fw fh row wd hgt (va_A [(qo, .inr (4, [.ref qm, .ref qb, .ref qr, .ref qf])), (qm, .inr (2, [.ref qw, .ref qh])), (qw, .inl (cI, 10, .inl fw)), (qh, .inl (cI, 10, .inl fh))] sz)) 1 6 (va_A [(qo, .inr (4, [.ref qm, .ref qb, .ref qr, .ref qf])), (qm, .inr (2, [.ref qw, .ref qh])), (qw, .inl (cI, 10, .inl fw)), (qh, .inl (cI, 10, .inl fh))] sz) := by
  refine vx_ofWH (cc := cL_tabled) (maxL := 5) (ret := (some .int)) (hh := [(0, 8, 9, 29), (0, 8, 13, 31), (0, 8, 18, 33)]) (by decide) rfl ?_
  intro p e s m args below meth c s₁ B hml hv
  obtain ⟨rfl, hsz, hP, hK, hD0, hE⟩ := hv
  have hx := B.exec
  have hb := B.bytes
  have hr := B.returns
  have hts := atoms_spec (ws := wsL_tabled) B.pre
  have hown : s.vm.findClass RL = some m.cls := findClass_of_methodNamed B.named
  have hlocks := B.notSynchronized
  have htab := vx_table (x := yL_tabled) B (hts _ List.mem_cons_self)
  subst hsz
  have hD := hD0.self (sz := s.heap.size)
  generalize hAe : va_A [(qo, .inr (4, [.ref qm, .ref qb, .ref qr, .ref qf])), (qm, .inr (2, [.ref qw, .ref qh])), (qw, .inl (cI, 10, .inl fw)), (qh, .inl (cI, 10, .inl fh))] s.heap.size = A at hE hD ⊢
  have hA : ∀ q : Nat, s.heap.size ≤ q → A q := fun q h => by rw [← hAe]; exact Or.inr h
  have hS : va_S A s.heap s.heap [] := va_S.rf
  have hl := lv_entry ([.ref qo, .int row, .int wd, .int hgt]) (n := 5) (Nat.le_of_ble_eq_true rfl)
  rw [lg_entry_eq]
  generalize (lg_sl ([.ref qo, .int row, .int wd, .int hgt]) ++ List.replicate (5 - (lg_sl ([.ref qo, .int row, .int wd, .int hgt])).length) Slot.unset).toArray = ls at hl ⊢
  have hl : lv_has ls 5 [(0, .ref qo), (1, .int row), (2, .int wd), (3, .int hgt)] := hl
  have hP : va_P D vwCl [(qo, .inr (4, [.ref qm, .ref qb, .ref qr, .ref qf])), (qm, .inr (2, [.ref qw, .ref qh])), (qw, .inl (cI, 10, .inl fw)), (qh, .inl (cI, 10, .inl fh))] s.heap := hP
  have hP := hP
  refine lv_aload_n hx hb dL_tabled_0 rfl (lv_at hl 0 rfl) ?_
  refine lv_iload_n hx hb dL_tabled_1 rfl (lv_at hl 1 rfl) ?_
  refine lv_iload_n hx hb dL_tabled_2 rfl (lv_at hl 2 rfl) ?_
  refine lv_iload_n hx hb dL_tabled_3 rfl (lv_at hl 3 rfl) ?_
  have hPc := hP.sub (ws' := [(qo, .inr (4, [.ref qm, .ref qb, .ref qr, .ref qf])), (qm, .inr (2, [.ref qw, .ref qh])), (qw, .inl (cI, 10, .inl fw)), (qh, .inl (cI, 10, .inl fh))]) [0, 1, 2, 3] rfl
  have hDc := hD.sub (ws' := [(qo, .inr (4, [.ref qm, .ref qb, .ref qr, .ref qf])), (qm, .inr (2, [.ref qw, .ref qh])), (qw, .inl (cI, 10, .inl fw)), (qh, .inl (cI, 10, .inl fh))]) [0, 1, 2, 3] (by decide) rfl
  have hFc := va_free (wc := [(qo, .inr (4, [.ref qm, .ref qb, .ref qr, .ref qf])), (qm, .inr (2, [.ref qw, .ref qh])), (qw, .inl (cI, 10, .inl fw)), (qh, .inl (cI, 10, .inl fh))]) hD hS hA [0, 1, 2, 3] rfl
  refine vx_callv (vx_runV (As := [.int row, .int wd, .int hgt]) (rest := []) ⟨hx, hb, hml, hown, hts⟩ (c_X4_table l hnt D cI cZ cJ cD qo qm qb qr qf qw qh fw fh row wd hgt s.heap.size ) (cwV 3 hts gL_tabled_X4_table rfl rfl rfl (by decide +kernel) ⟨Nat.le_of_ble_eq_true rfl, Nat.le_of_ble_eq_true rfl⟩) ⟨zblindWE, va_recv hK hP (ci := 4) (q0 := 0) rfl rfl, (fun U hU hW => ⟨rfl, by rw [hU], by rw [hU]; exact hPc, va_K.moved hW.alike hK, hDc.weaken (fun _ _ _ _ => trivial), zEnv.go hE hS hFc hU hW⟩)⟩ rfl rfl hl.1 rfl (lv_room (Nat.le_of_ble_eq_true rfl)) dL_tabled_4 ⟨(show _ ≤ 1 from by omega), (show _ ≤ 6 from by omega)⟩) hS (fun q _ h => hFc q h) hFc (fun q _ h => hFc q h) (fun E ce q9 u t H locs ht hvm hpx hB hz1 hk1 hS hq9 hce hcl => ?_) (fun u t H locs ht hvm hw hB hz1 hk1 hS => ?_)
  · obtain ⟨hX, hB⟩ := hB
    obtain ⟨hP1, hK1, hD1⟩ := hB
    rw [ht] at hP1
    obtain ⟨hP, hD⟩ := va_join (wr := []) (w1 := [(qo, .inr (4, [.ref qm, .ref qb, .ref qr, .ref qf])), (qm, .inr (2, [.ref qw, .ref qh])), (qw, .inl (cI, 10, .inl (n_X4_table_qw fw fh row wd hgt))), (qh, .inl (cI, 10, .inl (n_X4_table_qh fw fh row wd hgt)))]) hP hD [0, 1, 2, 3] [] rfl rfl (by decide) (by decide) hk1 hFc hP1 hD1
    have hP := hP.sub (ws' := [(qo, .inr (4, [.ref qm, .ref qb, .ref qr, .ref qf])), (qm, .inr (2, [.ref qw, .ref qh])), (qw, .inl (cI, 10, .inl (n_X4_table_qw fw fh row wd hgt))), (qh, .inl (cI, 10, .inl (n_X4_table_qh fw fh row wd hgt)))]) [0, 1, 2, 3] rfl
    have hD := hD.sub (ws' := [(qo, .inr (4, [.ref qm, .ref qb, .ref qr, .ref qf])), (qm, .inr (2, [.ref qw, .ref qh])), (qw, .inl (cI, 10, .inl (n_X4_table_qw fw fh row wd hgt))), (qh, .inl (cI, 10, .inl (n_X4_table_qh fw fh row wd hgt)))]) [0, 1, 2, 3] (by decide) rfl
    have c11 : ¬ k_X4_table fw fh row wd hgt = 0 := zX_ne hX
    rcases hX with ⟨rfl, hk9⟩ | ⟨rfl, hk9⟩ | ⟨rfl, hk9⟩
    · have c12 : k_X4_table fw fh row wd hgt = 1 := hk9
      refine vx_catch (own := RL) (name := "java/lang/IndexOutOfBoundsException") (E := "java/lang/IndexOutOfBoundsException") hown [] ⟨0, 8, 9, 29⟩ [⟨0, 8, 13, 31⟩, ⟨0, 8, 18, 33⟩] (htab.trans rfl) (fun z hz => absurd hz List.not_mem_nil) rfl (by decide) (hts (.classLink RL 29 "java/lang/IndexOutOfBoundsException") (List.mem_cons_of_mem _ (List.mem_append_left _ (List.mem_append_left _ (List.mem_append_left _ (List.mem_append_left _ (List.mem_append_left _ (List.mem_append_left _ (List.mem_of_getElem? (i := 0) rfl))))))))) ((hE.2.2.2.1 ("java/lang/IndexOutOfBoundsException", "java/lang/IndexOutOfBoundsException") (by decide)).use rfl) hq9 hce hcl ?_
      refine lv_astore (lv' := [(4, .ref q9), (0, .ref qo), (1, .int row), (2, .int wd), (3, .int hgt)]) hx hb dL_tabled_9 hl (by decide) rfl (fun ls hl => ?_)
      refine lv_iconst (v := (-1)) hx hb dL_tabled_11 (by decide) ?_
      have e13 : s_L_tabled fw fh row wd hgt = (-1) := by
        unfold s_L_tabled
        exact ((if_neg c11).trans (if_pos c12))
      have e14 : n_L_tabled_qw fw fh row wd hgt = n_X4_table_qw fw fh row wd hgt := rfl
      have e15 : n_L_tabled_qh fw fh row wd hgt = n_X4_table_qh fw fh row wd hgt := rfl
      refine vx_ret ?_
      exact W.iret (v := (-1)) hx hb hr (fun t ht hW => ⟨⟨_, (), rfl, e13.symm, ⟨(by rw [e14, e15]; rw [ht]; exact hP), va_K.moved hW.alike hK, (by rw [e14, e15]; exact hD)⟩⟩, hS.F ht⟩) hS.2.2 dL_tabled_12
    · have c16 : ¬ k_X4_table fw fh row wd hgt = 1 := by omega
      have c17 : k_X4_table fw fh row wd hgt = 2 := hk9
      refine vx_catch (own := RL) (name := "java/lang/IllegalArgumentException") (E := "java/lang/IllegalArgumentException") hown [⟨0, 8, 9, 29⟩] ⟨0, 8, 13, 31⟩ [⟨0, 8, 18, 33⟩] (htab.trans rfl) (fun z hz => (List.mem_cons.mp hz).elim (fun e9 => by rw [e9]; exact Or.inr ⟨by decide, "java/lang/IndexOutOfBoundsException", (hts (.classLink RL 29 "java/lang/IndexOutOfBoundsException") (List.mem_cons_of_mem _ (List.mem_append_left _ (List.mem_append_left _ (List.mem_append_left _ (List.mem_append_left _ (List.mem_append_left _ (List.mem_append_left _ (List.mem_of_getElem? (i := 0) rfl))))))))), hE.2.2.2.2.1 ("java/lang/IllegalArgumentException", "java/lang/IndexOutOfBoundsException") (by decide)⟩) (fun hz => absurd hz List.not_mem_nil)) rfl (by decide) (hts (.classLink RL 31 "java/lang/IllegalArgumentException") (List.mem_cons_of_mem _ (List.mem_append_left _ (List.mem_append_left _ (List.mem_append_left _ (List.mem_append_left _ (List.mem_append_left _ (List.mem_append_left _ (List.mem_of_getElem? (i := 1) rfl))))))))) ((hE.2.2.2.1 ("java/lang/IllegalArgumentException", "java/lang/IllegalArgumentException") (by decide)).use rfl) hq9 hce hcl ?_
      refine lv_astore (lv' := [(4, .ref q9), (0, .ref qo), (1, .int row), (2, .int wd), (3, .int hgt)]) hx hb dL_tabled_13 hl (by decide) rfl (fun ls hl => ?_)
      refine lv_bipush (v := (-2)) hx hb dL_tabled_15 (by decide) ?_
      have e18 : s_L_tabled fw fh row wd hgt = (-2) := by
        unfold s_L_tabled
        exact ((if_neg c11).trans ((if_neg c16).trans (if_pos c17)))
      have e19 : n_L_tabled_qw fw fh row wd hgt = n_X4_table_qw fw fh row wd hgt := rfl
      have e20 : n_L_tabled_qh fw fh row wd hgt = n_X4_table_qh fw fh row wd hgt := rfl
      refine vx_ret ?_
      exact W.iret (v := (-2)) hx hb hr (fun t ht hW => ⟨⟨_, (), rfl, e18.symm, ⟨(by rw [e19, e20]; rw [ht]; exact hP), va_K.moved hW.alike hK, (by rw [e19, e20]; exact hD)⟩⟩, hS.F ht⟩) hS.2.2 dL_tabled_17
    · have c21 : ¬ k_X4_table fw fh row wd hgt = 1 := by omega
      have c22 : ¬ k_X4_table fw fh row wd hgt = 2 := by omega
      refine vx_catch (own := RL) (name := "java/lang/IllegalStateException") (E := "java/lang/IllegalStateException") hown [⟨0, 8, 9, 29⟩, ⟨0, 8, 13, 31⟩] ⟨0, 8, 18, 33⟩ [] (htab.trans rfl) (fun z hz => (List.mem_cons.mp hz).elim (fun e9 => by rw [e9]; exact Or.inr ⟨by decide, "java/lang/IndexOutOfBoundsException", (hts (.classLink RL 29 "java/lang/IndexOutOfBoundsException") (List.mem_cons_of_mem _ (List.mem_append_left _ (List.mem_append_left _ (List.mem_append_left _ (List.mem_append_left _ (List.mem_append_left _ (List.mem_append_left _ (List.mem_of_getElem? (i := 0) rfl))))))))), hE.2.2.2.2.1 ("java/lang/IllegalStateException", "java/lang/IndexOutOfBoundsException") (by decide)⟩) (fun hz => (List.mem_cons.mp hz).elim (fun e9 => by rw [e9]; exact Or.inr ⟨by decide, "java/lang/IllegalArgumentException", (hts (.classLink RL 31 "java/lang/IllegalArgumentException") (List.mem_cons_of_mem _ (List.mem_append_left _ (List.mem_append_left _ (List.mem_append_left _ (List.mem_append_left _ (List.mem_append_left _ (List.mem_append_left _ (List.mem_of_getElem? (i := 1) rfl))))))))), hE.2.2.2.2.1 ("java/lang/IllegalStateException", "java/lang/IllegalArgumentException") (by decide)⟩) (fun hz => absurd hz List.not_mem_nil))) rfl (by decide) (hts (.classLink RL 33 "java/lang/IllegalStateException") (List.mem_cons_of_mem _ (List.mem_append_left _ (List.mem_append_left _ (List.mem_append_left _ (List.mem_append_left _ (List.mem_append_left _ (List.mem_append_left _ (List.mem_of_getElem? (i := 2) rfl))))))))) ((hE.2.2.2.1 ("java/lang/IllegalStateException", "java/lang/IllegalStateException") (by decide)).use rfl) hq9 hce hcl ?_
      refine lv_astore (lv' := [(4, .ref q9), (0, .ref qo), (1, .int row), (2, .int wd), (3, .int hgt)]) hx hb dL_tabled_18 hl (by decide) rfl (fun ls hl => ?_)
      refine lv_bipush (v := (-3)) hx hb dL_tabled_20 (by decide) ?_
      have e24 : s_L_tabled fw fh row wd hgt = (-3) := by
        unfold s_L_tabled
        exact ((if_neg c11).trans ((if_neg c21).trans (if_neg c22)))
      have e25 : n_L_tabled_qw fw fh row wd hgt = n_X4_table_qw fw fh row wd hgt := rfl
      have e26 : n_L_tabled_qh fw fh row wd hgt = n_X4_table_qh fw fh row wd hgt := rfl
      refine vx_ret ?_
      exact W.iret (v := (-3)) hx hb hr (fun t ht hW => ⟨⟨_, (), rfl, e24.symm, ⟨(by rw [e25, e26]; rw [ht]; exact hP), va_K.moved hW.alike hK, (by rw [e25, e26]; exact hD)⟩⟩, hS.F ht⟩) hS.2.2 dL_tabled_22
  · have c27 : k_X4_table fw fh row wd hgt = 0 := hw
    obtain ⟨hP1, hK1, hD1⟩ := hB
    rw [ht] at hP1
    obtain ⟨hP, hD⟩ := va_join (wr := []) (w1 := [(qo, .inr (4, [.ref qm, .ref qb, .ref qr, .ref qf])), (qm, .inr (2, [.ref qw, .ref qh])), (qw, .inl (cI, 10, .inl (n_X4_table_qw fw fh row wd hgt))), (qh, .inl (cI, 10, .inl (n_X4_table_qh fw fh row wd hgt)))]) hP hD [0, 1, 2, 3] [] rfl rfl (by decide) (by decide) hk1 hFc hP1 hD1
    have hP := hP.sub (ws' := [(qo, .inr (4, [.ref qm, .ref qb, .ref qr, .ref qf])), (qm, .inr (2, [.ref qw, .ref qh])), (qw, .inl (cI, 10, .inl (n_X4_table_qw fw fh row wd hgt))), (qh, .inl (cI, 10, .inl (n_X4_table_qh fw fh row wd hgt)))]) [0, 1, 2, 3] rfl
    have hD := hD.sub (ws' := [(qo, .inr (4, [.ref qm, .ref qb, .ref qr, .ref qf])), (qm, .inr (2, [.ref qw, .ref qh])), (qw, .inl (cI, 10, .inl (n_X4_table_qw fw fh row wd hgt))), (qh, .inl (cI, 10, .inl (n_X4_table_qh fw fh row wd hgt)))]) [0, 1, 2, 3] (by decide) rfl
    refine W.widen (k := 1) (n := 6) (by omega) (by omega) ?_
    refine lv_iconst (v := 0) hx hb dL_tabled_7 (by decide) ?_
    have e28 : s_L_tabled fw fh row wd hgt = 0 := by
      unfold s_L_tabled
      exact (if_pos c27)
    have e29 : n_L_tabled_qw fw fh row wd hgt = n_X4_table_qw fw fh row wd hgt := rfl
    have e30 : n_L_tabled_qh fw fh row wd hgt = n_X4_table_qh fw fh row wd hgt := rfl
    refine vx_ret ?_
    exact W.iret (v := 0) hx hb hr (fun t ht hW => ⟨⟨_, (), rfl, e28.symm, ⟨(by rw [e29, e30]; rw [ht]; exact hP), va_K.moved hW.alike hK, (by rw [e29, e30]; exact hD)⟩⟩, hS.F ht⟩) hS.2.2 dL_tabled_8
def s_L_by (fw : Nat → Int32) (fh : Nat → Int32) (br : Int32) (nC : Nat) (nR : Nat) (nf : Int32) (wh : Int32) (wa : Int32) (wb : Int32) (wc : Int32) : Int32 := (if wh = 0 then (if k_X4_x fw fh wa wb = 0 then s_X4_x fw fh wa wb else (-9000001)) else (if wh = 1 then (if k_X4_y fw fh wa = 0 then s_X4_y fw fh wa else (-9000001)) else (if wh = 2 then (if k_X4_apart wa wb = 0 then s_X4_apart wa wb else (-9000001)) else (if wh = 3 then (if k_X4_ringWay fw fh wc wa wb = 0 then s_X4_ringWay fw fh wc wa wb else (-9000001)) else (if wh = 4 then (if k_X4_zone br wa = 0 then s_X4_zone br wa else (-9000001)) else (if wh = 5 then (if k_X4_seams br wa wb = 0 then s_X4_seams br wa wb else (-9000001)) else (if wh = 6 then (if k_X4_dateLine wa wb = 0 then s_X4_dateLine wa wb else (-9000001)) else (if wh = 7 then (if k_X4_panel nC nR nf wa wb = 0 then s_X4_panel nC nR nf wa wb else (-9000001)) else (if k_X4_zones br wa = 0 then s_X4_zones br wa else (-9000001))))))))))
def n_L_by_qr_0 (br : Int32) (wh : Int32) (wa : Int32) : Int32 := (if wh = 0 then br else (if wh = 1 then br else (if wh = 2 then br else (if wh = 3 then br else (if wh = 4 then br else (if wh = 5 then br else (if wh = 6 then br else (if wh = 7 then br else n_X4_zones_qr_0 br wa))))))))
abbrev rm_L_by : Room := { frames := 8, cells := 16, slots := 96, locals := 133 }
abbrev Qc_L_by (D : va_G) (cI cZ cJ cD : ClassId) (qo : Nat) (qm : Nat) (qb : Nat) (qr : Nat) (qf : Nat) (qw : Nat) (qh : Nat) (fw : Nat → Int32) (fh : Nat → Int32) (br : Int32) (qx : Nat) (qy : Nat) (qz : Nat) (qu : Nat) (nC : Nat) (nR : Nat) (nf : Int32) (wh : Int32) (wa : Int32) (wb : Int32) (wc : Int32) (A : Nat → Prop) : Array Value → State → Outcome → State → Prop := va_Qi (fun (r : Int32) (_ : Unit) => r = s_L_by fw fh br nC nR nf wh wa wb wc) (zPost D cI cZ cJ cD A [(qo, .inr (4, [.ref qm, .ref qb, .ref qr, .ref qf])), (qm, .inr (2, [.ref qw, .ref qh])), (qw, .inl (cI, 10, .inl fw)), (qh, .inl (cI, 10, .inl fh)), (qr, .inr (3, [.int (n_L_by_qr_0 br wh wa)])), (qf, .inr (1, [.ref qx, .ref qy, .ref qz, .ref qu, .int (nI nC), .int (nI nR), .int nf]))]) A
abbrev Xc_L_by (D : va_G) (cI cZ cJ cD : ClassId) (qo : Nat) (qm : Nat) (qb : Nat) (qr : Nat) (qf : Nat) (qw : Nat) (qh : Nat) (fw : Nat → Int32) (fh : Nat → Int32) (br : Int32) (qx : Nat) (qy : Nat) (qz : Nat) (qu : Nat) (nC : Nat) (nR : Nat) (nf : Int32) (wh : Int32) (wa : Int32) (wb : Int32) (wc : Int32) (A : Nat → Prop) : String → State → State → Prop := vx_X (fun _ : Unit => True) (fun _ _ _ => False) A
set_option maxHeartbeats 4000000 in
set_option maxRecDepth 100000 in
theorem c_L_by (l : Launch) (hnt : l.stackTraces = false) (D : va_G) (cI cZ cJ cD : ClassId) (qo : Nat) (qm : Nat) (qb : Nat) (qr : Nat) (qf : Nat) (qw : Nat) (qh : Nat) (fw : Nat → Int32) (fh : Nat → Int32) (br : Int32) (qx : Nat) (qy : Nat) (qz : Nat) (qu : Nat) (nC : Nat) (nR : Nat) (nf : Int32) (wh : Int32) (wa : Int32) (wb : Int32) (wc : Int32) (sz : Nat)  : vx_Met l yL_by wsL_by rm_L_by (va_Pc [.ref qo, .int wh, .int wa, .int wb, .int wc] (zPreWE D cI cZ cJ cD [(qo, .inr (4, [.ref qm, .ref qb, .ref qr, .ref qf])), (qm, .inr (2, [.ref qw, .ref qh])), (qw, .inl (cI, 10, .inl fw)), (qh, .inl (cI, 10, .inl fh)), (qr, .inr (3, [.int br])), (qf, .inr (1, [.ref qx, .ref qy, .ref qz, .ref qu, .int (nI nC), .int (nI nR), .int nf]))] sz)) (Qc_L_by D cI cZ cJ cD qo qm qb qr qf qw qh fw fh br qx qy qz qu nC nR nf wh wa wb wc (va_A [(qo, .inr (4, [.ref qm, .ref qb, .ref qr, .ref qf])), (qm, .inr (2, [.ref qw, .ref qh])), (qw, .inl (cI, 10, .inl fw)), (qh, .inl (cI, 10, .inl fh)), (qr, .inr (3, [.int br])), (qf, .inr (1, [.ref qx, .ref qy, .ref qz, .ref qu, .int (nI nC), .int (nI nR), .int nf]))] sz)) (Xc_L_by D cI cZ cJ cD qo qm qb qr qf qw qh fw fh br qx qy qz qu nC nR nf wh wa wb wc (va_A [(qo, .inr (4, [.ref qm, .ref qb, .ref qr, .ref qf])), (qm, .inr (2, [.ref qw, .ref qh])), (qw, .inl (cI, 10, .inl fw)), (qh, .inl (cI, 10, .inl fh)), (qr, .inr (3, [.int br])), (qf, .inr (1, [.ref qx, .ref qy, .ref qz, .ref qu, .int (nI nC), .int (nI nR), .int nf]))] sz)) 16 96 (va_A [(qo, .inr (4, [.ref qm, .ref qb, .ref qr, .ref qf])), (qm, .inr (2, [.ref qw, .ref qh])), (qw, .inl (cI, 10, .inl fw)), (qh, .inl (cI, 10, .inl fh)), (qr, .inr (3, [.int br])), (qf, .inr (1, [.ref qx, .ref qy, .ref qz, .ref qu, .int (nI nC), .int (nI nR), .int nf]))] sz) := by
  refine vx_ofWH (cc := cL_by) (maxL := 6) (ret := (some .int)) (hh := [(0, 118, 119, 31)]) (by decide) rfl ?_
  intro p e s m args below meth c s₁ B hml hv
  obtain ⟨rfl, hsz, hP, hK, hD0, hE⟩ := hv
  have hx := B.exec
  have hb := B.bytes
  have hr := B.returns
  have hts := atoms_spec (ws := wsL_by) B.pre
  have hown : s.vm.findClass RL = some m.cls := findClass_of_methodNamed B.named
  have hlocks := B.notSynchronized
  have htab := vx_table (x := yL_by) B (hts _ List.mem_cons_self)
  subst hsz
  have hD := hD0.self (sz := s.heap.size)
  generalize hAe : va_A [(qo, .inr (4, [.ref qm, .ref qb, .ref qr, .ref qf])), (qm, .inr (2, [.ref qw, .ref qh])), (qw, .inl (cI, 10, .inl fw)), (qh, .inl (cI, 10, .inl fh)), (qr, .inr (3, [.int br])), (qf, .inr (1, [.ref qx, .ref qy, .ref qz, .ref qu, .int (nI nC), .int (nI nR), .int nf]))] s.heap.size = A at hE hD ⊢
  have hA : ∀ q : Nat, s.heap.size ≤ q → A q := fun q h => by rw [← hAe]; exact Or.inr h
  have hS : va_S A s.heap s.heap [] := va_S.rf
  have hl := lv_entry ([.ref qo, .int wh, .int wa, .int wb, .int wc]) (n := 6) (Nat.le_of_ble_eq_true rfl)
  rw [lg_entry_eq]
  generalize (lg_sl ([.ref qo, .int wh, .int wa, .int wb, .int wc]) ++ List.replicate (6 - (lg_sl ([.ref qo, .int wh, .int wa, .int wb, .int wc])).length) Slot.unset).toArray = ls at hl ⊢
  have hl : lv_has ls 6 [(0, .ref qo), (1, .int wh), (2, .int wa), (3, .int wb), (4, .int wc)] := hl
  have hP : va_P D vwCl [(qo, .inr (4, [.ref qm, .ref qb, .ref qr, .ref qf])), (qm, .inr (2, [.ref qw, .ref qh])), (qw, .inl (cI, 10, .inl fw)), (qh, .inl (cI, 10, .inl fh)), (qr, .inr (3, [.int br])), (qf, .inr (1, [.ref qx, .ref qy, .ref qz, .ref qu, .int (nI nC), .int (nI nR), .int nf]))] s.heap := hP
  have hP := hP
  refine lv_iload_n hx hb dL_by_0 rfl (lv_at hl 1 rfl) ?_
  refine lv_if_ne (tgt := 13) hx hb dL_by_1 (by decide) (fun c45 => ?_) (fun c45 => ?_)
  · refine lv_iload_n hx hb dL_by_13 rfl (lv_at hl 1 rfl) ?_
    refine lv_iconst (v := 1) hx hb dL_by_14 (by decide) ?_
    refine lv_icmp_ne (tgt := 26) hx hb dL_by_15 (by decide) (fun c46 => ?_) (fun c46 => ?_)
    · refine lv_iload_n hx hb dL_by_26 rfl (lv_at hl 1 rfl) ?_
      refine lv_iconst (v := 2) hx hb dL_by_27 (by decide) ?_
      refine lv_icmp_ne (tgt := 40) hx hb dL_by_28 (by decide) (fun c47 => ?_) (fun c47 => ?_)
      · refine lv_iload_n hx hb dL_by_40 rfl (lv_at hl 1 rfl) ?_
        refine lv_iconst (v := 3) hx hb dL_by_41 (by decide) ?_
        refine lv_icmp_ne (tgt := 56) hx hb dL_by_42 (by decide) (fun c48 => ?_) (fun c48 => ?_)
        · refine lv_iload_n hx hb dL_by_56 rfl (lv_at hl 1 rfl) ?_
          refine lv_iconst (v := 4) hx hb dL_by_57 (by decide) ?_
          refine lv_icmp_ne (tgt := 69) hx hb dL_by_58 (by decide) (fun c49 => ?_) (fun c49 => ?_)
          · refine lv_iload_n hx hb dL_by_69 rfl (lv_at hl 1 rfl) ?_
            refine lv_iconst (v := 5) hx hb dL_by_70 (by decide) ?_
            refine lv_icmp_ne (tgt := 83) hx hb dL_by_71 (by decide) (fun c50 => ?_) (fun c50 => ?_)
            · refine lv_iload_n hx hb dL_by_83 rfl (lv_at hl 1 rfl) ?_
              refine lv_bipush (v := 6) hx hb dL_by_84 (by decide) ?_
              refine lv_icmp_ne (tgt := 98) hx hb dL_by_86 (by decide) (fun c51 => ?_) (fun c51 => ?_)
              · refine lv_iload_n hx hb dL_by_98 rfl (lv_at hl 1 rfl) ?_
                refine lv_bipush (v := 7) hx hb dL_by_99 (by decide) ?_
                refine lv_icmp_ne (tgt := 113) hx hb dL_by_101 (by decide) (fun c52 => ?_) (fun c52 => ?_)
                · refine lv_aload_n hx hb dL_by_113 rfl (lv_at hl 0 rfl) ?_
                  refine lv_iload_n hx hb dL_by_114 rfl (lv_at hl 2 rfl) ?_
                  have hPc := hP.sub (ws' := [(qo, .inr (4, [.ref qm, .ref qb, .ref qr, .ref qf])), (qr, .inr (3, [.int br]))]) [0, 4] rfl
                  have hDc := hD.sub (ws' := [(qo, .inr (4, [.ref qm, .ref qb, .ref qr, .ref qf])), (qr, .inr (3, [.int br]))]) [0, 4] (by decide) rfl
                  have hFc := va_free (wc := [(qo, .inr (4, [.ref qm, .ref qb, .ref qr, .ref qf])), (qr, .inr (3, [.int br]))]) hD hS hA [0, 4] rfl
                  refine vx_calli (vx_runV (As := [.int wa]) (rest := []) ⟨hx, hb, hml, hown, hts⟩ (c_X4_zones l hnt D cI cZ cJ cD qo qm qb qr qf br wa s.heap.size ) (cwV 1 hts gL_by_X4_zones rfl rfl rfl (by decide +kernel) ⟨Nat.le_of_ble_eq_true rfl, Nat.le_of_ble_eq_true rfl⟩) ⟨zblindWE, va_recv hK hP (ci := 4) (q0 := 0) rfl rfl, (fun U hU hW => ⟨rfl, by rw [hU], by rw [hU]; exact hPc, va_K.moved hW.alike hK, hDc.weaken (fun _ _ _ _ => trivial), zEnv.go hE hS hFc hU hW⟩)⟩ rfl rfl hl.1 rfl (lv_room (Nat.le_of_ble_eq_true rfl)) dL_by_115 ⟨(show _ ≤ 16 from by omega), (show _ ≤ 96 from by omega)⟩) hS (fun q _ h => hFc q h) hFc (fun q _ h => hFc q h) (fun E ce q9 u t H locs ht hvm hpx hB hz1 hk1 hS hq9 hce hcl => ?_) (fun r53 u t H locs ht hvm hw hB hz1 hk1 hS => ?_)
                  · obtain ⟨hX, hB⟩ := hB
                    obtain ⟨hP1, hK1, hD1⟩ := hB
                    rw [ht] at hP1
                    obtain ⟨hP, hD⟩ := va_join (wr := [(qm, .inr (2, [.ref qw, .ref qh])), (qw, .inl (cI, 10, .inl fw)), (qh, .inl (cI, 10, .inl fh)), (qf, .inr (1, [.ref qx, .ref qy, .ref qz, .ref qu, .int (nI nC), .int (nI nR), .int nf]))]) (w1 := [(qo, .inr (4, [.ref qm, .ref qb, .ref qr, .ref qf])), (qr, .inr (3, [.int (n_X4_zones_qr_0 br wa)]))]) hP hD [0, 4] [1, 2, 3, 5] rfl rfl (by decide) (by decide) hk1 hFc hP1 hD1
                    have hP := hP.sub (ws' := [(qo, .inr (4, [.ref qm, .ref qb, .ref qr, .ref qf])), (qm, .inr (2, [.ref qw, .ref qh])), (qw, .inl (cI, 10, .inl fw)), (qh, .inl (cI, 10, .inl fh)), (qr, .inr (3, [.int (n_X4_zones_qr_0 br wa)])), (qf, .inr (1, [.ref qx, .ref qy, .ref qz, .ref qu, .int (nI nC), .int (nI nR), .int nf]))]) [4, 0, 1, 2, 5, 3] rfl
                    have hD := hD.sub (ws' := [(qo, .inr (4, [.ref qm, .ref qb, .ref qr, .ref qf])), (qm, .inr (2, [.ref qw, .ref qh])), (qw, .inl (cI, 10, .inl fw)), (qh, .inl (cI, 10, .inl fh)), (qr, .inr (3, [.int (n_X4_zones_qr_0 br wa)])), (qf, .inr (1, [.ref qx, .ref qy, .ref qz, .ref qu, .int (nI nC), .int (nI nR), .int nf]))]) [4, 0, 1, 2, 5, 3] (by decide) rfl
                    have c54 : ¬ k_X4_zones br wa = 0 := zX_ne hX
                    rcases hX with ⟨rfl, hk9⟩ | ⟨rfl, hk9⟩ | ⟨rfl, hk9⟩
                    · exact absurd hk9 (by have := kr_X4_zones br wa; omega)
                    · refine vx_catch (own := RL) (name := "java/lang/IllegalArgumentException") (E := "java/lang/IllegalArgumentException") hown [] ⟨0, 118, 119, 31⟩ [] (htab.trans rfl) (fun z hz => absurd hz List.not_mem_nil) rfl (by decide) (hts (.classLink RL 31 "java/lang/IllegalArgumentException") (List.mem_cons_of_mem _ (List.mem_append_left _ (List.mem_append_left _ (List.mem_append_left _ (List.mem_append_left _ (List.mem_append_left _ (List.mem_append_left _ (List.mem_of_getElem? (i := 0) rfl))))))))) ((hE.2.2.2.1 ("java/lang/IllegalArgumentException", "java/lang/IllegalArgumentException") (by decide)).use rfl) hq9 hce hcl ?_
                      refine lv_astore (lv' := [(5, .ref q9), (0, .ref qo), (1, .int wh), (2, .int wa), (3, .int wb), (4, .int wc)]) hx hb dL_by_119 hl (by decide) rfl (fun ls hl => ?_)
                      refine lv_ldc (v := (-9000001)) hx hb hown (hts (.constant RL 65 (-9000001)) (List.mem_cons_of_mem _ (List.mem_append_left _ (List.mem_append_left _ (List.mem_append_left _ (List.mem_append_left _ (List.mem_append_left _ (List.mem_append_left _ (List.mem_of_getElem? (i := 1) rfl))))))))) dL_by_121 ?_
                      refine W.widen (k := 16) (n := 96) (by decide) (by decide) ?_
                      have e56 : s_L_by fw fh br nC nR nf wh wa wb wc = (-9000001) := by
                        unfold s_L_by
                        exact ((if_neg c45).trans ((if_neg c46).trans ((if_neg c47).trans ((if_neg c48).trans ((if_neg c49).trans ((if_neg c50).trans ((if_neg c51).trans ((if_neg c52).trans (if_neg c54)))))))))
                      have e57 : n_L_by_qr_0 br wh wa = n_X4_zones_qr_0 br wa := by
                        unfold n_L_by_qr_0
                        exact ((if_neg c45).trans ((if_neg c46).trans ((if_neg c47).trans ((if_neg c48).trans ((if_neg c49).trans ((if_neg c50).trans ((if_neg c51).trans (if_neg c52))))))))
                      refine vx_ret ?_
                      exact W.iret (v := (-9000001)) hx hb hr (fun t ht hW => ⟨⟨_, (), rfl, e56.symm, ⟨(by rw [e57]; rw [ht]; exact hP), va_K.moved hW.alike hK, (by rw [e57]; exact hD)⟩⟩, hS.F ht⟩) hS.2.2 dL_by_123
                    · exact absurd hk9 (by have := kr_X4_zones br wa; omega)
                  · obtain ⟨c58, hw⟩ := hw
                    rw [hw]
                    obtain ⟨hP1, hK1, hD1⟩ := hB
                    rw [ht] at hP1
                    obtain ⟨hP, hD⟩ := va_join (wr := [(qm, .inr (2, [.ref qw, .ref qh])), (qw, .inl (cI, 10, .inl fw)), (qh, .inl (cI, 10, .inl fh)), (qf, .inr (1, [.ref qx, .ref qy, .ref qz, .ref qu, .int (nI nC), .int (nI nR), .int nf]))]) (w1 := [(qo, .inr (4, [.ref qm, .ref qb, .ref qr, .ref qf])), (qr, .inr (3, [.int (n_X4_zones_qr_0 br wa)]))]) hP hD [0, 4] [1, 2, 3, 5] rfl rfl (by decide) (by decide) hk1 hFc hP1 hD1
                    have hP := hP.sub (ws' := [(qo, .inr (4, [.ref qm, .ref qb, .ref qr, .ref qf])), (qm, .inr (2, [.ref qw, .ref qh])), (qw, .inl (cI, 10, .inl fw)), (qh, .inl (cI, 10, .inl fh)), (qr, .inr (3, [.int (n_X4_zones_qr_0 br wa)])), (qf, .inr (1, [.ref qx, .ref qy, .ref qz, .ref qu, .int (nI nC), .int (nI nR), .int nf]))]) [4, 0, 1, 2, 5, 3] rfl
                    have hD := hD.sub (ws' := [(qo, .inr (4, [.ref qm, .ref qb, .ref qr, .ref qf])), (qm, .inr (2, [.ref qw, .ref qh])), (qw, .inl (cI, 10, .inl fw)), (qh, .inl (cI, 10, .inl fh)), (qr, .inr (3, [.int (n_X4_zones_qr_0 br wa)])), (qf, .inr (1, [.ref qx, .ref qy, .ref qz, .ref qu, .int (nI nC), .int (nI nR), .int nf]))]) [4, 0, 1, 2, 5, 3] (by decide) rfl
                    refine W.widen (k := 1) (n := 6) (by omega) (by omega) ?_
                    refine W.widen (k := 16) (n := 96) (by decide) (by decide) ?_
                    have e59 : s_L_by fw fh br nC nR nf wh wa wb wc = s_X4_zones br wa := by
                      unfold s_L_by
                      exact ((if_neg c45).trans ((if_neg c46).trans ((if_neg c47).trans ((if_neg c48).trans ((if_neg c49).trans ((if_neg c50).trans ((if_neg c51).trans ((if_neg c52).trans (if_pos c58)))))))))
                    have e60 : n_L_by_qr_0 br wh wa = n_X4_zones_qr_0 br wa := by
                      unfold n_L_by_qr_0
                      exact ((if_neg c45).trans ((if_neg c46).trans ((if_neg c47).trans ((if_neg c48).trans ((if_neg c49).trans ((if_neg c50).trans ((if_neg c51).trans (if_neg c52))))))))
                    refine vx_ret ?_
                    exact W.iret (v := (s_X4_zones br wa)) hx hb hr (fun t ht hW => ⟨⟨_, (), rfl, e59.symm, ⟨(by rw [e60]; rw [ht]; exact hP), va_K.moved hW.alike hK, (by rw [e60]; exact hD)⟩⟩, hS.F ht⟩) hS.2.2 dL_by_118
                · refine lv_aload_n hx hb dL_by_104 rfl (lv_at hl 0 rfl) ?_
                  refine lv_iload_n hx hb dL_by_105 rfl (lv_at hl 2 rfl) ?_
                  refine lv_iload_n hx hb dL_by_106 rfl (lv_at hl 3 rfl) ?_
                  refine vx_calli (vx_runV (As := [.int wa, .int wb]) (rest := []) ⟨hx, hb, hml, hown, hts⟩ (c_X4_panel l hnt D cI cZ cJ cD qo qm qb qr qf qx qy qz qu nC nR nf wa wb ) (cwV 2 hts gL_by_X4_panel rfl rfl rfl (by decide +kernel) ⟨Nat.le_of_ble_eq_true rfl, Nat.le_of_ble_eq_true rfl⟩) ⟨zblindE, va_recv hK hP (ci := 4) (q0 := 0) rfl rfl, (fun U hU hW => ⟨rfl, by rw [hU]; exact hP.sub (ws' := [(qo, .inr (4, [.ref qm, .ref qb, .ref qr, .ref qf])), (qf, .inr (1, [.ref qx, .ref qy, .ref qz, .ref qu, .int (nI nC), .int (nI nR), .int nf]))]) [0, 5] rfl, va_K.moved hW.alike hK, zEnv.go hE hS (fun q h => h.elim) hU hW⟩)⟩ rfl rfl hl.1 rfl (lv_room (Nat.le_of_ble_eq_true rfl)) dL_by_107 ⟨(show _ ≤ 16 from by omega), (show _ ≤ 96 from by omega)⟩) hS (fun q _ h => h.elim) (fun q h => h.elim) (fun q _ h => h.elim) (fun E ce q9 u t H locs ht hvm hpx hB hz1 hk1 hS hq9 hce hcl => ?_) (fun r61 u t H locs ht hvm hw hB hz1 hk1 hS => ?_)
                  · have hX := hB
                    have hP := zk hP hk1
                    have c62 : ¬ k_X4_panel nC nR nf wa wb = 0 := zX_ne hX
                    rcases hX with ⟨rfl, hk9⟩ | ⟨rfl, hk9⟩ | ⟨rfl, hk9⟩
                    · exact absurd hk9 (by have := kr_X4_panel nC nR nf wa wb; omega)
                    · refine vx_catch (own := RL) (name := "java/lang/IllegalArgumentException") (E := "java/lang/IllegalArgumentException") hown [] ⟨0, 118, 119, 31⟩ [] (htab.trans rfl) (fun z hz => absurd hz List.not_mem_nil) rfl (by decide) (hts (.classLink RL 31 "java/lang/IllegalArgumentException") (List.mem_cons_of_mem _ (List.mem_append_left _ (List.mem_append_left _ (List.mem_append_left _ (List.mem_append_left _ (List.mem_append_left _ (List.mem_append_left _ (List.mem_of_getElem? (i := 0) rfl))))))))) ((hE.2.2.2.1 ("java/lang/IllegalArgumentException", "java/lang/IllegalArgumentException") (by decide)).use rfl) hq9 hce hcl ?_
                      refine lv_astore (lv' := [(5, .ref q9), (0, .ref qo), (1, .int wh), (2, .int wa), (3, .int wb), (4, .int wc)]) hx hb dL_by_119 hl (by decide) rfl (fun ls hl => ?_)
                      refine lv_ldc (v := (-9000001)) hx hb hown (hts (.constant RL 65 (-9000001)) (List.mem_cons_of_mem _ (List.mem_append_left _ (List.mem_append_left _ (List.mem_append_left _ (List.mem_append_left _ (List.mem_append_left _ (List.mem_append_left _ (List.mem_of_getElem? (i := 1) rfl))))))))) dL_by_121 ?_
                      refine W.widen (k := 16) (n := 96) (by decide) (by decide) ?_
                      have e64 : s_L_by fw fh br nC nR nf wh wa wb wc = (-9000001) := by
                        unfold s_L_by
                        exact ((if_neg c45).trans ((if_neg c46).trans ((if_neg c47).trans ((if_neg c48).trans ((if_neg c49).trans ((if_neg c50).trans ((if_neg c51).trans ((if_pos c52).trans (if_neg c62)))))))))
                      have e65 : n_L_by_qr_0 br wh wa = br := by
                        unfold n_L_by_qr_0
                        exact ((if_neg c45).trans ((if_neg c46).trans ((if_neg c47).trans ((if_neg c48).trans ((if_neg c49).trans ((if_neg c50).trans ((if_neg c51).trans (if_pos c52))))))))
                      refine vx_ret ?_
                      exact W.iret (v := (-9000001)) hx hb hr (fun t ht hW => ⟨⟨_, (), rfl, e64.symm, ⟨(by rw [e65]; rw [ht]; exact hP), va_K.moved hW.alike hK, (by rw [e65]; exact hD)⟩⟩, hS.F ht⟩) hS.2.2 dL_by_123
                    · exact absurd hk9 (by have := kr_X4_panel nC nR nf wa wb; omega)
                  · obtain ⟨c66, hw⟩ := hw
                    rw [hw]
                    have hP := zk hP hk1
                    refine W.widen (k := 2) (n := 12) (by omega) (by omega) ?_
                    refine lv_goto (tgt := 118) hx hb dL_by_110 (by decide) ?_
                    refine W.widen (k := 16) (n := 96) (by decide) (by decide) ?_
                    have e67 : s_L_by fw fh br nC nR nf wh wa wb wc = s_X4_panel nC nR nf wa wb := by
                      unfold s_L_by
                      exact ((if_neg c45).trans ((if_neg c46).trans ((if_neg c47).trans ((if_neg c48).trans ((if_neg c49).trans ((if_neg c50).trans ((if_neg c51).trans ((if_pos c52).trans (if_pos c66)))))))))
                    have e68 : n_L_by_qr_0 br wh wa = br := by
                      unfold n_L_by_qr_0
                      exact ((if_neg c45).trans ((if_neg c46).trans ((if_neg c47).trans ((if_neg c48).trans ((if_neg c49).trans ((if_neg c50).trans ((if_neg c51).trans (if_pos c52))))))))
                    refine vx_ret ?_
                    exact W.iret (v := (s_X4_panel nC nR nf wa wb)) hx hb hr (fun t ht hW => ⟨⟨_, (), rfl, e67.symm, ⟨(by rw [e68]; rw [ht]; exact hP), va_K.moved hW.alike hK, (by rw [e68]; exact hD)⟩⟩, hS.F ht⟩) hS.2.2 dL_by_118
              · refine lv_aload_n hx hb dL_by_89 rfl (lv_at hl 0 rfl) ?_
                refine lv_iload_n hx hb dL_by_90 rfl (lv_at hl 2 rfl) ?_
                refine lv_iload_n hx hb dL_by_91 rfl (lv_at hl 3 rfl) ?_
                refine vx_calli (vx_runV (As := [.int wa, .int wb]) (rest := []) ⟨hx, hb, hml, hown, hts⟩ (c_X4_dateLine l hnt D cI cZ cJ cD qo wa wb ) (cwV 2 hts gL_by_X4_dateLine rfl rfl rfl (by decide +kernel) ⟨Nat.le_of_ble_eq_true rfl, Nat.le_of_ble_eq_true rfl⟩) ⟨zblindE, va_recv hK hP (ci := 4) (q0 := 0) rfl rfl, (fun U hU hW => ⟨rfl, by rw [hU]; exact hP.sub (ws' := []) [] rfl, va_K.moved hW.alike hK, zEnv.go hE hS (fun q h => h.elim) hU hW⟩)⟩ rfl rfl hl.1 rfl (lv_room (Nat.le_of_ble_eq_true rfl)) dL_by_92 ⟨(show _ ≤ 16 from by omega), (show _ ≤ 96 from by omega)⟩) hS (fun q _ h => h.elim) (fun q h => h.elim) (fun q _ h => h.elim) (fun E ce q9 u t H locs ht hvm hpx hB hz1 hk1 hS hq9 hce hcl => ?_) (fun r69 u t H locs ht hvm hw hB hz1 hk1 hS => ?_)
                · have hX := hB
                  have hP := zk hP hk1
                  have c70 : ¬ k_X4_dateLine wa wb = 0 := zX_ne hX
                  rcases hX with ⟨rfl, hk9⟩ | ⟨rfl, hk9⟩ | ⟨rfl, hk9⟩
                  · exact absurd hk9 (by have := kr_X4_dateLine wa wb; omega)
                  · refine vx_catch (own := RL) (name := "java/lang/IllegalArgumentException") (E := "java/lang/IllegalArgumentException") hown [] ⟨0, 118, 119, 31⟩ [] (htab.trans rfl) (fun z hz => absurd hz List.not_mem_nil) rfl (by decide) (hts (.classLink RL 31 "java/lang/IllegalArgumentException") (List.mem_cons_of_mem _ (List.mem_append_left _ (List.mem_append_left _ (List.mem_append_left _ (List.mem_append_left _ (List.mem_append_left _ (List.mem_append_left _ (List.mem_of_getElem? (i := 0) rfl))))))))) ((hE.2.2.2.1 ("java/lang/IllegalArgumentException", "java/lang/IllegalArgumentException") (by decide)).use rfl) hq9 hce hcl ?_
                    refine lv_astore (lv' := [(5, .ref q9), (0, .ref qo), (1, .int wh), (2, .int wa), (3, .int wb), (4, .int wc)]) hx hb dL_by_119 hl (by decide) rfl (fun ls hl => ?_)
                    refine lv_ldc (v := (-9000001)) hx hb hown (hts (.constant RL 65 (-9000001)) (List.mem_cons_of_mem _ (List.mem_append_left _ (List.mem_append_left _ (List.mem_append_left _ (List.mem_append_left _ (List.mem_append_left _ (List.mem_append_left _ (List.mem_of_getElem? (i := 1) rfl))))))))) dL_by_121 ?_
                    refine W.widen (k := 16) (n := 96) (by decide) (by decide) ?_
                    have e72 : s_L_by fw fh br nC nR nf wh wa wb wc = (-9000001) := by
                      unfold s_L_by
                      exact ((if_neg c45).trans ((if_neg c46).trans ((if_neg c47).trans ((if_neg c48).trans ((if_neg c49).trans ((if_neg c50).trans ((if_pos c51).trans (if_neg c70))))))))
                    have e73 : n_L_by_qr_0 br wh wa = br := by
                      unfold n_L_by_qr_0
                      exact ((if_neg c45).trans ((if_neg c46).trans ((if_neg c47).trans ((if_neg c48).trans ((if_neg c49).trans ((if_neg c50).trans (if_pos c51)))))))
                    refine vx_ret ?_
                    exact W.iret (v := (-9000001)) hx hb hr (fun t ht hW => ⟨⟨_, (), rfl, e72.symm, ⟨(by rw [e73]; rw [ht]; exact hP), va_K.moved hW.alike hK, (by rw [e73]; exact hD)⟩⟩, hS.F ht⟩) hS.2.2 dL_by_123
                  · exact absurd hk9 (by have := kr_X4_dateLine wa wb; omega)
                · obtain ⟨c74, hw⟩ := hw
                  rw [hw]
                  have hP := zk hP hk1
                  refine W.widen (k := 2) (n := 12) (by omega) (by omega) ?_
                  refine lv_goto (tgt := 118) hx hb dL_by_95 (by decide) ?_
                  refine W.widen (k := 16) (n := 96) (by decide) (by decide) ?_
                  have e75 : s_L_by fw fh br nC nR nf wh wa wb wc = s_X4_dateLine wa wb := by
                    unfold s_L_by
                    exact ((if_neg c45).trans ((if_neg c46).trans ((if_neg c47).trans ((if_neg c48).trans ((if_neg c49).trans ((if_neg c50).trans ((if_pos c51).trans (if_pos c74))))))))
                  have e76 : n_L_by_qr_0 br wh wa = br := by
                    unfold n_L_by_qr_0
                    exact ((if_neg c45).trans ((if_neg c46).trans ((if_neg c47).trans ((if_neg c48).trans ((if_neg c49).trans ((if_neg c50).trans (if_pos c51)))))))
                  refine vx_ret ?_
                  exact W.iret (v := (s_X4_dateLine wa wb)) hx hb hr (fun t ht hW => ⟨⟨_, (), rfl, e75.symm, ⟨(by rw [e76]; rw [ht]; exact hP), va_K.moved hW.alike hK, (by rw [e76]; exact hD)⟩⟩, hS.F ht⟩) hS.2.2 dL_by_118
            · refine lv_aload_n hx hb dL_by_74 rfl (lv_at hl 0 rfl) ?_
              refine lv_iload_n hx hb dL_by_75 rfl (lv_at hl 2 rfl) ?_
              refine lv_iload_n hx hb dL_by_76 rfl (lv_at hl 3 rfl) ?_
              refine vx_calli (vx_runV (As := [.int wa, .int wb]) (rest := []) ⟨hx, hb, hml, hown, hts⟩ (c_X4_seams l hnt D cI cZ cJ cD qo qm qb qr qf br wa wb ) (cwV 2 hts gL_by_X4_seams rfl rfl rfl (by decide +kernel) ⟨Nat.le_of_ble_eq_true rfl, Nat.le_of_ble_eq_true rfl⟩) ⟨zblindE, va_recv hK hP (ci := 4) (q0 := 0) rfl rfl, (fun U hU hW => ⟨rfl, by rw [hU]; exact hP.sub (ws' := [(qo, .inr (4, [.ref qm, .ref qb, .ref qr, .ref qf])), (qr, .inr (3, [.int br]))]) [0, 4] rfl, va_K.moved hW.alike hK, zEnv.go hE hS (fun q h => h.elim) hU hW⟩)⟩ rfl rfl hl.1 rfl (lv_room (Nat.le_of_ble_eq_true rfl)) dL_by_77 ⟨(show _ ≤ 16 from by omega), (show _ ≤ 96 from by omega)⟩) hS (fun q _ h => h.elim) (fun q h => h.elim) (fun q _ h => h.elim) (fun E ce q9 u t H locs ht hvm hpx hB hz1 hk1 hS hq9 hce hcl => ?_) (fun r77 u t H locs ht hvm hw hB hz1 hk1 hS => ?_)
              · have hX := hB
                have hP := zk hP hk1
                have c78 : ¬ k_X4_seams br wa wb = 0 := zX_ne hX
                rcases hX with ⟨rfl, hk9⟩ | ⟨rfl, hk9⟩ | ⟨rfl, hk9⟩
                · exact absurd hk9 (by have := kr_X4_seams br wa wb; omega)
                · refine vx_catch (own := RL) (name := "java/lang/IllegalArgumentException") (E := "java/lang/IllegalArgumentException") hown [] ⟨0, 118, 119, 31⟩ [] (htab.trans rfl) (fun z hz => absurd hz List.not_mem_nil) rfl (by decide) (hts (.classLink RL 31 "java/lang/IllegalArgumentException") (List.mem_cons_of_mem _ (List.mem_append_left _ (List.mem_append_left _ (List.mem_append_left _ (List.mem_append_left _ (List.mem_append_left _ (List.mem_append_left _ (List.mem_of_getElem? (i := 0) rfl))))))))) ((hE.2.2.2.1 ("java/lang/IllegalArgumentException", "java/lang/IllegalArgumentException") (by decide)).use rfl) hq9 hce hcl ?_
                  refine lv_astore (lv' := [(5, .ref q9), (0, .ref qo), (1, .int wh), (2, .int wa), (3, .int wb), (4, .int wc)]) hx hb dL_by_119 hl (by decide) rfl (fun ls hl => ?_)
                  refine lv_ldc (v := (-9000001)) hx hb hown (hts (.constant RL 65 (-9000001)) (List.mem_cons_of_mem _ (List.mem_append_left _ (List.mem_append_left _ (List.mem_append_left _ (List.mem_append_left _ (List.mem_append_left _ (List.mem_append_left _ (List.mem_of_getElem? (i := 1) rfl))))))))) dL_by_121 ?_
                  refine W.widen (k := 16) (n := 96) (by decide) (by decide) ?_
                  have e80 : s_L_by fw fh br nC nR nf wh wa wb wc = (-9000001) := by
                    unfold s_L_by
                    exact ((if_neg c45).trans ((if_neg c46).trans ((if_neg c47).trans ((if_neg c48).trans ((if_neg c49).trans ((if_pos c50).trans (if_neg c78)))))))
                  have e81 : n_L_by_qr_0 br wh wa = br := by
                    unfold n_L_by_qr_0
                    exact ((if_neg c45).trans ((if_neg c46).trans ((if_neg c47).trans ((if_neg c48).trans ((if_neg c49).trans (if_pos c50))))))
                  refine vx_ret ?_
                  exact W.iret (v := (-9000001)) hx hb hr (fun t ht hW => ⟨⟨_, (), rfl, e80.symm, ⟨(by rw [e81]; rw [ht]; exact hP), va_K.moved hW.alike hK, (by rw [e81]; exact hD)⟩⟩, hS.F ht⟩) hS.2.2 dL_by_123
                · exact absurd hk9 (by have := kr_X4_seams br wa wb; omega)
              · obtain ⟨c82, hw⟩ := hw
                rw [hw]
                have hP := zk hP hk1
                refine W.widen (k := 2) (n := 12) (by omega) (by omega) ?_
                refine lv_goto (tgt := 118) hx hb dL_by_80 (by decide) ?_
                refine W.widen (k := 16) (n := 96) (by decide) (by decide) ?_
                have e83 : s_L_by fw fh br nC nR nf wh wa wb wc = s_X4_seams br wa wb := by
                  unfold s_L_by
                  exact ((if_neg c45).trans ((if_neg c46).trans ((if_neg c47).trans ((if_neg c48).trans ((if_neg c49).trans ((if_pos c50).trans (if_pos c82)))))))
                have e84 : n_L_by_qr_0 br wh wa = br := by
                  unfold n_L_by_qr_0
                  exact ((if_neg c45).trans ((if_neg c46).trans ((if_neg c47).trans ((if_neg c48).trans ((if_neg c49).trans (if_pos c50))))))
                refine vx_ret ?_
                exact W.iret (v := (s_X4_seams br wa wb)) hx hb hr (fun t ht hW => ⟨⟨_, (), rfl, e83.symm, ⟨(by rw [e84]; rw [ht]; exact hP), va_K.moved hW.alike hK, (by rw [e84]; exact hD)⟩⟩, hS.F ht⟩) hS.2.2 dL_by_118
          · refine lv_aload_n hx hb dL_by_61 rfl (lv_at hl 0 rfl) ?_
            refine lv_iload_n hx hb dL_by_62 rfl (lv_at hl 2 rfl) ?_
            refine vx_calli (vx_runV (As := [.int wa]) (rest := []) ⟨hx, hb, hml, hown, hts⟩ (c_X4_zone l hnt D cI cZ cJ cD qo qm qb qr qf br wa ) (cwV 1 hts gL_by_X4_zone rfl rfl rfl (by decide +kernel) ⟨Nat.le_of_ble_eq_true rfl, Nat.le_of_ble_eq_true rfl⟩) ⟨zblindE, va_recv hK hP (ci := 4) (q0 := 0) rfl rfl, (fun U hU hW => ⟨rfl, by rw [hU]; exact hP.sub (ws' := [(qo, .inr (4, [.ref qm, .ref qb, .ref qr, .ref qf])), (qr, .inr (3, [.int br]))]) [0, 4] rfl, va_K.moved hW.alike hK, zEnv.go hE hS (fun q h => h.elim) hU hW⟩)⟩ rfl rfl hl.1 rfl (lv_room (Nat.le_of_ble_eq_true rfl)) dL_by_63 ⟨(show _ ≤ 16 from by omega), (show _ ≤ 96 from by omega)⟩) hS (fun q _ h => h.elim) (fun q h => h.elim) (fun q _ h => h.elim) (fun E ce q9 u t H locs ht hvm hpx hB hz1 hk1 hS hq9 hce hcl => ?_) (fun r85 u t H locs ht hvm hw hB hz1 hk1 hS => ?_)
            · have hX := hB
              have hP := zk hP hk1
              have c86 : ¬ k_X4_zone br wa = 0 := zX_ne hX
              rcases hX with ⟨rfl, hk9⟩ | ⟨rfl, hk9⟩ | ⟨rfl, hk9⟩
              · exact absurd hk9 (by have := kr_X4_zone br wa; omega)
              · refine vx_catch (own := RL) (name := "java/lang/IllegalArgumentException") (E := "java/lang/IllegalArgumentException") hown [] ⟨0, 118, 119, 31⟩ [] (htab.trans rfl) (fun z hz => absurd hz List.not_mem_nil) rfl (by decide) (hts (.classLink RL 31 "java/lang/IllegalArgumentException") (List.mem_cons_of_mem _ (List.mem_append_left _ (List.mem_append_left _ (List.mem_append_left _ (List.mem_append_left _ (List.mem_append_left _ (List.mem_append_left _ (List.mem_of_getElem? (i := 0) rfl))))))))) ((hE.2.2.2.1 ("java/lang/IllegalArgumentException", "java/lang/IllegalArgumentException") (by decide)).use rfl) hq9 hce hcl ?_
                refine lv_astore (lv' := [(5, .ref q9), (0, .ref qo), (1, .int wh), (2, .int wa), (3, .int wb), (4, .int wc)]) hx hb dL_by_119 hl (by decide) rfl (fun ls hl => ?_)
                refine lv_ldc (v := (-9000001)) hx hb hown (hts (.constant RL 65 (-9000001)) (List.mem_cons_of_mem _ (List.mem_append_left _ (List.mem_append_left _ (List.mem_append_left _ (List.mem_append_left _ (List.mem_append_left _ (List.mem_append_left _ (List.mem_of_getElem? (i := 1) rfl))))))))) dL_by_121 ?_
                refine W.widen (k := 16) (n := 96) (by decide) (by decide) ?_
                have e88 : s_L_by fw fh br nC nR nf wh wa wb wc = (-9000001) := by
                  unfold s_L_by
                  exact ((if_neg c45).trans ((if_neg c46).trans ((if_neg c47).trans ((if_neg c48).trans ((if_pos c49).trans (if_neg c86))))))
                have e89 : n_L_by_qr_0 br wh wa = br := by
                  unfold n_L_by_qr_0
                  exact ((if_neg c45).trans ((if_neg c46).trans ((if_neg c47).trans ((if_neg c48).trans (if_pos c49)))))
                refine vx_ret ?_
                exact W.iret (v := (-9000001)) hx hb hr (fun t ht hW => ⟨⟨_, (), rfl, e88.symm, ⟨(by rw [e89]; rw [ht]; exact hP), va_K.moved hW.alike hK, (by rw [e89]; exact hD)⟩⟩, hS.F ht⟩) hS.2.2 dL_by_123
              · exact absurd hk9 (by have := kr_X4_zone br wa; omega)
            · obtain ⟨c90, hw⟩ := hw
              rw [hw]
              have hP := zk hP hk1
              refine W.widen (k := 1) (n := 6) (by omega) (by omega) ?_
              refine lv_goto (tgt := 118) hx hb dL_by_66 (by decide) ?_
              refine W.widen (k := 16) (n := 96) (by decide) (by decide) ?_
              have e91 : s_L_by fw fh br nC nR nf wh wa wb wc = s_X4_zone br wa := by
                unfold s_L_by
                exact ((if_neg c45).trans ((if_neg c46).trans ((if_neg c47).trans ((if_neg c48).trans ((if_pos c49).trans (if_pos c90))))))
              have e92 : n_L_by_qr_0 br wh wa = br := by
                unfold n_L_by_qr_0
                exact ((if_neg c45).trans ((if_neg c46).trans ((if_neg c47).trans ((if_neg c48).trans (if_pos c49)))))
              refine vx_ret ?_
              exact W.iret (v := (s_X4_zone br wa)) hx hb hr (fun t ht hW => ⟨⟨_, (), rfl, e91.symm, ⟨(by rw [e92]; rw [ht]; exact hP), va_K.moved hW.alike hK, (by rw [e92]; exact hD)⟩⟩, hS.F ht⟩) hS.2.2 dL_by_118
        · refine lv_aload_n hx hb dL_by_45 rfl (lv_at hl 0 rfl) ?_
          refine lv_iload hx hb dL_by_46 (lv_at hl 4 rfl) ?_
          refine lv_iload_n hx hb dL_by_48 rfl (lv_at hl 2 rfl) ?_
          refine lv_iload_n hx hb dL_by_49 rfl (lv_at hl 3 rfl) ?_
          refine vx_calli (vx_runV (As := [.int wc, .int wa, .int wb]) (rest := []) ⟨hx, hb, hml, hown, hts⟩ (c_X4_ringWay l hnt D cI cZ cJ cD qo qm qb qr qf qw qh fw fh wc wa wb ) (cwV 3 hts gL_by_X4_ringWay rfl rfl rfl (by decide +kernel) ⟨Nat.le_of_ble_eq_true rfl, Nat.le_of_ble_eq_true rfl⟩) ⟨zblindE, va_recv hK hP (ci := 4) (q0 := 0) rfl rfl, (fun U hU hW => ⟨rfl, by rw [hU]; exact hP.sub (ws' := [(qo, .inr (4, [.ref qm, .ref qb, .ref qr, .ref qf])), (qm, .inr (2, [.ref qw, .ref qh])), (qw, .inl (cI, 10, .inl fw)), (qh, .inl (cI, 10, .inl fh))]) [0, 1, 2, 3] rfl, va_K.moved hW.alike hK, zEnv.go hE hS (fun q h => h.elim) hU hW⟩)⟩ rfl rfl hl.1 rfl (lv_room (Nat.le_of_ble_eq_true rfl)) dL_by_50 ⟨(show _ ≤ 16 from by omega), (show _ ≤ 96 from by omega)⟩) hS (fun q _ h => h.elim) (fun q h => h.elim) (fun q _ h => h.elim) (fun E ce q9 u t H locs ht hvm hpx hB hz1 hk1 hS hq9 hce hcl => ?_) (fun r93 u t H locs ht hvm hw hB hz1 hk1 hS => ?_)
          · have hX := hB
            have hP := zk hP hk1
            have c94 : ¬ k_X4_ringWay fw fh wc wa wb = 0 := zX_ne hX
            rcases hX with ⟨rfl, hk9⟩ | ⟨rfl, hk9⟩ | ⟨rfl, hk9⟩
            · exact absurd hk9 (by have := kr_X4_ringWay fw fh wc wa wb; omega)
            · refine vx_catch (own := RL) (name := "java/lang/IllegalArgumentException") (E := "java/lang/IllegalArgumentException") hown [] ⟨0, 118, 119, 31⟩ [] (htab.trans rfl) (fun z hz => absurd hz List.not_mem_nil) rfl (by decide) (hts (.classLink RL 31 "java/lang/IllegalArgumentException") (List.mem_cons_of_mem _ (List.mem_append_left _ (List.mem_append_left _ (List.mem_append_left _ (List.mem_append_left _ (List.mem_append_left _ (List.mem_append_left _ (List.mem_of_getElem? (i := 0) rfl))))))))) ((hE.2.2.2.1 ("java/lang/IllegalArgumentException", "java/lang/IllegalArgumentException") (by decide)).use rfl) hq9 hce hcl ?_
              refine lv_astore (lv' := [(5, .ref q9), (0, .ref qo), (1, .int wh), (2, .int wa), (3, .int wb), (4, .int wc)]) hx hb dL_by_119 hl (by decide) rfl (fun ls hl => ?_)
              refine lv_ldc (v := (-9000001)) hx hb hown (hts (.constant RL 65 (-9000001)) (List.mem_cons_of_mem _ (List.mem_append_left _ (List.mem_append_left _ (List.mem_append_left _ (List.mem_append_left _ (List.mem_append_left _ (List.mem_append_left _ (List.mem_of_getElem? (i := 1) rfl))))))))) dL_by_121 ?_
              refine W.widen (k := 16) (n := 96) (by decide) (by decide) ?_
              have e96 : s_L_by fw fh br nC nR nf wh wa wb wc = (-9000001) := by
                unfold s_L_by
                exact ((if_neg c45).trans ((if_neg c46).trans ((if_neg c47).trans ((if_pos c48).trans (if_neg c94)))))
              have e97 : n_L_by_qr_0 br wh wa = br := by
                unfold n_L_by_qr_0
                exact ((if_neg c45).trans ((if_neg c46).trans ((if_neg c47).trans (if_pos c48))))
              refine vx_ret ?_
              exact W.iret (v := (-9000001)) hx hb hr (fun t ht hW => ⟨⟨_, (), rfl, e96.symm, ⟨(by rw [e97]; rw [ht]; exact hP), va_K.moved hW.alike hK, (by rw [e97]; exact hD)⟩⟩, hS.F ht⟩) hS.2.2 dL_by_123
            · exact absurd hk9 (by have := kr_X4_ringWay fw fh wc wa wb; omega)
          · obtain ⟨c98, hw⟩ := hw
            rw [hw]
            have hP := zk hP hk1
            refine W.widen (k := 3) (n := 18) (by omega) (by omega) ?_
            refine lv_goto (tgt := 118) hx hb dL_by_53 (by decide) ?_
            refine W.widen (k := 16) (n := 96) (by decide) (by decide) ?_
            have e99 : s_L_by fw fh br nC nR nf wh wa wb wc = s_X4_ringWay fw fh wc wa wb := by
              unfold s_L_by
              exact ((if_neg c45).trans ((if_neg c46).trans ((if_neg c47).trans ((if_pos c48).trans (if_pos c98)))))
            have e100 : n_L_by_qr_0 br wh wa = br := by
              unfold n_L_by_qr_0
              exact ((if_neg c45).trans ((if_neg c46).trans ((if_neg c47).trans (if_pos c48))))
            refine vx_ret ?_
            exact W.iret (v := (s_X4_ringWay fw fh wc wa wb)) hx hb hr (fun t ht hW => ⟨⟨_, (), rfl, e99.symm, ⟨(by rw [e100]; rw [ht]; exact hP), va_K.moved hW.alike hK, (by rw [e100]; exact hD)⟩⟩, hS.F ht⟩) hS.2.2 dL_by_118
      · refine lv_aload_n hx hb dL_by_31 rfl (lv_at hl 0 rfl) ?_
        refine lv_iload_n hx hb dL_by_32 rfl (lv_at hl 2 rfl) ?_
        refine lv_iload_n hx hb dL_by_33 rfl (lv_at hl 3 rfl) ?_
        refine vx_calli (vx_runV (As := [.int wa, .int wb]) (rest := []) ⟨hx, hb, hml, hown, hts⟩ (c_X4_apart l hnt D cI cZ cJ cD qo wa wb ) (cwV 2 hts gL_by_X4_apart rfl rfl rfl (by decide +kernel) ⟨Nat.le_of_ble_eq_true rfl, Nat.le_of_ble_eq_true rfl⟩) ⟨zblindE, va_recv hK hP (ci := 4) (q0 := 0) rfl rfl, (fun U hU hW => ⟨rfl, by rw [hU]; exact hP.sub (ws' := []) [] rfl, va_K.moved hW.alike hK, zEnv.go hE hS (fun q h => h.elim) hU hW⟩)⟩ rfl rfl hl.1 rfl (lv_room (Nat.le_of_ble_eq_true rfl)) dL_by_34 ⟨(show _ ≤ 16 from by omega), (show _ ≤ 96 from by omega)⟩) hS (fun q _ h => h.elim) (fun q h => h.elim) (fun q _ h => h.elim) (fun E ce q9 u t H locs ht hvm hpx hB hz1 hk1 hS hq9 hce hcl => ?_) (fun r101 u t H locs ht hvm hw hB hz1 hk1 hS => ?_)
        · have hX := hB
          have hP := zk hP hk1
          have c102 : ¬ k_X4_apart wa wb = 0 := zX_ne hX
          rcases hX with ⟨rfl, hk9⟩ | ⟨rfl, hk9⟩ | ⟨rfl, hk9⟩
          · exact absurd hk9 (by have := kr_X4_apart wa wb; omega)
          · refine vx_catch (own := RL) (name := "java/lang/IllegalArgumentException") (E := "java/lang/IllegalArgumentException") hown [] ⟨0, 118, 119, 31⟩ [] (htab.trans rfl) (fun z hz => absurd hz List.not_mem_nil) rfl (by decide) (hts (.classLink RL 31 "java/lang/IllegalArgumentException") (List.mem_cons_of_mem _ (List.mem_append_left _ (List.mem_append_left _ (List.mem_append_left _ (List.mem_append_left _ (List.mem_append_left _ (List.mem_append_left _ (List.mem_of_getElem? (i := 0) rfl))))))))) ((hE.2.2.2.1 ("java/lang/IllegalArgumentException", "java/lang/IllegalArgumentException") (by decide)).use rfl) hq9 hce hcl ?_
            refine lv_astore (lv' := [(5, .ref q9), (0, .ref qo), (1, .int wh), (2, .int wa), (3, .int wb), (4, .int wc)]) hx hb dL_by_119 hl (by decide) rfl (fun ls hl => ?_)
            refine lv_ldc (v := (-9000001)) hx hb hown (hts (.constant RL 65 (-9000001)) (List.mem_cons_of_mem _ (List.mem_append_left _ (List.mem_append_left _ (List.mem_append_left _ (List.mem_append_left _ (List.mem_append_left _ (List.mem_append_left _ (List.mem_of_getElem? (i := 1) rfl))))))))) dL_by_121 ?_
            refine W.widen (k := 16) (n := 96) (by decide) (by decide) ?_
            have e104 : s_L_by fw fh br nC nR nf wh wa wb wc = (-9000001) := by
              unfold s_L_by
              exact ((if_neg c45).trans ((if_neg c46).trans ((if_pos c47).trans (if_neg c102))))
            have e105 : n_L_by_qr_0 br wh wa = br := by
              unfold n_L_by_qr_0
              exact ((if_neg c45).trans ((if_neg c46).trans (if_pos c47)))
            refine vx_ret ?_
            exact W.iret (v := (-9000001)) hx hb hr (fun t ht hW => ⟨⟨_, (), rfl, e104.symm, ⟨(by rw [e105]; rw [ht]; exact hP), va_K.moved hW.alike hK, (by rw [e105]; exact hD)⟩⟩, hS.F ht⟩) hS.2.2 dL_by_123
          · exact absurd hk9 (by have := kr_X4_apart wa wb; omega)
        · obtain ⟨c106, hw⟩ := hw
          rw [hw]
          have hP := zk hP hk1
          refine W.widen (k := 2) (n := 12) (by omega) (by omega) ?_
          refine lv_goto (tgt := 118) hx hb dL_by_37 (by decide) ?_
          refine W.widen (k := 16) (n := 96) (by decide) (by decide) ?_
          have e107 : s_L_by fw fh br nC nR nf wh wa wb wc = s_X4_apart wa wb := by
            unfold s_L_by
            exact ((if_neg c45).trans ((if_neg c46).trans ((if_pos c47).trans (if_pos c106))))
          have e108 : n_L_by_qr_0 br wh wa = br := by
            unfold n_L_by_qr_0
            exact ((if_neg c45).trans ((if_neg c46).trans (if_pos c47)))
          refine vx_ret ?_
          exact W.iret (v := (s_X4_apart wa wb)) hx hb hr (fun t ht hW => ⟨⟨_, (), rfl, e107.symm, ⟨(by rw [e108]; rw [ht]; exact hP), va_K.moved hW.alike hK, (by rw [e108]; exact hD)⟩⟩, hS.F ht⟩) hS.2.2 dL_by_118
    · refine lv_aload_n hx hb dL_by_18 rfl (lv_at hl 0 rfl) ?_
      refine lv_iload_n hx hb dL_by_19 rfl (lv_at hl 2 rfl) ?_
      refine vx_calli (vx_runV (As := [.int wa]) (rest := []) ⟨hx, hb, hml, hown, hts⟩ (c_X4_y l hnt D cI cZ cJ cD qo qm qb qr qf qw qh fw fh wa ) (cwV 1 hts gL_by_X4_y rfl rfl rfl (by decide +kernel) ⟨Nat.le_of_ble_eq_true rfl, Nat.le_of_ble_eq_true rfl⟩) ⟨zblindE, va_recv hK hP (ci := 4) (q0 := 0) rfl rfl, (fun U hU hW => ⟨rfl, by rw [hU]; exact hP.sub (ws' := [(qo, .inr (4, [.ref qm, .ref qb, .ref qr, .ref qf])), (qm, .inr (2, [.ref qw, .ref qh])), (qw, .inl (cI, 10, .inl fw)), (qh, .inl (cI, 10, .inl fh))]) [0, 1, 2, 3] rfl, va_K.moved hW.alike hK, zEnv.go hE hS (fun q h => h.elim) hU hW⟩)⟩ rfl rfl hl.1 rfl (lv_room (Nat.le_of_ble_eq_true rfl)) dL_by_20 ⟨(show _ ≤ 16 from by omega), (show _ ≤ 96 from by omega)⟩) hS (fun q _ h => h.elim) (fun q h => h.elim) (fun q _ h => h.elim) (fun E ce q9 u t H locs ht hvm hpx hB hz1 hk1 hS hq9 hce hcl => ?_) (fun r109 u t H locs ht hvm hw hB hz1 hk1 hS => ?_)
      · have hX := hB
        have hP := zk hP hk1
        have c110 : ¬ k_X4_y fw fh wa = 0 := zX_ne hX
        rcases hX with ⟨rfl, hk9⟩ | ⟨rfl, hk9⟩ | ⟨rfl, hk9⟩
        · exact absurd hk9 (by have := kr_X4_y fw fh wa; omega)
        · refine vx_catch (own := RL) (name := "java/lang/IllegalArgumentException") (E := "java/lang/IllegalArgumentException") hown [] ⟨0, 118, 119, 31⟩ [] (htab.trans rfl) (fun z hz => absurd hz List.not_mem_nil) rfl (by decide) (hts (.classLink RL 31 "java/lang/IllegalArgumentException") (List.mem_cons_of_mem _ (List.mem_append_left _ (List.mem_append_left _ (List.mem_append_left _ (List.mem_append_left _ (List.mem_append_left _ (List.mem_append_left _ (List.mem_of_getElem? (i := 0) rfl))))))))) ((hE.2.2.2.1 ("java/lang/IllegalArgumentException", "java/lang/IllegalArgumentException") (by decide)).use rfl) hq9 hce hcl ?_
          refine lv_astore (lv' := [(5, .ref q9), (0, .ref qo), (1, .int wh), (2, .int wa), (3, .int wb), (4, .int wc)]) hx hb dL_by_119 hl (by decide) rfl (fun ls hl => ?_)
          refine lv_ldc (v := (-9000001)) hx hb hown (hts (.constant RL 65 (-9000001)) (List.mem_cons_of_mem _ (List.mem_append_left _ (List.mem_append_left _ (List.mem_append_left _ (List.mem_append_left _ (List.mem_append_left _ (List.mem_append_left _ (List.mem_of_getElem? (i := 1) rfl))))))))) dL_by_121 ?_
          refine W.widen (k := 16) (n := 96) (by decide) (by decide) ?_
          have e112 : s_L_by fw fh br nC nR nf wh wa wb wc = (-9000001) := by
            unfold s_L_by
            exact ((if_neg c45).trans ((if_pos c46).trans (if_neg c110)))
          have e113 : n_L_by_qr_0 br wh wa = br := by
            unfold n_L_by_qr_0
            exact ((if_neg c45).trans (if_pos c46))
          refine vx_ret ?_
          exact W.iret (v := (-9000001)) hx hb hr (fun t ht hW => ⟨⟨_, (), rfl, e112.symm, ⟨(by rw [e113]; rw [ht]; exact hP), va_K.moved hW.alike hK, (by rw [e113]; exact hD)⟩⟩, hS.F ht⟩) hS.2.2 dL_by_123
        · exact absurd hk9 (by have := kr_X4_y fw fh wa; omega)
      · obtain ⟨c114, hw⟩ := hw
        rw [hw]
        have hP := zk hP hk1
        refine W.widen (k := 1) (n := 6) (by omega) (by omega) ?_
        refine lv_goto (tgt := 118) hx hb dL_by_23 (by decide) ?_
        refine W.widen (k := 16) (n := 96) (by decide) (by decide) ?_
        have e115 : s_L_by fw fh br nC nR nf wh wa wb wc = s_X4_y fw fh wa := by
          unfold s_L_by
          exact ((if_neg c45).trans ((if_pos c46).trans (if_pos c114)))
        have e116 : n_L_by_qr_0 br wh wa = br := by
          unfold n_L_by_qr_0
          exact ((if_neg c45).trans (if_pos c46))
        refine vx_ret ?_
        exact W.iret (v := (s_X4_y fw fh wa)) hx hb hr (fun t ht hW => ⟨⟨_, (), rfl, e115.symm, ⟨(by rw [e116]; rw [ht]; exact hP), va_K.moved hW.alike hK, (by rw [e116]; exact hD)⟩⟩, hS.F ht⟩) hS.2.2 dL_by_118
  · refine lv_aload_n hx hb dL_by_4 rfl (lv_at hl 0 rfl) ?_
    refine lv_iload_n hx hb dL_by_5 rfl (lv_at hl 2 rfl) ?_
    refine lv_iload_n hx hb dL_by_6 rfl (lv_at hl 3 rfl) ?_
    refine vx_calli (vx_runV (As := [.int wa, .int wb]) (rest := []) ⟨hx, hb, hml, hown, hts⟩ (c_X4_x l hnt D cI cZ cJ cD qo qm qb qr qf qw qh fw fh wa wb ) (cwV 2 hts gL_by_X4_x rfl rfl rfl (by decide +kernel) ⟨Nat.le_of_ble_eq_true rfl, Nat.le_of_ble_eq_true rfl⟩) ⟨zblindE, va_recv hK hP (ci := 4) (q0 := 0) rfl rfl, (fun U hU hW => ⟨rfl, by rw [hU]; exact hP.sub (ws' := [(qo, .inr (4, [.ref qm, .ref qb, .ref qr, .ref qf])), (qm, .inr (2, [.ref qw, .ref qh])), (qw, .inl (cI, 10, .inl fw)), (qh, .inl (cI, 10, .inl fh))]) [0, 1, 2, 3] rfl, va_K.moved hW.alike hK, zEnv.go hE hS (fun q h => h.elim) hU hW⟩)⟩ rfl rfl hl.1 rfl (lv_room (Nat.le_of_ble_eq_true rfl)) dL_by_7 ⟨(show _ ≤ 16 from by omega), (show _ ≤ 96 from by omega)⟩) hS (fun q _ h => h.elim) (fun q h => h.elim) (fun q _ h => h.elim) (fun E ce q9 u t H locs ht hvm hpx hB hz1 hk1 hS hq9 hce hcl => ?_) (fun r117 u t H locs ht hvm hw hB hz1 hk1 hS => ?_)
    · have hX := hB
      have hP := zk hP hk1
      have c118 : ¬ k_X4_x fw fh wa wb = 0 := zX_ne hX
      rcases hX with ⟨rfl, hk9⟩ | ⟨rfl, hk9⟩ | ⟨rfl, hk9⟩
      · exact absurd hk9 (by have := kr_X4_x fw fh wa wb; omega)
      · refine vx_catch (own := RL) (name := "java/lang/IllegalArgumentException") (E := "java/lang/IllegalArgumentException") hown [] ⟨0, 118, 119, 31⟩ [] (htab.trans rfl) (fun z hz => absurd hz List.not_mem_nil) rfl (by decide) (hts (.classLink RL 31 "java/lang/IllegalArgumentException") (List.mem_cons_of_mem _ (List.mem_append_left _ (List.mem_append_left _ (List.mem_append_left _ (List.mem_append_left _ (List.mem_append_left _ (List.mem_append_left _ (List.mem_of_getElem? (i := 0) rfl))))))))) ((hE.2.2.2.1 ("java/lang/IllegalArgumentException", "java/lang/IllegalArgumentException") (by decide)).use rfl) hq9 hce hcl ?_
        refine lv_astore (lv' := [(5, .ref q9), (0, .ref qo), (1, .int wh), (2, .int wa), (3, .int wb), (4, .int wc)]) hx hb dL_by_119 hl (by decide) rfl (fun ls hl => ?_)
        refine lv_ldc (v := (-9000001)) hx hb hown (hts (.constant RL 65 (-9000001)) (List.mem_cons_of_mem _ (List.mem_append_left _ (List.mem_append_left _ (List.mem_append_left _ (List.mem_append_left _ (List.mem_append_left _ (List.mem_append_left _ (List.mem_of_getElem? (i := 1) rfl))))))))) dL_by_121 ?_
        refine W.widen (k := 16) (n := 96) (by decide) (by decide) ?_
        have e120 : s_L_by fw fh br nC nR nf wh wa wb wc = (-9000001) := by
          unfold s_L_by
          exact ((if_pos c45).trans (if_neg c118))
        have e121 : n_L_by_qr_0 br wh wa = br := by
          unfold n_L_by_qr_0
          exact (if_pos c45)
        refine vx_ret ?_
        exact W.iret (v := (-9000001)) hx hb hr (fun t ht hW => ⟨⟨_, (), rfl, e120.symm, ⟨(by rw [e121]; rw [ht]; exact hP), va_K.moved hW.alike hK, (by rw [e121]; exact hD)⟩⟩, hS.F ht⟩) hS.2.2 dL_by_123
      · exact absurd hk9 (by have := kr_X4_x fw fh wa wb; omega)
    · obtain ⟨c122, hw⟩ := hw
      rw [hw]
      have hP := zk hP hk1
      refine W.widen (k := 2) (n := 12) (by omega) (by omega) ?_
      refine lv_goto (tgt := 118) hx hb dL_by_10 (by decide) ?_
      refine W.widen (k := 16) (n := 96) (by decide) (by decide) ?_
      have e123 : s_L_by fw fh br nC nR nf wh wa wb wc = s_X4_x fw fh wa wb := by
        unfold s_L_by
        exact ((if_pos c45).trans (if_pos c122))
      have e124 : n_L_by_qr_0 br wh wa = br := by
        unfold n_L_by_qr_0
        exact (if_pos c45)
      refine vx_ret ?_
      exact W.iret (v := (s_X4_x fw fh wa wb)) hx hb hr (fun t ht hW => ⟨⟨_, (), rfl, e123.symm, ⟨(by rw [e124]; rw [ht]; exact hP), va_K.moved hW.alike hK, (by rw [e124]; exact hD)⟩⟩, hS.F ht⟩) hS.2.2 dL_by_118
abbrev Qc_L_byK (D : va_G) (cI cZ cJ cD : ClassId) (qo : Nat) (qm : Nat) (qb : Nat) (qr : Nat) (qf : Nat) (qw : Nat) (qh : Nat) (fw : Nat → Int32) (fh : Nat → Int32) (br : Int32) (qx : Nat) (qy : Nat) (qz : Nat) (qu : Nat) (nC : Nat) (nR : Nat) (nf : Int32) (wh : Int32) (wa : Int32) (wb : Int32) (wc : Int32) (A : Nat → Prop) : Array Value → State → Outcome → State → Prop := va_Qi (fun (r : Int32) (_ : Unit) => r = s_L_by fw fh br nC nR nf wh wa wb wc) (zPost D cI cZ cJ cD A [(qo, .inr (4, [.ref qm, .ref qb, .ref qr, .ref qf])), (qm, .inr (2, [.ref qw, .ref qh])), (qw, .inl (cI, 10, .inl fw)), (qh, .inl (cI, 10, .inl fh)), (qr, .inr (3, [.int br])), (qf, .inr (1, [.ref qx, .ref qy, .ref qz, .ref qu, .int (nI nC), .int (nI nR), .int nf]))]) A
theorem by_keep (br : Int32) (wh : Int32) (wa : Int32) (hw : wh = 0 ∨ wh = 1 ∨ wh = 2 ∨ wh = 3 ∨ wh = 4 ∨ wh = 5 ∨ wh = 6 ∨ wh = 7) : n_L_by_qr_0 br wh wa = br := by
  rcases hw with rfl | rfl | rfl | rfl | rfl | rfl | rfl | rfl <;> rfl
theorem c_L_byK (l : Launch) (hnt : l.stackTraces = false) (D : va_G) (cI cZ cJ cD : ClassId) (qo : Nat) (qm : Nat) (qb : Nat) (qr : Nat) (qf : Nat) (qw : Nat) (qh : Nat) (fw : Nat → Int32) (fh : Nat → Int32) (br : Int32) (qx : Nat) (qy : Nat) (qz : Nat) (qu : Nat) (nC : Nat) (nR : Nat) (nf : Int32) (wh : Int32) (wa : Int32) (wb : Int32) (wc : Int32) (sz : Nat) (hw : wh = 0 ∨ wh = 1 ∨ wh = 2 ∨ wh = 3 ∨ wh = 4 ∨ wh = 5 ∨ wh = 6 ∨ wh = 7) : vx_Met l yL_by wsL_by rm_L_by (va_Pc [.ref qo, .int wh, .int wa, .int wb, .int wc] (zPreWE D cI cZ cJ cD [(qo, .inr (4, [.ref qm, .ref qb, .ref qr, .ref qf])), (qm, .inr (2, [.ref qw, .ref qh])), (qw, .inl (cI, 10, .inl fw)), (qh, .inl (cI, 10, .inl fh)), (qr, .inr (3, [.int br])), (qf, .inr (1, [.ref qx, .ref qy, .ref qz, .ref qu, .int (nI nC), .int (nI nR), .int nf]))] sz)) (Qc_L_byK D cI cZ cJ cD qo qm qb qr qf qw qh fw fh br qx qy qz qu nC nR nf wh wa wb wc (va_A [(qo, .inr (4, [.ref qm, .ref qb, .ref qr, .ref qf])), (qm, .inr (2, [.ref qw, .ref qh])), (qw, .inl (cI, 10, .inl fw)), (qh, .inl (cI, 10, .inl fh)), (qr, .inr (3, [.int br])), (qf, .inr (1, [.ref qx, .ref qy, .ref qz, .ref qu, .int (nI nC), .int (nI nR), .int nf]))] sz)) (Xc_L_by D cI cZ cJ cD qo qm qb qr qf qw qh fw fh br qx qy qz qu nC nR nf wh wa wb wc (va_A [(qo, .inr (4, [.ref qm, .ref qb, .ref qr, .ref qf])), (qm, .inr (2, [.ref qw, .ref qh])), (qw, .inl (cI, 10, .inl fw)), (qh, .inl (cI, 10, .inl fh)), (qr, .inr (3, [.int br])), (qf, .inr (1, [.ref qx, .ref qy, .ref qz, .ref qu, .int (nI nC), .int (nI nR), .int nf]))] sz)) 16 96 (va_A [(qo, .inr (4, [.ref qm, .ref qb, .ref qr, .ref qf])), (qm, .inr (2, [.ref qw, .ref qh])), (qw, .inl (cI, 10, .inl fw)), (qh, .inl (cI, 10, .inl fh)), (qr, .inr (3, [.int br])), (qf, .inr (1, [.ref qx, .ref qy, .ref qz, .ref qu, .int (nI nC), .int (nI nR), .int nf]))] sz) :=
  Eq.mp (congrArg (fun z9 : Int32 => vx_Met l yL_by wsL_by rm_L_by (va_Pc [.ref qo, .int wh, .int wa, .int wb, .int wc] (zPreWE D cI cZ cJ cD [(qo, .inr (4, [.ref qm, .ref qb, .ref qr, .ref qf])), (qm, .inr (2, [.ref qw, .ref qh])), (qw, .inl (cI, 10, .inl fw)), (qh, .inl (cI, 10, .inl fh)), (qr, .inr (3, [.int br])), (qf, .inr (1, [.ref qx, .ref qy, .ref qz, .ref qu, .int (nI nC), .int (nI nR), .int nf]))] sz)) (va_Qi (fun (r : Int32) (_ : Unit) => r = s_L_by fw fh br nC nR nf wh wa wb wc) (zPost D cI cZ cJ cD (va_A [(qo, .inr (4, [.ref qm, .ref qb, .ref qr, .ref qf])), (qm, .inr (2, [.ref qw, .ref qh])), (qw, .inl (cI, 10, .inl fw)), (qh, .inl (cI, 10, .inl fh)), (qr, .inr (3, [.int br])), (qf, .inr (1, [.ref qx, .ref qy, .ref qz, .ref qu, .int (nI nC), .int (nI nR), .int nf]))] sz) [(qo, .inr (4, [.ref qm, .ref qb, .ref qr, .ref qf])), (qm, .inr (2, [.ref qw, .ref qh])), (qw, .inl (cI, 10, .inl fw)), (qh, .inl (cI, 10, .inl fh)), (qr, .inr (3, [.int z9])), (qf, .inr (1, [.ref qx, .ref qy, .ref qz, .ref qu, .int (nI nC), .int (nI nR), .int nf]))]) (va_A [(qo, .inr (4, [.ref qm, .ref qb, .ref qr, .ref qf])), (qm, .inr (2, [.ref qw, .ref qh])), (qw, .inl (cI, 10, .inl fw)), (qh, .inl (cI, 10, .inl fh)), (qr, .inr (3, [.int br])), (qf, .inr (1, [.ref qx, .ref qy, .ref qz, .ref qu, .int (nI nC), .int (nI nR), .int nf]))] sz)) (Xc_L_by D cI cZ cJ cD qo qm qb qr qf qw qh fw fh br qx qy qz qu nC nR nf wh wa wb wc (va_A [(qo, .inr (4, [.ref qm, .ref qb, .ref qr, .ref qf])), (qm, .inr (2, [.ref qw, .ref qh])), (qw, .inl (cI, 10, .inl fw)), (qh, .inl (cI, 10, .inl fh)), (qr, .inr (3, [.int br])), (qf, .inr (1, [.ref qx, .ref qy, .ref qz, .ref qu, .int (nI nC), .int (nI nR), .int nf]))] sz)) 16 96 (va_A [(qo, .inr (4, [.ref qm, .ref qb, .ref qr, .ref qf])), (qm, .inr (2, [.ref qw, .ref qh])), (qw, .inl (cI, 10, .inl fw)), (qh, .inl (cI, 10, .inl fh)), (qr, .inr (3, [.int br])), (qf, .inr (1, [.ref qx, .ref qy, .ref qz, .ref qu, .int (nI nC), .int (nI nR), .int nf]))] sz)) (by_keep br wh wa hw)) (c_L_by l hnt D cI cZ cJ cD qo qm qb qr qf qw qh fw fh br qx qy qz qu nC nR nf wh wa wb wc sz)
def s_L_latitude (fw : Nat → Int32) (fh : Nat → Int32) (hgt : Int32) : Int32 := (if k_X4_latitudeAt fw fh hgt = 0 then s_X4_latitudeAt fw fh hgt else (if k_X4_latitudeAt fw fh hgt = 2 then (-1001) else (-1002)))
abbrev rm_L_latitude : Room := { frames := 7, cells := 1, slots := 6, locals := 112 }
abbrev Qc_L_latitude (D : va_G) (cI cZ cJ cD : ClassId) (qo : Nat) (qm : Nat) (qb : Nat) (qr : Nat) (qf : Nat) (qw : Nat) (qh : Nat) (fw : Nat → Int32) (fh : Nat → Int32) (hgt : Int32) (A : Nat → Prop) : Array Value → State → Outcome → State → Prop := va_Qi (fun (r : Int32) (_ : Unit) => r = s_L_latitude fw fh hgt) (zPost D cI cZ cJ cD A [(qo, .inr (4, [.ref qm, .ref qb, .ref qr, .ref qf])), (qm, .inr (2, [.ref qw, .ref qh])), (qw, .inl (cI, 10, .inl fw)), (qh, .inl (cI, 10, .inl fh))]) A
abbrev Xc_L_latitude (D : va_G) (cI cZ cJ cD : ClassId) (qo : Nat) (qm : Nat) (qb : Nat) (qr : Nat) (qf : Nat) (qw : Nat) (qh : Nat) (fw : Nat → Int32) (fh : Nat → Int32) (hgt : Int32) (A : Nat → Prop) : String → State → State → Prop := vx_X (fun _ : Unit => True) (fun _ _ _ => False) A
set_option maxHeartbeats 4000000 in
set_option maxRecDepth 100000 in
theorem c_L_latitude (l : Launch) (hnt : l.stackTraces = false) (D : va_G) (cI cZ cJ cD : ClassId) (qo : Nat) (qm : Nat) (qb : Nat) (qr : Nat) (qf : Nat) (qw : Nat) (qh : Nat) (fw : Nat → Int32) (fh : Nat → Int32) (hgt : Int32) (sz : Nat)  : vx_Met l yL_latitude wsL_latitude rm_L_latitude (va_Pc [.ref qo, .int hgt] (zPreWE D cI cZ cJ cD [(qo, .inr (4, [.ref qm, .ref qb, .ref qr, .ref qf])), (qm, .inr (2, [.ref qw, .ref qh])), (qw, .inl (cI, 10, .inl fw)), (qh, .inl (cI, 10, .inl fh))] sz)) (Qc_L_latitude D cI cZ cJ cD qo qm qb qr qf qw qh fw fh hgt (va_A [(qo, .inr (4, [.ref qm, .ref qb, .ref qr, .ref qf])), (qm, .inr (2, [.ref qw, .ref qh])), (qw, .inl (cI, 10, .inl fw)), (qh, .inl (cI, 10, .inl fh))] sz)) (Xc_L_latitude D cI cZ cJ cD qo qm qb qr qf qw qh fw fh hgt (va_A [(qo, .inr (4, [.ref qm, .ref qb, .ref qr, .ref qf])), (qm, .inr (2, [.ref qw, .ref qh])), (qw, .inl (cI, 10, .inl fw)), (qh, .inl (cI, 10, .inl fh))] sz)) 1 6 (va_A [(qo, .inr (4, [.ref qm, .ref qb, .ref qr, .ref qf])), (qm, .inr (2, [.ref qw, .ref qh])), (qw, .inl (cI, 10, .inl fw)), (qh, .inl (cI, 10, .inl fh))] sz) := by
  refine vx_ofWH (cc := cL_latitude) (maxL := 3) (ret := (some .int)) (hh := [(0, 5, 6, 31), (0, 5, 11, 33)]) (by decide) rfl ?_
  intro p e s m args below meth c s₁ B hml hv
  obtain ⟨rfl, hsz, hP, hK, hD0, hE⟩ := hv
  have hx := B.exec
  have hb := B.bytes
  have hr := B.returns
  have hts := atoms_spec (ws := wsL_latitude) B.pre
  have hown : s.vm.findClass RL = some m.cls := findClass_of_methodNamed B.named
  have hlocks := B.notSynchronized
  have htab := vx_table (x := yL_latitude) B (hts _ List.mem_cons_self)
  subst hsz
  have hD := hD0.self (sz := s.heap.size)
  generalize hAe : va_A [(qo, .inr (4, [.ref qm, .ref qb, .ref qr, .ref qf])), (qm, .inr (2, [.ref qw, .ref qh])), (qw, .inl (cI, 10, .inl fw)), (qh, .inl (cI, 10, .inl fh))] s.heap.size = A at hE hD ⊢
  have hA : ∀ q : Nat, s.heap.size ≤ q → A q := fun q h => by rw [← hAe]; exact Or.inr h
  have hS : va_S A s.heap s.heap [] := va_S.rf
  have hl := lv_entry ([.ref qo, .int hgt]) (n := 3) (Nat.le_of_ble_eq_true rfl)
  rw [lg_entry_eq]
  generalize (lg_sl ([.ref qo, .int hgt]) ++ List.replicate (3 - (lg_sl ([.ref qo, .int hgt])).length) Slot.unset).toArray = ls at hl ⊢
  have hl : lv_has ls 3 [(0, .ref qo), (1, .int hgt)] := hl
  have hP : va_P D vwCl [(qo, .inr (4, [.ref qm, .ref qb, .ref qr, .ref qf])), (qm, .inr (2, [.ref qw, .ref qh])), (qw, .inl (cI, 10, .inl fw)), (qh, .inl (cI, 10, .inl fh))] s.heap := hP
  have hP := hP
  refine lv_aload_n hx hb dL_latitude_0 rfl (lv_at hl 0 rfl) ?_
  refine lv_iload_n hx hb dL_latitude_1 rfl (lv_at hl 1 rfl) ?_
  refine vx_calli (vx_runV (As := [.int hgt]) (rest := []) ⟨hx, hb, hml, hown, hts⟩ (c_X4_latitudeAt l hnt D cI cZ cJ cD qo qm qb qr qf qw qh fw fh hgt ) (cwV 1 hts gL_latitude_X4_latitudeAt rfl rfl rfl (by decide +kernel) ⟨Nat.le_of_ble_eq_true rfl, Nat.le_of_ble_eq_true rfl⟩) ⟨zblindE, va_recv hK hP (ci := 4) (q0 := 0) rfl rfl, (fun U hU hW => ⟨rfl, by rw [hU]; exact hP.sub (ws' := [(qo, .inr (4, [.ref qm, .ref qb, .ref qr, .ref qf])), (qm, .inr (2, [.ref qw, .ref qh])), (qw, .inl (cI, 10, .inl fw)), (qh, .inl (cI, 10, .inl fh))]) [0, 1, 2, 3] rfl, va_K.moved hW.alike hK, zEnv.go hE hS (fun q h => h.elim) hU hW⟩)⟩ rfl rfl hl.1 rfl (lv_room (Nat.le_of_ble_eq_true rfl)) dL_latitude_2 ⟨(show _ ≤ 1 from by omega), (show _ ≤ 6 from by omega)⟩) hS (fun q _ h => h.elim) (fun q h => h.elim) (fun q _ h => h.elim) (fun E ce q9 u t H locs ht hvm hpx hB hz1 hk1 hS hq9 hce hcl => ?_) (fun r7 u t H locs ht hvm hw hB hz1 hk1 hS => ?_)
  · have hX := hB
    have hP := zk hP hk1
    have c8 : ¬ k_X4_latitudeAt fw fh hgt = 0 := zX_ne hX
    rcases hX with ⟨rfl, hk9⟩ | ⟨rfl, hk9⟩ | ⟨rfl, hk9⟩
    · exact absurd hk9 (by have := kr_X4_latitudeAt fw fh hgt; omega)
    · have c9 : k_X4_latitudeAt fw fh hgt = 2 := hk9
      refine vx_catch (own := RL) (name := "java/lang/IllegalArgumentException") (E := "java/lang/IllegalArgumentException") hown [] ⟨0, 5, 6, 31⟩ [⟨0, 5, 11, 33⟩] (htab.trans rfl) (fun z hz => absurd hz List.not_mem_nil) rfl (by decide) (hts (.classLink RL 31 "java/lang/IllegalArgumentException") (List.mem_cons_of_mem _ (List.mem_append_left _ (List.mem_append_left _ (List.mem_append_left _ (List.mem_append_left _ (List.mem_append_left _ (List.mem_of_getElem? (i := 0) rfl)))))))) ((hE.2.2.2.1 ("java/lang/IllegalArgumentException", "java/lang/IllegalArgumentException") (by decide)).use rfl) hq9 hce hcl ?_
      refine lv_astore_n (lv' := [(2, .ref q9), (0, .ref qo), (1, .int hgt)]) hx hb dL_latitude_6 rfl hl (by decide) rfl (fun ls hl => ?_)
      refine lv_sipush (v := (-1001)) hx hb dL_latitude_7 (by decide) ?_
      have e10 : s_L_latitude fw fh hgt = (-1001) := by
        unfold s_L_latitude
        exact ((if_neg c8).trans (if_pos c9))
      refine vx_ret ?_
      exact W.iret (v := (-1001)) hx hb hr (fun t ht hW => ⟨⟨_, (), rfl, e10.symm, ⟨(by rw [ht]; exact hP), va_K.moved hW.alike hK, hD⟩⟩, hS.F ht⟩) hS.2.2 dL_latitude_10
    · have c11 : ¬ k_X4_latitudeAt fw fh hgt = 2 := by omega
      refine vx_catch (own := RL) (name := "java/lang/IllegalStateException") (E := "java/lang/IllegalStateException") hown [⟨0, 5, 6, 31⟩] ⟨0, 5, 11, 33⟩ [] (htab.trans rfl) (fun z hz => (List.mem_cons.mp hz).elim (fun e9 => by rw [e9]; exact Or.inr ⟨by decide, "java/lang/IllegalArgumentException", (hts (.classLink RL 31 "java/lang/IllegalArgumentException") (List.mem_cons_of_mem _ (List.mem_append_left _ (List.mem_append_left _ (List.mem_append_left _ (List.mem_append_left _ (List.mem_append_left _ (List.mem_of_getElem? (i := 0) rfl)))))))), hE.2.2.2.2.1 ("java/lang/IllegalStateException", "java/lang/IllegalArgumentException") (by decide)⟩) (fun hz => absurd hz List.not_mem_nil)) rfl (by decide) (hts (.classLink RL 33 "java/lang/IllegalStateException") (List.mem_cons_of_mem _ (List.mem_append_left _ (List.mem_append_left _ (List.mem_append_left _ (List.mem_append_left _ (List.mem_append_left _ (List.mem_of_getElem? (i := 1) rfl)))))))) ((hE.2.2.2.1 ("java/lang/IllegalStateException", "java/lang/IllegalStateException") (by decide)).use rfl) hq9 hce hcl ?_
      refine lv_astore_n (lv' := [(2, .ref q9), (0, .ref qo), (1, .int hgt)]) hx hb dL_latitude_11 rfl hl (by decide) rfl (fun ls hl => ?_)
      refine lv_sipush (v := (-1002)) hx hb dL_latitude_12 (by decide) ?_
      have e13 : s_L_latitude fw fh hgt = (-1002) := by
        unfold s_L_latitude
        exact ((if_neg c8).trans (if_neg c11))
      refine vx_ret ?_
      exact W.iret (v := (-1002)) hx hb hr (fun t ht hW => ⟨⟨_, (), rfl, e13.symm, ⟨(by rw [ht]; exact hP), va_K.moved hW.alike hK, hD⟩⟩, hS.F ht⟩) hS.2.2 dL_latitude_15
  · obtain ⟨c14, hw⟩ := hw
    rw [hw]
    have hP := zk hP hk1
    refine W.widen (k := 1) (n := 6) (by omega) (by omega) ?_
    have e15 : s_L_latitude fw fh hgt = s_X4_latitudeAt fw fh hgt := by
      unfold s_L_latitude
      exact (if_pos c14)
    refine vx_ret ?_
    exact W.iret (v := (s_X4_latitudeAt fw fh hgt)) hx hb hr (fun t ht hW => ⟨⟨_, (), rfl, e15.symm, ⟨(by rw [ht]; exact hP), va_K.moved hW.alike hK, hD⟩⟩, hS.F ht⟩) hS.2.2 dL_latitude_5
def s_L_field (fw : Nat → Int32) (fh : Nat → Int32) (fc : Int32) (so : Int32) (no : Int32) (we : Int32) (ea : Int32) : Int64 := (if fc = 0 then (if k_X4_area fw fh so no we ea = 0 then s_X4_area fw fh so no we ea else (-1)) else (if k_X4_areaByCells fw fh so no we ea = 0 then s_X4_areaByCells fw fh so no we ea else (-1)))
abbrev rm_L_field : Room := { frames := 8, cells := 2, slots := 12, locals := 163 }
abbrev Qc_L_field (D : va_G) (cI cZ cJ cD : ClassId) (qo : Nat) (qm : Nat) (qb : Nat) (qr : Nat) (qf : Nat) (qw : Nat) (qh : Nat) (fw : Nat → Int32) (fh : Nat → Int32) (fc : Int32) (so : Int32) (no : Int32) (we : Int32) (ea : Int32) (A : Nat → Prop) : Array Value → State → Outcome → State → Prop := va_Ql (fun (r : Int64) (_ : Unit) => r = s_L_field fw fh fc so no we ea) (zPost D cI cZ cJ cD A [(qo, .inr (4, [.ref qm, .ref qb, .ref qr, .ref qf])), (qm, .inr (2, [.ref qw, .ref qh])), (qw, .inl (cI, 10, .inl fw)), (qh, .inl (cI, 10, .inl fh))]) A
abbrev Xc_L_field (D : va_G) (cI cZ cJ cD : ClassId) (qo : Nat) (qm : Nat) (qb : Nat) (qr : Nat) (qf : Nat) (qw : Nat) (qh : Nat) (fw : Nat → Int32) (fh : Nat → Int32) (fc : Int32) (so : Int32) (no : Int32) (we : Int32) (ea : Int32) (A : Nat → Prop) : String → State → State → Prop := vx_X (fun _ : Unit => True) (fun _ _ _ => False) A
set_option maxHeartbeats 4000000 in
set_option maxRecDepth 100000 in
theorem c_L_field (l : Launch) (hnt : l.stackTraces = false) (D : va_G) (cI cZ cJ cD : ClassId) (qo : Nat) (qm : Nat) (qb : Nat) (qr : Nat) (qf : Nat) (qw : Nat) (qh : Nat) (fw : Nat → Int32) (fh : Nat → Int32) (fc : Int32) (so : Int32) (no : Int32) (we : Int32) (ea : Int32) (sz : Nat)  : vx_Met l yL_field wsL_field rm_L_field (va_Pc [.ref qo, .int fc, .int so, .int no, .int we, .int ea] (zPreWE D cI cZ cJ cD [(qo, .inr (4, [.ref qm, .ref qb, .ref qr, .ref qf])), (qm, .inr (2, [.ref qw, .ref qh])), (qw, .inl (cI, 10, .inl fw)), (qh, .inl (cI, 10, .inl fh))] sz)) (Qc_L_field D cI cZ cJ cD qo qm qb qr qf qw qh fw fh fc so no we ea (va_A [(qo, .inr (4, [.ref qm, .ref qb, .ref qr, .ref qf])), (qm, .inr (2, [.ref qw, .ref qh])), (qw, .inl (cI, 10, .inl fw)), (qh, .inl (cI, 10, .inl fh))] sz)) (Xc_L_field D cI cZ cJ cD qo qm qb qr qf qw qh fw fh fc so no we ea (va_A [(qo, .inr (4, [.ref qm, .ref qb, .ref qr, .ref qf])), (qm, .inr (2, [.ref qw, .ref qh])), (qw, .inl (cI, 10, .inl fw)), (qh, .inl (cI, 10, .inl fh))] sz)) 2 12 (va_A [(qo, .inr (4, [.ref qm, .ref qb, .ref qr, .ref qf])), (qm, .inr (2, [.ref qw, .ref qh])), (qw, .inl (cI, 10, .inl fw)), (qh, .inl (cI, 10, .inl fh))] sz) := by
  refine vx_ofWH (cc := cL_field) (maxL := 7) (ret := (some .long)) (hh := [(0, 27, 28, 31)]) (by decide) rfl ?_
  intro p e s m args below meth c s₁ B hml hv
  obtain ⟨rfl, hsz, hP, hK, hD0, hE⟩ := hv
  have hx := B.exec
  have hb := B.bytes
  have hr := B.returns
  have hts := atoms_spec (ws := wsL_field) B.pre
  have hown : s.vm.findClass RL = some m.cls := findClass_of_methodNamed B.named
  have hlocks := B.notSynchronized
  have htab := vx_table (x := yL_field) B (hts _ List.mem_cons_self)
  subst hsz
  have hD := hD0.self (sz := s.heap.size)
  generalize hAe : va_A [(qo, .inr (4, [.ref qm, .ref qb, .ref qr, .ref qf])), (qm, .inr (2, [.ref qw, .ref qh])), (qw, .inl (cI, 10, .inl fw)), (qh, .inl (cI, 10, .inl fh))] s.heap.size = A at hE hD ⊢
  have hA : ∀ q : Nat, s.heap.size ≤ q → A q := fun q h => by rw [← hAe]; exact Or.inr h
  have hS : va_S A s.heap s.heap [] := va_S.rf
  have hl := lv_entry ([.ref qo, .int fc, .int so, .int no, .int we, .int ea]) (n := 7) (Nat.le_of_ble_eq_true rfl)
  rw [lg_entry_eq]
  generalize (lg_sl ([.ref qo, .int fc, .int so, .int no, .int we, .int ea]) ++ List.replicate (7 - (lg_sl ([.ref qo, .int fc, .int so, .int no, .int we, .int ea])).length) Slot.unset).toArray = ls at hl ⊢
  have hl : lv_has ls 7 [(0, .ref qo), (1, .int fc), (2, .int so), (3, .int no), (4, .int we), (5, .int ea)] := hl
  have hP : va_P D vwCl [(qo, .inr (4, [.ref qm, .ref qb, .ref qr, .ref qf])), (qm, .inr (2, [.ref qw, .ref qh])), (qw, .inl (cI, 10, .inl fw)), (qh, .inl (cI, 10, .inl fh))] s.heap := hP
  have hP := hP
  refine lv_iload_n hx hb dL_field_0 rfl (lv_at hl 1 rfl) ?_
  refine lv_if_eq (tgt := 17) hx hb dL_field_1 (by decide) (fun c10 => ?_) (fun c10 => ?_)
  · refine lv_aload_n hx hb dL_field_17 rfl (lv_at hl 0 rfl) ?_
    refine lv_iload_n hx hb dL_field_18 rfl (lv_at hl 2 rfl) ?_
    refine lv_iload_n hx hb dL_field_19 rfl (lv_at hl 3 rfl) ?_
    refine lv_iload hx hb dL_field_20 (lv_at hl 4 rfl) ?_
    refine lv_iload hx hb dL_field_22 (lv_at hl 5 rfl) ?_
    refine vx_calll (vx_runV (As := [.int so, .int no, .int we, .int ea]) (rest := []) ⟨hx, hb, hml, hown, hts⟩ (c_X4_area l hnt D cI cZ cJ cD qo qm qb qr qf qw qh fw fh so no we ea ) (cwV 4 hts gL_field_X4_area rfl rfl rfl (by decide +kernel) ⟨Nat.le_of_ble_eq_true rfl, Nat.le_of_ble_eq_true rfl⟩) ⟨zblindE, va_recv hK hP (ci := 4) (q0 := 0) rfl rfl, (fun U hU hW => ⟨rfl, by rw [hU]; exact hP.sub (ws' := [(qo, .inr (4, [.ref qm, .ref qb, .ref qr, .ref qf])), (qm, .inr (2, [.ref qw, .ref qh])), (qw, .inl (cI, 10, .inl fw)), (qh, .inl (cI, 10, .inl fh))]) [0, 1, 2, 3] rfl, va_K.moved hW.alike hK, zEnv.go hE hS (fun q h => h.elim) hU hW⟩)⟩ rfl rfl hl.1 rfl (lv_room (Nat.le_of_ble_eq_true rfl)) dL_field_24 ⟨(show _ ≤ 2 from by omega), (show _ ≤ 12 from by omega)⟩) hS (fun q _ h => h.elim) (fun q h => h.elim) (fun q _ h => h.elim) (fun E ce q9 u t H locs ht hvm hpx hB hz1 hk1 hS hq9 hce hcl => ?_) (fun r11 u t H locs ht hvm hw hB hz1 hk1 hS => ?_)
    · have hX := hB
      have hP := zk hP hk1
      have c12 : ¬ k_X4_area fw fh so no we ea = 0 := zX_ne hX
      rcases hX with ⟨rfl, hk9⟩ | ⟨rfl, hk9⟩ | ⟨rfl, hk9⟩
      · exact absurd hk9 (by have := kr_X4_area fw fh so no we ea; omega)
      · refine vx_catch (own := RL) (name := "java/lang/IllegalArgumentException") (E := "java/lang/IllegalArgumentException") hown [] ⟨0, 27, 28, 31⟩ [] (htab.trans rfl) (fun z hz => absurd hz List.not_mem_nil) rfl (by decide) (hts (.classLink RL 31 "java/lang/IllegalArgumentException") (List.mem_cons_of_mem _ (List.mem_append_left _ (List.mem_append_left _ (List.mem_append_left _ (List.mem_append_left _ (List.mem_of_getElem? (i := 0) rfl))))))) ((hE.2.2.2.1 ("java/lang/IllegalArgumentException", "java/lang/IllegalArgumentException") (by decide)).use rfl) hq9 hce hcl ?_
        refine lv_astore (lv' := [(6, .ref q9), (0, .ref qo), (1, .int fc), (2, .int so), (3, .int no), (4, .int we), (5, .int ea)]) hx hb dL_field_28 hl (by decide) rfl (fun ls hl => ?_)
        refine lv_ldc2 (v := (-1)) hx hb hown (hts (.constantLong RL 76 (-1)) (List.mem_cons_of_mem _ (List.mem_append_left _ (List.mem_append_left _ (List.mem_append_left _ (List.mem_append_left _ (List.mem_of_getElem? (i := 1) rfl))))))) dL_field_30 ?_
        refine W.widen (k := 2) (n := 12) (by decide) (by decide) ?_
        have e14 : s_L_field fw fh fc so no we ea = (-1) := by
          unfold s_L_field
          exact ((if_pos c10).trans (if_neg c12))
        refine vx_ret ?_
        exact W.lret (v := (-1)) hx hb hr (fun t ht hW => ⟨⟨_, (), rfl, e14.symm, ⟨(by rw [ht]; exact hP), va_K.moved hW.alike hK, hD⟩⟩, hS.F ht⟩) hS.2.2 dL_field_33
      · exact absurd hk9 (by have := kr_X4_area fw fh so no we ea; omega)
    · obtain ⟨c15, hw⟩ := hw
      rw [hw]
      have hP := zk hP hk1
      refine W.widen (k := 1) (n := 6) (by omega) (by omega) ?_
      refine W.widen (k := 2) (n := 12) (by decide) (by decide) ?_
      have e16 : s_L_field fw fh fc so no we ea = s_X4_area fw fh so no we ea := by
        unfold s_L_field
        exact ((if_pos c10).trans (if_pos c15))
      refine vx_ret ?_
      exact W.lret (v := (s_X4_area fw fh so no we ea)) hx hb hr (fun t ht hW => ⟨⟨_, (), rfl, e16.symm, ⟨(by rw [ht]; exact hP), va_K.moved hW.alike hK, hD⟩⟩, hS.F ht⟩) hS.2.2 dL_field_27
  · refine lv_aload_n hx hb dL_field_4 rfl (lv_at hl 0 rfl) ?_
    refine lv_iload_n hx hb dL_field_5 rfl (lv_at hl 2 rfl) ?_
    refine lv_iload_n hx hb dL_field_6 rfl (lv_at hl 3 rfl) ?_
    refine lv_iload hx hb dL_field_7 (lv_at hl 4 rfl) ?_
    refine lv_iload hx hb dL_field_9 (lv_at hl 5 rfl) ?_
    refine vx_calll (vx_runV (As := [.int so, .int no, .int we, .int ea]) (rest := []) ⟨hx, hb, hml, hown, hts⟩ (c_X4_areaByCells l hnt D cI cZ cJ cD qo qm qb qr qf qw qh fw fh so no we ea ) (cwV 4 hts gL_field_X4_areaByCells rfl rfl rfl (by decide +kernel) ⟨Nat.le_of_ble_eq_true rfl, Nat.le_of_ble_eq_true rfl⟩) ⟨zblindE, va_recv hK hP (ci := 4) (q0 := 0) rfl rfl, (fun U hU hW => ⟨rfl, by rw [hU]; exact hP.sub (ws' := [(qo, .inr (4, [.ref qm, .ref qb, .ref qr, .ref qf])), (qm, .inr (2, [.ref qw, .ref qh])), (qw, .inl (cI, 10, .inl fw)), (qh, .inl (cI, 10, .inl fh))]) [0, 1, 2, 3] rfl, va_K.moved hW.alike hK, zEnv.go hE hS (fun q h => h.elim) hU hW⟩)⟩ rfl rfl hl.1 rfl (lv_room (Nat.le_of_ble_eq_true rfl)) dL_field_11 ⟨(show _ ≤ 2 from by omega), (show _ ≤ 12 from by omega)⟩) hS (fun q _ h => h.elim) (fun q h => h.elim) (fun q _ h => h.elim) (fun E ce q9 u t H locs ht hvm hpx hB hz1 hk1 hS hq9 hce hcl => ?_) (fun r17 u t H locs ht hvm hw hB hz1 hk1 hS => ?_)
    · have hX := hB
      have hP := zk hP hk1
      have c18 : ¬ k_X4_areaByCells fw fh so no we ea = 0 := zX_ne hX
      rcases hX with ⟨rfl, hk9⟩ | ⟨rfl, hk9⟩ | ⟨rfl, hk9⟩
      · exact absurd hk9 (by have := kr_X4_areaByCells fw fh so no we ea; omega)
      · refine vx_catch (own := RL) (name := "java/lang/IllegalArgumentException") (E := "java/lang/IllegalArgumentException") hown [] ⟨0, 27, 28, 31⟩ [] (htab.trans rfl) (fun z hz => absurd hz List.not_mem_nil) rfl (by decide) (hts (.classLink RL 31 "java/lang/IllegalArgumentException") (List.mem_cons_of_mem _ (List.mem_append_left _ (List.mem_append_left _ (List.mem_append_left _ (List.mem_append_left _ (List.mem_of_getElem? (i := 0) rfl))))))) ((hE.2.2.2.1 ("java/lang/IllegalArgumentException", "java/lang/IllegalArgumentException") (by decide)).use rfl) hq9 hce hcl ?_
        refine lv_astore (lv' := [(6, .ref q9), (0, .ref qo), (1, .int fc), (2, .int so), (3, .int no), (4, .int we), (5, .int ea)]) hx hb dL_field_28 hl (by decide) rfl (fun ls hl => ?_)
        refine lv_ldc2 (v := (-1)) hx hb hown (hts (.constantLong RL 76 (-1)) (List.mem_cons_of_mem _ (List.mem_append_left _ (List.mem_append_left _ (List.mem_append_left _ (List.mem_append_left _ (List.mem_of_getElem? (i := 1) rfl))))))) dL_field_30 ?_
        refine W.widen (k := 2) (n := 12) (by decide) (by decide) ?_
        have e20 : s_L_field fw fh fc so no we ea = (-1) := by
          unfold s_L_field
          exact ((if_neg c10).trans (if_neg c18))
        refine vx_ret ?_
        exact W.lret (v := (-1)) hx hb hr (fun t ht hW => ⟨⟨_, (), rfl, e20.symm, ⟨(by rw [ht]; exact hP), va_K.moved hW.alike hK, hD⟩⟩, hS.F ht⟩) hS.2.2 dL_field_33
      · exact absurd hk9 (by have := kr_X4_areaByCells fw fh so no we ea; omega)
    · obtain ⟨c21, hw⟩ := hw
      rw [hw]
      have hP := zk hP hk1
      refine W.widen (k := 1) (n := 6) (by omega) (by omega) ?_
      refine lv_goto (tgt := 27) hx hb dL_field_14 (by decide) ?_
      refine W.widen (k := 2) (n := 12) (by decide) (by decide) ?_
      have e22 : s_L_field fw fh fc so no we ea = s_X4_areaByCells fw fh so no we ea := by
        unfold s_L_field
        exact ((if_neg c10).trans (if_pos c21))
      refine vx_ret ?_
      exact W.lret (v := (s_X4_areaByCells fw fh so no we ea)) hx hb hr (fun t ht hW => ⟨⟨_, (), rfl, e22.symm, ⟨(by rw [ht]; exact hP), va_K.moved hW.alike hK, hD⟩⟩, hS.F ht⟩) hS.2.2 dL_field_27
def s_L_truth (ft : Nat → Int32) (bd : Int32) (tr : Int32) : Int32 := (if k_X4_truth ft bd tr = 0 then s_X4_truth ft bd tr else (if k_X4_truth ft bd tr = 1 then (-1) else (-2)))
def n_L_truth_qt (ft : Nat → Int32) (bd : Int32) (tr : Int32) : Nat → Int32 := n_X4_truth_qt ft bd tr
abbrev rm_L_truth : Room := { frames := 8, cells := 2, slots := 12, locals := 132 }
abbrev Qc_L_truth (D : va_G) (cI cZ cJ cD : ClassId) (qo : Nat) (qm : Nat) (qb : Nat) (qr : Nat) (qf : Nat) (qt : Nat) (ft : Nat → Int32) (bd : Int32) (tr : Int32) (A : Nat → Prop) : Array Value → State → Outcome → State → Prop := va_Qi (fun (r : Int32) (_ : Unit) => r = s_L_truth ft bd tr) (zPost D cI cZ cJ cD A [(qo, .inr (4, [.ref qm, .ref qb, .ref qr, .ref qf])), (qb, .inr (0, [.ref qt])), (qt, .inl (cI, 9, .inl (n_L_truth_qt ft bd tr)))]) A
abbrev Xc_L_truth (D : va_G) (cI cZ cJ cD : ClassId) (qo : Nat) (qm : Nat) (qb : Nat) (qr : Nat) (qf : Nat) (qt : Nat) (ft : Nat → Int32) (bd : Int32) (tr : Int32) (A : Nat → Prop) : String → State → State → Prop := vx_X (fun _ : Unit => True) (fun _ _ _ => False) A
set_option maxHeartbeats 4000000 in
set_option maxRecDepth 100000 in
theorem c_L_truth (l : Launch) (hnt : l.stackTraces = false) (D : va_G) (cI cZ cJ cD : ClassId) (qo : Nat) (qm : Nat) (qb : Nat) (qr : Nat) (qf : Nat) (qt : Nat) (ft : Nat → Int32) (bd : Int32) (tr : Int32) (sz : Nat)  : vx_Met l yL_truth wsL_truth rm_L_truth (va_Pc [.ref qo, .int bd, .int tr] (zPreWE D cI cZ cJ cD [(qo, .inr (4, [.ref qm, .ref qb, .ref qr, .ref qf])), (qb, .inr (0, [.ref qt])), (qt, .inl (cI, 9, .inl ft))] sz)) (Qc_L_truth D cI cZ cJ cD qo qm qb qr qf qt ft bd tr (va_A [(qo, .inr (4, [.ref qm, .ref qb, .ref qr, .ref qf])), (qb, .inr (0, [.ref qt])), (qt, .inl (cI, 9, .inl ft))] sz)) (Xc_L_truth D cI cZ cJ cD qo qm qb qr qf qt ft bd tr (va_A [(qo, .inr (4, [.ref qm, .ref qb, .ref qr, .ref qf])), (qb, .inr (0, [.ref qt])), (qt, .inl (cI, 9, .inl ft))] sz)) 2 12 (va_A [(qo, .inr (4, [.ref qm, .ref qb, .ref qr, .ref qf])), (qb, .inr (0, [.ref qt])), (qt, .inl (cI, 9, .inl ft))] sz) := by
  refine vx_ofWH (cc := cL_truth) (maxL := 4) (ret := (some .int)) (hh := [(0, 6, 7, 29), (0, 6, 10, 31)]) (by decide) rfl ?_
  intro p e s m args below meth c s₁ B hml hv
  obtain ⟨rfl, hsz, hP, hK, hD0, hE⟩ := hv
  have hx := B.exec
  have hb := B.bytes
  have hr := B.returns
  have hts := atoms_spec (ws := wsL_truth) B.pre
  have hown : s.vm.findClass RL = some m.cls := findClass_of_methodNamed B.named
  have hlocks := B.notSynchronized
  have htab := vx_table (x := yL_truth) B (hts _ List.mem_cons_self)
  subst hsz
  have hD := hD0.self (sz := s.heap.size)
  generalize hAe : va_A [(qo, .inr (4, [.ref qm, .ref qb, .ref qr, .ref qf])), (qb, .inr (0, [.ref qt])), (qt, .inl (cI, 9, .inl ft))] s.heap.size = A at hE hD ⊢
  have hA : ∀ q : Nat, s.heap.size ≤ q → A q := fun q h => by rw [← hAe]; exact Or.inr h
  have hS : va_S A s.heap s.heap [] := va_S.rf
  have hl := lv_entry ([.ref qo, .int bd, .int tr]) (n := 4) (Nat.le_of_ble_eq_true rfl)
  rw [lg_entry_eq]
  generalize (lg_sl ([.ref qo, .int bd, .int tr]) ++ List.replicate (4 - (lg_sl ([.ref qo, .int bd, .int tr])).length) Slot.unset).toArray = ls at hl ⊢
  have hl : lv_has ls 4 [(0, .ref qo), (1, .int bd), (2, .int tr)] := hl
  have hP : va_P D vwCl [(qo, .inr (4, [.ref qm, .ref qb, .ref qr, .ref qf])), (qb, .inr (0, [.ref qt])), (qt, .inl (cI, 9, .inl ft))] s.heap := hP
  have hP := hP
  refine lv_aload_n hx hb dL_truth_0 rfl (lv_at hl 0 rfl) ?_
  refine lv_iload_n hx hb dL_truth_1 rfl (lv_at hl 1 rfl) ?_
  refine lv_iload_n hx hb dL_truth_2 rfl (lv_at hl 2 rfl) ?_
  have hPc := hP.sub (ws' := [(qo, .inr (4, [.ref qm, .ref qb, .ref qr, .ref qf])), (qb, .inr (0, [.ref qt])), (qt, .inl (cI, 9, .inl ft))]) [0, 1, 2] rfl
  have hDc := hD.sub (ws' := [(qo, .inr (4, [.ref qm, .ref qb, .ref qr, .ref qf])), (qb, .inr (0, [.ref qt])), (qt, .inl (cI, 9, .inl ft))]) [0, 1, 2] (by decide) rfl
  have hFc := va_free (wc := [(qo, .inr (4, [.ref qm, .ref qb, .ref qr, .ref qf])), (qb, .inr (0, [.ref qt])), (qt, .inl (cI, 9, .inl ft))]) hD hS hA [0, 1, 2] rfl
  refine vx_calli (vx_runV (As := [.int bd, .int tr]) (rest := []) ⟨hx, hb, hml, hown, hts⟩ (c_X4_truth l hnt D cI cZ cJ cD qo qm qb qr qf qt ft bd tr s.heap.size ) (cwV 2 hts gL_truth_X4_truth rfl rfl rfl (by decide +kernel) ⟨Nat.le_of_ble_eq_true rfl, Nat.le_of_ble_eq_true rfl⟩) ⟨zblindWE, va_recv hK hP (ci := 4) (q0 := 0) rfl rfl, (fun U hU hW => ⟨rfl, by rw [hU], by rw [hU]; exact hPc, va_K.moved hW.alike hK, hDc.weaken (fun _ _ _ _ => trivial), zEnv.go hE hS hFc hU hW⟩)⟩ rfl rfl hl.1 rfl (lv_room (Nat.le_of_ble_eq_true rfl)) dL_truth_3 ⟨(show _ ≤ 2 from by omega), (show _ ≤ 12 from by omega)⟩) hS (fun q _ h => hFc q h) hFc (fun q _ h => hFc q h) (fun E ce q9 u t H locs ht hvm hpx hB hz1 hk1 hS hq9 hce hcl => ?_) (fun r7 u t H locs ht hvm hw hB hz1 hk1 hS => ?_)
  · obtain ⟨hX, hB⟩ := hB
    obtain ⟨hP1, hK1, hD1⟩ := hB
    rw [ht] at hP1
    obtain ⟨hP, hD⟩ := va_join (wr := []) (w1 := [(qo, .inr (4, [.ref qm, .ref qb, .ref qr, .ref qf])), (qb, .inr (0, [.ref qt])), (qt, .inl (cI, 9, .inl (n_X4_truth_qt ft bd tr)))]) hP hD [0, 1, 2] [] rfl rfl (by decide) (by decide) hk1 hFc hP1 hD1
    have hP := hP.sub (ws' := [(qo, .inr (4, [.ref qm, .ref qb, .ref qr, .ref qf])), (qb, .inr (0, [.ref qt])), (qt, .inl (cI, 9, .inl (n_X4_truth_qt ft bd tr)))]) [0, 1, 2] rfl
    have hD := hD.sub (ws' := [(qo, .inr (4, [.ref qm, .ref qb, .ref qr, .ref qf])), (qb, .inr (0, [.ref qt])), (qt, .inl (cI, 9, .inl (n_X4_truth_qt ft bd tr)))]) [0, 1, 2] (by decide) rfl
    have c8 : ¬ k_X4_truth ft bd tr = 0 := zX_ne hX
    rcases hX with ⟨rfl, hk9⟩ | ⟨rfl, hk9⟩ | ⟨rfl, hk9⟩
    · have c9 : k_X4_truth ft bd tr = 1 := hk9
      refine vx_catch (own := RL) (name := "java/lang/IndexOutOfBoundsException") (E := "java/lang/IndexOutOfBoundsException") hown [] ⟨0, 6, 7, 29⟩ [⟨0, 6, 10, 31⟩] (htab.trans rfl) (fun z hz => absurd hz List.not_mem_nil) rfl (by decide) (hts (.classLink RL 29 "java/lang/IndexOutOfBoundsException") (List.mem_cons_of_mem _ (List.mem_append_left _ (List.mem_append_left _ (List.mem_append_left _ (List.mem_append_left _ (List.mem_append_left _ (List.mem_of_getElem? (i := 0) rfl)))))))) ((hE.2.2.2.1 ("java/lang/IndexOutOfBoundsException", "java/lang/IndexOutOfBoundsException") (by decide)).use rfl) hq9 hce hcl ?_
      refine lv_astore_n (lv' := [(3, .ref q9), (0, .ref qo), (1, .int bd), (2, .int tr)]) hx hb dL_truth_7 rfl hl (by decide) rfl (fun ls hl => ?_)
      refine lv_iconst (v := (-1)) hx hb dL_truth_8 (by decide) ?_
      have e10 : s_L_truth ft bd tr = (-1) := by
        unfold s_L_truth
        exact ((if_neg c8).trans (if_pos c9))
      have e11 : n_L_truth_qt ft bd tr = n_X4_truth_qt ft bd tr := rfl
      refine vx_ret ?_
      exact W.iret (v := (-1)) hx hb hr (fun t ht hW => ⟨⟨_, (), rfl, e10.symm, ⟨(by rw [e11]; rw [ht]; exact hP), va_K.moved hW.alike hK, (by rw [e11]; exact hD)⟩⟩, hS.F ht⟩) hS.2.2 dL_truth_9
    · have c12 : ¬ k_X4_truth ft bd tr = 1 := by omega
      refine vx_catch (own := RL) (name := "java/lang/IllegalArgumentException") (E := "java/lang/IllegalArgumentException") hown [⟨0, 6, 7, 29⟩] ⟨0, 6, 10, 31⟩ [] (htab.trans rfl) (fun z hz => (List.mem_cons.mp hz).elim (fun e9 => by rw [e9]; exact Or.inr ⟨by decide, "java/lang/IndexOutOfBoundsException", (hts (.classLink RL 29 "java/lang/IndexOutOfBoundsException") (List.mem_cons_of_mem _ (List.mem_append_left _ (List.mem_append_left _ (List.mem_append_left _ (List.mem_append_left _ (List.mem_append_left _ (List.mem_of_getElem? (i := 0) rfl)))))))), hE.2.2.2.2.1 ("java/lang/IllegalArgumentException", "java/lang/IndexOutOfBoundsException") (by decide)⟩) (fun hz => absurd hz List.not_mem_nil)) rfl (by decide) (hts (.classLink RL 31 "java/lang/IllegalArgumentException") (List.mem_cons_of_mem _ (List.mem_append_left _ (List.mem_append_left _ (List.mem_append_left _ (List.mem_append_left _ (List.mem_append_left _ (List.mem_of_getElem? (i := 1) rfl)))))))) ((hE.2.2.2.1 ("java/lang/IllegalArgumentException", "java/lang/IllegalArgumentException") (by decide)).use rfl) hq9 hce hcl ?_
      refine lv_astore_n (lv' := [(3, .ref q9), (0, .ref qo), (1, .int bd), (2, .int tr)]) hx hb dL_truth_10 rfl hl (by decide) rfl (fun ls hl => ?_)
      refine lv_bipush (v := (-2)) hx hb dL_truth_11 (by decide) ?_
      have e14 : s_L_truth ft bd tr = (-2) := by
        unfold s_L_truth
        exact ((if_neg c8).trans (if_neg c12))
      have e15 : n_L_truth_qt ft bd tr = n_X4_truth_qt ft bd tr := rfl
      refine vx_ret ?_
      exact W.iret (v := (-2)) hx hb hr (fun t ht hW => ⟨⟨_, (), rfl, e14.symm, ⟨(by rw [e15]; rw [ht]; exact hP), va_K.moved hW.alike hK, (by rw [e15]; exact hD)⟩⟩, hS.F ht⟩) hS.2.2 dL_truth_13
    · exact absurd hk9 (by have := kr_X4_truth ft bd tr; omega)
  · obtain ⟨c16, hw⟩ := hw
    rw [hw]
    obtain ⟨hP1, hK1, hD1⟩ := hB
    rw [ht] at hP1
    obtain ⟨hP, hD⟩ := va_join (wr := []) (w1 := [(qo, .inr (4, [.ref qm, .ref qb, .ref qr, .ref qf])), (qb, .inr (0, [.ref qt])), (qt, .inl (cI, 9, .inl (n_X4_truth_qt ft bd tr)))]) hP hD [0, 1, 2] [] rfl rfl (by decide) (by decide) hk1 hFc hP1 hD1
    have hP := hP.sub (ws' := [(qo, .inr (4, [.ref qm, .ref qb, .ref qr, .ref qf])), (qb, .inr (0, [.ref qt])), (qt, .inl (cI, 9, .inl (n_X4_truth_qt ft bd tr)))]) [0, 1, 2] rfl
    have hD := hD.sub (ws' := [(qo, .inr (4, [.ref qm, .ref qb, .ref qr, .ref qf])), (qb, .inr (0, [.ref qt])), (qt, .inl (cI, 9, .inl (n_X4_truth_qt ft bd tr)))]) [0, 1, 2] (by decide) rfl
    refine W.widen (k := 2) (n := 12) (by omega) (by omega) ?_
    have e17 : s_L_truth ft bd tr = s_X4_truth ft bd tr := by
      unfold s_L_truth
      exact (if_pos c16)
    have e18 : n_L_truth_qt ft bd tr = n_X4_truth_qt ft bd tr := rfl
    refine vx_ret ?_
    exact W.iret (v := (s_X4_truth ft bd tr)) hx hb hr (fun t ht hW => ⟨⟨_, (), rfl, e17.symm, ⟨(by rw [e18]; rw [ht]; exact hP), va_K.moved hW.alike hK, (by rw [e18]; exact hD)⟩⟩, hS.F ht⟩) hS.2.2 dL_truth_6
def s_L_stretch (ft : Nat → Int32) (fw : Nat → Int32) (fh : Nat → Int32) (bd : Int32) : UInt32 := (if k_X4_stretch ft fw fh bd = 0 then s_X4_stretch ft fw fh bd else (3212836864 : UInt32))
abbrev rm_L_stretch : Room := { frames := 8, cells := 1, slots := 6, locals := 131 }
abbrev Qc_L_stretch (D : va_G) (cI cZ cJ cD : ClassId) (qo : Nat) (qm : Nat) (qb : Nat) (qr : Nat) (qf : Nat) (qt : Nat) (ft : Nat → Int32) (qw : Nat) (qh : Nat) (fw : Nat → Int32) (fh : Nat → Int32) (bd : Int32) (A : Nat → Prop) : Array Value → State → Outcome → State → Prop := va_Qf (fun (r : UInt32) (_ : Unit) => r = s_L_stretch ft fw fh bd) (zPost D cI cZ cJ cD A [(qo, .inr (4, [.ref qm, .ref qb, .ref qr, .ref qf])), (qb, .inr (0, [.ref qt])), (qt, .inl (cI, 9, .inl ft)), (qm, .inr (2, [.ref qw, .ref qh])), (qw, .inl (cI, 10, .inl fw)), (qh, .inl (cI, 10, .inl fh))]) A
abbrev Xc_L_stretch (D : va_G) (cI cZ cJ cD : ClassId) (qo : Nat) (qm : Nat) (qb : Nat) (qr : Nat) (qf : Nat) (qt : Nat) (ft : Nat → Int32) (qw : Nat) (qh : Nat) (fw : Nat → Int32) (fh : Nat → Int32) (bd : Int32) (A : Nat → Prop) : String → State → State → Prop := vx_X (fun _ : Unit => True) (fun _ _ _ => False) A
set_option maxHeartbeats 4000000 in
set_option maxRecDepth 100000 in
theorem c_L_stretch (l : Launch) (hnt : l.stackTraces = false) (D : va_G) (cI cZ cJ cD : ClassId) (qo : Nat) (qm : Nat) (qb : Nat) (qr : Nat) (qf : Nat) (qt : Nat) (ft : Nat → Int32) (qw : Nat) (qh : Nat) (fw : Nat → Int32) (fh : Nat → Int32) (bd : Int32) (sz : Nat) (htr : ∀ j : Nat, j < 9 → ¬ ft j = 0) : vx_Met l yL_stretch wsL_stretch rm_L_stretch (va_Pc [.ref qo, .int bd] (zPreWE D cI cZ cJ cD [(qo, .inr (4, [.ref qm, .ref qb, .ref qr, .ref qf])), (qb, .inr (0, [.ref qt])), (qt, .inl (cI, 9, .inl ft)), (qm, .inr (2, [.ref qw, .ref qh])), (qw, .inl (cI, 10, .inl fw)), (qh, .inl (cI, 10, .inl fh))] sz)) (Qc_L_stretch D cI cZ cJ cD qo qm qb qr qf qt ft qw qh fw fh bd (va_A [(qo, .inr (4, [.ref qm, .ref qb, .ref qr, .ref qf])), (qb, .inr (0, [.ref qt])), (qt, .inl (cI, 9, .inl ft)), (qm, .inr (2, [.ref qw, .ref qh])), (qw, .inl (cI, 10, .inl fw)), (qh, .inl (cI, 10, .inl fh))] sz)) (Xc_L_stretch D cI cZ cJ cD qo qm qb qr qf qt ft qw qh fw fh bd (va_A [(qo, .inr (4, [.ref qm, .ref qb, .ref qr, .ref qf])), (qb, .inr (0, [.ref qt])), (qt, .inl (cI, 9, .inl ft)), (qm, .inr (2, [.ref qw, .ref qh])), (qw, .inl (cI, 10, .inl fw)), (qh, .inl (cI, 10, .inl fh))] sz)) 1 6 (va_A [(qo, .inr (4, [.ref qm, .ref qb, .ref qr, .ref qf])), (qb, .inr (0, [.ref qt])), (qt, .inl (cI, 9, .inl ft)), (qm, .inr (2, [.ref qw, .ref qh])), (qw, .inl (cI, 10, .inl fw)), (qh, .inl (cI, 10, .inl fh))] sz) := by
  refine vx_ofWH (cc := cL_stretch) (maxL := 3) (ret := (some .float)) (hh := [(0, 5, 6, 29)]) (by decide) rfl ?_
  intro p e s m args below meth c s₁ B hml hv
  obtain ⟨rfl, hsz, hP, hK, hD0, hE⟩ := hv
  have hx := B.exec
  have hb := B.bytes
  have hr := B.returns
  have hts := atoms_spec (ws := wsL_stretch) B.pre
  have hown : s.vm.findClass RL = some m.cls := findClass_of_methodNamed B.named
  have hlocks := B.notSynchronized
  have htab := vx_table (x := yL_stretch) B (hts _ List.mem_cons_self)
  subst hsz
  have hD := hD0.self (sz := s.heap.size)
  generalize hAe : va_A [(qo, .inr (4, [.ref qm, .ref qb, .ref qr, .ref qf])), (qb, .inr (0, [.ref qt])), (qt, .inl (cI, 9, .inl ft)), (qm, .inr (2, [.ref qw, .ref qh])), (qw, .inl (cI, 10, .inl fw)), (qh, .inl (cI, 10, .inl fh))] s.heap.size = A at hE hD ⊢
  have hA : ∀ q : Nat, s.heap.size ≤ q → A q := fun q h => by rw [← hAe]; exact Or.inr h
  have hS : va_S A s.heap s.heap [] := va_S.rf
  have hl := lv_entry ([.ref qo, .int bd]) (n := 3) (Nat.le_of_ble_eq_true rfl)
  rw [lg_entry_eq]
  generalize (lg_sl ([.ref qo, .int bd]) ++ List.replicate (3 - (lg_sl ([.ref qo, .int bd])).length) Slot.unset).toArray = ls at hl ⊢
  have hl : lv_has ls 3 [(0, .ref qo), (1, .int bd)] := hl
  have hP : va_P D vwCl [(qo, .inr (4, [.ref qm, .ref qb, .ref qr, .ref qf])), (qb, .inr (0, [.ref qt])), (qt, .inl (cI, 9, .inl ft)), (qm, .inr (2, [.ref qw, .ref qh])), (qw, .inl (cI, 10, .inl fw)), (qh, .inl (cI, 10, .inl fh))] s.heap := hP
  have hP := hP
  refine lv_aload_n hx hb dL_stretch_0 rfl (lv_at hl 0 rfl) ?_
  refine lv_iload_n hx hb dL_stretch_1 rfl (lv_at hl 1 rfl) ?_
  refine vx_callf (vx_runV (As := [.int bd]) (rest := []) ⟨hx, hb, hml, hown, hts⟩ (c_X4_stretch l hnt D cI cZ cJ cD qo qm qb qr qf qt ft qw qh fw fh bd (by assumption)) (cwV 1 hts gL_stretch_X4_stretch rfl rfl rfl (by decide +kernel) ⟨Nat.le_of_ble_eq_true rfl, Nat.le_of_ble_eq_true rfl⟩) ⟨zblindE, va_recv hK hP (ci := 4) (q0 := 0) rfl rfl, (fun U hU hW => ⟨rfl, by rw [hU]; exact hP.sub (ws' := [(qo, .inr (4, [.ref qm, .ref qb, .ref qr, .ref qf])), (qb, .inr (0, [.ref qt])), (qt, .inl (cI, 9, .inl ft)), (qm, .inr (2, [.ref qw, .ref qh])), (qw, .inl (cI, 10, .inl fw)), (qh, .inl (cI, 10, .inl fh))]) [0, 1, 2, 3, 4, 5] rfl, va_K.moved hW.alike hK, zEnv.go hE hS (fun q h => h.elim) hU hW⟩)⟩ rfl rfl hl.1 rfl (lv_room (Nat.le_of_ble_eq_true rfl)) dL_stretch_2 ⟨(show _ ≤ 1 from by omega), (show _ ≤ 6 from by omega)⟩) hS (fun q _ h => h.elim) (fun q h => h.elim) (fun q _ h => h.elim) (fun E ce q9 u t H locs ht hvm hpx hB hz1 hk1 hS hq9 hce hcl => ?_) (fun r5 u t H locs ht hvm hw hB hz1 hk1 hS => ?_)
  · have hX := hB
    have hP := zk hP hk1
    have c6 : ¬ k_X4_stretch ft fw fh bd = 0 := zX_ne hX
    rcases hX with ⟨rfl, hk9⟩ | ⟨rfl, hk9⟩ | ⟨rfl, hk9⟩
    · refine vx_catch (own := RL) (name := "java/lang/IndexOutOfBoundsException") (E := "java/lang/IndexOutOfBoundsException") hown [] ⟨0, 5, 6, 29⟩ [] (htab.trans rfl) (fun z hz => absurd hz List.not_mem_nil) rfl (by decide) (hts (.classLink RL 29 "java/lang/IndexOutOfBoundsException") (List.mem_cons_of_mem _ (List.mem_append_left _ (List.mem_append_left _ (List.mem_append_left _ (List.mem_append_left _ (List.mem_append_left _ (List.mem_of_getElem? (i := 0) rfl)))))))) ((hE.2.2.2.1 ("java/lang/IndexOutOfBoundsException", "java/lang/IndexOutOfBoundsException") (by decide)).use rfl) hq9 hce hcl ?_
      refine lv_astore_n (lv' := [(2, .ref q9), (0, .ref qo), (1, .int bd)]) hx hb dL_stretch_6 rfl hl (by decide) rfl (fun ls hl => ?_)
      refine lv_ldcf (v := (3212836864 : UInt32)) hx hb hown (hts (.constantFloat RL 85 (3212836864)) (List.mem_cons_of_mem _ (List.mem_append_left _ (List.mem_append_left _ (List.mem_append_left _ (List.mem_append_left _ (List.mem_append_left _ (List.mem_of_getElem? (i := 1) rfl)))))))) dL_stretch_7 ?_
      have e8 : s_L_stretch ft fw fh bd = (3212836864 : UInt32) := by
        unfold s_L_stretch
        exact (if_neg c6)
      refine vx_ret ?_
      exact W.fret (v := (3212836864 : UInt32)) hx hb hr (fun t ht hW => ⟨⟨_, (), rfl, e8.symm, ⟨(by rw [ht]; exact hP), va_K.moved hW.alike hK, hD⟩⟩, hS.F ht⟩) hS.2.2 dL_stretch_9
    · exact absurd hk9 (by have := kr_X4_stretch ft fw fh bd; omega)
    · exact absurd hk9 (by have := kr_X4_stretch ft fw fh bd; omega)
  · obtain ⟨c9, hw⟩ := hw
    rw [hw]
    have hP := zk hP hk1
    refine W.widen (k := 1) (n := 6) (by omega) (by omega) ?_
    have e10 : s_L_stretch ft fw fh bd = s_X4_stretch ft fw fh bd := by
      unfold s_L_stretch
      exact (if_pos c9)
    refine vx_ret ?_
    exact W.fret (v := (s_X4_stretch ft fw fh bd)) hx hb hr (fun t ht hW => ⟨⟨_, (), rfl, e10.symm, ⟨(by rw [ht]; exact hP), va_K.moved hW.alike hK, hD⟩⟩, hS.F ht⟩) hS.2.2 dL_stretch_5
def s_L_sheet (jC : Int32) (jR : Int32) (nf : Int32) (fx : Nat → Int32) (fy : Nat → Int32) (fz : Nat → Int32) (fu : Nat → Int32) (co : Int32) (ro : Int32) : Int32 := (if k_X4_sheet jC jR nf fx fy fz fu co ro = 0 then 0 else (-1))
def n_L_sheet_qf_4 (jC : Int32) (jR : Int32) (nf : Int32) (fx : Nat → Int32) (fy : Nat → Int32) (fz : Nat → Int32) (fu : Nat → Int32) (co : Int32) (ro : Int32) : Int32 := n_X4_sheet_qf_4 jC jR nf fx fy fz fu co ro
def n_L_sheet_qf_5 (jC : Int32) (jR : Int32) (nf : Int32) (fx : Nat → Int32) (fy : Nat → Int32) (fz : Nat → Int32) (fu : Nat → Int32) (co : Int32) (ro : Int32) : Int32 := n_X4_sheet_qf_5 jC jR nf fx fy fz fu co ro
def n_L_sheet_qf_6 (jC : Int32) (jR : Int32) (nf : Int32) (fx : Nat → Int32) (fy : Nat → Int32) (fz : Nat → Int32) (fu : Nat → Int32) (co : Int32) (ro : Int32) : Int32 := n_X4_sheet_qf_6 jC jR nf fx fy fz fu co ro
def n_L_sheet_qx (jC : Int32) (jR : Int32) (nf : Int32) (fx : Nat → Int32) (fy : Nat → Int32) (fz : Nat → Int32) (fu : Nat → Int32) (co : Int32) (ro : Int32) : Nat → Int32 := n_X4_sheet_qx jC jR nf fx fy fz fu co ro
def n_L_sheet_qy (jC : Int32) (jR : Int32) (nf : Int32) (fx : Nat → Int32) (fy : Nat → Int32) (fz : Nat → Int32) (fu : Nat → Int32) (co : Int32) (ro : Int32) : Nat → Int32 := n_X4_sheet_qy jC jR nf fx fy fz fu co ro
def n_L_sheet_qz (jC : Int32) (jR : Int32) (nf : Int32) (fx : Nat → Int32) (fy : Nat → Int32) (fz : Nat → Int32) (fu : Nat → Int32) (co : Int32) (ro : Int32) : Nat → Int32 := n_X4_sheet_qz jC jR nf fx fy fz fu co ro
def n_L_sheet_qu (jC : Int32) (jR : Int32) (nf : Int32) (fx : Nat → Int32) (fy : Nat → Int32) (fz : Nat → Int32) (fu : Nat → Int32) (co : Int32) (ro : Int32) : Nat → Int32 := n_X4_sheet_qu jC jR nf fx fy fz fu co ro
abbrev rm_L_sheet : Room := { frames := 7, cells := 1, slots := 6, locals := 112 }
abbrev Qc_L_sheet (D : va_G) (cI cZ cJ cD : ClassId) (qo : Nat) (qm : Nat) (qb : Nat) (qr : Nat) (qf : Nat) (qx : Nat) (qy : Nat) (qz : Nat) (qu : Nat) (jC : Int32) (jR : Int32) (nf : Int32) (fx : Nat → Int32) (fy : Nat → Int32) (fz : Nat → Int32) (fu : Nat → Int32) (co : Int32) (ro : Int32) (A : Nat → Prop) : Array Value → State → Outcome → State → Prop := va_Qi (fun (r : Int32) (_ : Unit) => r = s_L_sheet jC jR nf fx fy fz fu co ro) (zPost D cI cZ cJ cD A [(qo, .inr (4, [.ref qm, .ref qb, .ref qr, .ref qf])), (qf, .inr (1, [.ref qx, .ref qy, .ref qz, .ref qu, .int (n_L_sheet_qf_4 jC jR nf fx fy fz fu co ro), .int (n_L_sheet_qf_5 jC jR nf fx fy fz fu co ro), .int (n_L_sheet_qf_6 jC jR nf fx fy fz fu co ro)])), (qx, .inl (cI, 36, .inl (n_L_sheet_qx jC jR nf fx fy fz fu co ro))), (qy, .inl (cI, 36, .inl (n_L_sheet_qy jC jR nf fx fy fz fu co ro))), (qz, .inl (cI, 36, .inl (n_L_sheet_qz jC jR nf fx fy fz fu co ro))), (qu, .inl (cZ, 36, .inl (n_L_sheet_qu jC jR nf fx fy fz fu co ro)))]) A
abbrev Xc_L_sheet (D : va_G) (cI cZ cJ cD : ClassId) (qo : Nat) (qm : Nat) (qb : Nat) (qr : Nat) (qf : Nat) (qx : Nat) (qy : Nat) (qz : Nat) (qu : Nat) (jC : Int32) (jR : Int32) (nf : Int32) (fx : Nat → Int32) (fy : Nat → Int32) (fz : Nat → Int32) (fu : Nat → Int32) (co : Int32) (ro : Int32) (A : Nat → Prop) : String → State → State → Prop := vx_X (fun _ : Unit => True) (fun _ _ _ => False) A
set_option maxHeartbeats 4000000 in
set_option maxRecDepth 100000 in
theorem c_L_sheet (l : Launch) (hnt : l.stackTraces = false) (D : va_G) (cI cZ cJ cD : ClassId) (qo : Nat) (qm : Nat) (qb : Nat) (qr : Nat) (qf : Nat) (qx : Nat) (qy : Nat) (qz : Nat) (qu : Nat) (jC : Int32) (jR : Int32) (nf : Int32) (fx : Nat → Int32) (fy : Nat → Int32) (fz : Nat → Int32) (fu : Nat → Int32) (co : Int32) (ro : Int32) (sz : Nat)  : vx_Met l yL_sheet wsL_sheet rm_L_sheet (va_Pc [.ref qo, .int co, .int ro] (zPreWE D cI cZ cJ cD [(qo, .inr (4, [.ref qm, .ref qb, .ref qr, .ref qf])), (qf, .inr (1, [.ref qx, .ref qy, .ref qz, .ref qu, .int jC, .int jR, .int nf])), (qx, .inl (cI, 36, .inl fx)), (qy, .inl (cI, 36, .inl fy)), (qz, .inl (cI, 36, .inl fz)), (qu, .inl (cZ, 36, .inl fu))] sz)) (Qc_L_sheet D cI cZ cJ cD qo qm qb qr qf qx qy qz qu jC jR nf fx fy fz fu co ro (va_A [(qo, .inr (4, [.ref qm, .ref qb, .ref qr, .ref qf])), (qf, .inr (1, [.ref qx, .ref qy, .ref qz, .ref qu, .int jC, .int jR, .int nf])), (qx, .inl (cI, 36, .inl fx)), (qy, .inl (cI, 36, .inl fy)), (qz, .inl (cI, 36, .inl fz)), (qu, .inl (cZ, 36, .inl fu))] sz)) (Xc_L_sheet D cI cZ cJ cD qo qm qb qr qf qx qy qz qu jC jR nf fx fy fz fu co ro (va_A [(qo, .inr (4, [.ref qm, .ref qb, .ref qr, .ref qf])), (qf, .inr (1, [.ref qx, .ref qy, .ref qz, .ref qu, .int jC, .int jR, .int nf])), (qx, .inl (cI, 36, .inl fx)), (qy, .inl (cI, 36, .inl fy)), (qz, .inl (cI, 36, .inl fz)), (qu, .inl (cZ, 36, .inl fu))] sz)) 1 6 (va_A [(qo, .inr (4, [.ref qm, .ref qb, .ref qr, .ref qf])), (qf, .inr (1, [.ref qx, .ref qy, .ref qz, .ref qu, .int jC, .int jR, .int nf])), (qx, .inl (cI, 36, .inl fx)), (qy, .inl (cI, 36, .inl fy)), (qz, .inl (cI, 36, .inl fz)), (qu, .inl (cZ, 36, .inl fu))] sz) := by
  refine vx_ofWH (cc := cL_sheet) (maxL := 4) (ret := (some .int)) (hh := [(0, 7, 8, 31)]) (by decide) rfl ?_
  intro p e s m args below meth c s₁ B hml hv
  obtain ⟨rfl, hsz, hP, hK, hD0, hE⟩ := hv
  have hx := B.exec
  have hb := B.bytes
  have hr := B.returns
  have hts := atoms_spec (ws := wsL_sheet) B.pre
  have hown : s.vm.findClass RL = some m.cls := findClass_of_methodNamed B.named
  have hlocks := B.notSynchronized
  have htab := vx_table (x := yL_sheet) B (hts _ List.mem_cons_self)
  subst hsz
  have hD := hD0.self (sz := s.heap.size)
  generalize hAe : va_A [(qo, .inr (4, [.ref qm, .ref qb, .ref qr, .ref qf])), (qf, .inr (1, [.ref qx, .ref qy, .ref qz, .ref qu, .int jC, .int jR, .int nf])), (qx, .inl (cI, 36, .inl fx)), (qy, .inl (cI, 36, .inl fy)), (qz, .inl (cI, 36, .inl fz)), (qu, .inl (cZ, 36, .inl fu))] s.heap.size = A at hE hD ⊢
  have hA : ∀ q : Nat, s.heap.size ≤ q → A q := fun q h => by rw [← hAe]; exact Or.inr h
  have hS : va_S A s.heap s.heap [] := va_S.rf
  have hl := lv_entry ([.ref qo, .int co, .int ro]) (n := 4) (Nat.le_of_ble_eq_true rfl)
  rw [lg_entry_eq]
  generalize (lg_sl ([.ref qo, .int co, .int ro]) ++ List.replicate (4 - (lg_sl ([.ref qo, .int co, .int ro])).length) Slot.unset).toArray = ls at hl ⊢
  have hl : lv_has ls 4 [(0, .ref qo), (1, .int co), (2, .int ro)] := hl
  have hP : va_P D vwCl [(qo, .inr (4, [.ref qm, .ref qb, .ref qr, .ref qf])), (qf, .inr (1, [.ref qx, .ref qy, .ref qz, .ref qu, .int jC, .int jR, .int nf])), (qx, .inl (cI, 36, .inl fx)), (qy, .inl (cI, 36, .inl fy)), (qz, .inl (cI, 36, .inl fz)), (qu, .inl (cZ, 36, .inl fu))] s.heap := hP
  have hP := hP
  refine lv_aload_n hx hb dL_sheet_0 rfl (lv_at hl 0 rfl) ?_
  refine lv_iload_n hx hb dL_sheet_1 rfl (lv_at hl 1 rfl) ?_
  refine lv_iload_n hx hb dL_sheet_2 rfl (lv_at hl 2 rfl) ?_
  have hPc := hP.sub (ws' := [(qo, .inr (4, [.ref qm, .ref qb, .ref qr, .ref qf])), (qf, .inr (1, [.ref qx, .ref qy, .ref qz, .ref qu, .int jC, .int jR, .int nf])), (qx, .inl (cI, 36, .inl fx)), (qy, .inl (cI, 36, .inl fy)), (qz, .inl (cI, 36, .inl fz)), (qu, .inl (cZ, 36, .inl fu))]) [0, 1, 2, 3, 4, 5] rfl
  have hDc := hD.sub (ws' := [(qo, .inr (4, [.ref qm, .ref qb, .ref qr, .ref qf])), (qf, .inr (1, [.ref qx, .ref qy, .ref qz, .ref qu, .int jC, .int jR, .int nf])), (qx, .inl (cI, 36, .inl fx)), (qy, .inl (cI, 36, .inl fy)), (qz, .inl (cI, 36, .inl fz)), (qu, .inl (cZ, 36, .inl fu))]) [0, 1, 2, 3, 4, 5] (by decide) rfl
  have hFc := va_free (wc := [(qo, .inr (4, [.ref qm, .ref qb, .ref qr, .ref qf])), (qf, .inr (1, [.ref qx, .ref qy, .ref qz, .ref qu, .int jC, .int jR, .int nf])), (qx, .inl (cI, 36, .inl fx)), (qy, .inl (cI, 36, .inl fy)), (qz, .inl (cI, 36, .inl fz)), (qu, .inl (cZ, 36, .inl fu))]) hD hS hA [0, 1, 2, 3, 4, 5] rfl
  refine vx_callv (vx_runV (As := [.int co, .int ro]) (rest := []) ⟨hx, hb, hml, hown, hts⟩ (c_X4_sheet l hnt D cI cZ cJ cD qo qm qb qr qf qx qy qz qu jC jR nf fx fy fz fu co ro s.heap.size ) (cwV 2 hts gL_sheet_X4_sheet rfl rfl rfl (by decide +kernel) ⟨Nat.le_of_ble_eq_true rfl, Nat.le_of_ble_eq_true rfl⟩) ⟨zblindWE, va_recv hK hP (ci := 4) (q0 := 0) rfl rfl, (fun U hU hW => ⟨rfl, by rw [hU], by rw [hU]; exact hPc, va_K.moved hW.alike hK, hDc.weaken (fun _ _ _ _ => trivial), zEnv.go hE hS hFc hU hW⟩)⟩ rfl rfl hl.1 rfl (lv_room (Nat.le_of_ble_eq_true rfl)) dL_sheet_3 ⟨(show _ ≤ 1 from by omega), (show _ ≤ 6 from by omega)⟩) hS (fun q _ h => hFc q h) hFc (fun q _ h => hFc q h) (fun E ce q9 u t H locs ht hvm hpx hB hz1 hk1 hS hq9 hce hcl => ?_) (fun u t H locs ht hvm hw hB hz1 hk1 hS => ?_)
  · obtain ⟨hX, hB⟩ := hB
    obtain ⟨hP1, hK1, hD1⟩ := hB
    rw [ht] at hP1
    obtain ⟨hP, hD⟩ := va_join (wr := []) (w1 := [(qo, .inr (4, [.ref qm, .ref qb, .ref qr, .ref qf])), (qf, .inr (1, [.ref qx, .ref qy, .ref qz, .ref qu, .int (n_X4_sheet_qf_4 jC jR nf fx fy fz fu co ro), .int (n_X4_sheet_qf_5 jC jR nf fx fy fz fu co ro), .int (n_X4_sheet_qf_6 jC jR nf fx fy fz fu co ro)])), (qx, .inl (cI, 36, .inl (n_X4_sheet_qx jC jR nf fx fy fz fu co ro))), (qy, .inl (cI, 36, .inl (n_X4_sheet_qy jC jR nf fx fy fz fu co ro))), (qz, .inl (cI, 36, .inl (n_X4_sheet_qz jC jR nf fx fy fz fu co ro))), (qu, .inl (cZ, 36, .inl (n_X4_sheet_qu jC jR nf fx fy fz fu co ro)))]) hP hD [0, 1, 2, 3, 4, 5] [] rfl rfl (by decide) (by decide) hk1 hFc hP1 hD1
    have hP := hP.sub (ws' := [(qo, .inr (4, [.ref qm, .ref qb, .ref qr, .ref qf])), (qf, .inr (1, [.ref qx, .ref qy, .ref qz, .ref qu, .int (n_X4_sheet_qf_4 jC jR nf fx fy fz fu co ro), .int (n_X4_sheet_qf_5 jC jR nf fx fy fz fu co ro), .int (n_X4_sheet_qf_6 jC jR nf fx fy fz fu co ro)])), (qx, .inl (cI, 36, .inl (n_X4_sheet_qx jC jR nf fx fy fz fu co ro))), (qy, .inl (cI, 36, .inl (n_X4_sheet_qy jC jR nf fx fy fz fu co ro))), (qz, .inl (cI, 36, .inl (n_X4_sheet_qz jC jR nf fx fy fz fu co ro))), (qu, .inl (cZ, 36, .inl (n_X4_sheet_qu jC jR nf fx fy fz fu co ro)))]) [0, 1, 2, 3, 4, 5] rfl
    have hD := hD.sub (ws' := [(qo, .inr (4, [.ref qm, .ref qb, .ref qr, .ref qf])), (qf, .inr (1, [.ref qx, .ref qy, .ref qz, .ref qu, .int (n_X4_sheet_qf_4 jC jR nf fx fy fz fu co ro), .int (n_X4_sheet_qf_5 jC jR nf fx fy fz fu co ro), .int (n_X4_sheet_qf_6 jC jR nf fx fy fz fu co ro)])), (qx, .inl (cI, 36, .inl (n_X4_sheet_qx jC jR nf fx fy fz fu co ro))), (qy, .inl (cI, 36, .inl (n_X4_sheet_qy jC jR nf fx fy fz fu co ro))), (qz, .inl (cI, 36, .inl (n_X4_sheet_qz jC jR nf fx fy fz fu co ro))), (qu, .inl (cZ, 36, .inl (n_X4_sheet_qu jC jR nf fx fy fz fu co ro)))]) [0, 1, 2, 3, 4, 5] (by decide) rfl
    have c6 : ¬ k_X4_sheet jC jR nf fx fy fz fu co ro = 0 := zX_ne hX
    rcases hX with ⟨rfl, hk9⟩ | ⟨rfl, hk9⟩ | ⟨rfl, hk9⟩
    · exact absurd hk9 (by have := kr_X4_sheet jC jR nf fx fy fz fu co ro; omega)
    · refine vx_catch (own := RL) (name := "java/lang/IllegalArgumentException") (E := "java/lang/IllegalArgumentException") hown [] ⟨0, 7, 8, 31⟩ [] (htab.trans rfl) (fun z hz => absurd hz List.not_mem_nil) rfl (by decide) (hts (.classLink RL 31 "java/lang/IllegalArgumentException") (List.mem_cons_of_mem _ (List.mem_append_left _ (List.mem_append_left _ (List.mem_append_left _ (List.mem_append_left _ (List.mem_of_getElem? (i := 0) rfl))))))) ((hE.2.2.2.1 ("java/lang/IllegalArgumentException", "java/lang/IllegalArgumentException") (by decide)).use rfl) hq9 hce hcl ?_
      refine lv_astore_n (lv' := [(3, .ref q9), (0, .ref qo), (1, .int co), (2, .int ro)]) hx hb dL_sheet_8 rfl hl (by decide) rfl (fun ls hl => ?_)
      refine lv_iconst (v := (-1)) hx hb dL_sheet_9 (by decide) ?_
      have e8 : s_L_sheet jC jR nf fx fy fz fu co ro = (-1) := by
        unfold s_L_sheet
        exact (if_neg c6)
      have e9 : n_L_sheet_qf_4 jC jR nf fx fy fz fu co ro = n_X4_sheet_qf_4 jC jR nf fx fy fz fu co ro := rfl
      have e10 : n_L_sheet_qf_5 jC jR nf fx fy fz fu co ro = n_X4_sheet_qf_5 jC jR nf fx fy fz fu co ro := rfl
      have e11 : n_L_sheet_qf_6 jC jR nf fx fy fz fu co ro = n_X4_sheet_qf_6 jC jR nf fx fy fz fu co ro := rfl
      have e12 : n_L_sheet_qx jC jR nf fx fy fz fu co ro = n_X4_sheet_qx jC jR nf fx fy fz fu co ro := rfl
      have e13 : n_L_sheet_qy jC jR nf fx fy fz fu co ro = n_X4_sheet_qy jC jR nf fx fy fz fu co ro := rfl
      have e14 : n_L_sheet_qz jC jR nf fx fy fz fu co ro = n_X4_sheet_qz jC jR nf fx fy fz fu co ro := rfl
      have e15 : n_L_sheet_qu jC jR nf fx fy fz fu co ro = n_X4_sheet_qu jC jR nf fx fy fz fu co ro := rfl
      refine vx_ret ?_
      exact W.iret (v := (-1)) hx hb hr (fun t ht hW => ⟨⟨_, (), rfl, e8.symm, ⟨(by rw [e9, e10, e11, e12, e13, e14, e15]; rw [ht]; exact hP), va_K.moved hW.alike hK, (by rw [e9, e10, e11, e12, e13, e14, e15]; exact hD)⟩⟩, hS.F ht⟩) hS.2.2 dL_sheet_10
    · exact absurd hk9 (by have := kr_X4_sheet jC jR nf fx fy fz fu co ro; omega)
  · have c16 : k_X4_sheet jC jR nf fx fy fz fu co ro = 0 := hw
    obtain ⟨hP1, hK1, hD1⟩ := hB
    rw [ht] at hP1
    obtain ⟨hP, hD⟩ := va_join (wr := []) (w1 := [(qo, .inr (4, [.ref qm, .ref qb, .ref qr, .ref qf])), (qf, .inr (1, [.ref qx, .ref qy, .ref qz, .ref qu, .int (n_X4_sheet_qf_4 jC jR nf fx fy fz fu co ro), .int (n_X4_sheet_qf_5 jC jR nf fx fy fz fu co ro), .int (n_X4_sheet_qf_6 jC jR nf fx fy fz fu co ro)])), (qx, .inl (cI, 36, .inl (n_X4_sheet_qx jC jR nf fx fy fz fu co ro))), (qy, .inl (cI, 36, .inl (n_X4_sheet_qy jC jR nf fx fy fz fu co ro))), (qz, .inl (cI, 36, .inl (n_X4_sheet_qz jC jR nf fx fy fz fu co ro))), (qu, .inl (cZ, 36, .inl (n_X4_sheet_qu jC jR nf fx fy fz fu co ro)))]) hP hD [0, 1, 2, 3, 4, 5] [] rfl rfl (by decide) (by decide) hk1 hFc hP1 hD1
    have hP := hP.sub (ws' := [(qo, .inr (4, [.ref qm, .ref qb, .ref qr, .ref qf])), (qf, .inr (1, [.ref qx, .ref qy, .ref qz, .ref qu, .int (n_X4_sheet_qf_4 jC jR nf fx fy fz fu co ro), .int (n_X4_sheet_qf_5 jC jR nf fx fy fz fu co ro), .int (n_X4_sheet_qf_6 jC jR nf fx fy fz fu co ro)])), (qx, .inl (cI, 36, .inl (n_X4_sheet_qx jC jR nf fx fy fz fu co ro))), (qy, .inl (cI, 36, .inl (n_X4_sheet_qy jC jR nf fx fy fz fu co ro))), (qz, .inl (cI, 36, .inl (n_X4_sheet_qz jC jR nf fx fy fz fu co ro))), (qu, .inl (cZ, 36, .inl (n_X4_sheet_qu jC jR nf fx fy fz fu co ro)))]) [0, 1, 2, 3, 4, 5] rfl
    have hD := hD.sub (ws' := [(qo, .inr (4, [.ref qm, .ref qb, .ref qr, .ref qf])), (qf, .inr (1, [.ref qx, .ref qy, .ref qz, .ref qu, .int (n_X4_sheet_qf_4 jC jR nf fx fy fz fu co ro), .int (n_X4_sheet_qf_5 jC jR nf fx fy fz fu co ro), .int (n_X4_sheet_qf_6 jC jR nf fx fy fz fu co ro)])), (qx, .inl (cI, 36, .inl (n_X4_sheet_qx jC jR nf fx fy fz fu co ro))), (qy, .inl (cI, 36, .inl (n_X4_sheet_qy jC jR nf fx fy fz fu co ro))), (qz, .inl (cI, 36, .inl (n_X4_sheet_qz jC jR nf fx fy fz fu co ro))), (qu, .inl (cZ, 36, .inl (n_X4_sheet_qu jC jR nf fx fy fz fu co ro)))]) [0, 1, 2, 3, 4, 5] (by decide) rfl
    refine W.widen (k := 1) (n := 6) (by omega) (by omega) ?_
    refine lv_iconst (v := 0) hx hb dL_sheet_6 (by decide) ?_
    have e17 : s_L_sheet jC jR nf fx fy fz fu co ro = 0 := by
      unfold s_L_sheet
      exact (if_pos c16)
    have e18 : n_L_sheet_qf_4 jC jR nf fx fy fz fu co ro = n_X4_sheet_qf_4 jC jR nf fx fy fz fu co ro := rfl
    have e19 : n_L_sheet_qf_5 jC jR nf fx fy fz fu co ro = n_X4_sheet_qf_5 jC jR nf fx fy fz fu co ro := rfl
    have e20 : n_L_sheet_qf_6 jC jR nf fx fy fz fu co ro = n_X4_sheet_qf_6 jC jR nf fx fy fz fu co ro := rfl
    have e21 : n_L_sheet_qx jC jR nf fx fy fz fu co ro = n_X4_sheet_qx jC jR nf fx fy fz fu co ro := rfl
    have e22 : n_L_sheet_qy jC jR nf fx fy fz fu co ro = n_X4_sheet_qy jC jR nf fx fy fz fu co ro := rfl
    have e23 : n_L_sheet_qz jC jR nf fx fy fz fu co ro = n_X4_sheet_qz jC jR nf fx fy fz fu co ro := rfl
    have e24 : n_L_sheet_qu jC jR nf fx fy fz fu co ro = n_X4_sheet_qu jC jR nf fx fy fz fu co ro := rfl
    refine vx_ret ?_
    exact W.iret (v := 0) hx hb hr (fun t ht hW => ⟨⟨_, (), rfl, e17.symm, ⟨(by rw [e18, e19, e20, e21, e22, e23, e24]; rw [ht]; exact hP), va_K.moved hW.alike hK, (by rw [e18, e19, e20, e21, e22, e23, e24]; exact hD)⟩⟩, hS.F ht⟩) hS.2.2 dL_sheet_7
def s_L_folded (nC : Nat) (nR : Nat) (nf : Int32) (fx : Nat → Int32) (fy : Nat → Int32) (fz : Nat → Int32) (fu : Nat → Int32) (cl : Int32) (b : Int32) : Int32 := (if cl = 0 then (if k_X4_foldRows nC nR nf fy fz fu b = 0 then s_X4_foldRows nC nR nf fy fz fu b else (-1)) else (if k_X4_foldColumns nC nR nf fx fz fu b = 0 then s_X4_foldColumns nC nR nf fx fz fu b else (-1)))
def n_L_folded_qf_6 (nC : Nat) (nR : Nat) (nf : Int32) (fx : Nat → Int32) (fy : Nat → Int32) (fz : Nat → Int32) (fu : Nat → Int32) (cl : Int32) (b : Int32) : Int32 := (if cl = 0 then n_X4_foldRows_qf_6 nC nR nf fy fz fu b else n_X4_foldColumns_qf_6 nC nR nf fx fz fu b)
def n_L_folded_qx (nC : Nat) (nR : Nat) (nf : Int32) (fx : Nat → Int32) (fz : Nat → Int32) (fu : Nat → Int32) (cl : Int32) (b : Int32) : Nat → Int32 := (if cl = 0 then fx else n_X4_foldColumns_qx nC nR nf fx fz fu b)
def n_L_folded_qy (nC : Nat) (nR : Nat) (nf : Int32) (fy : Nat → Int32) (fz : Nat → Int32) (fu : Nat → Int32) (cl : Int32) (b : Int32) : Nat → Int32 := (if cl = 0 then n_X4_foldRows_qy nC nR nf fy fz fu b else fy)
def n_L_folded_qz (nC : Nat) (nR : Nat) (nf : Int32) (fx : Nat → Int32) (fy : Nat → Int32) (fz : Nat → Int32) (fu : Nat → Int32) (cl : Int32) (b : Int32) : Nat → Int32 := (if cl = 0 then n_X4_foldRows_qz nC nR nf fy fz fu b else n_X4_foldColumns_qz nC nR nf fx fz fu b)
def n_L_folded_qu (nC : Nat) (nR : Nat) (nf : Int32) (fx : Nat → Int32) (fy : Nat → Int32) (fz : Nat → Int32) (fu : Nat → Int32) (cl : Int32) (b : Int32) : Nat → Int32 := (if cl = 0 then n_X4_foldRows_qu nC nR nf fy fz fu b else n_X4_foldColumns_qu nC nR nf fx fz fu b)
abbrev rm_L_folded : Room := { frames := 8, cells := 2, slots := 12, locals := 131 }
abbrev Qc_L_folded (D : va_G) (cI cZ cJ cD : ClassId) (qo : Nat) (qm : Nat) (qb : Nat) (qr : Nat) (qf : Nat) (qx : Nat) (qy : Nat) (qz : Nat) (qu : Nat) (nC : Nat) (nR : Nat) (nf : Int32) (fx : Nat → Int32) (fy : Nat → Int32) (fz : Nat → Int32) (fu : Nat → Int32) (cl : Int32) (b : Int32) (A : Nat → Prop) : Array Value → State → Outcome → State → Prop := va_Qi (fun (r : Int32) (_ : Unit) => r = s_L_folded nC nR nf fx fy fz fu cl b) (zPost D cI cZ cJ cD A [(qo, .inr (4, [.ref qm, .ref qb, .ref qr, .ref qf])), (qf, .inr (1, [.ref qx, .ref qy, .ref qz, .ref qu, .int (nI nC), .int (nI nR), .int (n_L_folded_qf_6 nC nR nf fx fy fz fu cl b)])), (qx, .inl (cI, 36, .inl (n_L_folded_qx nC nR nf fx fz fu cl b))), (qy, .inl (cI, 36, .inl (n_L_folded_qy nC nR nf fy fz fu cl b))), (qz, .inl (cI, 36, .inl (n_L_folded_qz nC nR nf fx fy fz fu cl b))), (qu, .inl (cZ, 36, .inl (n_L_folded_qu nC nR nf fx fy fz fu cl b)))]) A
abbrev Xc_L_folded (D : va_G) (cI cZ cJ cD : ClassId) (qo : Nat) (qm : Nat) (qb : Nat) (qr : Nat) (qf : Nat) (qx : Nat) (qy : Nat) (qz : Nat) (qu : Nat) (nC : Nat) (nR : Nat) (nf : Int32) (fx : Nat → Int32) (fy : Nat → Int32) (fz : Nat → Int32) (fu : Nat → Int32) (cl : Int32) (b : Int32) (A : Nat → Prop) : String → State → State → Prop := vx_X (fun _ : Unit => True) (fun _ _ _ => False) A
set_option maxHeartbeats 4000000 in
set_option maxRecDepth 100000 in
theorem c_L_folded (l : Launch) (hnt : l.stackTraces = false) (D : va_G) (cI cZ cJ cD : ClassId) (qo : Nat) (qm : Nat) (qb : Nat) (qr : Nat) (qf : Nat) (qx : Nat) (qy : Nat) (qz : Nat) (qu : Nat) (nC : Nat) (nR : Nat) (nf : Int32) (fx : Nat → Int32) (fy : Nat → Int32) (fz : Nat → Int32) (fu : Nat → Int32) (cl : Int32) (b : Int32) (sz : Nat) (hN : nC * nR ≤ 36) : vx_Met l yL_folded wsL_folded rm_L_folded (va_Pc [.ref qo, .int cl, .int b] (zPreWE D cI cZ cJ cD [(qo, .inr (4, [.ref qm, .ref qb, .ref qr, .ref qf])), (qf, .inr (1, [.ref qx, .ref qy, .ref qz, .ref qu, .int (nI nC), .int (nI nR), .int nf])), (qx, .inl (cI, 36, .inl fx)), (qy, .inl (cI, 36, .inl fy)), (qz, .inl (cI, 36, .inl fz)), (qu, .inl (cZ, 36, .inl fu))] sz)) (Qc_L_folded D cI cZ cJ cD qo qm qb qr qf qx qy qz qu nC nR nf fx fy fz fu cl b (va_A [(qo, .inr (4, [.ref qm, .ref qb, .ref qr, .ref qf])), (qf, .inr (1, [.ref qx, .ref qy, .ref qz, .ref qu, .int (nI nC), .int (nI nR), .int nf])), (qx, .inl (cI, 36, .inl fx)), (qy, .inl (cI, 36, .inl fy)), (qz, .inl (cI, 36, .inl fz)), (qu, .inl (cZ, 36, .inl fu))] sz)) (Xc_L_folded D cI cZ cJ cD qo qm qb qr qf qx qy qz qu nC nR nf fx fy fz fu cl b (va_A [(qo, .inr (4, [.ref qm, .ref qb, .ref qr, .ref qf])), (qf, .inr (1, [.ref qx, .ref qy, .ref qz, .ref qu, .int (nI nC), .int (nI nR), .int nf])), (qx, .inl (cI, 36, .inl fx)), (qy, .inl (cI, 36, .inl fy)), (qz, .inl (cI, 36, .inl fz)), (qu, .inl (cZ, 36, .inl fu))] sz)) 2 12 (va_A [(qo, .inr (4, [.ref qm, .ref qb, .ref qr, .ref qf])), (qf, .inr (1, [.ref qx, .ref qy, .ref qz, .ref qu, .int (nI nC), .int (nI nR), .int nf])), (qx, .inl (cI, 36, .inl fx)), (qy, .inl (cI, 36, .inl fy)), (qz, .inl (cI, 36, .inl fz)), (qu, .inl (cZ, 36, .inl fu))] sz) := by
  refine vx_ofWH (cc := cL_folded) (maxL := 4) (ret := (some .int)) (hh := [(0, 17, 18, 33)]) (by decide) rfl ?_
  intro p e s m args below meth c s₁ B hml hv
  obtain ⟨rfl, hsz, hP, hK, hD0, hE⟩ := hv
  have hx := B.exec
  have hb := B.bytes
  have hr := B.returns
  have hts := atoms_spec (ws := wsL_folded) B.pre
  have hown : s.vm.findClass RL = some m.cls := findClass_of_methodNamed B.named
  have hlocks := B.notSynchronized
  have htab := vx_table (x := yL_folded) B (hts _ List.mem_cons_self)
  subst hsz
  have hD := hD0.self (sz := s.heap.size)
  generalize hAe : va_A [(qo, .inr (4, [.ref qm, .ref qb, .ref qr, .ref qf])), (qf, .inr (1, [.ref qx, .ref qy, .ref qz, .ref qu, .int (nI nC), .int (nI nR), .int nf])), (qx, .inl (cI, 36, .inl fx)), (qy, .inl (cI, 36, .inl fy)), (qz, .inl (cI, 36, .inl fz)), (qu, .inl (cZ, 36, .inl fu))] s.heap.size = A at hE hD ⊢
  have hA : ∀ q : Nat, s.heap.size ≤ q → A q := fun q h => by rw [← hAe]; exact Or.inr h
  have hS : va_S A s.heap s.heap [] := va_S.rf
  have hl := lv_entry ([.ref qo, .int cl, .int b]) (n := 4) (Nat.le_of_ble_eq_true rfl)
  rw [lg_entry_eq]
  generalize (lg_sl ([.ref qo, .int cl, .int b]) ++ List.replicate (4 - (lg_sl ([.ref qo, .int cl, .int b])).length) Slot.unset).toArray = ls at hl ⊢
  have hl : lv_has ls 4 [(0, .ref qo), (1, .int cl), (2, .int b)] := hl
  have hP : va_P D vwCl [(qo, .inr (4, [.ref qm, .ref qb, .ref qr, .ref qf])), (qf, .inr (1, [.ref qx, .ref qy, .ref qz, .ref qu, .int (nI nC), .int (nI nR), .int nf])), (qx, .inl (cI, 36, .inl fx)), (qy, .inl (cI, 36, .inl fy)), (qz, .inl (cI, 36, .inl fz)), (qu, .inl (cZ, 36, .inl fu))] s.heap := hP
  have hP := hP
  refine lv_iload_n hx hb dL_folded_0 rfl (lv_at hl 1 rfl) ?_
  refine lv_if_eq (tgt := 12) hx hb dL_folded_1 (by decide) (fun c10 => ?_) (fun c10 => ?_)
  · refine lv_aload_n hx hb dL_folded_12 rfl (lv_at hl 0 rfl) ?_
    refine lv_iload_n hx hb dL_folded_13 rfl (lv_at hl 2 rfl) ?_
    have hPc := hP.sub (ws' := [(qo, .inr (4, [.ref qm, .ref qb, .ref qr, .ref qf])), (qf, .inr (1, [.ref qx, .ref qy, .ref qz, .ref qu, .int (nI nC), .int (nI nR), .int nf])), (qy, .inl (cI, 36, .inl fy)), (qz, .inl (cI, 36, .inl fz)), (qu, .inl (cZ, 36, .inl fu))]) [0, 1, 3, 4, 5] rfl
    have hDc := hD.sub (ws' := [(qo, .inr (4, [.ref qm, .ref qb, .ref qr, .ref qf])), (qf, .inr (1, [.ref qx, .ref qy, .ref qz, .ref qu, .int (nI nC), .int (nI nR), .int nf])), (qy, .inl (cI, 36, .inl fy)), (qz, .inl (cI, 36, .inl fz)), (qu, .inl (cZ, 36, .inl fu))]) [0, 1, 3, 4, 5] (by decide) rfl
    have hFc := va_free (wc := [(qo, .inr (4, [.ref qm, .ref qb, .ref qr, .ref qf])), (qf, .inr (1, [.ref qx, .ref qy, .ref qz, .ref qu, .int (nI nC), .int (nI nR), .int nf])), (qy, .inl (cI, 36, .inl fy)), (qz, .inl (cI, 36, .inl fz)), (qu, .inl (cZ, 36, .inl fu))]) hD hS hA [0, 1, 3, 4, 5] rfl
    refine vx_calli (vx_runV (As := [.int b]) (rest := []) ⟨hx, hb, hml, hown, hts⟩ (c_X4_foldRows l hnt D cI cZ cJ cD qo qm qb qr qf qx qy qz qu nC nR nf fy fz fu b s.heap.size (by assumption)) (cwV 1 hts gL_folded_X4_foldRows rfl rfl rfl (by decide +kernel) ⟨Nat.le_of_ble_eq_true rfl, Nat.le_of_ble_eq_true rfl⟩) ⟨zblindWE, va_recv hK hP (ci := 4) (q0 := 0) rfl rfl, (fun U hU hW => ⟨rfl, by rw [hU], by rw [hU]; exact hPc, va_K.moved hW.alike hK, hDc.weaken (fun _ _ _ _ => trivial), zEnv.go hE hS hFc hU hW⟩)⟩ rfl rfl hl.1 rfl (lv_room (Nat.le_of_ble_eq_true rfl)) dL_folded_14 ⟨(show _ ≤ 2 from by omega), (show _ ≤ 12 from by omega)⟩) hS (fun q _ h => hFc q h) hFc (fun q _ h => hFc q h) (fun E ce q9 u t H locs ht hvm hpx hB hz1 hk1 hS hq9 hce hcl => ?_) (fun r11 u t H locs ht hvm hw hB hz1 hk1 hS => ?_)
    · obtain ⟨hX, hB⟩ := hB
      obtain ⟨hP1, hK1, hD1⟩ := hB
      rw [ht] at hP1
      obtain ⟨hP, hD⟩ := va_join (wr := [(qx, .inl (cI, 36, .inl fx))]) (w1 := [(qo, .inr (4, [.ref qm, .ref qb, .ref qr, .ref qf])), (qf, .inr (1, [.ref qx, .ref qy, .ref qz, .ref qu, .int (nI nC), .int (nI nR), .int (n_X4_foldRows_qf_6 nC nR nf fy fz fu b)])), (qy, .inl (cI, 36, .inl (n_X4_foldRows_qy nC nR nf fy fz fu b))), (qz, .inl (cI, 36, .inl (n_X4_foldRows_qz nC nR nf fy fz fu b))), (qu, .inl (cZ, 36, .inl (n_X4_foldRows_qu nC nR nf fy fz fu b)))]) hP hD [0, 1, 3, 4, 5] [2] rfl rfl (by decide) (by decide) hk1 hFc hP1 hD1
      have hP := hP.sub (ws' := [(qo, .inr (4, [.ref qm, .ref qb, .ref qr, .ref qf])), (qf, .inr (1, [.ref qx, .ref qy, .ref qz, .ref qu, .int (nI nC), .int (nI nR), .int (n_X4_foldRows_qf_6 nC nR nf fy fz fu b)])), (qx, .inl (cI, 36, .inl fx)), (qy, .inl (cI, 36, .inl (n_X4_foldRows_qy nC nR nf fy fz fu b))), (qz, .inl (cI, 36, .inl (n_X4_foldRows_qz nC nR nf fy fz fu b))), (qu, .inl (cZ, 36, .inl (n_X4_foldRows_qu nC nR nf fy fz fu b)))]) [1, 2, 0, 3, 4, 5] rfl
      have hD := hD.sub (ws' := [(qo, .inr (4, [.ref qm, .ref qb, .ref qr, .ref qf])), (qf, .inr (1, [.ref qx, .ref qy, .ref qz, .ref qu, .int (nI nC), .int (nI nR), .int (n_X4_foldRows_qf_6 nC nR nf fy fz fu b)])), (qx, .inl (cI, 36, .inl fx)), (qy, .inl (cI, 36, .inl (n_X4_foldRows_qy nC nR nf fy fz fu b))), (qz, .inl (cI, 36, .inl (n_X4_foldRows_qz nC nR nf fy fz fu b))), (qu, .inl (cZ, 36, .inl (n_X4_foldRows_qu nC nR nf fy fz fu b)))]) [1, 2, 0, 3, 4, 5] (by decide) rfl
      have c12 : ¬ k_X4_foldRows nC nR nf fy fz fu b = 0 := zX_ne hX
      rcases hX with ⟨rfl, hk9⟩ | ⟨rfl, hk9⟩ | ⟨rfl, hk9⟩
      · exact absurd hk9 (by have := kr_X4_foldRows nC nR nf fy fz fu b; omega)
      · exact absurd hk9 (by have := kr_X4_foldRows nC nR nf fy fz fu b; omega)
      · refine vx_catch (own := RL) (name := "java/lang/IllegalStateException") (E := "java/lang/IllegalStateException") hown [] ⟨0, 17, 18, 33⟩ [] (htab.trans rfl) (fun z hz => absurd hz List.not_mem_nil) rfl (by decide) (hts (.classLink RL 33 "java/lang/IllegalStateException") (List.mem_cons_of_mem _ (List.mem_append_left _ (List.mem_append_left _ (List.mem_append_left _ (List.mem_append_left _ (List.mem_of_getElem? (i := 0) rfl))))))) ((hE.2.2.2.1 ("java/lang/IllegalStateException", "java/lang/IllegalStateException") (by decide)).use rfl) hq9 hce hcl ?_
        refine lv_astore_n (lv' := [(3, .ref q9), (0, .ref qo), (1, .int cl), (2, .int b)]) hx hb dL_folded_18 rfl hl (by decide) rfl (fun ls hl => ?_)
        refine lv_iconst (v := (-1)) hx hb dL_folded_19 (by decide) ?_
        refine W.widen (k := 2) (n := 12) (by decide) (by decide) ?_
        have e14 : s_L_folded nC nR nf fx fy fz fu cl b = (-1) := by
          unfold s_L_folded
          exact ((if_pos c10).trans (if_neg c12))
        have e15 : n_L_folded_qf_6 nC nR nf fx fy fz fu cl b = n_X4_foldRows_qf_6 nC nR nf fy fz fu b := by
          unfold n_L_folded_qf_6
          exact (if_pos c10)
        have e16 : n_L_folded_qx nC nR nf fx fz fu cl b = fx := by
          unfold n_L_folded_qx
          exact (if_pos c10)
        have e17 : n_L_folded_qy nC nR nf fy fz fu cl b = n_X4_foldRows_qy nC nR nf fy fz fu b := by
          unfold n_L_folded_qy
          exact (if_pos c10)
        have e18 : n_L_folded_qz nC nR nf fx fy fz fu cl b = n_X4_foldRows_qz nC nR nf fy fz fu b := by
          unfold n_L_folded_qz
          exact (if_pos c10)
        have e19 : n_L_folded_qu nC nR nf fx fy fz fu cl b = n_X4_foldRows_qu nC nR nf fy fz fu b := by
          unfold n_L_folded_qu
          exact (if_pos c10)
        refine vx_ret ?_
        exact W.iret (v := (-1)) hx hb hr (fun t ht hW => ⟨⟨_, (), rfl, e14.symm, ⟨(by rw [e15, e16, e17, e18, e19]; rw [ht]; exact hP), va_K.moved hW.alike hK, (by rw [e15, e16, e17, e18, e19]; exact hD)⟩⟩, hS.F ht⟩) hS.2.2 dL_folded_20
    · obtain ⟨c20, hw⟩ := hw
      rw [hw]
      obtain ⟨hP1, hK1, hD1⟩ := hB
      rw [ht] at hP1
      obtain ⟨hP, hD⟩ := va_join (wr := [(qx, .inl (cI, 36, .inl fx))]) (w1 := [(qo, .inr (4, [.ref qm, .ref qb, .ref qr, .ref qf])), (qf, .inr (1, [.ref qx, .ref qy, .ref qz, .ref qu, .int (nI nC), .int (nI nR), .int (n_X4_foldRows_qf_6 nC nR nf fy fz fu b)])), (qy, .inl (cI, 36, .inl (n_X4_foldRows_qy nC nR nf fy fz fu b))), (qz, .inl (cI, 36, .inl (n_X4_foldRows_qz nC nR nf fy fz fu b))), (qu, .inl (cZ, 36, .inl (n_X4_foldRows_qu nC nR nf fy fz fu b)))]) hP hD [0, 1, 3, 4, 5] [2] rfl rfl (by decide) (by decide) hk1 hFc hP1 hD1
      have hP := hP.sub (ws' := [(qo, .inr (4, [.ref qm, .ref qb, .ref qr, .ref qf])), (qf, .inr (1, [.ref qx, .ref qy, .ref qz, .ref qu, .int (nI nC), .int (nI nR), .int (n_X4_foldRows_qf_6 nC nR nf fy fz fu b)])), (qx, .inl (cI, 36, .inl fx)), (qy, .inl (cI, 36, .inl (n_X4_foldRows_qy nC nR nf fy fz fu b))), (qz, .inl (cI, 36, .inl (n_X4_foldRows_qz nC nR nf fy fz fu b))), (qu, .inl (cZ, 36, .inl (n_X4_foldRows_qu nC nR nf fy fz fu b)))]) [1, 2, 0, 3, 4, 5] rfl
      have hD := hD.sub (ws' := [(qo, .inr (4, [.ref qm, .ref qb, .ref qr, .ref qf])), (qf, .inr (1, [.ref qx, .ref qy, .ref qz, .ref qu, .int (nI nC), .int (nI nR), .int (n_X4_foldRows_qf_6 nC nR nf fy fz fu b)])), (qx, .inl (cI, 36, .inl fx)), (qy, .inl (cI, 36, .inl (n_X4_foldRows_qy nC nR nf fy fz fu b))), (qz, .inl (cI, 36, .inl (n_X4_foldRows_qz nC nR nf fy fz fu b))), (qu, .inl (cZ, 36, .inl (n_X4_foldRows_qu nC nR nf fy fz fu b)))]) [1, 2, 0, 3, 4, 5] (by decide) rfl
      refine W.widen (k := 1) (n := 6) (by omega) (by omega) ?_
      refine W.widen (k := 2) (n := 12) (by decide) (by decide) ?_
      have e21 : s_L_folded nC nR nf fx fy fz fu cl b = s_X4_foldRows nC nR nf fy fz fu b := by
        unfold s_L_folded
        exact ((if_pos c10).trans (if_pos c20))
      have e22 : n_L_folded_qf_6 nC nR nf fx fy fz fu cl b = n_X4_foldRows_qf_6 nC nR nf fy fz fu b := by
        unfold n_L_folded_qf_6
        exact (if_pos c10)
      have e23 : n_L_folded_qx nC nR nf fx fz fu cl b = fx := by
        unfold n_L_folded_qx
        exact (if_pos c10)
      have e24 : n_L_folded_qy nC nR nf fy fz fu cl b = n_X4_foldRows_qy nC nR nf fy fz fu b := by
        unfold n_L_folded_qy
        exact (if_pos c10)
      have e25 : n_L_folded_qz nC nR nf fx fy fz fu cl b = n_X4_foldRows_qz nC nR nf fy fz fu b := by
        unfold n_L_folded_qz
        exact (if_pos c10)
      have e26 : n_L_folded_qu nC nR nf fx fy fz fu cl b = n_X4_foldRows_qu nC nR nf fy fz fu b := by
        unfold n_L_folded_qu
        exact (if_pos c10)
      refine vx_ret ?_
      exact W.iret (v := (s_X4_foldRows nC nR nf fy fz fu b)) hx hb hr (fun t ht hW => ⟨⟨_, (), rfl, e21.symm, ⟨(by rw [e22, e23, e24, e25, e26]; rw [ht]; exact hP), va_K.moved hW.alike hK, (by rw [e22, e23, e24, e25, e26]; exact hD)⟩⟩, hS.F ht⟩) hS.2.2 dL_folded_17
  · refine lv_aload_n hx hb dL_folded_4 rfl (lv_at hl 0 rfl) ?_
    refine lv_iload_n hx hb dL_folded_5 rfl (lv_at hl 2 rfl) ?_
    have hPc := hP.sub (ws' := [(qo, .inr (4, [.ref qm, .ref qb, .ref qr, .ref qf])), (qf, .inr (1, [.ref qx, .ref qy, .ref qz, .ref qu, .int (nI nC), .int (nI nR), .int nf])), (qx, .inl (cI, 36, .inl fx)), (qz, .inl (cI, 36, .inl fz)), (qu, .inl (cZ, 36, .inl fu))]) [0, 1, 2, 4, 5] rfl
    have hDc := hD.sub (ws' := [(qo, .inr (4, [.ref qm, .ref qb, .ref qr, .ref qf])), (qf, .inr (1, [.ref qx, .ref qy, .ref qz, .ref qu, .int (nI nC), .int (nI nR), .int nf])), (qx, .inl (cI, 36, .inl fx)), (qz, .inl (cI, 36, .inl fz)), (qu, .inl (cZ, 36, .inl fu))]) [0, 1, 2, 4, 5] (by decide) rfl
    have hFc := va_free (wc := [(qo, .inr (4, [.ref qm, .ref qb, .ref qr, .ref qf])), (qf, .inr (1, [.ref qx, .ref qy, .ref qz, .ref qu, .int (nI nC), .int (nI nR), .int nf])), (qx, .inl (cI, 36, .inl fx)), (qz, .inl (cI, 36, .inl fz)), (qu, .inl (cZ, 36, .inl fu))]) hD hS hA [0, 1, 2, 4, 5] rfl
    refine vx_calli (vx_runV (As := [.int b]) (rest := []) ⟨hx, hb, hml, hown, hts⟩ (c_X4_foldColumns l hnt D cI cZ cJ cD qo qm qb qr qf qx qy qz qu nC nR nf fx fz fu b s.heap.size (by assumption)) (cwV 1 hts gL_folded_X4_foldColumns rfl rfl rfl (by decide +kernel) ⟨Nat.le_of_ble_eq_true rfl, Nat.le_of_ble_eq_true rfl⟩) ⟨zblindWE, va_recv hK hP (ci := 4) (q0 := 0) rfl rfl, (fun U hU hW => ⟨rfl, by rw [hU], by rw [hU]; exact hPc, va_K.moved hW.alike hK, hDc.weaken (fun _ _ _ _ => trivial), zEnv.go hE hS hFc hU hW⟩)⟩ rfl rfl hl.1 rfl (lv_room (Nat.le_of_ble_eq_true rfl)) dL_folded_6 ⟨(show _ ≤ 2 from by omega), (show _ ≤ 12 from by omega)⟩) hS (fun q _ h => hFc q h) hFc (fun q _ h => hFc q h) (fun E ce q9 u t H locs ht hvm hpx hB hz1 hk1 hS hq9 hce hcl => ?_) (fun r27 u t H locs ht hvm hw hB hz1 hk1 hS => ?_)
    · obtain ⟨hX, hB⟩ := hB
      obtain ⟨hP1, hK1, hD1⟩ := hB
      rw [ht] at hP1
      obtain ⟨hP, hD⟩ := va_join (wr := [(qy, .inl (cI, 36, .inl fy))]) (w1 := [(qo, .inr (4, [.ref qm, .ref qb, .ref qr, .ref qf])), (qf, .inr (1, [.ref qx, .ref qy, .ref qz, .ref qu, .int (nI nC), .int (nI nR), .int (n_X4_foldColumns_qf_6 nC nR nf fx fz fu b)])), (qx, .inl (cI, 36, .inl (n_X4_foldColumns_qx nC nR nf fx fz fu b))), (qz, .inl (cI, 36, .inl (n_X4_foldColumns_qz nC nR nf fx fz fu b))), (qu, .inl (cZ, 36, .inl (n_X4_foldColumns_qu nC nR nf fx fz fu b)))]) hP hD [0, 1, 2, 4, 5] [3] rfl rfl (by decide) (by decide) hk1 hFc hP1 hD1
      have hP := hP.sub (ws' := [(qo, .inr (4, [.ref qm, .ref qb, .ref qr, .ref qf])), (qf, .inr (1, [.ref qx, .ref qy, .ref qz, .ref qu, .int (nI nC), .int (nI nR), .int (n_X4_foldColumns_qf_6 nC nR nf fx fz fu b)])), (qx, .inl (cI, 36, .inl (n_X4_foldColumns_qx nC nR nf fx fz fu b))), (qy, .inl (cI, 36, .inl fy)), (qz, .inl (cI, 36, .inl (n_X4_foldColumns_qz nC nR nf fx fz fu b))), (qu, .inl (cZ, 36, .inl (n_X4_foldColumns_qu nC nR nf fx fz fu b)))]) [1, 2, 3, 0, 4, 5] rfl
      have hD := hD.sub (ws' := [(qo, .inr (4, [.ref qm, .ref qb, .ref qr, .ref qf])), (qf, .inr (1, [.ref qx, .ref qy, .ref qz, .ref qu, .int (nI nC), .int (nI nR), .int (n_X4_foldColumns_qf_6 nC nR nf fx fz fu b)])), (qx, .inl (cI, 36, .inl (n_X4_foldColumns_qx nC nR nf fx fz fu b))), (qy, .inl (cI, 36, .inl fy)), (qz, .inl (cI, 36, .inl (n_X4_foldColumns_qz nC nR nf fx fz fu b))), (qu, .inl (cZ, 36, .inl (n_X4_foldColumns_qu nC nR nf fx fz fu b)))]) [1, 2, 3, 0, 4, 5] (by decide) rfl
      have c28 : ¬ k_X4_foldColumns nC nR nf fx fz fu b = 0 := zX_ne hX
      rcases hX with ⟨rfl, hk9⟩ | ⟨rfl, hk9⟩ | ⟨rfl, hk9⟩
      · exact absurd hk9 (by have := kr_X4_foldColumns nC nR nf fx fz fu b; omega)
      · exact absurd hk9 (by have := kr_X4_foldColumns nC nR nf fx fz fu b; omega)
      · refine vx_catch (own := RL) (name := "java/lang/IllegalStateException") (E := "java/lang/IllegalStateException") hown [] ⟨0, 17, 18, 33⟩ [] (htab.trans rfl) (fun z hz => absurd hz List.not_mem_nil) rfl (by decide) (hts (.classLink RL 33 "java/lang/IllegalStateException") (List.mem_cons_of_mem _ (List.mem_append_left _ (List.mem_append_left _ (List.mem_append_left _ (List.mem_append_left _ (List.mem_of_getElem? (i := 0) rfl))))))) ((hE.2.2.2.1 ("java/lang/IllegalStateException", "java/lang/IllegalStateException") (by decide)).use rfl) hq9 hce hcl ?_
        refine lv_astore_n (lv' := [(3, .ref q9), (0, .ref qo), (1, .int cl), (2, .int b)]) hx hb dL_folded_18 rfl hl (by decide) rfl (fun ls hl => ?_)
        refine lv_iconst (v := (-1)) hx hb dL_folded_19 (by decide) ?_
        refine W.widen (k := 2) (n := 12) (by decide) (by decide) ?_
        have e30 : s_L_folded nC nR nf fx fy fz fu cl b = (-1) := by
          unfold s_L_folded
          exact ((if_neg c10).trans (if_neg c28))
        have e31 : n_L_folded_qf_6 nC nR nf fx fy fz fu cl b = n_X4_foldColumns_qf_6 nC nR nf fx fz fu b := by
          unfold n_L_folded_qf_6
          exact (if_neg c10)
        have e32 : n_L_folded_qx nC nR nf fx fz fu cl b = n_X4_foldColumns_qx nC nR nf fx fz fu b := by
          unfold n_L_folded_qx
          exact (if_neg c10)
        have e33 : n_L_folded_qy nC nR nf fy fz fu cl b = fy := by
          unfold n_L_folded_qy
          exact (if_neg c10)
        have e34 : n_L_folded_qz nC nR nf fx fy fz fu cl b = n_X4_foldColumns_qz nC nR nf fx fz fu b := by
          unfold n_L_folded_qz
          exact (if_neg c10)
        have e35 : n_L_folded_qu nC nR nf fx fy fz fu cl b = n_X4_foldColumns_qu nC nR nf fx fz fu b := by
          unfold n_L_folded_qu
          exact (if_neg c10)
        refine vx_ret ?_
        exact W.iret (v := (-1)) hx hb hr (fun t ht hW => ⟨⟨_, (), rfl, e30.symm, ⟨(by rw [e31, e32, e33, e34, e35]; rw [ht]; exact hP), va_K.moved hW.alike hK, (by rw [e31, e32, e33, e34, e35]; exact hD)⟩⟩, hS.F ht⟩) hS.2.2 dL_folded_20
    · obtain ⟨c36, hw⟩ := hw
      rw [hw]
      obtain ⟨hP1, hK1, hD1⟩ := hB
      rw [ht] at hP1
      obtain ⟨hP, hD⟩ := va_join (wr := [(qy, .inl (cI, 36, .inl fy))]) (w1 := [(qo, .inr (4, [.ref qm, .ref qb, .ref qr, .ref qf])), (qf, .inr (1, [.ref qx, .ref qy, .ref qz, .ref qu, .int (nI nC), .int (nI nR), .int (n_X4_foldColumns_qf_6 nC nR nf fx fz fu b)])), (qx, .inl (cI, 36, .inl (n_X4_foldColumns_qx nC nR nf fx fz fu b))), (qz, .inl (cI, 36, .inl (n_X4_foldColumns_qz nC nR nf fx fz fu b))), (qu, .inl (cZ, 36, .inl (n_X4_foldColumns_qu nC nR nf fx fz fu b)))]) hP hD [0, 1, 2, 4, 5] [3] rfl rfl (by decide) (by decide) hk1 hFc hP1 hD1
      have hP := hP.sub (ws' := [(qo, .inr (4, [.ref qm, .ref qb, .ref qr, .ref qf])), (qf, .inr (1, [.ref qx, .ref qy, .ref qz, .ref qu, .int (nI nC), .int (nI nR), .int (n_X4_foldColumns_qf_6 nC nR nf fx fz fu b)])), (qx, .inl (cI, 36, .inl (n_X4_foldColumns_qx nC nR nf fx fz fu b))), (qy, .inl (cI, 36, .inl fy)), (qz, .inl (cI, 36, .inl (n_X4_foldColumns_qz nC nR nf fx fz fu b))), (qu, .inl (cZ, 36, .inl (n_X4_foldColumns_qu nC nR nf fx fz fu b)))]) [1, 2, 3, 0, 4, 5] rfl
      have hD := hD.sub (ws' := [(qo, .inr (4, [.ref qm, .ref qb, .ref qr, .ref qf])), (qf, .inr (1, [.ref qx, .ref qy, .ref qz, .ref qu, .int (nI nC), .int (nI nR), .int (n_X4_foldColumns_qf_6 nC nR nf fx fz fu b)])), (qx, .inl (cI, 36, .inl (n_X4_foldColumns_qx nC nR nf fx fz fu b))), (qy, .inl (cI, 36, .inl fy)), (qz, .inl (cI, 36, .inl (n_X4_foldColumns_qz nC nR nf fx fz fu b))), (qu, .inl (cZ, 36, .inl (n_X4_foldColumns_qu nC nR nf fx fz fu b)))]) [1, 2, 3, 0, 4, 5] (by decide) rfl
      refine W.widen (k := 1) (n := 6) (by omega) (by omega) ?_
      refine lv_goto (tgt := 17) hx hb dL_folded_9 (by decide) ?_
      refine W.widen (k := 2) (n := 12) (by decide) (by decide) ?_
      have e37 : s_L_folded nC nR nf fx fy fz fu cl b = s_X4_foldColumns nC nR nf fx fz fu b := by
        unfold s_L_folded
        exact ((if_neg c10).trans (if_pos c36))
      have e38 : n_L_folded_qf_6 nC nR nf fx fy fz fu cl b = n_X4_foldColumns_qf_6 nC nR nf fx fz fu b := by
        unfold n_L_folded_qf_6
        exact (if_neg c10)
      have e39 : n_L_folded_qx nC nR nf fx fz fu cl b = n_X4_foldColumns_qx nC nR nf fx fz fu b := by
        unfold n_L_folded_qx
        exact (if_neg c10)
      have e40 : n_L_folded_qy nC nR nf fy fz fu cl b = fy := by
        unfold n_L_folded_qy
        exact (if_neg c10)
      have e41 : n_L_folded_qz nC nR nf fx fy fz fu cl b = n_X4_foldColumns_qz nC nR nf fx fz fu b := by
        unfold n_L_folded_qz
        exact (if_neg c10)
      have e42 : n_L_folded_qu nC nR nf fx fy fz fu cl b = n_X4_foldColumns_qu nC nR nf fx fz fu b := by
        unfold n_L_folded_qu
        exact (if_neg c10)
      refine vx_ret ?_
      exact W.iret (v := (s_X4_foldColumns nC nR nf fx fz fu b)) hx hb hr (fun t ht hW => ⟨⟨_, (), rfl, e37.symm, ⟨(by rw [e38, e39, e40, e41, e42]; rw [ht]; exact hP), va_K.moved hW.alike hK, (by rw [e38, e39, e40, e41, e42]; exact hD)⟩⟩, hS.F ht⟩) hS.2.2 dL_folded_17
def s_L_of (nC : Nat) (nR : Nat) (nf : Int32) (fx : Nat → Int32) (fy : Nat → Int32) (fz : Nat → Int32) (fu : Nat → Int32) (wh : Int32) (co : Int32) (ro : Int32) : Int32 := (if wh = 0 then (if k_X4_placeX nC nR nf fx co ro = 0 then s_X4_placeX nC nR nf fx co ro else (-1001)) else (if wh = 1 then (if k_X4_placeY nC nR nf fy co ro = 0 then s_X4_placeY nC nR nf fy co ro else (-1001)) else (if wh = 2 then (if k_X4_above nC nR nf fx fy fz co ro = 0 then s_X4_above nC nR nf fx fy fz co ro else (-1001)) else (if k_X4_isUp nC nR nf fu co ro = 0 then (if (s_X4_isUp nC nR nf fu co ro) = 0 then 0 else 1) else (-1001)))))
abbrev rm_L_of : Room := { frames := 8, cells := 4, slots := 24, locals := 134 }
abbrev Qc_L_of (D : va_G) (cI cZ cJ cD : ClassId) (qo : Nat) (qm : Nat) (qb : Nat) (qr : Nat) (qf : Nat) (qx : Nat) (qy : Nat) (qz : Nat) (qu : Nat) (nC : Nat) (nR : Nat) (nf : Int32) (fx : Nat → Int32) (fy : Nat → Int32) (fz : Nat → Int32) (fu : Nat → Int32) (wh : Int32) (co : Int32) (ro : Int32) (A : Nat → Prop) : Array Value → State → Outcome → State → Prop := va_Qi (fun (r : Int32) (_ : Unit) => r = s_L_of nC nR nf fx fy fz fu wh co ro) (zPost D cI cZ cJ cD A [(qo, .inr (4, [.ref qm, .ref qb, .ref qr, .ref qf])), (qf, .inr (1, [.ref qx, .ref qy, .ref qz, .ref qu, .int (nI nC), .int (nI nR), .int nf])), (qx, .inl (cI, 36, .inl fx)), (qy, .inl (cI, 36, .inl fy)), (qz, .inl (cI, 36, .inl fz)), (qu, .inl (cZ, 36, .inl fu))]) A
abbrev Xc_L_of (D : va_G) (cI cZ cJ cD : ClassId) (qo : Nat) (qm : Nat) (qb : Nat) (qr : Nat) (qf : Nat) (qx : Nat) (qy : Nat) (qz : Nat) (qu : Nat) (nC : Nat) (nR : Nat) (nf : Int32) (fx : Nat → Int32) (fy : Nat → Int32) (fz : Nat → Int32) (fu : Nat → Int32) (wh : Int32) (co : Int32) (ro : Int32) (A : Nat → Prop) : String → State → State → Prop := vx_X (fun _ : Unit => True) (fun _ _ _ => False) A
set_option maxHeartbeats 4000000 in
set_option maxRecDepth 100000 in
theorem c_L_of (l : Launch) (hnt : l.stackTraces = false) (D : va_G) (cI cZ cJ cD : ClassId) (qo : Nat) (qm : Nat) (qb : Nat) (qr : Nat) (qf : Nat) (qx : Nat) (qy : Nat) (qz : Nat) (qu : Nat) (nC : Nat) (nR : Nat) (nf : Int32) (fx : Nat → Int32) (fy : Nat → Int32) (fz : Nat → Int32) (fu : Nat → Int32) (wh : Int32) (co : Int32) (ro : Int32) (sz : Nat) (hN : nC * nR ≤ 36) (hC : nC ≤ 36) (hR : nR ≤ 36) : vx_Met l yL_of wsL_of rm_L_of (va_Pc [.ref qo, .int wh, .int co, .int ro] (zPreWE D cI cZ cJ cD [(qo, .inr (4, [.ref qm, .ref qb, .ref qr, .ref qf])), (qf, .inr (1, [.ref qx, .ref qy, .ref qz, .ref qu, .int (nI nC), .int (nI nR), .int nf])), (qx, .inl (cI, 36, .inl fx)), (qy, .inl (cI, 36, .inl fy)), (qz, .inl (cI, 36, .inl fz)), (qu, .inl (cZ, 36, .inl fu))] sz)) (Qc_L_of D cI cZ cJ cD qo qm qb qr qf qx qy qz qu nC nR nf fx fy fz fu wh co ro (va_A [(qo, .inr (4, [.ref qm, .ref qb, .ref qr, .ref qf])), (qf, .inr (1, [.ref qx, .ref qy, .ref qz, .ref qu, .int (nI nC), .int (nI nR), .int nf])), (qx, .inl (cI, 36, .inl fx)), (qy, .inl (cI, 36, .inl fy)), (qz, .inl (cI, 36, .inl fz)), (qu, .inl (cZ, 36, .inl fu))] sz)) (Xc_L_of D cI cZ cJ cD qo qm qb qr qf qx qy qz qu nC nR nf fx fy fz fu wh co ro (va_A [(qo, .inr (4, [.ref qm, .ref qb, .ref qr, .ref qf])), (qf, .inr (1, [.ref qx, .ref qy, .ref qz, .ref qu, .int (nI nC), .int (nI nR), .int nf])), (qx, .inl (cI, 36, .inl fx)), (qy, .inl (cI, 36, .inl fy)), (qz, .inl (cI, 36, .inl fz)), (qu, .inl (cZ, 36, .inl fu))] sz)) 4 24 (va_A [(qo, .inr (4, [.ref qm, .ref qb, .ref qr, .ref qf])), (qf, .inr (1, [.ref qx, .ref qy, .ref qz, .ref qu, .int (nI nC), .int (nI nR), .int nf])), (qx, .inl (cI, 36, .inl fx)), (qy, .inl (cI, 36, .inl fy)), (qz, .inl (cI, 36, .inl fz)), (qu, .inl (cZ, 36, .inl fu))] sz) := by
  refine vx_ofWH (cc := cL_of) (maxL := 5) (ret := (some .int)) (hh := [(0, 55, 56, 29)]) (by decide) rfl ?_
  intro p e s m args below meth c s₁ B hml hv
  obtain ⟨rfl, hsz, hP, hK, hD0, hE⟩ := hv
  have hx := B.exec
  have hb := B.bytes
  have hr := B.returns
  have hts := atoms_spec (ws := wsL_of) B.pre
  have hown : s.vm.findClass RL = some m.cls := findClass_of_methodNamed B.named
  have hlocks := B.notSynchronized
  have htab := vx_table (x := yL_of) B (hts _ List.mem_cons_self)
  subst hsz
  have hD := hD0.self (sz := s.heap.size)
  generalize hAe : va_A [(qo, .inr (4, [.ref qm, .ref qb, .ref qr, .ref qf])), (qf, .inr (1, [.ref qx, .ref qy, .ref qz, .ref qu, .int (nI nC), .int (nI nR), .int nf])), (qx, .inl (cI, 36, .inl fx)), (qy, .inl (cI, 36, .inl fy)), (qz, .inl (cI, 36, .inl fz)), (qu, .inl (cZ, 36, .inl fu))] s.heap.size = A at hE hD ⊢
  have hA : ∀ q : Nat, s.heap.size ≤ q → A q := fun q h => by rw [← hAe]; exact Or.inr h
  have hS : va_S A s.heap s.heap [] := va_S.rf
  have hl := lv_entry ([.ref qo, .int wh, .int co, .int ro]) (n := 5) (Nat.le_of_ble_eq_true rfl)
  rw [lg_entry_eq]
  generalize (lg_sl ([.ref qo, .int wh, .int co, .int ro]) ++ List.replicate (5 - (lg_sl ([.ref qo, .int wh, .int co, .int ro])).length) Slot.unset).toArray = ls at hl ⊢
  have hl : lv_has ls 5 [(0, .ref qo), (1, .int wh), (2, .int co), (3, .int ro)] := hl
  have hP : va_P D vwCl [(qo, .inr (4, [.ref qm, .ref qb, .ref qr, .ref qf])), (qf, .inr (1, [.ref qx, .ref qy, .ref qz, .ref qu, .int (nI nC), .int (nI nR), .int nf])), (qx, .inl (cI, 36, .inl fx)), (qy, .inl (cI, 36, .inl fy)), (qz, .inl (cI, 36, .inl fz)), (qu, .inl (cZ, 36, .inl fu))] s.heap := hP
  have hP := hP
  refine lv_iload_n hx hb dL_of_0 rfl (lv_at hl 1 rfl) ?_
  refine lv_if_ne (tgt := 13) hx hb dL_of_1 (by decide) (fun c23 => ?_) (fun c23 => ?_)
  · refine lv_iload_n hx hb dL_of_13 rfl (lv_at hl 1 rfl) ?_
    refine lv_iconst (v := 1) hx hb dL_of_14 (by decide) ?_
    refine lv_icmp_ne (tgt := 27) hx hb dL_of_15 (by decide) (fun c24 => ?_) (fun c24 => ?_)
    · refine lv_iload_n hx hb dL_of_27 rfl (lv_at hl 1 rfl) ?_
      refine lv_iconst (v := 2) hx hb dL_of_28 (by decide) ?_
      refine lv_icmp_ne (tgt := 41) hx hb dL_of_29 (by decide) (fun c25 => ?_) (fun c25 => ?_)
      · refine lv_aload_n hx hb dL_of_41 rfl (lv_at hl 0 rfl) ?_
        refine lv_iload_n hx hb dL_of_42 rfl (lv_at hl 2 rfl) ?_
        refine lv_iload_n hx hb dL_of_43 rfl (lv_at hl 3 rfl) ?_
        refine vx_calli (vx_runV (As := [.int co, .int ro]) (rest := []) ⟨hx, hb, hml, hown, hts⟩ (c_X4_isUp l hnt D cI cZ cJ cD qo qm qb qr qf qx qy qz qu nC nR nf fu co ro (by assumption) (by assumption) (by assumption)) (cwV 2 hts gL_of_X4_isUp rfl rfl rfl (by decide +kernel) ⟨Nat.le_of_ble_eq_true rfl, Nat.le_of_ble_eq_true rfl⟩) ⟨zblindE, va_recv hK hP (ci := 4) (q0 := 0) rfl rfl, (fun U hU hW => ⟨rfl, by rw [hU]; exact hP.sub (ws' := [(qo, .inr (4, [.ref qm, .ref qb, .ref qr, .ref qf])), (qf, .inr (1, [.ref qx, .ref qy, .ref qz, .ref qu, .int (nI nC), .int (nI nR), .int nf])), (qu, .inl (cZ, 36, .inl fu))]) [0, 1, 5] rfl, va_K.moved hW.alike hK, zEnv.go hE hS (fun q h => h.elim) hU hW⟩)⟩ rfl rfl hl.1 rfl (lv_room (Nat.le_of_ble_eq_true rfl)) dL_of_44 ⟨(show _ ≤ 4 from by omega), (show _ ≤ 24 from by omega)⟩) hS (fun q _ h => h.elim) (fun q h => h.elim) (fun q _ h => h.elim) (fun E ce q9 u t H locs ht hvm hpx hB hz1 hk1 hS hq9 hce hcl => ?_) (fun r26 u t H locs ht hvm hw hB hz1 hk1 hS => ?_)
        · have hX := hB
          have hP := zk hP hk1
          have c27 : ¬ k_X4_isUp nC nR nf fu co ro = 0 := zX_ne hX
          rcases hX with ⟨rfl, hk9⟩ | ⟨rfl, hk9⟩ | ⟨rfl, hk9⟩
          · refine vx_catch (own := RL) (name := "java/lang/IndexOutOfBoundsException") (E := "java/lang/IndexOutOfBoundsException") hown [] ⟨0, 55, 56, 29⟩ [] (htab.trans rfl) (fun z hz => absurd hz List.not_mem_nil) rfl (by decide) (hts (.classLink RL 29 "java/lang/IndexOutOfBoundsException") (List.mem_cons_of_mem _ (List.mem_append_left _ (List.mem_append_left _ (List.mem_append_left _ (List.mem_append_left _ (List.mem_of_getElem? (i := 0) rfl))))))) ((hE.2.2.2.1 ("java/lang/IndexOutOfBoundsException", "java/lang/IndexOutOfBoundsException") (by decide)).use rfl) hq9 hce hcl ?_
            refine lv_astore (lv' := [(4, .ref q9), (0, .ref qo), (1, .int wh), (2, .int co), (3, .int ro)]) hx hb dL_of_56 hl (by decide) rfl (fun ls hl => ?_)
            refine lv_sipush (v := (-1001)) hx hb dL_of_58 (by decide) ?_
            refine W.widen (k := 4) (n := 24) (by decide) (by decide) ?_
            have e29 : s_L_of nC nR nf fx fy fz fu wh co ro = (-1001) := by
              unfold s_L_of
              exact ((if_neg c23).trans ((if_neg c24).trans ((if_neg c25).trans (if_neg c27))))
            refine vx_ret ?_
            exact W.iret (v := (-1001)) hx hb hr (fun t ht hW => ⟨⟨_, (), rfl, e29.symm, ⟨(by rw [ht]; exact hP), va_K.moved hW.alike hK, hD⟩⟩, hS.F ht⟩) hS.2.2 dL_of_61
          · exact absurd hk9 (by have := kr_X4_isUp nC nR nf fu co ro; omega)
          · exact absurd hk9 (by have := kr_X4_isUp nC nR nf fu co ro; omega)
        · obtain ⟨c30, hw⟩ := hw
          rw [hw]
          have hP := zk hP hk1
          refine W.widen (k := 1) (n := 6) (by omega) (by omega) ?_
          have K32 : ∀ v32_0 : Int32, v32_0 = (if (s_X4_isUp nC nR nf fu co ro) = 0 then 0 else 1) → ∀ (H : Heap) (locs : List Loc), va_P D vwCl [(qo, .inr (4, [.ref qm, .ref qb, .ref qr, .ref qf])), (qf, .inr (1, [.ref qx, .ref qy, .ref qz, .ref qu, .int (nI nC), .int (nI nR), .int nf])), (qx, .inl (cI, 36, .inl fx)), (qy, .inl (cI, 36, .inl fy)), (qz, .inl (cI, 36, .inl fz)), (qu, .inl (cZ, 36, .inl fu))] H → va_D A [(qo, .inr (4, [.ref qm, .ref qb, .ref qr, .ref qf])), (qf, .inr (1, [.ref qx, .ref qy, .ref qz, .ref qu, .int (nI nC), .int (nI nR), .int nf])), (qx, .inl (cI, 36, .inl fx)), (qy, .inl (cI, 36, .inl fy)), (qz, .inl (cI, 36, .inl fz)), (qu, .inl (cZ, 36, .inl fu))] → va_S A s.heap H locs → ∀ (ls : Array Slot), lv_has ls 5 [(0, .ref qo), (1, .int wh), (2, .int co), (3, .int ro)] → W p l e (headSpec wsL_of rm_L_of).room s m ([.ref qo, .int wh, .int co, .int ro]).toArray below meth c H locs 1 6 (vx_MQ below (Qc_L_of D cI cZ cJ cD qo qm qb qr qf qx qy qz qu nC nR nf fx fy fz fu wh co ro A) (Xc_L_of D cI cZ cJ cD qo qm qb qr qf qx qy qz qu nC nR nf fx fy fz fu wh co ro A) ([.ref qo, .int wh, .int co, .int ro]).toArray s 4 24 A) (F0 m 55 ls [.int v32_0]) := by
            intro v32_0 hv32_0 H locs hP hD hS ls hl
            subst hv32_0
            refine W.widen (k := 4) (n := 24) (by decide) (by decide) ?_
            have e33 : s_L_of nC nR nf fx fy fz fu wh co ro = (if (s_X4_isUp nC nR nf fu co ro) = 0 then 0 else 1) := by
              unfold s_L_of
              exact ((if_neg c23).trans ((if_neg c24).trans ((if_neg c25).trans (if_pos c30))))
            refine vx_ret ?_
            exact W.iret (v := (if (s_X4_isUp nC nR nf fu co ro) = 0 then 0 else 1)) hx hb hr (fun t ht hW => ⟨⟨_, (), rfl, e33.symm, ⟨(by rw [ht]; exact hP), va_K.moved hW.alike hK, hD⟩⟩, hS.F ht⟩) hS.2.2 dL_of_55
          refine lv_if_eq (tgt := 54) hx hb dL_of_47 (by decide) (fun c34 => ?_) (fun c34 => ?_)
          · refine lv_iconst (v := 0) hx hb dL_of_54 (by decide) ?_
            exact K32 _ (if_pos c34).symm _ _ hP hD hS _ (lv_sub hl [0, 1, 2, 3] rfl)
          · refine lv_iconst (v := 1) hx hb dL_of_50 (by decide) ?_
            refine lv_goto (tgt := 55) hx hb dL_of_51 (by decide) ?_
            exact K32 _ (if_neg c34).symm _ _ hP hD hS _ (lv_sub hl [0, 1, 2, 3] rfl)
      · refine lv_aload_n hx hb dL_of_32 rfl (lv_at hl 0 rfl) ?_
        refine lv_iload_n hx hb dL_of_33 rfl (lv_at hl 2 rfl) ?_
        refine lv_iload_n hx hb dL_of_34 rfl (lv_at hl 3 rfl) ?_
        refine vx_calli (vx_runV (As := [.int co, .int ro]) (rest := []) ⟨hx, hb, hml, hown, hts⟩ (c_X4_above l hnt D cI cZ cJ cD qo qm qb qr qf qx qy qz qu nC nR nf fx fy fz co ro (by assumption) (by assumption) (by assumption)) (cwV 2 hts gL_of_X4_above rfl rfl rfl (by decide +kernel) ⟨Nat.le_of_ble_eq_true rfl, Nat.le_of_ble_eq_true rfl⟩) ⟨zblindE, va_recv hK hP (ci := 4) (q0 := 0) rfl rfl, (fun U hU hW => ⟨rfl, by rw [hU]; exact hP.sub (ws' := [(qo, .inr (4, [.ref qm, .ref qb, .ref qr, .ref qf])), (qf, .inr (1, [.ref qx, .ref qy, .ref qz, .ref qu, .int (nI nC), .int (nI nR), .int nf])), (qx, .inl (cI, 36, .inl fx)), (qy, .inl (cI, 36, .inl fy)), (qz, .inl (cI, 36, .inl fz))]) [0, 1, 2, 3, 4] rfl, va_K.moved hW.alike hK, zEnv.go hE hS (fun q h => h.elim) hU hW⟩)⟩ rfl rfl hl.1 rfl (lv_room (Nat.le_of_ble_eq_true rfl)) dL_of_35 ⟨(show _ ≤ 4 from by omega), (show _ ≤ 24 from by omega)⟩) hS (fun q _ h => h.elim) (fun q h => h.elim) (fun q _ h => h.elim) (fun E ce q9 u t H locs ht hvm hpx hB hz1 hk1 hS hq9 hce hcl => ?_) (fun r35 u t H locs ht hvm hw hB hz1 hk1 hS => ?_)
        · have hX := hB
          have hP := zk hP hk1
          have c36 : ¬ k_X4_above nC nR nf fx fy fz co ro = 0 := zX_ne hX
          rcases hX with ⟨rfl, hk9⟩ | ⟨rfl, hk9⟩ | ⟨rfl, hk9⟩
          · refine vx_catch (own := RL) (name := "java/lang/IndexOutOfBoundsException") (E := "java/lang/IndexOutOfBoundsException") hown [] ⟨0, 55, 56, 29⟩ [] (htab.trans rfl) (fun z hz => absurd hz List.not_mem_nil) rfl (by decide) (hts (.classLink RL 29 "java/lang/IndexOutOfBoundsException") (List.mem_cons_of_mem _ (List.mem_append_left _ (List.mem_append_left _ (List.mem_append_left _ (List.mem_append_left _ (List.mem_of_getElem? (i := 0) rfl))))))) ((hE.2.2.2.1 ("java/lang/IndexOutOfBoundsException", "java/lang/IndexOutOfBoundsException") (by decide)).use rfl) hq9 hce hcl ?_
            refine lv_astore (lv' := [(4, .ref q9), (0, .ref qo), (1, .int wh), (2, .int co), (3, .int ro)]) hx hb dL_of_56 hl (by decide) rfl (fun ls hl => ?_)
            refine lv_sipush (v := (-1001)) hx hb dL_of_58 (by decide) ?_
            refine W.widen (k := 4) (n := 24) (by decide) (by decide) ?_
            have e38 : s_L_of nC nR nf fx fy fz fu wh co ro = (-1001) := by
              unfold s_L_of
              exact ((if_neg c23).trans ((if_neg c24).trans ((if_pos c25).trans (if_neg c36))))
            refine vx_ret ?_
            exact W.iret (v := (-1001)) hx hb hr (fun t ht hW => ⟨⟨_, (), rfl, e38.symm, ⟨(by rw [ht]; exact hP), va_K.moved hW.alike hK, hD⟩⟩, hS.F ht⟩) hS.2.2 dL_of_61
          · exact absurd hk9 (by have := kr_X4_above nC nR nf fx fy fz co ro; omega)
          · exact absurd hk9 (by have := kr_X4_above nC nR nf fx fy fz co ro; omega)
        · obtain ⟨c39, hw⟩ := hw
          rw [hw]
          have hP := zk hP hk1
          refine W.widen (k := 1) (n := 6) (by omega) (by omega) ?_
          refine lv_goto (tgt := 55) hx hb dL_of_38 (by decide) ?_
          refine W.widen (k := 4) (n := 24) (by decide) (by decide) ?_
          have e40 : s_L_of nC nR nf fx fy fz fu wh co ro = s_X4_above nC nR nf fx fy fz co ro := by
            unfold s_L_of
            exact ((if_neg c23).trans ((if_neg c24).trans ((if_pos c25).trans (if_pos c39))))
          refine vx_ret ?_
          exact W.iret (v := (s_X4_above nC nR nf fx fy fz co ro)) hx hb hr (fun t ht hW => ⟨⟨_, (), rfl, e40.symm, ⟨(by rw [ht]; exact hP), va_K.moved hW.alike hK, hD⟩⟩, hS.F ht⟩) hS.2.2 dL_of_55
    · refine lv_aload_n hx hb dL_of_18 rfl (lv_at hl 0 rfl) ?_
      refine lv_iload_n hx hb dL_of_19 rfl (lv_at hl 2 rfl) ?_
      refine lv_iload_n hx hb dL_of_20 rfl (lv_at hl 3 rfl) ?_
      refine vx_calli (vx_runV (As := [.int co, .int ro]) (rest := []) ⟨hx, hb, hml, hown, hts⟩ (c_X4_placeY l hnt D cI cZ cJ cD qo qm qb qr qf qx qy qz qu nC nR nf fy co ro (by assumption) (by assumption) (by assumption)) (cwV 2 hts gL_of_X4_placeY rfl rfl rfl (by decide +kernel) ⟨Nat.le_of_ble_eq_true rfl, Nat.le_of_ble_eq_true rfl⟩) ⟨zblindE, va_recv hK hP (ci := 4) (q0 := 0) rfl rfl, (fun U hU hW => ⟨rfl, by rw [hU]; exact hP.sub (ws' := [(qo, .inr (4, [.ref qm, .ref qb, .ref qr, .ref qf])), (qf, .inr (1, [.ref qx, .ref qy, .ref qz, .ref qu, .int (nI nC), .int (nI nR), .int nf])), (qy, .inl (cI, 36, .inl fy))]) [0, 1, 3] rfl, va_K.moved hW.alike hK, zEnv.go hE hS (fun q h => h.elim) hU hW⟩)⟩ rfl rfl hl.1 rfl (lv_room (Nat.le_of_ble_eq_true rfl)) dL_of_21 ⟨(show _ ≤ 4 from by omega), (show _ ≤ 24 from by omega)⟩) hS (fun q _ h => h.elim) (fun q h => h.elim) (fun q _ h => h.elim) (fun E ce q9 u t H locs ht hvm hpx hB hz1 hk1 hS hq9 hce hcl => ?_) (fun r41 u t H locs ht hvm hw hB hz1 hk1 hS => ?_)
      · have hX := hB
        have hP := zk hP hk1
        have c42 : ¬ k_X4_placeY nC nR nf fy co ro = 0 := zX_ne hX
        rcases hX with ⟨rfl, hk9⟩ | ⟨rfl, hk9⟩ | ⟨rfl, hk9⟩
        · refine vx_catch (own := RL) (name := "java/lang/IndexOutOfBoundsException") (E := "java/lang/IndexOutOfBoundsException") hown [] ⟨0, 55, 56, 29⟩ [] (htab.trans rfl) (fun z hz => absurd hz List.not_mem_nil) rfl (by decide) (hts (.classLink RL 29 "java/lang/IndexOutOfBoundsException") (List.mem_cons_of_mem _ (List.mem_append_left _ (List.mem_append_left _ (List.mem_append_left _ (List.mem_append_left _ (List.mem_of_getElem? (i := 0) rfl))))))) ((hE.2.2.2.1 ("java/lang/IndexOutOfBoundsException", "java/lang/IndexOutOfBoundsException") (by decide)).use rfl) hq9 hce hcl ?_
          refine lv_astore (lv' := [(4, .ref q9), (0, .ref qo), (1, .int wh), (2, .int co), (3, .int ro)]) hx hb dL_of_56 hl (by decide) rfl (fun ls hl => ?_)
          refine lv_sipush (v := (-1001)) hx hb dL_of_58 (by decide) ?_
          refine W.widen (k := 4) (n := 24) (by decide) (by decide) ?_
          have e44 : s_L_of nC nR nf fx fy fz fu wh co ro = (-1001) := by
            unfold s_L_of
            exact ((if_neg c23).trans ((if_pos c24).trans (if_neg c42)))
          refine vx_ret ?_
          exact W.iret (v := (-1001)) hx hb hr (fun t ht hW => ⟨⟨_, (), rfl, e44.symm, ⟨(by rw [ht]; exact hP), va_K.moved hW.alike hK, hD⟩⟩, hS.F ht⟩) hS.2.2 dL_of_61
        · exact absurd hk9 (by have := kr_X4_placeY nC nR nf fy co ro; omega)
        · exact absurd hk9 (by have := kr_X4_placeY nC nR nf fy co ro; omega)
      · obtain ⟨c45, hw⟩ := hw
        rw [hw]
        have hP := zk hP hk1
        refine W.widen (k := 1) (n := 6) (by omega) (by omega) ?_
        refine lv_goto (tgt := 55) hx hb dL_of_24 (by decide) ?_
        refine W.widen (k := 4) (n := 24) (by decide) (by decide) ?_
        have e46 : s_L_of nC nR nf fx fy fz fu wh co ro = s_X4_placeY nC nR nf fy co ro := by
          unfold s_L_of
          exact ((if_neg c23).trans ((if_pos c24).trans (if_pos c45)))
        refine vx_ret ?_
        exact W.iret (v := (s_X4_placeY nC nR nf fy co ro)) hx hb hr (fun t ht hW => ⟨⟨_, (), rfl, e46.symm, ⟨(by rw [ht]; exact hP), va_K.moved hW.alike hK, hD⟩⟩, hS.F ht⟩) hS.2.2 dL_of_55
  · refine lv_aload_n hx hb dL_of_4 rfl (lv_at hl 0 rfl) ?_
    refine lv_iload_n hx hb dL_of_5 rfl (lv_at hl 2 rfl) ?_
    refine lv_iload_n hx hb dL_of_6 rfl (lv_at hl 3 rfl) ?_
    refine vx_calli (vx_runV (As := [.int co, .int ro]) (rest := []) ⟨hx, hb, hml, hown, hts⟩ (c_X4_placeX l hnt D cI cZ cJ cD qo qm qb qr qf qx qy qz qu nC nR nf fx co ro (by assumption) (by assumption) (by assumption)) (cwV 2 hts gL_of_X4_placeX rfl rfl rfl (by decide +kernel) ⟨Nat.le_of_ble_eq_true rfl, Nat.le_of_ble_eq_true rfl⟩) ⟨zblindE, va_recv hK hP (ci := 4) (q0 := 0) rfl rfl, (fun U hU hW => ⟨rfl, by rw [hU]; exact hP.sub (ws' := [(qo, .inr (4, [.ref qm, .ref qb, .ref qr, .ref qf])), (qf, .inr (1, [.ref qx, .ref qy, .ref qz, .ref qu, .int (nI nC), .int (nI nR), .int nf])), (qx, .inl (cI, 36, .inl fx))]) [0, 1, 2] rfl, va_K.moved hW.alike hK, zEnv.go hE hS (fun q h => h.elim) hU hW⟩)⟩ rfl rfl hl.1 rfl (lv_room (Nat.le_of_ble_eq_true rfl)) dL_of_7 ⟨(show _ ≤ 4 from by omega), (show _ ≤ 24 from by omega)⟩) hS (fun q _ h => h.elim) (fun q h => h.elim) (fun q _ h => h.elim) (fun E ce q9 u t H locs ht hvm hpx hB hz1 hk1 hS hq9 hce hcl => ?_) (fun r47 u t H locs ht hvm hw hB hz1 hk1 hS => ?_)
    · have hX := hB
      have hP := zk hP hk1
      have c48 : ¬ k_X4_placeX nC nR nf fx co ro = 0 := zX_ne hX
      rcases hX with ⟨rfl, hk9⟩ | ⟨rfl, hk9⟩ | ⟨rfl, hk9⟩
      · refine vx_catch (own := RL) (name := "java/lang/IndexOutOfBoundsException") (E := "java/lang/IndexOutOfBoundsException") hown [] ⟨0, 55, 56, 29⟩ [] (htab.trans rfl) (fun z hz => absurd hz List.not_mem_nil) rfl (by decide) (hts (.classLink RL 29 "java/lang/IndexOutOfBoundsException") (List.mem_cons_of_mem _ (List.mem_append_left _ (List.mem_append_left _ (List.mem_append_left _ (List.mem_append_left _ (List.mem_of_getElem? (i := 0) rfl))))))) ((hE.2.2.2.1 ("java/lang/IndexOutOfBoundsException", "java/lang/IndexOutOfBoundsException") (by decide)).use rfl) hq9 hce hcl ?_
        refine lv_astore (lv' := [(4, .ref q9), (0, .ref qo), (1, .int wh), (2, .int co), (3, .int ro)]) hx hb dL_of_56 hl (by decide) rfl (fun ls hl => ?_)
        refine lv_sipush (v := (-1001)) hx hb dL_of_58 (by decide) ?_
        refine W.widen (k := 4) (n := 24) (by decide) (by decide) ?_
        have e50 : s_L_of nC nR nf fx fy fz fu wh co ro = (-1001) := by
          unfold s_L_of
          exact ((if_pos c23).trans (if_neg c48))
        refine vx_ret ?_
        exact W.iret (v := (-1001)) hx hb hr (fun t ht hW => ⟨⟨_, (), rfl, e50.symm, ⟨(by rw [ht]; exact hP), va_K.moved hW.alike hK, hD⟩⟩, hS.F ht⟩) hS.2.2 dL_of_61
      · exact absurd hk9 (by have := kr_X4_placeX nC nR nf fx co ro; omega)
      · exact absurd hk9 (by have := kr_X4_placeX nC nR nf fx co ro; omega)
    · obtain ⟨c51, hw⟩ := hw
      rw [hw]
      have hP := zk hP hk1
      refine W.widen (k := 1) (n := 6) (by omega) (by omega) ?_
      refine lv_goto (tgt := 55) hx hb dL_of_10 (by decide) ?_
      refine W.widen (k := 4) (n := 24) (by decide) (by decide) ?_
      have e52 : s_L_of nC nR nf fx fy fz fu wh co ro = s_X4_placeX nC nR nf fx co ro := by
        unfold s_L_of
        exact ((if_pos c23).trans (if_pos c51))
      refine vx_ret ?_
      exact W.iret (v := (s_X4_placeX nC nR nf fx co ro)) hx hb hr (fun t ht hW => ⟨⟨_, (), rfl, e52.symm, ⟨(by rw [ht]; exact hP), va_K.moved hW.alike hK, hD⟩⟩, hS.F ht⟩) hS.2.2 dL_of_55
def n_L_flat_qT (gt : Nat → Int32) : Nat → Int32 := upd gt (32 : Int32).toNatClampNeg 0
def n_L_flat_qP (gp : Nat → Int32) (cc : Nat) : Nat → Int32 := zg gp (fun p => nI (p % cc)) 36
def n_L_flat_qQ (gq : Nat → Int32) (cc : Nat) : Nat → Int32 := zg gq (fun p => nI (p / cc)) 36
def n_L_flat_qZ (gz : Nat → Int32) : Nat → Int32 := zg gz (fun _ => 0) 36
def n_L_flat_qU (gu : Nat → Int32) : Nat → Int32 := zg gu (fun _ => 1) 36
theorem fl_30 {gt : Nat → Int32} {cc : Nat} (hc : gt 30 = nI cc) : upd gt (32 : Int32).toNatClampNeg 0 (30 : Int32).toNatClampNeg = nI cc := hc
theorem fl_nz {cc : Nat} (h : 1 ≤ cc ∧ cc ≤ 6) : ¬ nI cc = 0 := nI_ne0 h.1 (by omega)
theorem fl_div {cc k : Nat} (h : 1 ≤ cc ∧ cc ≤ 6) (hk : k < 36) : nI k / nI cc = nI (k / cc) := pk_div (a := k) (d := cc) (by omega) (by omega) (by omega)
theorem fl_rem {cc k : Nat} (h : 1 ≤ cc ∧ cc ≤ 6) (hk : k < 36) : nI k - nI k / nI cc * nI cc = nI (k % cc) := pk_rem (a := k) (d := cc) (by omega) (by omega) (by omega)
abbrev rm_L_flat : Room := { frames := 0, cells := 0, slots := 0, locals := 0 }
abbrev Qc_L_flat (D : va_G) (cI cZ cJ cD : ClassId) (qT : Nat) (gt : Nat → Int32) (qP : Nat) (qQ : Nat) (qZ : Nat) (qU : Nat) (gp : Nat → Int32) (gq : Nat → Int32) (gz : Nat → Int32) (gu : Nat → Int32) (cc : Nat) (A : Nat → Prop) : Array Value → State → Outcome → State → Prop := va_Qv (fun _ : Unit => True) (zPost D cI cZ cJ cD A [(qT, .inl (cI, 33, .inl (n_L_flat_qT gt))), (qP, .inl (cI, 36, .inl (n_L_flat_qP gp cc))), (qQ, .inl (cI, 36, .inl (n_L_flat_qQ gq cc))), (qZ, .inl (cI, 36, .inl (n_L_flat_qZ gz))), (qU, .inl (cI, 36, .inl (n_L_flat_qU gu)))]) A
set_option maxHeartbeats 4000000 in
set_option maxRecDepth 100000 in
theorem c_L_flat (l : Launch) (D : va_G) (cI cZ cJ cD : ClassId) (qT : Nat) (gt : Nat → Int32) (qP : Nat) (qQ : Nat) (qZ : Nat) (qU : Nat) (gp : Nat → Int32) (gq : Nat → Int32) (gz : Nat → Int32) (gu : Nat → Int32) (cc : Nat) (sz : Nat) (hc : gt 30 = nI cc) (hc1 : 1 ≤ cc ∧ cc ≤ 6) : Met l yL_flat wsL_flat rm_L_flat (va_Pc [.ref qT, .ref qP, .ref qQ, .ref qZ, .ref qU] (zPreW D cI cZ cJ cD [(qT, .inl (cI, 33, .inl gt)), (qP, .inl (cI, 36, .inl gp)), (qQ, .inl (cI, 36, .inl gq)), (qZ, .inl (cI, 36, .inl gz)), (qU, .inl (cI, 36, .inl gu))] sz)) (Qc_L_flat D cI cZ cJ cD qT gt qP qQ qZ qU gp gq gz gu cc (va_A [(qT, .inl (cI, 33, .inl gt)), (qP, .inl (cI, 36, .inl gp)), (qQ, .inl (cI, 36, .inl gq)), (qZ, .inl (cI, 36, .inl gz)), (qU, .inl (cI, 36, .inl gu))] sz)) 0 0 (va_A [(qT, .inl (cI, 33, .inl gt)), (qP, .inl (cI, 36, .inl gp)), (qQ, .inl (cI, 36, .inl gq)), (qZ, .inl (cI, 36, .inl gz)), (qU, .inl (cI, 36, .inl gu))] sz) := by
  refine Met.ofW (cc := cL_flat) (maxL := 6) (ret := none) (by decide) rfl ?_
  intro p e s m args below meth c s₁ B hml hv
  obtain ⟨rfl, hsz, hP, hK, hD0⟩ := hv
  have hx := B.exec
  have hb := B.bytes
  have hr := B.returns
  have hts := atoms_spec (ws := wsL_flat) B.pre
  have hown : s.vm.findClass RL = some m.cls := findClass_of_methodNamed B.named
  have hlocks := B.notSynchronized
  subst hsz
  have hD := hD0.self (sz := s.heap.size)
  generalize hAe : va_A [(qT, .inl (cI, 33, .inl gt)), (qP, .inl (cI, 36, .inl gp)), (qQ, .inl (cI, 36, .inl gq)), (qZ, .inl (cI, 36, .inl gz)), (qU, .inl (cI, 36, .inl gu))] s.heap.size = A at hD ⊢
  have hA : ∀ q : Nat, s.heap.size ≤ q → A q := fun q h => by rw [← hAe]; exact Or.inr h
  have hS : va_S A s.heap s.heap [] := va_S.rf
  have hl := lv_entry ([.ref qT, .ref qP, .ref qQ, .ref qZ, .ref qU]) (n := 6) (Nat.le_of_ble_eq_true rfl)
  rw [lg_entry_eq]
  generalize (lg_sl ([.ref qT, .ref qP, .ref qQ, .ref qZ, .ref qU]) ++ List.replicate (6 - (lg_sl ([.ref qT, .ref qP, .ref qQ, .ref qZ, .ref qU])).length) Slot.unset).toArray = ls at hl ⊢
  have hl : lv_has ls 6 [(0, .ref qT), (1, .ref qP), (2, .ref qQ), (3, .ref qZ), (4, .ref qU)] := hl
  have hP : va_P D vwCl [(qT, .inl (cI, 33, .inl gt)), (qP, .inl (cI, 36, .inl gp)), (qQ, .inl (cI, 36, .inl gq)), (qZ, .inl (cI, 36, .inl gz)), (qU, .inl (cI, 36, .inl gu))] s.heap := hP
  have hP := hP
  refine lv_aload_n hx hb dL_flat_0 rfl (lv_at hl 0 rfl) ?_
  refine lv_bipush (v := 32) hx hb dL_flat_1 (by decide) ?_
  refine lv_iconst (v := 0) hx hb dL_flat_3 (by decide) ?_
  refine va_iast hx hb hK hP hD hS 0 0 rfl rfl (z_inc (k := 32) rfl (by decide)) dL_flat_4 (fun H locs hP hD hS => ?_)
  have hP : va_P D vwCl [(qT, .inl (cI, 33, .inl (upd gt (32 : Int32).toNatClampNeg 0))), (qP, .inl (cI, 36, .inl gp)), (qQ, .inl (cI, 36, .inl gq)), (qZ, .inl (cI, 36, .inl gz)), (qU, .inl (cI, 36, .inl gu))] H := hP
  have hD : va_D A [(qT, .inl (cI, 33, .inl (upd gt (32 : Int32).toNatClampNeg 0))), (qP, .inl (cI, 36, .inl gp)), (qQ, .inl (cI, 36, .inl gq)), (qZ, .inl (cI, 36, .inl gz)), (qU, .inl (cI, 36, .inl gu))] := hD
  refine lv_iconst (v := 0) hx hb dL_flat_5 (by decide) ?_
  refine lv_istore (lv' := [(5, .int 0), (0, .ref qT), (1, .ref qP), (2, .ref qQ), (3, .ref qZ), (4, .ref qU)]) hx hb dL_flat_6 hl (by decide) rfl (fun ls hl => ?_)
  have X1 : ∀ (H : Heap) (locs : List Loc), va_P D vwCl [(qT, .inl (cI, 33, .inl (upd gt (32 : Int32).toNatClampNeg 0))), (qP, .inl (cI, 36, .inl (zg gp (fun p => nI (p % cc)) 36))), (qQ, .inl (cI, 36, .inl (zg gq (fun p => nI (p / cc)) 36))), (qZ, .inl (cI, 36, .inl (zg gz (fun _ => 0) 36))), (qU, .inl (cI, 36, .inl (zg gu (fun _ => 1) 36)))] H → va_D A [(qT, .inl (cI, 33, .inl (upd gt (32 : Int32).toNatClampNeg 0))), (qP, .inl (cI, 36, .inl (zg gp (fun p => nI (p % cc)) 36))), (qQ, .inl (cI, 36, .inl (zg gq (fun p => nI (p / cc)) 36))), (qZ, .inl (cI, 36, .inl (zg gz (fun _ => 0) 36))), (qU, .inl (cI, 36, .inl (zg gu (fun _ => 1) 36)))] → va_S A s.heap H locs → ∀ (ls : Array Slot), lv_has ls 6 [(0, .ref qT), (1, .ref qP), (2, .ref qQ), (3, .ref qZ), (4, .ref qU)] → W p l e (headSpec wsL_flat rm_L_flat).room s m ([.ref qT, .ref qP, .ref qQ, .ref qZ, .ref qU]).toArray below meth c H locs 0 0 (MQ below (Qc_L_flat D cI cZ cJ cD qT gt qP qQ qZ qU gp gq gz gu cc A) ([.ref qT, .ref qP, .ref qQ, .ref qZ, .ref qU]).toArray s 0 0 A) (F0 m 54 ls []) := by
    intro  H locs hP hD hS ls hl
    have e2 : n_L_flat_qT gt = upd gt (32 : Int32).toNatClampNeg 0 := rfl
    have e3 : n_L_flat_qP gp cc = zg gp (fun p => nI (p % cc)) 36 := rfl
    have e4 : n_L_flat_qQ gq cc = zg gq (fun p => nI (p / cc)) 36 := rfl
    have e5 : n_L_flat_qZ gz = zg gz (fun _ => 0) 36 := rfl
    have e6 : n_L_flat_qU gu = zg gu (fun _ => 1) 36 := rfl
    exact W.vret hx hb hr (fun t ht hW => ⟨⟨(), rfl, trivial, ⟨(by rw [e2, e3, e4, e5, e6]; rw [ht]; exact hP), va_K.moved hW.alike hK, (by rw [e2, e3, e4, e5, e6]; exact hD)⟩⟩, hS.F ht⟩) hS.2.2 dL_flat_54
  have L1 : ∀ (n1 : Nat) (k : Nat), (k ≤ 36) → (36 < k + n1) → ∀ (H : Heap) (locs : List Loc), va_P D vwCl [(qT, .inl (cI, 33, .inl (upd gt (32 : Int32).toNatClampNeg 0))), (qP, .inl (cI, 36, .inl (zg gp (fun p => nI (p % cc)) k))), (qQ, .inl (cI, 36, .inl (zg gq (fun p => nI (p / cc)) k))), (qZ, .inl (cI, 36, .inl (zg gz (fun _ => 0) k))), (qU, .inl (cI, 36, .inl (zg gu (fun _ => 1) k)))] H → va_D A [(qT, .inl (cI, 33, .inl (upd gt (32 : Int32).toNatClampNeg 0))), (qP, .inl (cI, 36, .inl (zg gp (fun p => nI (p % cc)) k))), (qQ, .inl (cI, 36, .inl (zg gq (fun p => nI (p / cc)) k))), (qZ, .inl (cI, 36, .inl (zg gz (fun _ => 0) k))), (qU, .inl (cI, 36, .inl (zg gu (fun _ => 1) k)))] → va_S A s.heap H locs → ∀ (ls : Array Slot), lv_has ls 6 [(5, .int (nI k)), (0, .ref qT), (1, .ref qP), (2, .ref qQ), (3, .ref qZ), (4, .ref qU)] → W p l e (headSpec wsL_flat rm_L_flat).room s m ([.ref qT, .ref qP, .ref qQ, .ref qZ, .ref qU]).toArray below meth c H locs 0 0 (MQ below (Qc_L_flat D cI cZ cJ cD qT gt qP qQ qZ qU gp gq gz gu cc A) ([.ref qT, .ref qP, .ref qQ, .ref qZ, .ref qU]).toArray s 0 0 A) (F0 m 8 ls []) := by
    intro n1
    induction n1 with
    | zero =>
      intro k hk hf1
      exact absurd hf1 (by omega)
    | succ n1 ih1 =>
      intro k hk hf1 H locs hP hD hS ls hl
      refine lv_iload hx hb dL_flat_8 (lv_at hl 0 rfl) ?_
      refine lv_bipush (v := 36) hx hb dL_flat_10 (by decide) ?_
      refine lv_icmp_ge (tgt := 54) hx hb dL_flat_12 (by decide) (fun c7 => ?_) (fun c7 => ?_)
      · have ek9 : k = 36 := z_ctr (n := 36) rfl (by omega) hk c7
        subst ek9
        exact X1  _ _ hP hD hS _ (lv_sub hl [1, 2, 3, 4, 5] rfl)
      · refine lv_aload_n hx hb dL_flat_15 rfl (lv_at hl 2 rfl) ?_
        refine lv_iload hx hb dL_flat_16 (lv_at hl 0 rfl) ?_
        refine lv_iload hx hb dL_flat_18 (lv_at hl 0 rfl) ?_
        refine lv_aload_n hx hb dL_flat_20 rfl (lv_at hl 1 rfl) ?_
        refine lv_bipush (v := 30) hx hb dL_flat_21 (by decide) ?_
        refine va_iald hx hb hK hP 0 0 rfl rfl (z_inc (k := 30) rfl (by decide)) dL_flat_23 ?_
        rw [show (upd gt (32 : Int32).toNatClampNeg 0) (30 : Int32).toNatClampNeg = nI cc from (fl_30 hc)]
        refine lv_irem hx hb dL_flat_24 (fl_nz hc1) ?_
        refine va_iast hx hb hK hP hD hS 1 0 rfl rfl (vp_in_nI (z_ctl (n := 36) rfl (by omega) c7) (by omega)) dL_flat_25 (fun H locs hP hD hS => ?_)
        have hP : va_P D vwCl [(qT, .inl (cI, 33, .inl (upd gt (32 : Int32).toNatClampNeg 0))), (qP, .inl (cI, 36, .inl (upd (zg gp (fun p => nI (p % cc)) k) (nI k).toNatClampNeg ((nI k) - (nI k) / (nI cc) * (nI cc))))), (qQ, .inl (cI, 36, .inl (zg gq (fun p => nI (p / cc)) k))), (qZ, .inl (cI, 36, .inl (zg gz (fun _ => 0) k))), (qU, .inl (cI, 36, .inl (zg gu (fun _ => 1) k)))] H := hP
        have hD : va_D A [(qT, .inl (cI, 33, .inl (upd gt (32 : Int32).toNatClampNeg 0))), (qP, .inl (cI, 36, .inl (upd (zg gp (fun p => nI (p % cc)) k) (nI k).toNatClampNeg ((nI k) - (nI k) / (nI cc) * (nI cc))))), (qQ, .inl (cI, 36, .inl (zg gq (fun p => nI (p / cc)) k))), (qZ, .inl (cI, 36, .inl (zg gz (fun _ => 0) k))), (qU, .inl (cI, 36, .inl (zg gu (fun _ => 1) k)))] := hD
        refine lv_aload_n hx hb dL_flat_26 rfl (lv_at hl 3 rfl) ?_
        refine lv_iload hx hb dL_flat_27 (lv_at hl 0 rfl) ?_
        refine lv_iload hx hb dL_flat_29 (lv_at hl 0 rfl) ?_
        refine lv_aload_n hx hb dL_flat_31 rfl (lv_at hl 1 rfl) ?_
        refine lv_bipush (v := 30) hx hb dL_flat_32 (by decide) ?_
        refine va_iald hx hb hK hP 0 0 rfl rfl (z_inc (k := 30) rfl (by decide)) dL_flat_34 ?_
        rw [show (upd gt (32 : Int32).toNatClampNeg 0) (30 : Int32).toNatClampNeg = nI cc from (fl_30 hc)]
        refine lv_idiv hx hb dL_flat_35 (fl_nz hc1) ?_
        refine va_iast hx hb hK hP hD hS 2 0 rfl rfl (vp_in_nI (z_ctl (n := 36) rfl (by omega) c7) (by omega)) dL_flat_36 (fun H locs hP hD hS => ?_)
        have hP : va_P D vwCl [(qT, .inl (cI, 33, .inl (upd gt (32 : Int32).toNatClampNeg 0))), (qP, .inl (cI, 36, .inl (upd (zg gp (fun p => nI (p % cc)) k) (nI k).toNatClampNeg ((nI k) - (nI k) / (nI cc) * (nI cc))))), (qQ, .inl (cI, 36, .inl (upd (zg gq (fun p => nI (p / cc)) k) (nI k).toNatClampNeg ((nI k) / (nI cc))))), (qZ, .inl (cI, 36, .inl (zg gz (fun _ => 0) k))), (qU, .inl (cI, 36, .inl (zg gu (fun _ => 1) k)))] H := hP
        have hD : va_D A [(qT, .inl (cI, 33, .inl (upd gt (32 : Int32).toNatClampNeg 0))), (qP, .inl (cI, 36, .inl (upd (zg gp (fun p => nI (p % cc)) k) (nI k).toNatClampNeg ((nI k) - (nI k) / (nI cc) * (nI cc))))), (qQ, .inl (cI, 36, .inl (upd (zg gq (fun p => nI (p / cc)) k) (nI k).toNatClampNeg ((nI k) / (nI cc))))), (qZ, .inl (cI, 36, .inl (zg gz (fun _ => 0) k))), (qU, .inl (cI, 36, .inl (zg gu (fun _ => 1) k)))] := hD
        refine lv_aload_n hx hb dL_flat_37 rfl (lv_at hl 4 rfl) ?_
        refine lv_iload hx hb dL_flat_38 (lv_at hl 0 rfl) ?_
        refine lv_iconst (v := 0) hx hb dL_flat_40 (by decide) ?_
        refine va_iast hx hb hK hP hD hS 3 0 rfl rfl (vp_in_nI (z_ctl (n := 36) rfl (by omega) c7) (by omega)) dL_flat_41 (fun H locs hP hD hS => ?_)
        have hP : va_P D vwCl [(qT, .inl (cI, 33, .inl (upd gt (32 : Int32).toNatClampNeg 0))), (qP, .inl (cI, 36, .inl (upd (zg gp (fun p => nI (p % cc)) k) (nI k).toNatClampNeg ((nI k) - (nI k) / (nI cc) * (nI cc))))), (qQ, .inl (cI, 36, .inl (upd (zg gq (fun p => nI (p / cc)) k) (nI k).toNatClampNeg ((nI k) / (nI cc))))), (qZ, .inl (cI, 36, .inl (upd (zg gz (fun _ => 0) k) (nI k).toNatClampNeg 0))), (qU, .inl (cI, 36, .inl (zg gu (fun _ => 1) k)))] H := hP
        have hD : va_D A [(qT, .inl (cI, 33, .inl (upd gt (32 : Int32).toNatClampNeg 0))), (qP, .inl (cI, 36, .inl (upd (zg gp (fun p => nI (p % cc)) k) (nI k).toNatClampNeg ((nI k) - (nI k) / (nI cc) * (nI cc))))), (qQ, .inl (cI, 36, .inl (upd (zg gq (fun p => nI (p / cc)) k) (nI k).toNatClampNeg ((nI k) / (nI cc))))), (qZ, .inl (cI, 36, .inl (upd (zg gz (fun _ => 0) k) (nI k).toNatClampNeg 0))), (qU, .inl (cI, 36, .inl (zg gu (fun _ => 1) k)))] := hD
        refine lv_aload hx hb dL_flat_42 (lv_at hl 5 rfl) ?_
        refine lv_iload hx hb dL_flat_44 (lv_at hl 0 rfl) ?_
        refine lv_iconst (v := 1) hx hb dL_flat_46 (by decide) ?_
        refine va_iast hx hb hK hP hD hS 4 0 rfl rfl (vp_in_nI (z_ctl (n := 36) rfl (by omega) c7) (by omega)) dL_flat_47 (fun H locs hP hD hS => ?_)
        have hP : va_P D vwCl [(qT, .inl (cI, 33, .inl (upd gt (32 : Int32).toNatClampNeg 0))), (qP, .inl (cI, 36, .inl (upd (zg gp (fun p => nI (p % cc)) k) (nI k).toNatClampNeg ((nI k) - (nI k) / (nI cc) * (nI cc))))), (qQ, .inl (cI, 36, .inl (upd (zg gq (fun p => nI (p / cc)) k) (nI k).toNatClampNeg ((nI k) / (nI cc))))), (qZ, .inl (cI, 36, .inl (upd (zg gz (fun _ => 0) k) (nI k).toNatClampNeg 0))), (qU, .inl (cI, 36, .inl (upd (zg gu (fun _ => 1) k) (nI k).toNatClampNeg 1)))] H := hP
        have hD : va_D A [(qT, .inl (cI, 33, .inl (upd gt (32 : Int32).toNatClampNeg 0))), (qP, .inl (cI, 36, .inl (upd (zg gp (fun p => nI (p % cc)) k) (nI k).toNatClampNeg ((nI k) - (nI k) / (nI cc) * (nI cc))))), (qQ, .inl (cI, 36, .inl (upd (zg gq (fun p => nI (p / cc)) k) (nI k).toNatClampNeg ((nI k) / (nI cc))))), (qZ, .inl (cI, 36, .inl (upd (zg gz (fun _ => 0) k) (nI k).toNatClampNeg 0))), (qU, .inl (cI, 36, .inl (upd (zg gu (fun _ => 1) k) (nI k).toNatClampNeg 1)))] := hD
        refine lv_iinc (v := nI (k + 1)) (lv' := [(5, .int (nI (k + 1))), (0, .ref qT), (1, .ref qP), (2, .ref qQ), (3, .ref qZ), (4, .ref qU)]) hx hb dL_flat_48 hl (k := 0) rfl (nI_succ k).symm (by decide) rfl (fun ls hl => ?_)
        refine lv_goto (tgt := 8) hx hb dL_flat_51 (by decide) ?_
        have hk36 : k < 36 := z_ctl (n := 36) rfl (by omega) c7
        have hc8 := z_cl36 (k := k) hk36
        have e_0 : upd (zg gp (fun p => nI (p % cc)) k) (nI k).toNatClampNeg ((nI k) - (nI k) / (nI cc) * (nI cc)) = zg gp (fun p => nI (p % cc)) (k + 1) := zg_put hc8 (fl_rem hc1 hk36)
        have e_1 : upd (zg gq (fun p => nI (p / cc)) k) (nI k).toNatClampNeg ((nI k) / (nI cc)) = zg gq (fun p => nI (p / cc)) (k + 1) := zg_put hc8 (fl_div hc1 hk36)
        have e_2 : upd (zg gz (fun _ => 0) k) (nI k).toNatClampNeg 0 = zg gz (fun _ => 0) (k + 1) := zg_put hc8 rfl
        have e_3 : upd (zg gu (fun _ => 1) k) (nI k).toNatClampNeg 1 = zg gu (fun _ => 1) (k + 1) := zg_put hc8 rfl
        rw [e_0, e_1, e_2, e_3] at hP hD
        exact ih1 (k + 1) (by omega) (by omega) _ _ hP hD hS _ (lv_sub hl [0, 1, 2, 3, 4, 5] rfl)
  rw [← zg_0 gp (fun p => nI (p % cc)), ← zg_0 gq (fun p => nI (p / cc)), ← zg_0 gz (fun _ => 0), ← zg_0 gu (fun _ => 1)] at hP hD
  exact L1 37 0 (by omega) (by omega) _ _ hP hD hS _ (zlv (lv_sub (l' := [(5, .int 0), (0, .ref qT), (1, .ref qP), (2, .ref qQ), (3, .ref qZ), (4, .ref qU)]) hl [0, 1, 2, 3, 4, 5] rfl) (by rfl))
