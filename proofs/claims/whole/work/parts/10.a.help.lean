
theorem kr_X4_requireLatitude (lat : Int32) : k_X4_requireLatitude lat = 0 ∨ k_X4_requireLatitude lat = 2 := by
  unfold k_X4_requireLatitude
  (repeat' split) <;> first | decide | decide
theorem kr_X4_requireLongitude (lon : Int32) : k_X4_requireLongitude lon = 0 ∨ k_X4_requireLongitude lon = 2 := by
  unfold k_X4_requireLongitude
  (repeat' split) <;> first | decide | decide
theorem kr_X4_requireBand (bd : Int32) : k_X4_requireBand bd = 0 ∨ k_X4_requireBand bd = 1 := by
  unfold k_X4_requireBand
  (repeat' split) <;> first | decide | decide
theorem kr_X4_someTurned (tn : Int32) : k_X4_someTurned tn = 0 ∨ k_X4_someTurned tn = 3 := by
  unfold k_X4_someTurned
  (repeat' split) <;> first | decide | decide
theorem kr_X4_requirePanel (nC : Nat) (nR : Nat) (nf : Int32) (co : Int32) (ro : Int32) : k_X4_requirePanel nC nR nf co ro = 0 ∨ k_X4_requirePanel nC nR nf co ro = 1 := by
  unfold k_X4_requirePanel
  (repeat' split) <;> first | decide | decide
theorem kr_X4_table (fw : Nat → Int32) (fh : Nat → Int32) (row : Int32) (wd : Int32) (hgt : Int32) : k_X4_table fw fh row wd hgt = 0 ∨ k_X4_table fw fh row wd hgt = 1 ∨ k_X4_table fw fh row wd hgt = 2 ∨ k_X4_table fw fh row wd hgt = 3 := by
  unfold k_X4_table
  (repeat' split) <;> first | decide | decide
theorem kr_X4_x (fw : Nat → Int32) (fh : Nat → Int32) (lat : Int32) (lon : Int32) : k_X4_x fw fh lat lon = 0 ∨ k_X4_x fw fh lat lon = 2 := by
  unfold k_X4_x
  (repeat' split) <;> first | decide | (rcases kr_X4_requireLongitude _ with h | h <;> rw [h] <;> decide) | (rcases kr_X4_requireLatitude _ with h | h <;> rw [h] <;> decide)
theorem kr_X4_y (fw : Nat → Int32) (fh : Nat → Int32) (lat : Int32) : k_X4_y fw fh lat = 0 ∨ k_X4_y fw fh lat = 2 := by
  unfold k_X4_y
  (repeat' split) <;> first | decide | (rcases kr_X4_requireLatitude _ with h | h <;> rw [h] <;> decide)
theorem kr_X4_latitudeAt (fw : Nat → Int32) (fh : Nat → Int32) (hgt : Int32) : k_X4_latitudeAt fw fh hgt = 0 ∨ k_X4_latitudeAt fw fh hgt = 2 ∨ k_X4_latitudeAt fw fh hgt = 3 := by
  unfold k_X4_latitudeAt
  (repeat' split) <;> first | decide | decide
theorem kr_X4_area (fw : Nat → Int32) (fh : Nat → Int32) (so : Int32) (no : Int32) (we : Int32) (ea : Int32) : k_X4_area fw fh so no we ea = 0 ∨ k_X4_area fw fh so no we ea = 2 := by
  unfold k_X4_area
  (repeat' split) <;> first | decide | decide
theorem kr_X4_areaByCells (fw : Nat → Int32) (fh : Nat → Int32) (so : Int32) (no : Int32) (we : Int32) (ea : Int32) : k_X4_areaByCells fw fh so no we ea = 0 ∨ k_X4_areaByCells fw fh so no we ea = 2 := by
  unfold k_X4_areaByCells
  (repeat' split) <;> first | decide | (rcases kr_X4_area _ _ _ _ _ _ with h | h <;> rw [h] <;> decide)
theorem kr_X4_truth (ft : Nat → Int32) (bd : Int32) (tr : Int32) : k_X4_truth ft bd tr = 0 ∨ k_X4_truth ft bd tr = 1 ∨ k_X4_truth ft bd tr = 2 := by
  unfold k_X4_truth
  (repeat' split) <;> first | decide | (rcases kr_X4_requireBand _ with h | h <;> rw [h] <;> decide)
theorem kr_X4_stretch (ft : Nat → Int32) (fw : Nat → Int32) (fh : Nat → Int32) (bd : Int32) : k_X4_stretch ft fw fh bd = 0 ∨ k_X4_stretch ft fw fh bd = 1 := by
  unfold k_X4_stretch
  (repeat' split) <;> first | decide | (rcases kr_X4_requireBand _ with h | h <;> rw [h] <;> decide)
theorem kr_X4_apart (o1 : Int32) (o2 : Int32) : k_X4_apart o1 o2 = 0 ∨ k_X4_apart o1 o2 = 2 := by
  unfold k_X4_apart
  (repeat' split) <;> first | decide | (rcases kr_X4_requireLongitude _ with h | h <;> rw [h] <;> decide) | (rcases kr_X4_requireLongitude _ with h | h <;> rw [h] <;> decide)
theorem kr_X4_ringWay (fw : Nat → Int32) (fh : Nat → Int32) (lat : Int32) (o1 : Int32) (o2 : Int32) : k_X4_ringWay fw fh lat o1 o2 = 0 ∨ k_X4_ringWay fw fh lat o1 o2 = 2 := by
  unfold k_X4_ringWay
  (repeat' split) <;> first | decide | (rcases kr_X4_requireLongitude _ with h | h <;> rw [h] <;> decide) | (rcases kr_X4_requireLongitude _ with h | h <;> rw [h] <;> decide) | (rcases kr_X4_requireLatitude _ with h | h <;> rw [h] <;> decide)
theorem kr_X4_zones (br : Int32) (nb : Int32) : k_X4_zones br nb = 0 ∨ k_X4_zones br nb = 2 := by
  unfold k_X4_zones
  (repeat' split) <;> first | decide | decide
theorem kr_X4_zone (br : Int32) (lon : Int32) : k_X4_zone br lon = 0 ∨ k_X4_zone br lon = 2 := by
  unfold k_X4_zone
  (repeat' split) <;> first | decide | (rcases kr_X4_requireLongitude _ with h | h <;> rw [h] <;> decide)
theorem kr_X4_seams (br : Int32) (o1 : Int32) (o2 : Int32) : k_X4_seams br o1 o2 = 0 ∨ k_X4_seams br o1 o2 = 2 := by
  unfold k_X4_seams
  (repeat' split) <;> first | decide | (rcases kr_X4_requireLongitude _ with h | h <;> rw [h] <;> decide) | (rcases kr_X4_requireLongitude _ with h | h <;> rw [h] <;> decide)
theorem kr_X4_dateLine (o1 : Int32) (o2 : Int32) : k_X4_dateLine o1 o2 = 0 ∨ k_X4_dateLine o1 o2 = 2 := by
  unfold k_X4_dateLine
  (repeat' split) <;> first | decide | (rcases kr_X4_requireLongitude _ with h | h <;> rw [h] <;> decide) | (rcases kr_X4_requireLongitude _ with h | h <;> rw [h] <;> decide)
theorem kr_X4_sheet (jC : Int32) (jR : Int32) (nf : Int32) (fx : Nat → Int32) (fy : Nat → Int32) (fz : Nat → Int32) (fu : Nat → Int32) (co : Int32) (ro : Int32) : k_X4_sheet jC jR nf fx fy fz fu co ro = 0 ∨ k_X4_sheet jC jR nf fx fy fz fu co ro = 2 := by
  unfold k_X4_sheet
  (repeat' split) <;> first | decide | decide
theorem kr_X4_foldColumns (nC : Nat) (nR : Nat) (nf : Int32) (fx : Nat → Int32) (fz : Nat → Int32) (fu : Nat → Int32) (b : Int32) : k_X4_foldColumns nC nR nf fx fz fu b = 0 ∨ k_X4_foldColumns nC nR nf fx fz fu b = 3 := by
  unfold k_X4_foldColumns
  (repeat' split) <;> first | decide | (rcases kr_X4_someTurned _ with h | h <;> rw [h] <;> decide)
theorem kr_X4_foldRows (nC : Nat) (nR : Nat) (nf : Int32) (fy : Nat → Int32) (fz : Nat → Int32) (fu : Nat → Int32) (b : Int32) : k_X4_foldRows nC nR nf fy fz fu b = 0 ∨ k_X4_foldRows nC nR nf fy fz fu b = 3 := by
  unfold k_X4_foldRows
  (repeat' split) <;> first | decide | (rcases kr_X4_someTurned _ with h | h <;> rw [h] <;> decide)
theorem kr_X4_panel (nC : Nat) (nR : Nat) (nf : Int32) (lat : Int32) (lon : Int32) : k_X4_panel nC nR nf lat lon = 0 ∨ k_X4_panel nC nR nf lat lon = 2 := by
  unfold k_X4_panel
  (repeat' split) <;> first | decide | (rcases kr_X4_requireLongitude _ with h | h <;> rw [h] <;> decide) | (rcases kr_X4_requireLatitude _ with h | h <;> rw [h] <;> decide)
theorem kr_X4_placeX (nC : Nat) (nR : Nat) (nf : Int32) (fx : Nat → Int32) (co : Int32) (ro : Int32) : k_X4_placeX nC nR nf fx co ro = 0 ∨ k_X4_placeX nC nR nf fx co ro = 1 := by
  unfold k_X4_placeX
  (repeat' split) <;> first | decide | (rcases kr_X4_requirePanel _ _ _ _ _ with h | h <;> rw [h] <;> decide)
theorem kr_X4_placeY (nC : Nat) (nR : Nat) (nf : Int32) (fy : Nat → Int32) (co : Int32) (ro : Int32) : k_X4_placeY nC nR nf fy co ro = 0 ∨ k_X4_placeY nC nR nf fy co ro = 1 := by
  unfold k_X4_placeY
  (repeat' split) <;> first | decide | (rcases kr_X4_requirePanel _ _ _ _ _ with h | h <;> rw [h] <;> decide)
theorem kr_X4_above (nC : Nat) (nR : Nat) (nf : Int32) (fx : Nat → Int32) (fy : Nat → Int32) (fz : Nat → Int32) (co : Int32) (ro : Int32) : k_X4_above nC nR nf fx fy fz co ro = 0 ∨ k_X4_above nC nR nf fx fy fz co ro = 1 := by
  unfold k_X4_above
  (repeat' split) <;> first | decide | (rcases kr_X4_requirePanel _ _ _ _ _ with h | h <;> rw [h] <;> decide)
theorem kr_X4_isUp (nC : Nat) (nR : Nat) (nf : Int32) (fu : Nat → Int32) (co : Int32) (ro : Int32) : k_X4_isUp nC nR nf fu co ro = 0 ∨ k_X4_isUp nC nR nf fu co ro = 1 := by
  unfold k_X4_isUp
  (repeat' split) <;> first | decide | (rcases kr_X4_requirePanel _ _ _ _ _ with h | h <;> rw [h] <;> decide)
theorem z_stf {ft fw fh : Nat → Int32} (htr : ∀ j : Nat, j < 9 → ¬ ft j = 0) (bd : Int32) : vf_n64 (FP.f2d (s_X4_stretch ft fw fh bd)) := by
  unfold s_X4_stretch
  split
  · unfold s_X0_areaByTruth
    exact z_f2d _ _ (z_trn htr bd)
  · exact z_n64 (by decide +kernel)
def s_L_table (fw : Nat → Int32) (fh : Nat → Int32) (row : Int32) (wd : Int32) (hgt : Int32) : Int32 := (if k_X4_table fw fh row wd hgt = 0 then 0 else (if k_X4_table fw fh row wd hgt = 1 then 1 else (if k_X4_table fw fh row wd hgt = 2 then 2 else 3)))
def n_L_table_qw (fw : Nat → Int32) (fh : Nat → Int32) (row : Int32) (wd : Int32) (hgt : Int32) : Nat → Int32 := n_X4_table_qw fw fh row wd hgt
def n_L_table_qh (fw : Nat → Int32) (fh : Nat → Int32) (row : Int32) (wd : Int32) (hgt : Int32) : Nat → Int32 := n_X4_table_qh fw fh row wd hgt
abbrev rm_L_table : Room := { frames := 7, cells := 1, slots := 6, locals := 113 }
abbrev Qc_L_table (D : va_G) (cI cZ cJ cD : ClassId) (qo : Nat) (qm : Nat) (qb : Nat) (qr : Nat) (qf : Nat) (qw : Nat) (qh : Nat) (fw : Nat → Int32) (fh : Nat → Int32) (row : Int32) (wd : Int32) (hgt : Int32) (A : Nat → Prop) : Array Value → State → Outcome → State → Prop := va_Qi (fun (r : Int32) (_ : Unit) => r = s_L_table fw fh row wd hgt) (zPost D cI cZ cJ cD A [(qo, .inr (4, [.ref qm, .ref qb, .ref qr, .ref qf])), (qm, .inr (2, [.ref qw, .ref qh])), (qw, .inl (cI, 10, .inl (n_L_table_qw fw fh row wd hgt))), (qh, .inl (cI, 10, .inl (n_L_table_qh fw fh row wd hgt)))]) A
abbrev Xc_L_table (D : va_G) (cI cZ cJ cD : ClassId) (qo : Nat) (qm : Nat) (qb : Nat) (qr : Nat) (qf : Nat) (qw : Nat) (qh : Nat) (fw : Nat → Int32) (fh : Nat → Int32) (row : Int32) (wd : Int32) (hgt : Int32) (A : Nat → Prop) : String → State → State → Prop := vx_X (fun _ : Unit => True) (fun _ _ _ => False) A
set_option maxHeartbeats 4000000 in
set_option maxRecDepth 100000 in
theorem c_L_table (l : Launch) (hnt : l.stackTraces = false) (D : va_G) (cI cZ cJ cD : ClassId) (qo : Nat) (qm : Nat) (qb : Nat) (qr : Nat) (qf : Nat) (qw : Nat) (qh : Nat) (fw : Nat → Int32) (fh : Nat → Int32) (row : Int32) (wd : Int32) (hgt : Int32) (sz : Nat)  : vx_Met l yL_table wsL_table rm_L_table (va_Pc [.ref qo, .int row, .int wd, .int hgt] (zPreWE D cI cZ cJ cD [(qo, .inr (4, [.ref qm, .ref qb, .ref qr, .ref qf])), (qm, .inr (2, [.ref qw, .ref qh])), (qw, .inl (cI, 10, .inl fw)), (qh, .inl (cI, 10, .inl fh))] sz)) (Qc_L_table D cI cZ cJ cD qo qm qb qr qf qw qh fw fh row wd hgt (va_A [(qo, .inr (4, [.ref qm, .ref qb, .ref qr, .ref qf])), (qm, .inr (2, [.ref qw, .ref qh])), (qw, .inl (cI, 10, .inl fw)), (qh, .inl (cI, 10, .inl fh))] sz)) (Xc_L_table D cI cZ cJ cD qo qm qb qr qf qw qh fw fh row wd hgt (va_A [(qo, .inr (4, [.ref qm, .ref qb, .ref qr, .ref qf])), (qm, .inr (2, [.ref qw, .ref qh])), (qw, .inl (cI, 10, .inl fw)), (qh, .inl (cI, 10, .inl fh))] sz)) 1 6 (va_A [(qo, .inr (4, [.ref qm, .ref qb, .ref qr, .ref qf])), (qm, .inr (2, [.ref qw, .ref qh])), (qw, .inl (cI, 10, .inl fw)), (qh, .inl (cI, 10, .inl fh))] sz) := by
  refine vx_ofWH (cc := cL_table) (maxL := 5) (ret := (some .int)) (hh := [(0, 7, 10, 13), (0, 7, 14, 15), (0, 7, 18, 17)]) (by decide) rfl ?_
  intro p e s m args below meth c s₁ B hml hv
  obtain ⟨rfl, hsz, hP, hK, hD0, hE⟩ := hv
  have hx := B.exec
  have hb := B.bytes
  have hr := B.returns
  have hts := atoms_spec (ws := wsL_table) B.pre
  have hown : s.vm.findClass RL = some m.cls := findClass_of_methodNamed B.named
  have hlocks := B.notSynchronized
  have htab := vx_table (x := yL_table) B (hts _ List.mem_cons_self)
  subst hsz
  have hD := hD0.self (sz := s.heap.size)
  generalize hAe : va_A [(qo, .inr (4, [.ref qm, .ref qb, .ref qr, .ref qf])), (qm, .inr (2, [.ref qw, .ref qh])), (qw, .inl (cI, 10, .inl fw)), (qh, .inl (cI, 10, .inl fh))] s.heap.size = A at hE hD ⊢
  have hA : ∀ q : Nat, s.heap.size ≤ q → A q := fun q h => by rw [← hAe]; exact Or.inr h
  have hS : va_S A s.heap s.heap [] := va_S.rf
  have hl := lv_entry ([.ref qo, .int row, .int wd, .int hgt]) (n := 5) (Nat.le_of_ble_eq_true rfl)
  rw [lg_entry_eq]
  generalize (lg_sl ([.ref qo, .int row, .int wd, .int hgt]) ++ List.replicate (5 - (lg_sl ([.ref qo, .int row, .int wd, .int hgt])).length) Slot.unset).toArray = ls at hl ⊢
  have hl : lv_has ls 5 [(0, .ref qo), (1, .int row), (2, .int wd), (3, .int hgt)] := hl
  have hP : va_P D vwCl [(qo, .inr (4, [.ref qm, .ref qb, .ref qr, .ref qf])), (qm, .inr (2, [.ref qw, .ref qh])), (qw, .inl (cI, 10, .inl fw)), (qh, .inl (cI, 10, .inl fh))] s.heap := hP
  have hP := hP
  refine lv_aload_n hx hb dL_table_0 rfl (lv_at hl 0 rfl) ?_
  refine lv_iload_n hx hb dL_table_1 rfl (lv_at hl 1 rfl) ?_
  refine lv_iload_n hx hb dL_table_2 rfl (lv_at hl 2 rfl) ?_
  refine lv_iload_n hx hb dL_table_3 rfl (lv_at hl 3 rfl) ?_
  have hPc := hP.sub (ws' := [(qo, .inr (4, [.ref qm, .ref qb, .ref qr, .ref qf])), (qm, .inr (2, [.ref qw, .ref qh])), (qw, .inl (cI, 10, .inl fw)), (qh, .inl (cI, 10, .inl fh))]) [0, 1, 2, 3] rfl
  have hDc := hD.sub (ws' := [(qo, .inr (4, [.ref qm, .ref qb, .ref qr, .ref qf])), (qm, .inr (2, [.ref qw, .ref qh])), (qw, .inl (cI, 10, .inl fw)), (qh, .inl (cI, 10, .inl fh))]) [0, 1, 2, 3] (by decide) rfl
  have hFc := va_free (wc := [(qo, .inr (4, [.ref qm, .ref qb, .ref qr, .ref qf])), (qm, .inr (2, [.ref qw, .ref qh])), (qw, .inl (cI, 10, .inl fw)), (qh, .inl (cI, 10, .inl fh))]) hD hS hA [0, 1, 2, 3] rfl
  refine vx_callv (vx_runV (As := [.int row, .int wd, .int hgt]) (rest := []) ⟨hx, hb, hml, hown, hts⟩ (c_X4_table l hnt D cI cZ cJ cD qo qm qb qr qf qw qh fw fh row wd hgt s.heap.size ) (cwV 3 hts gL_table_X4_table rfl rfl rfl (by decide +kernel) ⟨Nat.le_of_ble_eq_true rfl, Nat.le_of_ble_eq_true rfl⟩) ⟨zblindWE, va_recv hK hP (ci := 4) (q0 := 0) rfl rfl, (fun U hU hW => ⟨rfl, by rw [hU], by rw [hU]; exact hPc, va_K.moved hW.alike hK, hDc.weaken (fun _ _ _ _ => trivial), zEnv.go hE hS hFc hU hW⟩)⟩ rfl rfl hl.1 rfl (lv_room (Nat.le_of_ble_eq_true rfl)) dL_table_4 ⟨Nat.le_of_ble_eq_true rfl, Nat.le_of_ble_eq_true rfl⟩) hS (fun q _ h => hFc q h) hFc (fun q _ h => hFc q h) (fun E ce q9 u t H locs ht hvm hpx hB hz1 hk1 hS hq9 hce hcl => ?_) (fun u t H locs ht hvm hw hB hz1 hk1 hS => ?_)
  · obtain ⟨hX, hB⟩ := hB
    obtain ⟨hP1, hK1, hD1⟩ := hB
    rw [ht] at hP1
    obtain ⟨hP, hD⟩ := va_join (wr := []) (w1 := [(qo, .inr (4, [.ref qm, .ref qb, .ref qr, .ref qf])), (qm, .inr (2, [.ref qw, .ref qh])), (qw, .inl (cI, 10, .inl (n_X4_table_qw fw fh row wd hgt))), (qh, .inl (cI, 10, .inl (n_X4_table_qh fw fh row wd hgt)))]) hP hD [0, 1, 2, 3] [] rfl rfl (by decide) (by decide) hk1 hFc hP1 hD1
    have hP := hP.sub (ws' := [(qo, .inr (4, [.ref qm, .ref qb, .ref qr, .ref qf])), (qm, .inr (2, [.ref qw, .ref qh])), (qw, .inl (cI, 10, .inl (n_X4_table_qw fw fh row wd hgt))), (qh, .inl (cI, 10, .inl (n_X4_table_qh fw fh row wd hgt)))]) [0, 1, 2, 3] rfl
    have hD := hD.sub (ws' := [(qo, .inr (4, [.ref qm, .ref qb, .ref qr, .ref qf])), (qm, .inr (2, [.ref qw, .ref qh])), (qw, .inl (cI, 10, .inl (n_X4_table_qw fw fh row wd hgt))), (qh, .inl (cI, 10, .inl (n_X4_table_qh fw fh row wd hgt)))]) [0, 1, 2, 3] (by decide) rfl
    have c11 : ¬ k_X4_table fw fh row wd hgt = 0 := zX_ne hX
    rcases hX with ⟨rfl, hk9⟩ | ⟨rfl, hk9⟩ | ⟨rfl, hk9⟩
    · have c12 : k_X4_table fw fh row wd hgt = 1 := hk9
      refine vx_catch (own := RL) (name := "java/lang/IndexOutOfBoundsException") (E := "java/lang/IndexOutOfBoundsException") hown [] ⟨0, 7, 10, 13⟩ [⟨0, 7, 14, 15⟩, ⟨0, 7, 18, 17⟩] (htab.trans rfl) (fun z hz => absurd hz List.not_mem_nil) rfl (by decide) (hts (.classLink RL 13 "java/lang/IndexOutOfBoundsException") (List.mem_cons_of_mem _ (List.mem_append_left _ (List.mem_append_left _ (List.mem_append_left _ (List.mem_append_left _ (List.mem_append_left _ (List.mem_append_left _ (List.mem_of_getElem? (i := 0) rfl))))))))) ((hE.2.2.2.1 ("java/lang/IndexOutOfBoundsException", "java/lang/IndexOutOfBoundsException") (by decide)).use rfl) hq9 hce hcl ?_
      refine lv_astore (lv' := [(4, .ref q9), (0, .ref qo), (1, .int row), (2, .int wd), (3, .int hgt)]) hx hb dL_table_10 hl (by decide) rfl (fun ls hl => ?_)
      refine lv_iconst (v := 1) hx hb dL_table_12 (by decide) ?_
      have e13 : s_L_table fw fh row wd hgt = 1 := by
        unfold s_L_table
        exact ((if_neg c11).trans (if_pos c12))
      have e14 : n_L_table_qw fw fh row wd hgt = n_X4_table_qw fw fh row wd hgt := rfl
      have e15 : n_L_table_qh fw fh row wd hgt = n_X4_table_qh fw fh row wd hgt := rfl
      refine vx_ret ?_
      exact W.iret (v := 1) hx hb hr (fun t ht hW => ⟨⟨_, (), rfl, e13.symm, ⟨(by rw [e14, e15]; rw [ht]; exact hP), va_K.moved hW.alike hK, (by rw [e14, e15]; exact hD)⟩⟩, hS.F ht⟩) hS.2.2 dL_table_13
    · have c16 : ¬ k_X4_table fw fh row wd hgt = 1 := by omega
      have c17 : k_X4_table fw fh row wd hgt = 2 := hk9
      refine vx_catch (own := RL) (name := "java/lang/IllegalArgumentException") (E := "java/lang/IllegalArgumentException") hown [⟨0, 7, 10, 13⟩] ⟨0, 7, 14, 15⟩ [⟨0, 7, 18, 17⟩] (htab.trans rfl) (fun z hz => (List.mem_cons.mp hz).elim (fun e9 => by rw [e9]; exact Or.inr ⟨by decide, "java/lang/IndexOutOfBoundsException", (hts (.classLink RL 13 "java/lang/IndexOutOfBoundsException") (List.mem_cons_of_mem _ (List.mem_append_left _ (List.mem_append_left _ (List.mem_append_left _ (List.mem_append_left _ (List.mem_append_left _ (List.mem_append_left _ (List.mem_of_getElem? (i := 0) rfl))))))))), hE.2.2.2.2.1 ("java/lang/IllegalArgumentException", "java/lang/IndexOutOfBoundsException") (by decide)⟩) (fun hz => absurd hz List.not_mem_nil)) rfl (by decide) (hts (.classLink RL 15 "java/lang/IllegalArgumentException") (List.mem_cons_of_mem _ (List.mem_append_left _ (List.mem_append_left _ (List.mem_append_left _ (List.mem_append_left _ (List.mem_append_left _ (List.mem_append_left _ (List.mem_of_getElem? (i := 1) rfl))))))))) ((hE.2.2.2.1 ("java/lang/IllegalArgumentException", "java/lang/IllegalArgumentException") (by decide)).use rfl) hq9 hce hcl ?_
      refine lv_astore (lv' := [(4, .ref q9), (0, .ref qo), (1, .int row), (2, .int wd), (3, .int hgt)]) hx hb dL_table_14 hl (by decide) rfl (fun ls hl => ?_)
      refine lv_iconst (v := 2) hx hb dL_table_16 (by decide) ?_
      have e18 : s_L_table fw fh row wd hgt = 2 := by
        unfold s_L_table
        exact ((if_neg c11).trans ((if_neg c16).trans (if_pos c17)))
      have e19 : n_L_table_qw fw fh row wd hgt = n_X4_table_qw fw fh row wd hgt := rfl
      have e20 : n_L_table_qh fw fh row wd hgt = n_X4_table_qh fw fh row wd hgt := rfl
      refine vx_ret ?_
      exact W.iret (v := 2) hx hb hr (fun t ht hW => ⟨⟨_, (), rfl, e18.symm, ⟨(by rw [e19, e20]; rw [ht]; exact hP), va_K.moved hW.alike hK, (by rw [e19, e20]; exact hD)⟩⟩, hS.F ht⟩) hS.2.2 dL_table_17
    · have c21 : ¬ k_X4_table fw fh row wd hgt = 1 := by omega
      have c22 : ¬ k_X4_table fw fh row wd hgt = 2 := by omega
      refine vx_catch (own := RL) (name := "java/lang/IllegalStateException") (E := "java/lang/IllegalStateException") hown [⟨0, 7, 10, 13⟩, ⟨0, 7, 14, 15⟩] ⟨0, 7, 18, 17⟩ [] (htab.trans rfl) (fun z hz => (List.mem_cons.mp hz).elim (fun e9 => by rw [e9]; exact Or.inr ⟨by decide, "java/lang/IndexOutOfBoundsException", (hts (.classLink RL 13 "java/lang/IndexOutOfBoundsException") (List.mem_cons_of_mem _ (List.mem_append_left _ (List.mem_append_left _ (List.mem_append_left _ (List.mem_append_left _ (List.mem_append_left _ (List.mem_append_left _ (List.mem_of_getElem? (i := 0) rfl))))))))), hE.2.2.2.2.1 ("java/lang/IllegalStateException", "java/lang/IndexOutOfBoundsException") (by decide)⟩) (fun hz => (List.mem_cons.mp hz).elim (fun e9 => by rw [e9]; exact Or.inr ⟨by decide, "java/lang/IllegalArgumentException", (hts (.classLink RL 15 "java/lang/IllegalArgumentException") (List.mem_cons_of_mem _ (List.mem_append_left _ (List.mem_append_left _ (List.mem_append_left _ (List.mem_append_left _ (List.mem_append_left _ (List.mem_append_left _ (List.mem_of_getElem? (i := 1) rfl))))))))), hE.2.2.2.2.1 ("java/lang/IllegalStateException", "java/lang/IllegalArgumentException") (by decide)⟩) (fun hz => absurd hz List.not_mem_nil))) rfl (by decide) (hts (.classLink RL 17 "java/lang/IllegalStateException") (List.mem_cons_of_mem _ (List.mem_append_left _ (List.mem_append_left _ (List.mem_append_left _ (List.mem_append_left _ (List.mem_append_left _ (List.mem_append_left _ (List.mem_of_getElem? (i := 2) rfl))))))))) ((hE.2.2.2.1 ("java/lang/IllegalStateException", "java/lang/IllegalStateException") (by decide)).use rfl) hq9 hce hcl ?_
      refine lv_astore (lv' := [(4, .ref q9), (0, .ref qo), (1, .int row), (2, .int wd), (3, .int hgt)]) hx hb dL_table_18 hl (by decide) rfl (fun ls hl => ?_)
      refine lv_iconst (v := 3) hx hb dL_table_20 (by decide) ?_
      have e24 : s_L_table fw fh row wd hgt = 3 := by
        unfold s_L_table
        exact ((if_neg c11).trans ((if_neg c21).trans (if_neg c22)))
      have e25 : n_L_table_qw fw fh row wd hgt = n_X4_table_qw fw fh row wd hgt := rfl
      have e26 : n_L_table_qh fw fh row wd hgt = n_X4_table_qh fw fh row wd hgt := rfl
      refine vx_ret ?_
      exact W.iret (v := 3) hx hb hr (fun t ht hW => ⟨⟨_, (), rfl, e24.symm, ⟨(by rw [e25, e26]; rw [ht]; exact hP), va_K.moved hW.alike hK, (by rw [e25, e26]; exact hD)⟩⟩, hS.F ht⟩) hS.2.2 dL_table_21
  · have c27 : k_X4_table fw fh row wd hgt = 0 := hw
    obtain ⟨hP1, hK1, hD1⟩ := hB
    rw [ht] at hP1
    obtain ⟨hP, hD⟩ := va_join (wr := []) (w1 := [(qo, .inr (4, [.ref qm, .ref qb, .ref qr, .ref qf])), (qm, .inr (2, [.ref qw, .ref qh])), (qw, .inl (cI, 10, .inl (n_X4_table_qw fw fh row wd hgt))), (qh, .inl (cI, 10, .inl (n_X4_table_qh fw fh row wd hgt)))]) hP hD [0, 1, 2, 3] [] rfl rfl (by decide) (by decide) hk1 hFc hP1 hD1
    have hP := hP.sub (ws' := [(qo, .inr (4, [.ref qm, .ref qb, .ref qr, .ref qf])), (qm, .inr (2, [.ref qw, .ref qh])), (qw, .inl (cI, 10, .inl (n_X4_table_qw fw fh row wd hgt))), (qh, .inl (cI, 10, .inl (n_X4_table_qh fw fh row wd hgt)))]) [0, 1, 2, 3] rfl
    have hD := hD.sub (ws' := [(qo, .inr (4, [.ref qm, .ref qb, .ref qr, .ref qf])), (qm, .inr (2, [.ref qw, .ref qh])), (qw, .inl (cI, 10, .inl (n_X4_table_qw fw fh row wd hgt))), (qh, .inl (cI, 10, .inl (n_X4_table_qh fw fh row wd hgt)))]) [0, 1, 2, 3] (by decide) rfl
    refine W.widen (k := 1) (n := 6) (by decide) (by decide) ?_
    refine lv_goto (tgt := 22) hx hb dL_table_7 (by decide) ?_
    refine lv_iconst (v := 0) hx hb dL_table_22 (by decide) ?_
    have e28 : s_L_table fw fh row wd hgt = 0 := by
      unfold s_L_table
      exact (if_pos c27)
    have e29 : n_L_table_qw fw fh row wd hgt = n_X4_table_qw fw fh row wd hgt := rfl
    have e30 : n_L_table_qh fw fh row wd hgt = n_X4_table_qh fw fh row wd hgt := rfl
    refine vx_ret ?_
    exact W.iret (v := 0) hx hb hr (fun t ht hW => ⟨⟨_, (), rfl, e28.symm, ⟨(by rw [e29, e30]; rw [ht]; exact hP), va_K.moved hW.alike hK, (by rw [e29, e30]; exact hD)⟩⟩, hS.F ht⟩) hS.2.2 dL_table_23
def s_L_x (fw : Nat → Int32) (fh : Nat → Int32) (lat : Int32) (lon : Int32) (fo : Nat → Int64) : Int32 := (if k_X4_x fw fh lat lon = 0 then 0 else 1)
def n_L_x_qout (fw : Nat → Int32) (fh : Nat → Int32) (lat : Int32) (lon : Int32) (fo : Nat → Int64) : Nat → Int64 := (if k_X4_x fw fh lat lon = 0 then vp_updL fo (0 : Int32).toNatClampNeg ((s_X4_x fw fh lat lon).toInt64) else fo)
abbrev rm_L_x : Room := { frames := 8, cells := 2, slots := 12, locals := 132 }
abbrev Qc_L_x (D : va_G) (cI cZ cJ cD : ClassId) (qo : Nat) (qm : Nat) (qb : Nat) (qr : Nat) (qf : Nat) (qw : Nat) (qh : Nat) (fw : Nat → Int32) (fh : Nat → Int32) (lat : Int32) (lon : Int32) (qout : Nat) (fo : Nat → Int64) (A : Nat → Prop) : Array Value → State → Outcome → State → Prop := va_Qi (fun (r : Int32) (_ : Unit) => r = s_L_x fw fh lat lon fo) (zPost D cI cZ cJ cD A [(qo, .inr (4, [.ref qm, .ref qb, .ref qr, .ref qf])), (qm, .inr (2, [.ref qw, .ref qh])), (qw, .inl (cI, 10, .inl fw)), (qh, .inl (cI, 10, .inl fh)), (qout, .inl (cJ, 1, .inr (.inl (n_L_x_qout fw fh lat lon fo))))]) A
abbrev Xc_L_x (D : va_G) (cI cZ cJ cD : ClassId) (qo : Nat) (qm : Nat) (qb : Nat) (qr : Nat) (qf : Nat) (qw : Nat) (qh : Nat) (fw : Nat → Int32) (fh : Nat → Int32) (lat : Int32) (lon : Int32) (qout : Nat) (fo : Nat → Int64) (A : Nat → Prop) : String → State → State → Prop := vx_X (fun _ : Unit => True) (fun _ _ _ => False) A
set_option maxHeartbeats 4000000 in
set_option maxRecDepth 100000 in
theorem c_L_x (l : Launch) (hnt : l.stackTraces = false) (D : va_G) (cI cZ cJ cD : ClassId) (qo : Nat) (qm : Nat) (qb : Nat) (qr : Nat) (qf : Nat) (qw : Nat) (qh : Nat) (fw : Nat → Int32) (fh : Nat → Int32) (lat : Int32) (lon : Int32) (qout : Nat) (fo : Nat → Int64) (sz : Nat)  : vx_Met l yL_x wsL_x rm_L_x (va_Pc [.ref qo, .int lat, .int lon, .ref qout] (zPreWE D cI cZ cJ cD [(qo, .inr (4, [.ref qm, .ref qb, .ref qr, .ref qf])), (qm, .inr (2, [.ref qw, .ref qh])), (qw, .inl (cI, 10, .inl fw)), (qh, .inl (cI, 10, .inl fh)), (qout, .inl (cJ, 1, .inr (.inl fo)))] sz)) (Qc_L_x D cI cZ cJ cD qo qm qb qr qf qw qh fw fh lat lon qout fo (va_A [(qo, .inr (4, [.ref qm, .ref qb, .ref qr, .ref qf])), (qm, .inr (2, [.ref qw, .ref qh])), (qw, .inl (cI, 10, .inl fw)), (qh, .inl (cI, 10, .inl fh)), (qout, .inl (cJ, 1, .inr (.inl fo)))] sz)) (Xc_L_x D cI cZ cJ cD qo qm qb qr qf qw qh fw fh lat lon qout fo (va_A [(qo, .inr (4, [.ref qm, .ref qb, .ref qr, .ref qf])), (qm, .inr (2, [.ref qw, .ref qh])), (qw, .inl (cI, 10, .inl fw)), (qh, .inl (cI, 10, .inl fh)), (qout, .inl (cJ, 1, .inr (.inl fo)))] sz)) 2 12 (va_A [(qo, .inr (4, [.ref qm, .ref qb, .ref qr, .ref qf])), (qm, .inr (2, [.ref qw, .ref qh])), (qw, .inl (cI, 10, .inl fw)), (qh, .inl (cI, 10, .inl fh)), (qout, .inl (cJ, 1, .inr (.inl fo)))] sz) := by
  refine vx_ofWH (cc := cL_x) (maxL := 5) (ret := (some .int)) (hh := [(0, 10, 13, 15)]) (by decide) rfl ?_
  intro p e s m args below meth c s₁ B hml hv
  obtain ⟨rfl, hsz, hP, hK, hD0, hE⟩ := hv
  have hx := B.exec
  have hb := B.bytes
  have hr := B.returns
  have hts := atoms_spec (ws := wsL_x) B.pre
  have hown : s.vm.findClass RL = some m.cls := findClass_of_methodNamed B.named
  have hlocks := B.notSynchronized
  have htab := vx_table (x := yL_x) B (hts _ List.mem_cons_self)
  subst hsz
  have hD := hD0.self (sz := s.heap.size)
  generalize hAe : va_A [(qo, .inr (4, [.ref qm, .ref qb, .ref qr, .ref qf])), (qm, .inr (2, [.ref qw, .ref qh])), (qw, .inl (cI, 10, .inl fw)), (qh, .inl (cI, 10, .inl fh)), (qout, .inl (cJ, 1, .inr (.inl fo)))] s.heap.size = A at hE hD ⊢
  have hA : ∀ q : Nat, s.heap.size ≤ q → A q := fun q h => by rw [← hAe]; exact Or.inr h
  have hS : va_S A s.heap s.heap [] := va_S.rf
  have hl := lv_entry ([.ref qo, .int lat, .int lon, .ref qout]) (n := 5) (Nat.le_of_ble_eq_true rfl)
  rw [lg_entry_eq]
  generalize (lg_sl ([.ref qo, .int lat, .int lon, .ref qout]) ++ List.replicate (5 - (lg_sl ([.ref qo, .int lat, .int lon, .ref qout])).length) Slot.unset).toArray = ls at hl ⊢
  have hl : lv_has ls 5 [(0, .ref qo), (1, .int lat), (2, .int lon), (3, .ref qout)] := hl
  have hP : va_P D vwCl [(qo, .inr (4, [.ref qm, .ref qb, .ref qr, .ref qf])), (qm, .inr (2, [.ref qw, .ref qh])), (qw, .inl (cI, 10, .inl fw)), (qh, .inl (cI, 10, .inl fh)), (qout, .inl (cJ, 1, .inr (.inl fo)))] s.heap := hP
  have hP := hP
  refine lv_aload_n hx hb dL_x_0 rfl (lv_at hl 3 rfl) ?_
  refine lv_iconst (v := 0) hx hb dL_x_1 (by decide) ?_
  refine lv_aload_n hx hb dL_x_2 rfl (lv_at hl 0 rfl) ?_
  refine lv_iload_n hx hb dL_x_3 rfl (lv_at hl 1 rfl) ?_
  refine lv_iload_n hx hb dL_x_4 rfl (lv_at hl 2 rfl) ?_
  refine vx_calli (vx_runV (As := [.int lat, .int lon]) (rest := [.int 0, .ref qout]) ⟨hx, hb, hml, hown, hts⟩ (c_X4_x l hnt D cI cZ cJ cD qo qm qb qr qf qw qh fw fh lat lon ) (cwV 2 hts gL_x_X4_x rfl rfl rfl (by decide +kernel) ⟨Nat.le_of_ble_eq_true rfl, Nat.le_of_ble_eq_true rfl⟩) ⟨zblindE, va_recv hK hP (ci := 4) (q0 := 0) rfl rfl, (fun U hU hW => ⟨rfl, by rw [hU]; exact hP.sub (ws' := [(qo, .inr (4, [.ref qm, .ref qb, .ref qr, .ref qf])), (qm, .inr (2, [.ref qw, .ref qh])), (qw, .inl (cI, 10, .inl fw)), (qh, .inl (cI, 10, .inl fh))]) [0, 1, 2, 3] rfl, va_K.moved hW.alike hK, zEnv.go hE hS (fun q h => h.elim) hU hW⟩)⟩ rfl rfl hl.1 rfl (lv_room (Nat.le_of_ble_eq_true rfl)) dL_x_5 ⟨Nat.le_of_ble_eq_true rfl, Nat.le_of_ble_eq_true rfl⟩) hS (fun q _ h => h.elim) (fun q h => h.elim) (fun q _ h => h.elim) (fun E ce q9 u t H locs ht hvm hpx hB hz1 hk1 hS hq9 hce hcl => ?_) (fun r5 u t H locs ht hvm hw hB hz1 hk1 hS => ?_)
  · have hX := hB
    have hP := zk hP hk1
    have c6 : ¬ k_X4_x fw fh lat lon = 0 := zX_ne hX
    rcases hX with ⟨rfl, hk9⟩ | ⟨rfl, hk9⟩ | ⟨rfl, hk9⟩
    · exact absurd hk9 (by have := kr_X4_x fw fh lat lon; omega)
    · refine vx_catch (own := RL) (name := "java/lang/IllegalArgumentException") (E := "java/lang/IllegalArgumentException") hown [] ⟨0, 10, 13, 15⟩ [] (htab.trans rfl) (fun z hz => absurd hz List.not_mem_nil) rfl (by decide) (hts (.classLink RL 15 "java/lang/IllegalArgumentException") (List.mem_cons_of_mem _ (List.mem_append_left _ (List.mem_append_left _ (List.mem_append_left _ (List.mem_append_left _ (List.mem_of_getElem? (i := 0) rfl))))))) ((hE.2.2.2.1 ("java/lang/IllegalArgumentException", "java/lang/IllegalArgumentException") (by decide)).use rfl) hq9 hce hcl ?_
      refine lv_astore (lv' := [(4, .ref q9), (0, .ref qo), (1, .int lat), (2, .int lon), (3, .ref qout)]) hx hb dL_x_13 hl (by decide) rfl (fun ls hl => ?_)
      refine lv_iconst (v := 1) hx hb dL_x_15 (by decide) ?_
      have e8 : s_L_x fw fh lat lon fo = 1 := by
        unfold s_L_x
        exact (if_neg c6)
      have e9 : n_L_x_qout fw fh lat lon fo = fo := by
        unfold n_L_x_qout
        exact (if_neg c6)
      refine vx_ret ?_
      exact W.iret (v := 1) hx hb hr (fun t ht hW => ⟨⟨_, (), rfl, e8.symm, ⟨(by rw [e9]; rw [ht]; exact hP), va_K.moved hW.alike hK, (by rw [e9]; exact hD)⟩⟩, hS.F ht⟩) hS.2.2 dL_x_16
    · exact absurd hk9 (by have := kr_X4_x fw fh lat lon; omega)
  · obtain ⟨c10, hw⟩ := hw
    rw [hw]
    have hP := zk hP hk1
    refine W.widen (k := 2) (n := 12) (by decide) (by decide) ?_
    refine lv_i2l hx hb dL_x_8 rfl ?_
    refine va_last hx hb hK hP hD hS 4 2 rfl rfl (z_inc (k := 0) rfl (by decide)) dL_x_9 (fun H locs hP hD hS => ?_)
    have hP : va_P D vwCl [(qo, .inr (4, [.ref qm, .ref qb, .ref qr, .ref qf])), (qm, .inr (2, [.ref qw, .ref qh])), (qw, .inl (cI, 10, .inl fw)), (qh, .inl (cI, 10, .inl fh)), (qout, .inl (cJ, 1, .inr (.inl (vp_updL fo (0 : Int32).toNatClampNeg ((s_X4_x fw fh lat lon).toInt64)))))] H := hP
    have hD : va_D A [(qo, .inr (4, [.ref qm, .ref qb, .ref qr, .ref qf])), (qm, .inr (2, [.ref qw, .ref qh])), (qw, .inl (cI, 10, .inl fw)), (qh, .inl (cI, 10, .inl fh)), (qout, .inl (cJ, 1, .inr (.inl (vp_updL fo (0 : Int32).toNatClampNeg ((s_X4_x fw fh lat lon).toInt64)))))] := hD
    refine lv_goto (tgt := 17) hx hb dL_x_10 (by decide) ?_
    refine lv_iconst (v := 0) hx hb dL_x_17 (by decide) ?_
    have e11 : s_L_x fw fh lat lon fo = 0 := by
      unfold s_L_x
      exact (if_pos c10)
    have e12 : n_L_x_qout fw fh lat lon fo = vp_updL fo (0 : Int32).toNatClampNeg ((s_X4_x fw fh lat lon).toInt64) := by
      unfold n_L_x_qout
      exact (if_pos c10)
    refine vx_ret ?_
    exact W.iret (v := 0) hx hb hr (fun t ht hW => ⟨⟨_, (), rfl, e11.symm, ⟨(by rw [e12]; rw [ht]; exact hP), va_K.moved hW.alike hK, (by rw [e12]; exact hD)⟩⟩, hS.F ht⟩) hS.2.2 dL_x_18
def s_L_y (fw : Nat → Int32) (fh : Nat → Int32) (lat : Int32) (fo : Nat → Int64) : Int32 := (if k_X4_y fw fh lat = 0 then 0 else 1)
def n_L_y_qout (fw : Nat → Int32) (fh : Nat → Int32) (lat : Int32) (fo : Nat → Int64) : Nat → Int64 := (if k_X4_y fw fh lat = 0 then vp_updL fo (0 : Int32).toNatClampNeg ((s_X4_y fw fh lat).toInt64) else fo)
abbrev rm_L_y : Room := { frames := 8, cells := 1, slots := 6, locals := 131 }
abbrev Qc_L_y (D : va_G) (cI cZ cJ cD : ClassId) (qo : Nat) (qm : Nat) (qb : Nat) (qr : Nat) (qf : Nat) (qw : Nat) (qh : Nat) (fw : Nat → Int32) (fh : Nat → Int32) (lat : Int32) (qout : Nat) (fo : Nat → Int64) (A : Nat → Prop) : Array Value → State → Outcome → State → Prop := va_Qi (fun (r : Int32) (_ : Unit) => r = s_L_y fw fh lat fo) (zPost D cI cZ cJ cD A [(qo, .inr (4, [.ref qm, .ref qb, .ref qr, .ref qf])), (qm, .inr (2, [.ref qw, .ref qh])), (qw, .inl (cI, 10, .inl fw)), (qh, .inl (cI, 10, .inl fh)), (qout, .inl (cJ, 1, .inr (.inl (n_L_y_qout fw fh lat fo))))]) A
abbrev Xc_L_y (D : va_G) (cI cZ cJ cD : ClassId) (qo : Nat) (qm : Nat) (qb : Nat) (qr : Nat) (qf : Nat) (qw : Nat) (qh : Nat) (fw : Nat → Int32) (fh : Nat → Int32) (lat : Int32) (qout : Nat) (fo : Nat → Int64) (A : Nat → Prop) : String → State → State → Prop := vx_X (fun _ : Unit => True) (fun _ _ _ => False) A
set_option maxHeartbeats 4000000 in
set_option maxRecDepth 100000 in
theorem c_L_y (l : Launch) (hnt : l.stackTraces = false) (D : va_G) (cI cZ cJ cD : ClassId) (qo : Nat) (qm : Nat) (qb : Nat) (qr : Nat) (qf : Nat) (qw : Nat) (qh : Nat) (fw : Nat → Int32) (fh : Nat → Int32) (lat : Int32) (qout : Nat) (fo : Nat → Int64) (sz : Nat)  : vx_Met l yL_y wsL_y rm_L_y (va_Pc [.ref qo, .int lat, .ref qout] (zPreWE D cI cZ cJ cD [(qo, .inr (4, [.ref qm, .ref qb, .ref qr, .ref qf])), (qm, .inr (2, [.ref qw, .ref qh])), (qw, .inl (cI, 10, .inl fw)), (qh, .inl (cI, 10, .inl fh)), (qout, .inl (cJ, 1, .inr (.inl fo)))] sz)) (Qc_L_y D cI cZ cJ cD qo qm qb qr qf qw qh fw fh lat qout fo (va_A [(qo, .inr (4, [.ref qm, .ref qb, .ref qr, .ref qf])), (qm, .inr (2, [.ref qw, .ref qh])), (qw, .inl (cI, 10, .inl fw)), (qh, .inl (cI, 10, .inl fh)), (qout, .inl (cJ, 1, .inr (.inl fo)))] sz)) (Xc_L_y D cI cZ cJ cD qo qm qb qr qf qw qh fw fh lat qout fo (va_A [(qo, .inr (4, [.ref qm, .ref qb, .ref qr, .ref qf])), (qm, .inr (2, [.ref qw, .ref qh])), (qw, .inl (cI, 10, .inl fw)), (qh, .inl (cI, 10, .inl fh)), (qout, .inl (cJ, 1, .inr (.inl fo)))] sz)) 1 6 (va_A [(qo, .inr (4, [.ref qm, .ref qb, .ref qr, .ref qf])), (qm, .inr (2, [.ref qw, .ref qh])), (qw, .inl (cI, 10, .inl fw)), (qh, .inl (cI, 10, .inl fh)), (qout, .inl (cJ, 1, .inr (.inl fo)))] sz) := by
  refine vx_ofWH (cc := cL_y) (maxL := 4) (ret := (some .int)) (hh := [(0, 9, 12, 15)]) (by decide) rfl ?_
  intro p e s m args below meth c s₁ B hml hv
  obtain ⟨rfl, hsz, hP, hK, hD0, hE⟩ := hv
  have hx := B.exec
  have hb := B.bytes
  have hr := B.returns
  have hts := atoms_spec (ws := wsL_y) B.pre
  have hown : s.vm.findClass RL = some m.cls := findClass_of_methodNamed B.named
  have hlocks := B.notSynchronized
  have htab := vx_table (x := yL_y) B (hts _ List.mem_cons_self)
  subst hsz
  have hD := hD0.self (sz := s.heap.size)
  generalize hAe : va_A [(qo, .inr (4, [.ref qm, .ref qb, .ref qr, .ref qf])), (qm, .inr (2, [.ref qw, .ref qh])), (qw, .inl (cI, 10, .inl fw)), (qh, .inl (cI, 10, .inl fh)), (qout, .inl (cJ, 1, .inr (.inl fo)))] s.heap.size = A at hE hD ⊢
  have hA : ∀ q : Nat, s.heap.size ≤ q → A q := fun q h => by rw [← hAe]; exact Or.inr h
  have hS : va_S A s.heap s.heap [] := va_S.rf
  have hl := lv_entry ([.ref qo, .int lat, .ref qout]) (n := 4) (Nat.le_of_ble_eq_true rfl)
  rw [lg_entry_eq]
  generalize (lg_sl ([.ref qo, .int lat, .ref qout]) ++ List.replicate (4 - (lg_sl ([.ref qo, .int lat, .ref qout])).length) Slot.unset).toArray = ls at hl ⊢
  have hl : lv_has ls 4 [(0, .ref qo), (1, .int lat), (2, .ref qout)] := hl
  have hP : va_P D vwCl [(qo, .inr (4, [.ref qm, .ref qb, .ref qr, .ref qf])), (qm, .inr (2, [.ref qw, .ref qh])), (qw, .inl (cI, 10, .inl fw)), (qh, .inl (cI, 10, .inl fh)), (qout, .inl (cJ, 1, .inr (.inl fo)))] s.heap := hP
  have hP := hP
  refine lv_aload_n hx hb dL_y_0 rfl (lv_at hl 2 rfl) ?_
  refine lv_iconst (v := 0) hx hb dL_y_1 (by decide) ?_
  refine lv_aload_n hx hb dL_y_2 rfl (lv_at hl 0 rfl) ?_
  refine lv_iload_n hx hb dL_y_3 rfl (lv_at hl 1 rfl) ?_
  refine vx_calli (vx_runV (As := [.int lat]) (rest := [.int 0, .ref qout]) ⟨hx, hb, hml, hown, hts⟩ (c_X4_y l hnt D cI cZ cJ cD qo qm qb qr qf qw qh fw fh lat ) (cwV 1 hts gL_y_X4_y rfl rfl rfl (by decide +kernel) ⟨Nat.le_of_ble_eq_true rfl, Nat.le_of_ble_eq_true rfl⟩) ⟨zblindE, va_recv hK hP (ci := 4) (q0 := 0) rfl rfl, (fun U hU hW => ⟨rfl, by rw [hU]; exact hP.sub (ws' := [(qo, .inr (4, [.ref qm, .ref qb, .ref qr, .ref qf])), (qm, .inr (2, [.ref qw, .ref qh])), (qw, .inl (cI, 10, .inl fw)), (qh, .inl (cI, 10, .inl fh))]) [0, 1, 2, 3] rfl, va_K.moved hW.alike hK, zEnv.go hE hS (fun q h => h.elim) hU hW⟩)⟩ rfl rfl hl.1 rfl (lv_room (Nat.le_of_ble_eq_true rfl)) dL_y_4 ⟨Nat.le_of_ble_eq_true rfl, Nat.le_of_ble_eq_true rfl⟩) hS (fun q _ h => h.elim) (fun q h => h.elim) (fun q _ h => h.elim) (fun E ce q9 u t H locs ht hvm hpx hB hz1 hk1 hS hq9 hce hcl => ?_) (fun r5 u t H locs ht hvm hw hB hz1 hk1 hS => ?_)
  · have hX := hB
    have hP := zk hP hk1
    have c6 : ¬ k_X4_y fw fh lat = 0 := zX_ne hX
    rcases hX with ⟨rfl, hk9⟩ | ⟨rfl, hk9⟩ | ⟨rfl, hk9⟩
    · exact absurd hk9 (by have := kr_X4_y fw fh lat; omega)
    · refine vx_catch (own := RL) (name := "java/lang/IllegalArgumentException") (E := "java/lang/IllegalArgumentException") hown [] ⟨0, 9, 12, 15⟩ [] (htab.trans rfl) (fun z hz => absurd hz List.not_mem_nil) rfl (by decide) (hts (.classLink RL 15 "java/lang/IllegalArgumentException") (List.mem_cons_of_mem _ (List.mem_append_left _ (List.mem_append_left _ (List.mem_append_left _ (List.mem_append_left _ (List.mem_of_getElem? (i := 0) rfl))))))) ((hE.2.2.2.1 ("java/lang/IllegalArgumentException", "java/lang/IllegalArgumentException") (by decide)).use rfl) hq9 hce hcl ?_
      refine lv_astore_n (lv' := [(3, .ref q9), (0, .ref qo), (1, .int lat), (2, .ref qout)]) hx hb dL_y_12 rfl hl (by decide) rfl (fun ls hl => ?_)
      refine lv_iconst (v := 1) hx hb dL_y_13 (by decide) ?_
      have e8 : s_L_y fw fh lat fo = 1 := by
        unfold s_L_y
        exact (if_neg c6)
      have e9 : n_L_y_qout fw fh lat fo = fo := by
        unfold n_L_y_qout
        exact (if_neg c6)
      refine vx_ret ?_
      exact W.iret (v := 1) hx hb hr (fun t ht hW => ⟨⟨_, (), rfl, e8.symm, ⟨(by rw [e9]; rw [ht]; exact hP), va_K.moved hW.alike hK, (by rw [e9]; exact hD)⟩⟩, hS.F ht⟩) hS.2.2 dL_y_14
    · exact absurd hk9 (by have := kr_X4_y fw fh lat; omega)
  · obtain ⟨c10, hw⟩ := hw
    rw [hw]
    have hP := zk hP hk1
    refine W.widen (k := 1) (n := 6) (by decide) (by decide) ?_
    refine lv_i2l hx hb dL_y_7 rfl ?_
    refine va_last hx hb hK hP hD hS 4 2 rfl rfl (z_inc (k := 0) rfl (by decide)) dL_y_8 (fun H locs hP hD hS => ?_)
    have hP : va_P D vwCl [(qo, .inr (4, [.ref qm, .ref qb, .ref qr, .ref qf])), (qm, .inr (2, [.ref qw, .ref qh])), (qw, .inl (cI, 10, .inl fw)), (qh, .inl (cI, 10, .inl fh)), (qout, .inl (cJ, 1, .inr (.inl (vp_updL fo (0 : Int32).toNatClampNeg ((s_X4_y fw fh lat).toInt64)))))] H := hP
    have hD : va_D A [(qo, .inr (4, [.ref qm, .ref qb, .ref qr, .ref qf])), (qm, .inr (2, [.ref qw, .ref qh])), (qw, .inl (cI, 10, .inl fw)), (qh, .inl (cI, 10, .inl fh)), (qout, .inl (cJ, 1, .inr (.inl (vp_updL fo (0 : Int32).toNatClampNeg ((s_X4_y fw fh lat).toInt64)))))] := hD
    refine lv_goto (tgt := 15) hx hb dL_y_9 (by decide) ?_
    refine lv_iconst (v := 0) hx hb dL_y_15 (by decide) ?_
    have e11 : s_L_y fw fh lat fo = 0 := by
      unfold s_L_y
      exact (if_pos c10)
    have e12 : n_L_y_qout fw fh lat fo = vp_updL fo (0 : Int32).toNatClampNeg ((s_X4_y fw fh lat).toInt64) := by
      unfold n_L_y_qout
      exact (if_pos c10)
    refine vx_ret ?_
    exact W.iret (v := 0) hx hb hr (fun t ht hW => ⟨⟨_, (), rfl, e11.symm, ⟨(by rw [e12]; rw [ht]; exact hP), va_K.moved hW.alike hK, (by rw [e12]; exact hD)⟩⟩, hS.F ht⟩) hS.2.2 dL_y_16
def s_L_latitudeAt (fw : Nat → Int32) (fh : Nat → Int32) (hgt : Int32) (fo : Nat → Int64) : Int32 := (if k_X4_latitudeAt fw fh hgt = 0 then 0 else (if k_X4_latitudeAt fw fh hgt = 2 then 1 else 2))
def n_L_latitudeAt_qout (fw : Nat → Int32) (fh : Nat → Int32) (hgt : Int32) (fo : Nat → Int64) : Nat → Int64 := (if k_X4_latitudeAt fw fh hgt = 0 then vp_updL fo (0 : Int32).toNatClampNeg ((s_X4_latitudeAt fw fh hgt).toInt64) else fo)
abbrev rm_L_latitudeAt : Room := { frames := 7, cells := 1, slots := 6, locals := 112 }
abbrev Qc_L_latitudeAt (D : va_G) (cI cZ cJ cD : ClassId) (qo : Nat) (qm : Nat) (qb : Nat) (qr : Nat) (qf : Nat) (qw : Nat) (qh : Nat) (fw : Nat → Int32) (fh : Nat → Int32) (hgt : Int32) (qout : Nat) (fo : Nat → Int64) (A : Nat → Prop) : Array Value → State → Outcome → State → Prop := va_Qi (fun (r : Int32) (_ : Unit) => r = s_L_latitudeAt fw fh hgt fo) (zPost D cI cZ cJ cD A [(qo, .inr (4, [.ref qm, .ref qb, .ref qr, .ref qf])), (qm, .inr (2, [.ref qw, .ref qh])), (qw, .inl (cI, 10, .inl fw)), (qh, .inl (cI, 10, .inl fh)), (qout, .inl (cJ, 1, .inr (.inl (n_L_latitudeAt_qout fw fh hgt fo))))]) A
abbrev Xc_L_latitudeAt (D : va_G) (cI cZ cJ cD : ClassId) (qo : Nat) (qm : Nat) (qb : Nat) (qr : Nat) (qf : Nat) (qw : Nat) (qh : Nat) (fw : Nat → Int32) (fh : Nat → Int32) (hgt : Int32) (qout : Nat) (fo : Nat → Int64) (A : Nat → Prop) : String → State → State → Prop := vx_X (fun _ : Unit => True) (fun _ _ _ => False) A
set_option maxHeartbeats 4000000 in
set_option maxRecDepth 100000 in
theorem c_L_latitudeAt (l : Launch) (hnt : l.stackTraces = false) (D : va_G) (cI cZ cJ cD : ClassId) (qo : Nat) (qm : Nat) (qb : Nat) (qr : Nat) (qf : Nat) (qw : Nat) (qh : Nat) (fw : Nat → Int32) (fh : Nat → Int32) (hgt : Int32) (qout : Nat) (fo : Nat → Int64) (sz : Nat)  : vx_Met l yL_latitudeAt wsL_latitudeAt rm_L_latitudeAt (va_Pc [.ref qo, .int hgt, .ref qout] (zPreWE D cI cZ cJ cD [(qo, .inr (4, [.ref qm, .ref qb, .ref qr, .ref qf])), (qm, .inr (2, [.ref qw, .ref qh])), (qw, .inl (cI, 10, .inl fw)), (qh, .inl (cI, 10, .inl fh)), (qout, .inl (cJ, 1, .inr (.inl fo)))] sz)) (Qc_L_latitudeAt D cI cZ cJ cD qo qm qb qr qf qw qh fw fh hgt qout fo (va_A [(qo, .inr (4, [.ref qm, .ref qb, .ref qr, .ref qf])), (qm, .inr (2, [.ref qw, .ref qh])), (qw, .inl (cI, 10, .inl fw)), (qh, .inl (cI, 10, .inl fh)), (qout, .inl (cJ, 1, .inr (.inl fo)))] sz)) (Xc_L_latitudeAt D cI cZ cJ cD qo qm qb qr qf qw qh fw fh hgt qout fo (va_A [(qo, .inr (4, [.ref qm, .ref qb, .ref qr, .ref qf])), (qm, .inr (2, [.ref qw, .ref qh])), (qw, .inl (cI, 10, .inl fw)), (qh, .inl (cI, 10, .inl fh)), (qout, .inl (cJ, 1, .inr (.inl fo)))] sz)) 1 6 (va_A [(qo, .inr (4, [.ref qm, .ref qb, .ref qr, .ref qf])), (qm, .inr (2, [.ref qw, .ref qh])), (qw, .inl (cI, 10, .inl fw)), (qh, .inl (cI, 10, .inl fh)), (qout, .inl (cJ, 1, .inr (.inl fo)))] sz) := by
  refine vx_ofWH (cc := cL_latitudeAt) (maxL := 4) (ret := (some .int)) (hh := [(0, 9, 12, 15), (0, 9, 15, 17)]) (by decide) rfl ?_
  intro p e s m args below meth c s₁ B hml hv
  obtain ⟨rfl, hsz, hP, hK, hD0, hE⟩ := hv
  have hx := B.exec
  have hb := B.bytes
  have hr := B.returns
  have hts := atoms_spec (ws := wsL_latitudeAt) B.pre
  have hown : s.vm.findClass RL = some m.cls := findClass_of_methodNamed B.named
  have hlocks := B.notSynchronized
  have htab := vx_table (x := yL_latitudeAt) B (hts _ List.mem_cons_self)
  subst hsz
  have hD := hD0.self (sz := s.heap.size)
  generalize hAe : va_A [(qo, .inr (4, [.ref qm, .ref qb, .ref qr, .ref qf])), (qm, .inr (2, [.ref qw, .ref qh])), (qw, .inl (cI, 10, .inl fw)), (qh, .inl (cI, 10, .inl fh)), (qout, .inl (cJ, 1, .inr (.inl fo)))] s.heap.size = A at hE hD ⊢
  have hA : ∀ q : Nat, s.heap.size ≤ q → A q := fun q h => by rw [← hAe]; exact Or.inr h
  have hS : va_S A s.heap s.heap [] := va_S.rf
  have hl := lv_entry ([.ref qo, .int hgt, .ref qout]) (n := 4) (Nat.le_of_ble_eq_true rfl)
  rw [lg_entry_eq]
  generalize (lg_sl ([.ref qo, .int hgt, .ref qout]) ++ List.replicate (4 - (lg_sl ([.ref qo, .int hgt, .ref qout])).length) Slot.unset).toArray = ls at hl ⊢
  have hl : lv_has ls 4 [(0, .ref qo), (1, .int hgt), (2, .ref qout)] := hl
  have hP : va_P D vwCl [(qo, .inr (4, [.ref qm, .ref qb, .ref qr, .ref qf])), (qm, .inr (2, [.ref qw, .ref qh])), (qw, .inl (cI, 10, .inl fw)), (qh, .inl (cI, 10, .inl fh)), (qout, .inl (cJ, 1, .inr (.inl fo)))] s.heap := hP
  have hP := hP
  refine lv_aload_n hx hb dL_latitudeAt_0 rfl (lv_at hl 2 rfl) ?_
  refine lv_iconst (v := 0) hx hb dL_latitudeAt_1 (by decide) ?_
  refine lv_aload_n hx hb dL_latitudeAt_2 rfl (lv_at hl 0 rfl) ?_
  refine lv_iload_n hx hb dL_latitudeAt_3 rfl (lv_at hl 1 rfl) ?_
  refine vx_calli (vx_runV (As := [.int hgt]) (rest := [.int 0, .ref qout]) ⟨hx, hb, hml, hown, hts⟩ (c_X4_latitudeAt l hnt D cI cZ cJ cD qo qm qb qr qf qw qh fw fh hgt ) (cwV 1 hts gL_latitudeAt_X4_latitudeAt rfl rfl rfl (by decide +kernel) ⟨Nat.le_of_ble_eq_true rfl, Nat.le_of_ble_eq_true rfl⟩) ⟨zblindE, va_recv hK hP (ci := 4) (q0 := 0) rfl rfl, (fun U hU hW => ⟨rfl, by rw [hU]; exact hP.sub (ws' := [(qo, .inr (4, [.ref qm, .ref qb, .ref qr, .ref qf])), (qm, .inr (2, [.ref qw, .ref qh])), (qw, .inl (cI, 10, .inl fw)), (qh, .inl (cI, 10, .inl fh))]) [0, 1, 2, 3] rfl, va_K.moved hW.alike hK, zEnv.go hE hS (fun q h => h.elim) hU hW⟩)⟩ rfl rfl hl.1 rfl (lv_room (Nat.le_of_ble_eq_true rfl)) dL_latitudeAt_4 ⟨Nat.le_of_ble_eq_true rfl, Nat.le_of_ble_eq_true rfl⟩) hS (fun q _ h => h.elim) (fun q h => h.elim) (fun q _ h => h.elim) (fun E ce q9 u t H locs ht hvm hpx hB hz1 hk1 hS hq9 hce hcl => ?_) (fun r7 u t H locs ht hvm hw hB hz1 hk1 hS => ?_)
  · have hX := hB
    have hP := zk hP hk1
    have c8 : ¬ k_X4_latitudeAt fw fh hgt = 0 := zX_ne hX
    rcases hX with ⟨rfl, hk9⟩ | ⟨rfl, hk9⟩ | ⟨rfl, hk9⟩
    · exact absurd hk9 (by have := kr_X4_latitudeAt fw fh hgt; omega)
    · have c9 : k_X4_latitudeAt fw fh hgt = 2 := hk9
      refine vx_catch (own := RL) (name := "java/lang/IllegalArgumentException") (E := "java/lang/IllegalArgumentException") hown [] ⟨0, 9, 12, 15⟩ [⟨0, 9, 15, 17⟩] (htab.trans rfl) (fun z hz => absurd hz List.not_mem_nil) rfl (by decide) (hts (.classLink RL 15 "java/lang/IllegalArgumentException") (List.mem_cons_of_mem _ (List.mem_append_left _ (List.mem_append_left _ (List.mem_append_left _ (List.mem_append_left _ (List.mem_append_left _ (List.mem_of_getElem? (i := 0) rfl)))))))) ((hE.2.2.2.1 ("java/lang/IllegalArgumentException", "java/lang/IllegalArgumentException") (by decide)).use rfl) hq9 hce hcl ?_
      refine lv_astore_n (lv' := [(3, .ref q9), (0, .ref qo), (1, .int hgt), (2, .ref qout)]) hx hb dL_latitudeAt_12 rfl hl (by decide) rfl (fun ls hl => ?_)
      refine lv_iconst (v := 1) hx hb dL_latitudeAt_13 (by decide) ?_
      have e10 : s_L_latitudeAt fw fh hgt fo = 1 := by
        unfold s_L_latitudeAt
        exact ((if_neg c8).trans (if_pos c9))
      have e11 : n_L_latitudeAt_qout fw fh hgt fo = fo := by
        unfold n_L_latitudeAt_qout
        exact (if_neg c8)
      refine vx_ret ?_
      exact W.iret (v := 1) hx hb hr (fun t ht hW => ⟨⟨_, (), rfl, e10.symm, ⟨(by rw [e11]; rw [ht]; exact hP), va_K.moved hW.alike hK, (by rw [e11]; exact hD)⟩⟩, hS.F ht⟩) hS.2.2 dL_latitudeAt_14
    · have c12 : ¬ k_X4_latitudeAt fw fh hgt = 2 := by omega
      refine vx_catch (own := RL) (name := "java/lang/IllegalStateException") (E := "java/lang/IllegalStateException") hown [⟨0, 9, 12, 15⟩] ⟨0, 9, 15, 17⟩ [] (htab.trans rfl) (fun z hz => (List.mem_cons.mp hz).elim (fun e9 => by rw [e9]; exact Or.inr ⟨by decide, "java/lang/IllegalArgumentException", (hts (.classLink RL 15 "java/lang/IllegalArgumentException") (List.mem_cons_of_mem _ (List.mem_append_left _ (List.mem_append_left _ (List.mem_append_left _ (List.mem_append_left _ (List.mem_append_left _ (List.mem_of_getElem? (i := 0) rfl)))))))), hE.2.2.2.2.1 ("java/lang/IllegalStateException", "java/lang/IllegalArgumentException") (by decide)⟩) (fun hz => absurd hz List.not_mem_nil)) rfl (by decide) (hts (.classLink RL 17 "java/lang/IllegalStateException") (List.mem_cons_of_mem _ (List.mem_append_left _ (List.mem_append_left _ (List.mem_append_left _ (List.mem_append_left _ (List.mem_append_left _ (List.mem_of_getElem? (i := 1) rfl)))))))) ((hE.2.2.2.1 ("java/lang/IllegalStateException", "java/lang/IllegalStateException") (by decide)).use rfl) hq9 hce hcl ?_
      refine lv_astore_n (lv' := [(3, .ref q9), (0, .ref qo), (1, .int hgt), (2, .ref qout)]) hx hb dL_latitudeAt_15 rfl hl (by decide) rfl (fun ls hl => ?_)
      refine lv_iconst (v := 2) hx hb dL_latitudeAt_16 (by decide) ?_
      have e14 : s_L_latitudeAt fw fh hgt fo = 2 := by
        unfold s_L_latitudeAt
        exact ((if_neg c8).trans (if_neg c12))
      have e15 : n_L_latitudeAt_qout fw fh hgt fo = fo := by
        unfold n_L_latitudeAt_qout
        exact (if_neg c8)
      refine vx_ret ?_
      exact W.iret (v := 2) hx hb hr (fun t ht hW => ⟨⟨_, (), rfl, e14.symm, ⟨(by rw [e15]; rw [ht]; exact hP), va_K.moved hW.alike hK, (by rw [e15]; exact hD)⟩⟩, hS.F ht⟩) hS.2.2 dL_latitudeAt_17
  · obtain ⟨c16, hw⟩ := hw
    rw [hw]
    have hP := zk hP hk1
    refine W.widen (k := 1) (n := 6) (by decide) (by decide) ?_
    refine lv_i2l hx hb dL_latitudeAt_7 rfl ?_
    refine va_last hx hb hK hP hD hS 4 2 rfl rfl (z_inc (k := 0) rfl (by decide)) dL_latitudeAt_8 (fun H locs hP hD hS => ?_)
    have hP : va_P D vwCl [(qo, .inr (4, [.ref qm, .ref qb, .ref qr, .ref qf])), (qm, .inr (2, [.ref qw, .ref qh])), (qw, .inl (cI, 10, .inl fw)), (qh, .inl (cI, 10, .inl fh)), (qout, .inl (cJ, 1, .inr (.inl (vp_updL fo (0 : Int32).toNatClampNeg ((s_X4_latitudeAt fw fh hgt).toInt64)))))] H := hP
    have hD : va_D A [(qo, .inr (4, [.ref qm, .ref qb, .ref qr, .ref qf])), (qm, .inr (2, [.ref qw, .ref qh])), (qw, .inl (cI, 10, .inl fw)), (qh, .inl (cI, 10, .inl fh)), (qout, .inl (cJ, 1, .inr (.inl (vp_updL fo (0 : Int32).toNatClampNeg ((s_X4_latitudeAt fw fh hgt).toInt64)))))] := hD
    refine lv_goto (tgt := 18) hx hb dL_latitudeAt_9 (by decide) ?_
    refine lv_iconst (v := 0) hx hb dL_latitudeAt_18 (by decide) ?_
    have e17 : s_L_latitudeAt fw fh hgt fo = 0 := by
      unfold s_L_latitudeAt
      exact (if_pos c16)
    have e18 : n_L_latitudeAt_qout fw fh hgt fo = vp_updL fo (0 : Int32).toNatClampNeg ((s_X4_latitudeAt fw fh hgt).toInt64) := by
      unfold n_L_latitudeAt_qout
      exact (if_pos c16)
    refine vx_ret ?_
    exact W.iret (v := 0) hx hb hr (fun t ht hW => ⟨⟨_, (), rfl, e17.symm, ⟨(by rw [e18]; rw [ht]; exact hP), va_K.moved hW.alike hK, (by rw [e18]; exact hD)⟩⟩, hS.F ht⟩) hS.2.2 dL_latitudeAt_19
def s_L_area (fw : Nat → Int32) (fh : Nat → Int32) (so : Int32) (no : Int32) (we : Int32) (ea : Int32) (fo : Nat → Int64) : Int32 := (if k_X4_area fw fh so no we ea = 0 then 0 else 1)
def n_L_area_qout (fw : Nat → Int32) (fh : Nat → Int32) (so : Int32) (no : Int32) (we : Int32) (ea : Int32) (fo : Nat → Int64) : Nat → Int64 := (if k_X4_area fw fh so no we ea = 0 then vp_updL fo (0 : Int32).toNatClampNeg (s_X4_area fw fh so no we ea) else fo)
abbrev rm_L_area : Room := { frames := 7, cells := 1, slots := 6, locals := 139 }
abbrev Qc_L_area (D : va_G) (cI cZ cJ cD : ClassId) (qo : Nat) (qm : Nat) (qb : Nat) (qr : Nat) (qf : Nat) (qw : Nat) (qh : Nat) (fw : Nat → Int32) (fh : Nat → Int32) (so : Int32) (no : Int32) (we : Int32) (ea : Int32) (qout : Nat) (fo : Nat → Int64) (A : Nat → Prop) : Array Value → State → Outcome → State → Prop := va_Qi (fun (r : Int32) (_ : Unit) => r = s_L_area fw fh so no we ea fo) (zPost D cI cZ cJ cD A [(qo, .inr (4, [.ref qm, .ref qb, .ref qr, .ref qf])), (qm, .inr (2, [.ref qw, .ref qh])), (qw, .inl (cI, 10, .inl fw)), (qh, .inl (cI, 10, .inl fh)), (qout, .inl (cJ, 1, .inr (.inl (n_L_area_qout fw fh so no we ea fo))))]) A
abbrev Xc_L_area (D : va_G) (cI cZ cJ cD : ClassId) (qo : Nat) (qm : Nat) (qb : Nat) (qr : Nat) (qf : Nat) (qw : Nat) (qh : Nat) (fw : Nat → Int32) (fh : Nat → Int32) (so : Int32) (no : Int32) (we : Int32) (ea : Int32) (qout : Nat) (fo : Nat → Int64) (A : Nat → Prop) : String → State → State → Prop := vx_X (fun _ : Unit => True) (fun _ _ _ => False) A
set_option maxHeartbeats 4000000 in
set_option maxRecDepth 100000 in
theorem c_L_area (l : Launch) (hnt : l.stackTraces = false) (D : va_G) (cI cZ cJ cD : ClassId) (qo : Nat) (qm : Nat) (qb : Nat) (qr : Nat) (qf : Nat) (qw : Nat) (qh : Nat) (fw : Nat → Int32) (fh : Nat → Int32) (so : Int32) (no : Int32) (we : Int32) (ea : Int32) (qout : Nat) (fo : Nat → Int64) (sz : Nat)  : vx_Met l yL_area wsL_area rm_L_area (va_Pc [.ref qo, .int so, .int no, .int we, .int ea, .ref qout] (zPreWE D cI cZ cJ cD [(qo, .inr (4, [.ref qm, .ref qb, .ref qr, .ref qf])), (qm, .inr (2, [.ref qw, .ref qh])), (qw, .inl (cI, 10, .inl fw)), (qh, .inl (cI, 10, .inl fh)), (qout, .inl (cJ, 1, .inr (.inl fo)))] sz)) (Qc_L_area D cI cZ cJ cD qo qm qb qr qf qw qh fw fh so no we ea qout fo (va_A [(qo, .inr (4, [.ref qm, .ref qb, .ref qr, .ref qf])), (qm, .inr (2, [.ref qw, .ref qh])), (qw, .inl (cI, 10, .inl fw)), (qh, .inl (cI, 10, .inl fh)), (qout, .inl (cJ, 1, .inr (.inl fo)))] sz)) (Xc_L_area D cI cZ cJ cD qo qm qb qr qf qw qh fw fh so no we ea qout fo (va_A [(qo, .inr (4, [.ref qm, .ref qb, .ref qr, .ref qf])), (qm, .inr (2, [.ref qw, .ref qh])), (qw, .inl (cI, 10, .inl fw)), (qh, .inl (cI, 10, .inl fh)), (qout, .inl (cJ, 1, .inr (.inl fo)))] sz)) 1 6 (va_A [(qo, .inr (4, [.ref qm, .ref qb, .ref qr, .ref qf])), (qm, .inr (2, [.ref qw, .ref qh])), (qw, .inl (cI, 10, .inl fw)), (qh, .inl (cI, 10, .inl fh)), (qout, .inl (cJ, 1, .inr (.inl fo)))] sz) := by
  refine vx_ofWH (cc := cL_area) (maxL := 7) (ret := (some .int)) (hh := [(0, 13, 16, 15)]) (by decide) rfl ?_
  intro p e s m args below meth c s₁ B hml hv
  obtain ⟨rfl, hsz, hP, hK, hD0, hE⟩ := hv
  have hx := B.exec
  have hb := B.bytes
  have hr := B.returns
  have hts := atoms_spec (ws := wsL_area) B.pre
  have hown : s.vm.findClass RL = some m.cls := findClass_of_methodNamed B.named
  have hlocks := B.notSynchronized
  have htab := vx_table (x := yL_area) B (hts _ List.mem_cons_self)
  subst hsz
  have hD := hD0.self (sz := s.heap.size)
  generalize hAe : va_A [(qo, .inr (4, [.ref qm, .ref qb, .ref qr, .ref qf])), (qm, .inr (2, [.ref qw, .ref qh])), (qw, .inl (cI, 10, .inl fw)), (qh, .inl (cI, 10, .inl fh)), (qout, .inl (cJ, 1, .inr (.inl fo)))] s.heap.size = A at hE hD ⊢
  have hA : ∀ q : Nat, s.heap.size ≤ q → A q := fun q h => by rw [← hAe]; exact Or.inr h
  have hS : va_S A s.heap s.heap [] := va_S.rf
  have hl := lv_entry ([.ref qo, .int so, .int no, .int we, .int ea, .ref qout]) (n := 7) (Nat.le_of_ble_eq_true rfl)
  rw [lg_entry_eq]
  generalize (lg_sl ([.ref qo, .int so, .int no, .int we, .int ea, .ref qout]) ++ List.replicate (7 - (lg_sl ([.ref qo, .int so, .int no, .int we, .int ea, .ref qout])).length) Slot.unset).toArray = ls at hl ⊢
  have hl : lv_has ls 7 [(0, .ref qo), (1, .int so), (2, .int no), (3, .int we), (4, .int ea), (5, .ref qout)] := hl
  have hP : va_P D vwCl [(qo, .inr (4, [.ref qm, .ref qb, .ref qr, .ref qf])), (qm, .inr (2, [.ref qw, .ref qh])), (qw, .inl (cI, 10, .inl fw)), (qh, .inl (cI, 10, .inl fh)), (qout, .inl (cJ, 1, .inr (.inl fo)))] s.heap := hP
  have hP := hP
  refine lv_aload hx hb dL_area_0 (lv_at hl 5 rfl) ?_
  refine lv_iconst (v := 0) hx hb dL_area_2 (by decide) ?_
  refine lv_aload_n hx hb dL_area_3 rfl (lv_at hl 0 rfl) ?_
  refine lv_iload_n hx hb dL_area_4 rfl (lv_at hl 1 rfl) ?_
  refine lv_iload_n hx hb dL_area_5 rfl (lv_at hl 2 rfl) ?_
  refine lv_iload_n hx hb dL_area_6 rfl (lv_at hl 3 rfl) ?_
  refine lv_iload hx hb dL_area_7 (lv_at hl 4 rfl) ?_
  refine vx_calll (vx_runV (As := [.int so, .int no, .int we, .int ea]) (rest := [.int 0, .ref qout]) ⟨hx, hb, hml, hown, hts⟩ (c_X4_area l hnt D cI cZ cJ cD qo qm qb qr qf qw qh fw fh so no we ea ) (cwV 4 hts gL_area_X4_area rfl rfl rfl (by decide +kernel) ⟨Nat.le_of_ble_eq_true rfl, Nat.le_of_ble_eq_true rfl⟩) ⟨zblindE, va_recv hK hP (ci := 4) (q0 := 0) rfl rfl, (fun U hU hW => ⟨rfl, by rw [hU]; exact hP.sub (ws' := [(qo, .inr (4, [.ref qm, .ref qb, .ref qr, .ref qf])), (qm, .inr (2, [.ref qw, .ref qh])), (qw, .inl (cI, 10, .inl fw)), (qh, .inl (cI, 10, .inl fh))]) [0, 1, 2, 3] rfl, va_K.moved hW.alike hK, zEnv.go hE hS (fun q h => h.elim) hU hW⟩)⟩ rfl rfl hl.1 rfl (lv_room (Nat.le_of_ble_eq_true rfl)) dL_area_9 ⟨Nat.le_of_ble_eq_true rfl, Nat.le_of_ble_eq_true rfl⟩) hS (fun q _ h => h.elim) (fun q h => h.elim) (fun q _ h => h.elim) (fun E ce q9 u t H locs ht hvm hpx hB hz1 hk1 hS hq9 hce hcl => ?_) (fun r5 u t H locs ht hvm hw hB hz1 hk1 hS => ?_)
  · have hX := hB
    have hP := zk hP hk1
    have c6 : ¬ k_X4_area fw fh so no we ea = 0 := zX_ne hX
    rcases hX with ⟨rfl, hk9⟩ | ⟨rfl, hk9⟩ | ⟨rfl, hk9⟩
    · exact absurd hk9 (by have := kr_X4_area fw fh so no we ea; omega)
    · refine vx_catch (own := RL) (name := "java/lang/IllegalArgumentException") (E := "java/lang/IllegalArgumentException") hown [] ⟨0, 13, 16, 15⟩ [] (htab.trans rfl) (fun z hz => absurd hz List.not_mem_nil) rfl (by decide) (hts (.classLink RL 15 "java/lang/IllegalArgumentException") (List.mem_cons_of_mem _ (List.mem_append_left _ (List.mem_append_left _ (List.mem_append_left _ (List.mem_append_left _ (List.mem_of_getElem? (i := 0) rfl))))))) ((hE.2.2.2.1 ("java/lang/IllegalArgumentException", "java/lang/IllegalArgumentException") (by decide)).use rfl) hq9 hce hcl ?_
      refine lv_astore (lv' := [(6, .ref q9), (0, .ref qo), (1, .int so), (2, .int no), (3, .int we), (4, .int ea), (5, .ref qout)]) hx hb dL_area_16 hl (by decide) rfl (fun ls hl => ?_)
      refine lv_iconst (v := 1) hx hb dL_area_18 (by decide) ?_
      have e8 : s_L_area fw fh so no we ea fo = 1 := by
        unfold s_L_area
        exact (if_neg c6)
      have e9 : n_L_area_qout fw fh so no we ea fo = fo := by
        unfold n_L_area_qout
        exact (if_neg c6)
      refine vx_ret ?_
      exact W.iret (v := 1) hx hb hr (fun t ht hW => ⟨⟨_, (), rfl, e8.symm, ⟨(by rw [e9]; rw [ht]; exact hP), va_K.moved hW.alike hK, (by rw [e9]; exact hD)⟩⟩, hS.F ht⟩) hS.2.2 dL_area_19
    · exact absurd hk9 (by have := kr_X4_area fw fh so no we ea; omega)
  · obtain ⟨c10, hw⟩ := hw
    rw [hw]
    have hP := zk hP hk1
    refine W.widen (k := 1) (n := 6) (by decide) (by decide) ?_
    refine va_last hx hb hK hP hD hS 4 2 rfl rfl (z_inc (k := 0) rfl (by decide)) dL_area_12 (fun H locs hP hD hS => ?_)
    have hP : va_P D vwCl [(qo, .inr (4, [.ref qm, .ref qb, .ref qr, .ref qf])), (qm, .inr (2, [.ref qw, .ref qh])), (qw, .inl (cI, 10, .inl fw)), (qh, .inl (cI, 10, .inl fh)), (qout, .inl (cJ, 1, .inr (.inl (vp_updL fo (0 : Int32).toNatClampNeg (s_X4_area fw fh so no we ea)))))] H := hP
    have hD : va_D A [(qo, .inr (4, [.ref qm, .ref qb, .ref qr, .ref qf])), (qm, .inr (2, [.ref qw, .ref qh])), (qw, .inl (cI, 10, .inl fw)), (qh, .inl (cI, 10, .inl fh)), (qout, .inl (cJ, 1, .inr (.inl (vp_updL fo (0 : Int32).toNatClampNeg (s_X4_area fw fh so no we ea)))))] := hD
    refine lv_goto (tgt := 20) hx hb dL_area_13 (by decide) ?_
    refine lv_iconst (v := 0) hx hb dL_area_20 (by decide) ?_
    have e11 : s_L_area fw fh so no we ea fo = 0 := by
      unfold s_L_area
      exact (if_pos c10)
    have e12 : n_L_area_qout fw fh so no we ea fo = vp_updL fo (0 : Int32).toNatClampNeg (s_X4_area fw fh so no we ea) := by
      unfold n_L_area_qout
      exact (if_pos c10)
    refine vx_ret ?_
    exact W.iret (v := 0) hx hb hr (fun t ht hW => ⟨⟨_, (), rfl, e11.symm, ⟨(by rw [e12]; rw [ht]; exact hP), va_K.moved hW.alike hK, (by rw [e12]; exact hD)⟩⟩, hS.F ht⟩) hS.2.2 dL_area_21
def s_L_areaByCells (fw : Nat → Int32) (fh : Nat → Int32) (so : Int32) (no : Int32) (we : Int32) (ea : Int32) (fo : Nat → Int64) : Int32 := (if k_X4_areaByCells fw fh so no we ea = 0 then 0 else 1)
def n_L_areaByCells_qout (fw : Nat → Int32) (fh : Nat → Int32) (so : Int32) (no : Int32) (we : Int32) (ea : Int32) (fo : Nat → Int64) : Nat → Int64 := (if k_X4_areaByCells fw fh so no we ea = 0 then vp_updL fo (0 : Int32).toNatClampNeg (s_X4_areaByCells fw fh so no we ea) else fo)
abbrev rm_L_areaByCells : Room := { frames := 8, cells := 1, slots := 6, locals := 163 }
abbrev Qc_L_areaByCells (D : va_G) (cI cZ cJ cD : ClassId) (qo : Nat) (qm : Nat) (qb : Nat) (qr : Nat) (qf : Nat) (qw : Nat) (qh : Nat) (fw : Nat → Int32) (fh : Nat → Int32) (so : Int32) (no : Int32) (we : Int32) (ea : Int32) (qout : Nat) (fo : Nat → Int64) (A : Nat → Prop) : Array Value → State → Outcome → State → Prop := va_Qi (fun (r : Int32) (_ : Unit) => r = s_L_areaByCells fw fh so no we ea fo) (zPost D cI cZ cJ cD A [(qo, .inr (4, [.ref qm, .ref qb, .ref qr, .ref qf])), (qm, .inr (2, [.ref qw, .ref qh])), (qw, .inl (cI, 10, .inl fw)), (qh, .inl (cI, 10, .inl fh)), (qout, .inl (cJ, 1, .inr (.inl (n_L_areaByCells_qout fw fh so no we ea fo))))]) A
abbrev Xc_L_areaByCells (D : va_G) (cI cZ cJ cD : ClassId) (qo : Nat) (qm : Nat) (qb : Nat) (qr : Nat) (qf : Nat) (qw : Nat) (qh : Nat) (fw : Nat → Int32) (fh : Nat → Int32) (so : Int32) (no : Int32) (we : Int32) (ea : Int32) (qout : Nat) (fo : Nat → Int64) (A : Nat → Prop) : String → State → State → Prop := vx_X (fun _ : Unit => True) (fun _ _ _ => False) A
set_option maxHeartbeats 4000000 in
set_option maxRecDepth 100000 in
theorem c_L_areaByCells (l : Launch) (hnt : l.stackTraces = false) (D : va_G) (cI cZ cJ cD : ClassId) (qo : Nat) (qm : Nat) (qb : Nat) (qr : Nat) (qf : Nat) (qw : Nat) (qh : Nat) (fw : Nat → Int32) (fh : Nat → Int32) (so : Int32) (no : Int32) (we : Int32) (ea : Int32) (qout : Nat) (fo : Nat → Int64) (sz : Nat)  : vx_Met l yL_areaByCells wsL_areaByCells rm_L_areaByCells (va_Pc [.ref qo, .int so, .int no, .int we, .int ea, .ref qout] (zPreWE D cI cZ cJ cD [(qo, .inr (4, [.ref qm, .ref qb, .ref qr, .ref qf])), (qm, .inr (2, [.ref qw, .ref qh])), (qw, .inl (cI, 10, .inl fw)), (qh, .inl (cI, 10, .inl fh)), (qout, .inl (cJ, 1, .inr (.inl fo)))] sz)) (Qc_L_areaByCells D cI cZ cJ cD qo qm qb qr qf qw qh fw fh so no we ea qout fo (va_A [(qo, .inr (4, [.ref qm, .ref qb, .ref qr, .ref qf])), (qm, .inr (2, [.ref qw, .ref qh])), (qw, .inl (cI, 10, .inl fw)), (qh, .inl (cI, 10, .inl fh)), (qout, .inl (cJ, 1, .inr (.inl fo)))] sz)) (Xc_L_areaByCells D cI cZ cJ cD qo qm qb qr qf qw qh fw fh so no we ea qout fo (va_A [(qo, .inr (4, [.ref qm, .ref qb, .ref qr, .ref qf])), (qm, .inr (2, [.ref qw, .ref qh])), (qw, .inl (cI, 10, .inl fw)), (qh, .inl (cI, 10, .inl fh)), (qout, .inl (cJ, 1, .inr (.inl fo)))] sz)) 1 6 (va_A [(qo, .inr (4, [.ref qm, .ref qb, .ref qr, .ref qf])), (qm, .inr (2, [.ref qw, .ref qh])), (qw, .inl (cI, 10, .inl fw)), (qh, .inl (cI, 10, .inl fh)), (qout, .inl (cJ, 1, .inr (.inl fo)))] sz) := by
  refine vx_ofWH (cc := cL_areaByCells) (maxL := 7) (ret := (some .int)) (hh := [(0, 13, 16, 15)]) (by decide) rfl ?_
  intro p e s m args below meth c s₁ B hml hv
  obtain ⟨rfl, hsz, hP, hK, hD0, hE⟩ := hv
  have hx := B.exec
  have hb := B.bytes
  have hr := B.returns
  have hts := atoms_spec (ws := wsL_areaByCells) B.pre
  have hown : s.vm.findClass RL = some m.cls := findClass_of_methodNamed B.named
  have hlocks := B.notSynchronized
  have htab := vx_table (x := yL_areaByCells) B (hts _ List.mem_cons_self)
  subst hsz
  have hD := hD0.self (sz := s.heap.size)
  generalize hAe : va_A [(qo, .inr (4, [.ref qm, .ref qb, .ref qr, .ref qf])), (qm, .inr (2, [.ref qw, .ref qh])), (qw, .inl (cI, 10, .inl fw)), (qh, .inl (cI, 10, .inl fh)), (qout, .inl (cJ, 1, .inr (.inl fo)))] s.heap.size = A at hE hD ⊢
  have hA : ∀ q : Nat, s.heap.size ≤ q → A q := fun q h => by rw [← hAe]; exact Or.inr h
  have hS : va_S A s.heap s.heap [] := va_S.rf
  have hl := lv_entry ([.ref qo, .int so, .int no, .int we, .int ea, .ref qout]) (n := 7) (Nat.le_of_ble_eq_true rfl)
  rw [lg_entry_eq]
  generalize (lg_sl ([.ref qo, .int so, .int no, .int we, .int ea, .ref qout]) ++ List.replicate (7 - (lg_sl ([.ref qo, .int so, .int no, .int we, .int ea, .ref qout])).length) Slot.unset).toArray = ls at hl ⊢
  have hl : lv_has ls 7 [(0, .ref qo), (1, .int so), (2, .int no), (3, .int we), (4, .int ea), (5, .ref qout)] := hl
  have hP : va_P D vwCl [(qo, .inr (4, [.ref qm, .ref qb, .ref qr, .ref qf])), (qm, .inr (2, [.ref qw, .ref qh])), (qw, .inl (cI, 10, .inl fw)), (qh, .inl (cI, 10, .inl fh)), (qout, .inl (cJ, 1, .inr (.inl fo)))] s.heap := hP
  have hP := hP
  refine lv_aload hx hb dL_areaByCells_0 (lv_at hl 5 rfl) ?_
  refine lv_iconst (v := 0) hx hb dL_areaByCells_2 (by decide) ?_
  refine lv_aload_n hx hb dL_areaByCells_3 rfl (lv_at hl 0 rfl) ?_
  refine lv_iload_n hx hb dL_areaByCells_4 rfl (lv_at hl 1 rfl) ?_
  refine lv_iload_n hx hb dL_areaByCells_5 rfl (lv_at hl 2 rfl) ?_
  refine lv_iload_n hx hb dL_areaByCells_6 rfl (lv_at hl 3 rfl) ?_
  refine lv_iload hx hb dL_areaByCells_7 (lv_at hl 4 rfl) ?_
  refine vx_calll (vx_runV (As := [.int so, .int no, .int we, .int ea]) (rest := [.int 0, .ref qout]) ⟨hx, hb, hml, hown, hts⟩ (c_X4_areaByCells l hnt D cI cZ cJ cD qo qm qb qr qf qw qh fw fh so no we ea ) (cwV 4 hts gL_areaByCells_X4_areaByCells rfl rfl rfl (by decide +kernel) ⟨Nat.le_of_ble_eq_true rfl, Nat.le_of_ble_eq_true rfl⟩) ⟨zblindE, va_recv hK hP (ci := 4) (q0 := 0) rfl rfl, (fun U hU hW => ⟨rfl, by rw [hU]; exact hP.sub (ws' := [(qo, .inr (4, [.ref qm, .ref qb, .ref qr, .ref qf])), (qm, .inr (2, [.ref qw, .ref qh])), (qw, .inl (cI, 10, .inl fw)), (qh, .inl (cI, 10, .inl fh))]) [0, 1, 2, 3] rfl, va_K.moved hW.alike hK, zEnv.go hE hS (fun q h => h.elim) hU hW⟩)⟩ rfl rfl hl.1 rfl (lv_room (Nat.le_of_ble_eq_true rfl)) dL_areaByCells_9 ⟨Nat.le_of_ble_eq_true rfl, Nat.le_of_ble_eq_true rfl⟩) hS (fun q _ h => h.elim) (fun q h => h.elim) (fun q _ h => h.elim) (fun E ce q9 u t H locs ht hvm hpx hB hz1 hk1 hS hq9 hce hcl => ?_) (fun r5 u t H locs ht hvm hw hB hz1 hk1 hS => ?_)
  · have hX := hB
    have hP := zk hP hk1
    have c6 : ¬ k_X4_areaByCells fw fh so no we ea = 0 := zX_ne hX
    rcases hX with ⟨rfl, hk9⟩ | ⟨rfl, hk9⟩ | ⟨rfl, hk9⟩
    · exact absurd hk9 (by have := kr_X4_areaByCells fw fh so no we ea; omega)
    · refine vx_catch (own := RL) (name := "java/lang/IllegalArgumentException") (E := "java/lang/IllegalArgumentException") hown [] ⟨0, 13, 16, 15⟩ [] (htab.trans rfl) (fun z hz => absurd hz List.not_mem_nil) rfl (by decide) (hts (.classLink RL 15 "java/lang/IllegalArgumentException") (List.mem_cons_of_mem _ (List.mem_append_left _ (List.mem_append_left _ (List.mem_append_left _ (List.mem_append_left _ (List.mem_of_getElem? (i := 0) rfl))))))) ((hE.2.2.2.1 ("java/lang/IllegalArgumentException", "java/lang/IllegalArgumentException") (by decide)).use rfl) hq9 hce hcl ?_
      refine lv_astore (lv' := [(6, .ref q9), (0, .ref qo), (1, .int so), (2, .int no), (3, .int we), (4, .int ea), (5, .ref qout)]) hx hb dL_areaByCells_16 hl (by decide) rfl (fun ls hl => ?_)
      refine lv_iconst (v := 1) hx hb dL_areaByCells_18 (by decide) ?_
      have e8 : s_L_areaByCells fw fh so no we ea fo = 1 := by
        unfold s_L_areaByCells
        exact (if_neg c6)
      have e9 : n_L_areaByCells_qout fw fh so no we ea fo = fo := by
        unfold n_L_areaByCells_qout
        exact (if_neg c6)
      refine vx_ret ?_
      exact W.iret (v := 1) hx hb hr (fun t ht hW => ⟨⟨_, (), rfl, e8.symm, ⟨(by rw [e9]; rw [ht]; exact hP), va_K.moved hW.alike hK, (by rw [e9]; exact hD)⟩⟩, hS.F ht⟩) hS.2.2 dL_areaByCells_19
    · exact absurd hk9 (by have := kr_X4_areaByCells fw fh so no we ea; omega)
  · obtain ⟨c10, hw⟩ := hw
    rw [hw]
    have hP := zk hP hk1
    refine W.widen (k := 1) (n := 6) (by decide) (by decide) ?_
    refine va_last hx hb hK hP hD hS 4 2 rfl rfl (z_inc (k := 0) rfl (by decide)) dL_areaByCells_12 (fun H locs hP hD hS => ?_)
    have hP : va_P D vwCl [(qo, .inr (4, [.ref qm, .ref qb, .ref qr, .ref qf])), (qm, .inr (2, [.ref qw, .ref qh])), (qw, .inl (cI, 10, .inl fw)), (qh, .inl (cI, 10, .inl fh)), (qout, .inl (cJ, 1, .inr (.inl (vp_updL fo (0 : Int32).toNatClampNeg (s_X4_areaByCells fw fh so no we ea)))))] H := hP
    have hD : va_D A [(qo, .inr (4, [.ref qm, .ref qb, .ref qr, .ref qf])), (qm, .inr (2, [.ref qw, .ref qh])), (qw, .inl (cI, 10, .inl fw)), (qh, .inl (cI, 10, .inl fh)), (qout, .inl (cJ, 1, .inr (.inl (vp_updL fo (0 : Int32).toNatClampNeg (s_X4_areaByCells fw fh so no we ea)))))] := hD
    refine lv_goto (tgt := 20) hx hb dL_areaByCells_13 (by decide) ?_
    refine lv_iconst (v := 0) hx hb dL_areaByCells_20 (by decide) ?_
    have e11 : s_L_areaByCells fw fh so no we ea fo = 0 := by
      unfold s_L_areaByCells
      exact (if_pos c10)
    have e12 : n_L_areaByCells_qout fw fh so no we ea fo = vp_updL fo (0 : Int32).toNatClampNeg (s_X4_areaByCells fw fh so no we ea) := by
      unfold n_L_areaByCells_qout
      exact (if_pos c10)
    refine vx_ret ?_
    exact W.iret (v := 0) hx hb hr (fun t ht hW => ⟨⟨_, (), rfl, e11.symm, ⟨(by rw [e12]; rw [ht]; exact hP), va_K.moved hW.alike hK, (by rw [e12]; exact hD)⟩⟩, hS.F ht⟩) hS.2.2 dL_areaByCells_21
def s_L_truth (ft : Nat → Int32) (bd : Int32) (tr : Int32) (fo : Nat → Int64) : Int32 := (if k_X4_truth ft bd tr = 0 then 0 else (if k_X4_truth ft bd tr = 1 then 1 else 2))
def n_L_truth_qt (ft : Nat → Int32) (bd : Int32) (tr : Int32) (fo : Nat → Int64) : Nat → Int32 := n_X4_truth_qt ft bd tr
def n_L_truth_qout (ft : Nat → Int32) (bd : Int32) (tr : Int32) (fo : Nat → Int64) : Nat → Int64 := (if k_X4_truth ft bd tr = 0 then vp_updL fo (0 : Int32).toNatClampNeg ((s_X4_truth ft bd tr).toInt64) else fo)
abbrev rm_L_truth : Room := { frames := 8, cells := 2, slots := 12, locals := 132 }
abbrev Qc_L_truth (D : va_G) (cI cZ cJ cD : ClassId) (qo : Nat) (qm : Nat) (qb : Nat) (qr : Nat) (qf : Nat) (qt : Nat) (ft : Nat → Int32) (bd : Int32) (tr : Int32) (qout : Nat) (fo : Nat → Int64) (A : Nat → Prop) : Array Value → State → Outcome → State → Prop := va_Qi (fun (r : Int32) (_ : Unit) => r = s_L_truth ft bd tr fo) (zPost D cI cZ cJ cD A [(qo, .inr (4, [.ref qm, .ref qb, .ref qr, .ref qf])), (qb, .inr (0, [.ref qt])), (qt, .inl (cI, 9, .inl (n_L_truth_qt ft bd tr fo))), (qout, .inl (cJ, 1, .inr (.inl (n_L_truth_qout ft bd tr fo))))]) A
abbrev Xc_L_truth (D : va_G) (cI cZ cJ cD : ClassId) (qo : Nat) (qm : Nat) (qb : Nat) (qr : Nat) (qf : Nat) (qt : Nat) (ft : Nat → Int32) (bd : Int32) (tr : Int32) (qout : Nat) (fo : Nat → Int64) (A : Nat → Prop) : String → State → State → Prop := vx_X (fun _ : Unit => True) (fun _ _ _ => False) A
set_option maxHeartbeats 4000000 in
set_option maxRecDepth 100000 in
theorem c_L_truth (l : Launch) (hnt : l.stackTraces = false) (D : va_G) (cI cZ cJ cD : ClassId) (qo : Nat) (qm : Nat) (qb : Nat) (qr : Nat) (qf : Nat) (qt : Nat) (ft : Nat → Int32) (bd : Int32) (tr : Int32) (qout : Nat) (fo : Nat → Int64) (sz : Nat)  : vx_Met l yL_truth wsL_truth rm_L_truth (va_Pc [.ref qo, .int bd, .int tr, .ref qout] (zPreWE D cI cZ cJ cD [(qo, .inr (4, [.ref qm, .ref qb, .ref qr, .ref qf])), (qb, .inr (0, [.ref qt])), (qt, .inl (cI, 9, .inl ft)), (qout, .inl (cJ, 1, .inr (.inl fo)))] sz)) (Qc_L_truth D cI cZ cJ cD qo qm qb qr qf qt ft bd tr qout fo (va_A [(qo, .inr (4, [.ref qm, .ref qb, .ref qr, .ref qf])), (qb, .inr (0, [.ref qt])), (qt, .inl (cI, 9, .inl ft)), (qout, .inl (cJ, 1, .inr (.inl fo)))] sz)) (Xc_L_truth D cI cZ cJ cD qo qm qb qr qf qt ft bd tr qout fo (va_A [(qo, .inr (4, [.ref qm, .ref qb, .ref qr, .ref qf])), (qb, .inr (0, [.ref qt])), (qt, .inl (cI, 9, .inl ft)), (qout, .inl (cJ, 1, .inr (.inl fo)))] sz)) 2 12 (va_A [(qo, .inr (4, [.ref qm, .ref qb, .ref qr, .ref qf])), (qb, .inr (0, [.ref qt])), (qt, .inl (cI, 9, .inl ft)), (qout, .inl (cJ, 1, .inr (.inl fo)))] sz) := by
  refine vx_ofWH (cc := cL_truth) (maxL := 5) (ret := (some .int)) (hh := [(0, 10, 13, 13), (0, 10, 17, 15)]) (by decide) rfl ?_
  intro p e s m args below meth c s₁ B hml hv
  obtain ⟨rfl, hsz, hP, hK, hD0, hE⟩ := hv
  have hx := B.exec
  have hb := B.bytes
  have hr := B.returns
  have hts := atoms_spec (ws := wsL_truth) B.pre
  have hown : s.vm.findClass RL = some m.cls := findClass_of_methodNamed B.named
  have hlocks := B.notSynchronized
  have htab := vx_table (x := yL_truth) B (hts _ List.mem_cons_self)
  subst hsz
  have hD := hD0.self (sz := s.heap.size)
  generalize hAe : va_A [(qo, .inr (4, [.ref qm, .ref qb, .ref qr, .ref qf])), (qb, .inr (0, [.ref qt])), (qt, .inl (cI, 9, .inl ft)), (qout, .inl (cJ, 1, .inr (.inl fo)))] s.heap.size = A at hE hD ⊢
  have hA : ∀ q : Nat, s.heap.size ≤ q → A q := fun q h => by rw [← hAe]; exact Or.inr h
  have hS : va_S A s.heap s.heap [] := va_S.rf
  have hl := lv_entry ([.ref qo, .int bd, .int tr, .ref qout]) (n := 5) (Nat.le_of_ble_eq_true rfl)
  rw [lg_entry_eq]
  generalize (lg_sl ([.ref qo, .int bd, .int tr, .ref qout]) ++ List.replicate (5 - (lg_sl ([.ref qo, .int bd, .int tr, .ref qout])).length) Slot.unset).toArray = ls at hl ⊢
  have hl : lv_has ls 5 [(0, .ref qo), (1, .int bd), (2, .int tr), (3, .ref qout)] := hl
  have hP : va_P D vwCl [(qo, .inr (4, [.ref qm, .ref qb, .ref qr, .ref qf])), (qb, .inr (0, [.ref qt])), (qt, .inl (cI, 9, .inl ft)), (qout, .inl (cJ, 1, .inr (.inl fo)))] s.heap := hP
  have hP := hP
  refine lv_aload_n hx hb dL_truth_0 rfl (lv_at hl 3 rfl) ?_
  refine lv_iconst (v := 0) hx hb dL_truth_1 (by decide) ?_
  refine lv_aload_n hx hb dL_truth_2 rfl (lv_at hl 0 rfl) ?_
  refine lv_iload_n hx hb dL_truth_3 rfl (lv_at hl 1 rfl) ?_
  refine lv_iload_n hx hb dL_truth_4 rfl (lv_at hl 2 rfl) ?_
  have hPc := hP.sub (ws' := [(qo, .inr (4, [.ref qm, .ref qb, .ref qr, .ref qf])), (qb, .inr (0, [.ref qt])), (qt, .inl (cI, 9, .inl ft))]) [0, 1, 2] rfl
  have hDc := hD.sub (ws' := [(qo, .inr (4, [.ref qm, .ref qb, .ref qr, .ref qf])), (qb, .inr (0, [.ref qt])), (qt, .inl (cI, 9, .inl ft))]) [0, 1, 2] (by decide) rfl
  have hFc := va_free (wc := [(qo, .inr (4, [.ref qm, .ref qb, .ref qr, .ref qf])), (qb, .inr (0, [.ref qt])), (qt, .inl (cI, 9, .inl ft))]) hD hS hA [0, 1, 2] rfl
  refine vx_calli (vx_runV (As := [.int bd, .int tr]) (rest := [.int 0, .ref qout]) ⟨hx, hb, hml, hown, hts⟩ (c_X4_truth l hnt D cI cZ cJ cD qo qm qb qr qf qt ft bd tr s.heap.size ) (cwV 2 hts gL_truth_X4_truth rfl rfl rfl (by decide +kernel) ⟨Nat.le_of_ble_eq_true rfl, Nat.le_of_ble_eq_true rfl⟩) ⟨zblindWE, va_recv hK hP (ci := 4) (q0 := 0) rfl rfl, (fun U hU hW => ⟨rfl, by rw [hU], by rw [hU]; exact hPc, va_K.moved hW.alike hK, hDc.weaken (fun _ _ _ _ => trivial), zEnv.go hE hS hFc hU hW⟩)⟩ rfl rfl hl.1 rfl (lv_room (Nat.le_of_ble_eq_true rfl)) dL_truth_5 ⟨Nat.le_of_ble_eq_true rfl, Nat.le_of_ble_eq_true rfl⟩) hS (fun q _ h => hFc q h) hFc (fun q _ h => hFc q h) (fun E ce q9 u t H locs ht hvm hpx hB hz1 hk1 hS hq9 hce hcl => ?_) (fun r7 u t H locs ht hvm hw hB hz1 hk1 hS => ?_)
  · obtain ⟨hX, hB⟩ := hB
    obtain ⟨hP1, hK1, hD1⟩ := hB
    rw [ht] at hP1
    obtain ⟨hP, hD⟩ := va_join (wr := [(qout, .inl (cJ, 1, .inr (.inl fo)))]) (w1 := [(qo, .inr (4, [.ref qm, .ref qb, .ref qr, .ref qf])), (qb, .inr (0, [.ref qt])), (qt, .inl (cI, 9, .inl (n_X4_truth_qt ft bd tr)))]) hP hD [0, 1, 2] [3] rfl rfl (by decide) (by decide) hk1 hFc hP1 hD1
    have hP := hP.sub (ws' := [(qo, .inr (4, [.ref qm, .ref qb, .ref qr, .ref qf])), (qb, .inr (0, [.ref qt])), (qt, .inl (cI, 9, .inl (n_X4_truth_qt ft bd tr))), (qout, .inl (cJ, 1, .inr (.inl fo)))]) [1, 2, 3, 0] rfl
    have hD := hD.sub (ws' := [(qo, .inr (4, [.ref qm, .ref qb, .ref qr, .ref qf])), (qb, .inr (0, [.ref qt])), (qt, .inl (cI, 9, .inl (n_X4_truth_qt ft bd tr))), (qout, .inl (cJ, 1, .inr (.inl fo)))]) [1, 2, 3, 0] (by decide) rfl
    have c8 : ¬ k_X4_truth ft bd tr = 0 := zX_ne hX
    rcases hX with ⟨rfl, hk9⟩ | ⟨rfl, hk9⟩ | ⟨rfl, hk9⟩
    · have c9 : k_X4_truth ft bd tr = 1 := hk9
      refine vx_catch (own := RL) (name := "java/lang/IndexOutOfBoundsException") (E := "java/lang/IndexOutOfBoundsException") hown [] ⟨0, 10, 13, 13⟩ [⟨0, 10, 17, 15⟩] (htab.trans rfl) (fun z hz => absurd hz List.not_mem_nil) rfl (by decide) (hts (.classLink RL 13 "java/lang/IndexOutOfBoundsException") (List.mem_cons_of_mem _ (List.mem_append_left _ (List.mem_append_left _ (List.mem_append_left _ (List.mem_append_left _ (List.mem_append_left _ (List.mem_of_getElem? (i := 0) rfl)))))))) ((hE.2.2.2.1 ("java/lang/IndexOutOfBoundsException", "java/lang/IndexOutOfBoundsException") (by decide)).use rfl) hq9 hce hcl ?_
      refine lv_astore (lv' := [(4, .ref q9), (0, .ref qo), (1, .int bd), (2, .int tr), (3, .ref qout)]) hx hb dL_truth_13 hl (by decide) rfl (fun ls hl => ?_)
      refine lv_iconst (v := 1) hx hb dL_truth_15 (by decide) ?_
      have e10 : s_L_truth ft bd tr fo = 1 := by
        unfold s_L_truth
        exact ((if_neg c8).trans (if_pos c9))
      have e11 : n_L_truth_qt ft bd tr fo = n_X4_truth_qt ft bd tr := rfl
      have e12 : n_L_truth_qout ft bd tr fo = fo := by
        unfold n_L_truth_qout
        exact (if_neg c8)
      refine vx_ret ?_
      exact W.iret (v := 1) hx hb hr (fun t ht hW => ⟨⟨_, (), rfl, e10.symm, ⟨(by rw [e11, e12]; rw [ht]; exact hP), va_K.moved hW.alike hK, (by rw [e11, e12]; exact hD)⟩⟩, hS.F ht⟩) hS.2.2 dL_truth_16
    · have c13 : ¬ k_X4_truth ft bd tr = 1 := by omega
      refine vx_catch (own := RL) (name := "java/lang/IllegalArgumentException") (E := "java/lang/IllegalArgumentException") hown [⟨0, 10, 13, 13⟩] ⟨0, 10, 17, 15⟩ [] (htab.trans rfl) (fun z hz => (List.mem_cons.mp hz).elim (fun e9 => by rw [e9]; exact Or.inr ⟨by decide, "java/lang/IndexOutOfBoundsException", (hts (.classLink RL 13 "java/lang/IndexOutOfBoundsException") (List.mem_cons_of_mem _ (List.mem_append_left _ (List.mem_append_left _ (List.mem_append_left _ (List.mem_append_left _ (List.mem_append_left _ (List.mem_of_getElem? (i := 0) rfl)))))))), hE.2.2.2.2.1 ("java/lang/IllegalArgumentException", "java/lang/IndexOutOfBoundsException") (by decide)⟩) (fun hz => absurd hz List.not_mem_nil)) rfl (by decide) (hts (.classLink RL 15 "java/lang/IllegalArgumentException") (List.mem_cons_of_mem _ (List.mem_append_left _ (List.mem_append_left _ (List.mem_append_left _ (List.mem_append_left _ (List.mem_append_left _ (List.mem_of_getElem? (i := 1) rfl)))))))) ((hE.2.2.2.1 ("java/lang/IllegalArgumentException", "java/lang/IllegalArgumentException") (by decide)).use rfl) hq9 hce hcl ?_
      refine lv_astore (lv' := [(4, .ref q9), (0, .ref qo), (1, .int bd), (2, .int tr), (3, .ref qout)]) hx hb dL_truth_17 hl (by decide) rfl (fun ls hl => ?_)
      refine lv_iconst (v := 2) hx hb dL_truth_19 (by decide) ?_
      have e15 : s_L_truth ft bd tr fo = 2 := by
        unfold s_L_truth
        exact ((if_neg c8).trans (if_neg c13))
      have e16 : n_L_truth_qt ft bd tr fo = n_X4_truth_qt ft bd tr := rfl
      have e17 : n_L_truth_qout ft bd tr fo = fo := by
        unfold n_L_truth_qout
        exact (if_neg c8)
      refine vx_ret ?_
      exact W.iret (v := 2) hx hb hr (fun t ht hW => ⟨⟨_, (), rfl, e15.symm, ⟨(by rw [e16, e17]; rw [ht]; exact hP), va_K.moved hW.alike hK, (by rw [e16, e17]; exact hD)⟩⟩, hS.F ht⟩) hS.2.2 dL_truth_20
    · exact absurd hk9 (by have := kr_X4_truth ft bd tr; omega)
  · obtain ⟨c18, hw⟩ := hw
    rw [hw]
    obtain ⟨hP1, hK1, hD1⟩ := hB
    rw [ht] at hP1
    obtain ⟨hP, hD⟩ := va_join (wr := [(qout, .inl (cJ, 1, .inr (.inl fo)))]) (w1 := [(qo, .inr (4, [.ref qm, .ref qb, .ref qr, .ref qf])), (qb, .inr (0, [.ref qt])), (qt, .inl (cI, 9, .inl (n_X4_truth_qt ft bd tr)))]) hP hD [0, 1, 2] [3] rfl rfl (by decide) (by decide) hk1 hFc hP1 hD1
    have hP := hP.sub (ws' := [(qo, .inr (4, [.ref qm, .ref qb, .ref qr, .ref qf])), (qb, .inr (0, [.ref qt])), (qt, .inl (cI, 9, .inl (n_X4_truth_qt ft bd tr))), (qout, .inl (cJ, 1, .inr (.inl fo)))]) [1, 2, 3, 0] rfl
    have hD := hD.sub (ws' := [(qo, .inr (4, [.ref qm, .ref qb, .ref qr, .ref qf])), (qb, .inr (0, [.ref qt])), (qt, .inl (cI, 9, .inl (n_X4_truth_qt ft bd tr))), (qout, .inl (cJ, 1, .inr (.inl fo)))]) [1, 2, 3, 0] (by decide) rfl
    refine W.widen (k := 2) (n := 12) (by decide) (by decide) ?_
    refine lv_i2l hx hb dL_truth_8 rfl ?_
    refine va_last hx hb hK hP hD hS 3 2 rfl rfl (z_inc (k := 0) rfl (by decide)) dL_truth_9 (fun H locs hP hD hS => ?_)
    have hP : va_P D vwCl [(qo, .inr (4, [.ref qm, .ref qb, .ref qr, .ref qf])), (qb, .inr (0, [.ref qt])), (qt, .inl (cI, 9, .inl (n_X4_truth_qt ft bd tr))), (qout, .inl (cJ, 1, .inr (.inl (vp_updL fo (0 : Int32).toNatClampNeg ((s_X4_truth ft bd tr).toInt64)))))] H := hP
    have hD : va_D A [(qo, .inr (4, [.ref qm, .ref qb, .ref qr, .ref qf])), (qb, .inr (0, [.ref qt])), (qt, .inl (cI, 9, .inl (n_X4_truth_qt ft bd tr))), (qout, .inl (cJ, 1, .inr (.inl (vp_updL fo (0 : Int32).toNatClampNeg ((s_X4_truth ft bd tr).toInt64)))))] := hD
    refine lv_goto (tgt := 21) hx hb dL_truth_10 (by decide) ?_
    refine lv_iconst (v := 0) hx hb dL_truth_21 (by decide) ?_
    have e19 : s_L_truth ft bd tr fo = 0 := by
      unfold s_L_truth
      exact (if_pos c18)
    have e20 : n_L_truth_qt ft bd tr fo = n_X4_truth_qt ft bd tr := rfl
    have e21 : n_L_truth_qout ft bd tr fo = vp_updL fo (0 : Int32).toNatClampNeg ((s_X4_truth ft bd tr).toInt64) := by
      unfold n_L_truth_qout
      exact (if_pos c18)
    refine vx_ret ?_
    exact W.iret (v := 0) hx hb hr (fun t ht hW => ⟨⟨_, (), rfl, e19.symm, ⟨(by rw [e20, e21]; rw [ht]; exact hP), va_K.moved hW.alike hK, (by rw [e20, e21]; exact hD)⟩⟩, hS.F ht⟩) hS.2.2 dL_truth_22
def s_L_stretch (ft : Nat → Int32) (fw : Nat → Int32) (fh : Nat → Int32) (bd : Int32) (fo : Nat → UInt64) : Int32 := (if k_X4_stretch ft fw fh bd = 0 then 0 else 1)
def n_L_stretch_qout (ft : Nat → Int32) (fw : Nat → Int32) (fh : Nat → Int32) (bd : Int32) (fo : Nat → UInt64) : Nat → UInt64 := (if k_X4_stretch ft fw fh bd = 0 then vf_upd fo (0 : Int32).toNatClampNeg (FP.f2d (s_X4_stretch ft fw fh bd)) else fo)
abbrev rm_L_stretch : Room := { frames := 8, cells := 1, slots := 6, locals := 131 }
abbrev Qc_L_stretch (D : va_G) (cI cZ cJ cD : ClassId) (qo : Nat) (qm : Nat) (qb : Nat) (qr : Nat) (qf : Nat) (qt : Nat) (ft : Nat → Int32) (qw : Nat) (qh : Nat) (fw : Nat → Int32) (fh : Nat → Int32) (bd : Int32) (qout : Nat) (fo : Nat → UInt64) (A : Nat → Prop) : Array Value → State → Outcome → State → Prop := va_Qi (fun (r : Int32) (_ : Unit) => r = s_L_stretch ft fw fh bd fo) (zPost D cI cZ cJ cD A [(qo, .inr (4, [.ref qm, .ref qb, .ref qr, .ref qf])), (qb, .inr (0, [.ref qt])), (qt, .inl (cI, 9, .inl ft)), (qm, .inr (2, [.ref qw, .ref qh])), (qw, .inl (cI, 10, .inl fw)), (qh, .inl (cI, 10, .inl fh)), (qout, .inl (cD, 1, .inr (.inr (.inr (.inl (n_L_stretch_qout ft fw fh bd fo))))))]) A
abbrev Xc_L_stretch (D : va_G) (cI cZ cJ cD : ClassId) (qo : Nat) (qm : Nat) (qb : Nat) (qr : Nat) (qf : Nat) (qt : Nat) (ft : Nat → Int32) (qw : Nat) (qh : Nat) (fw : Nat → Int32) (fh : Nat → Int32) (bd : Int32) (qout : Nat) (fo : Nat → UInt64) (A : Nat → Prop) : String → State → State → Prop := vx_X (fun _ : Unit => True) (fun _ _ _ => False) A
set_option maxHeartbeats 4000000 in
set_option maxRecDepth 100000 in
theorem c_L_stretch (l : Launch) (hnt : l.stackTraces = false) (D : va_G) (cI cZ cJ cD : ClassId) (qo : Nat) (qm : Nat) (qb : Nat) (qr : Nat) (qf : Nat) (qt : Nat) (ft : Nat → Int32) (qw : Nat) (qh : Nat) (fw : Nat → Int32) (fh : Nat → Int32) (bd : Int32) (qout : Nat) (fo : Nat → UInt64) (sz : Nat) (htr : ∀ j : Nat, j < 9 → ¬ ft j = 0) : vx_Met l yL_stretch wsL_stretch rm_L_stretch (va_Pc [.ref qo, .int bd, .ref qout] (zPreWE D cI cZ cJ cD [(qo, .inr (4, [.ref qm, .ref qb, .ref qr, .ref qf])), (qb, .inr (0, [.ref qt])), (qt, .inl (cI, 9, .inl ft)), (qm, .inr (2, [.ref qw, .ref qh])), (qw, .inl (cI, 10, .inl fw)), (qh, .inl (cI, 10, .inl fh)), (qout, .inl (cD, 1, .inr (.inr (.inr (.inl fo)))))] sz)) (Qc_L_stretch D cI cZ cJ cD qo qm qb qr qf qt ft qw qh fw fh bd qout fo (va_A [(qo, .inr (4, [.ref qm, .ref qb, .ref qr, .ref qf])), (qb, .inr (0, [.ref qt])), (qt, .inl (cI, 9, .inl ft)), (qm, .inr (2, [.ref qw, .ref qh])), (qw, .inl (cI, 10, .inl fw)), (qh, .inl (cI, 10, .inl fh)), (qout, .inl (cD, 1, .inr (.inr (.inr (.inl fo)))))] sz)) (Xc_L_stretch D cI cZ cJ cD qo qm qb qr qf qt ft qw qh fw fh bd qout fo (va_A [(qo, .inr (4, [.ref qm, .ref qb, .ref qr, .ref qf])), (qb, .inr (0, [.ref qt])), (qt, .inl (cI, 9, .inl ft)), (qm, .inr (2, [.ref qw, .ref qh])), (qw, .inl (cI, 10, .inl fw)), (qh, .inl (cI, 10, .inl fh)), (qout, .inl (cD, 1, .inr (.inr (.inr (.inl fo)))))] sz)) 1 6 (va_A [(qo, .inr (4, [.ref qm, .ref qb, .ref qr, .ref qf])), (qb, .inr (0, [.ref qt])), (qt, .inl (cI, 9, .inl ft)), (qm, .inr (2, [.ref qw, .ref qh])), (qw, .inl (cI, 10, .inl fw)), (qh, .inl (cI, 10, .inl fh)), (qout, .inl (cD, 1, .inr (.inr (.inr (.inl fo)))))] sz) := by
  refine vx_ofWH (cc := cL_stretch) (maxL := 4) (ret := (some .int)) (hh := [(0, 9, 12, 13)]) (by decide) rfl ?_
  intro p e s m args below meth c s₁ B hml hv
  obtain ⟨rfl, hsz, hP, hK, hD0, hE⟩ := hv
  have hx := B.exec
  have hb := B.bytes
  have hr := B.returns
  have hts := atoms_spec (ws := wsL_stretch) B.pre
  have hown : s.vm.findClass RL = some m.cls := findClass_of_methodNamed B.named
  have hlocks := B.notSynchronized
  have htab := vx_table (x := yL_stretch) B (hts _ List.mem_cons_self)
  subst hsz
  have hD := hD0.self (sz := s.heap.size)
  generalize hAe : va_A [(qo, .inr (4, [.ref qm, .ref qb, .ref qr, .ref qf])), (qb, .inr (0, [.ref qt])), (qt, .inl (cI, 9, .inl ft)), (qm, .inr (2, [.ref qw, .ref qh])), (qw, .inl (cI, 10, .inl fw)), (qh, .inl (cI, 10, .inl fh)), (qout, .inl (cD, 1, .inr (.inr (.inr (.inl fo)))))] s.heap.size = A at hE hD ⊢
  have hA : ∀ q : Nat, s.heap.size ≤ q → A q := fun q h => by rw [← hAe]; exact Or.inr h
  have hS : va_S A s.heap s.heap [] := va_S.rf
  have hl := lv_entry ([.ref qo, .int bd, .ref qout]) (n := 4) (Nat.le_of_ble_eq_true rfl)
  rw [lg_entry_eq]
  generalize (lg_sl ([.ref qo, .int bd, .ref qout]) ++ List.replicate (4 - (lg_sl ([.ref qo, .int bd, .ref qout])).length) Slot.unset).toArray = ls at hl ⊢
  have hl : lv_has ls 4 [(0, .ref qo), (1, .int bd), (2, .ref qout)] := hl
  have hP : va_P D vwCl [(qo, .inr (4, [.ref qm, .ref qb, .ref qr, .ref qf])), (qb, .inr (0, [.ref qt])), (qt, .inl (cI, 9, .inl ft)), (qm, .inr (2, [.ref qw, .ref qh])), (qw, .inl (cI, 10, .inl fw)), (qh, .inl (cI, 10, .inl fh)), (qout, .inl (cD, 1, .inr (.inr (.inr (.inl fo)))))] s.heap := hP
  have hP := hP
  refine lv_aload_n hx hb dL_stretch_0 rfl (lv_at hl 2 rfl) ?_
  refine lv_iconst (v := 0) hx hb dL_stretch_1 (by decide) ?_
  refine lv_aload_n hx hb dL_stretch_2 rfl (lv_at hl 0 rfl) ?_
  refine lv_iload_n hx hb dL_stretch_3 rfl (lv_at hl 1 rfl) ?_
  refine vx_callf (vx_runV (As := [.int bd]) (rest := [.int 0, .ref qout]) ⟨hx, hb, hml, hown, hts⟩ (c_X4_stretch l hnt D cI cZ cJ cD qo qm qb qr qf qt ft qw qh fw fh bd (by assumption)) (cwV 1 hts gL_stretch_X4_stretch rfl rfl rfl (by decide +kernel) ⟨Nat.le_of_ble_eq_true rfl, Nat.le_of_ble_eq_true rfl⟩) ⟨zblindE, va_recv hK hP (ci := 4) (q0 := 0) rfl rfl, (fun U hU hW => ⟨rfl, by rw [hU]; exact hP.sub (ws' := [(qo, .inr (4, [.ref qm, .ref qb, .ref qr, .ref qf])), (qb, .inr (0, [.ref qt])), (qt, .inl (cI, 9, .inl ft)), (qm, .inr (2, [.ref qw, .ref qh])), (qw, .inl (cI, 10, .inl fw)), (qh, .inl (cI, 10, .inl fh))]) [0, 1, 2, 3, 4, 5] rfl, va_K.moved hW.alike hK, zEnv.go hE hS (fun q h => h.elim) hU hW⟩)⟩ rfl rfl hl.1 rfl (lv_room (Nat.le_of_ble_eq_true rfl)) dL_stretch_4 ⟨Nat.le_of_ble_eq_true rfl, Nat.le_of_ble_eq_true rfl⟩) hS (fun q _ h => h.elim) (fun q h => h.elim) (fun q _ h => h.elim) (fun E ce q9 u t H locs ht hvm hpx hB hz1 hk1 hS hq9 hce hcl => ?_) (fun r5 u t H locs ht hvm hw hB hz1 hk1 hS => ?_)
  · have hX := hB
    have hP := zk hP hk1
    have c6 : ¬ k_X4_stretch ft fw fh bd = 0 := zX_ne hX
    rcases hX with ⟨rfl, hk9⟩ | ⟨rfl, hk9⟩ | ⟨rfl, hk9⟩
    · refine vx_catch (own := RL) (name := "java/lang/IndexOutOfBoundsException") (E := "java/lang/IndexOutOfBoundsException") hown [] ⟨0, 9, 12, 13⟩ [] (htab.trans rfl) (fun z hz => absurd hz List.not_mem_nil) rfl (by decide) (hts (.classLink RL 13 "java/lang/IndexOutOfBoundsException") (List.mem_cons_of_mem _ (List.mem_append_left _ (List.mem_append_left _ (List.mem_append_left _ (List.mem_append_left _ (List.mem_append_left _ (List.mem_of_getElem? (i := 0) rfl)))))))) ((hE.2.2.2.1 ("java/lang/IndexOutOfBoundsException", "java/lang/IndexOutOfBoundsException") (by decide)).use rfl) hq9 hce hcl ?_
      refine lv_astore_n (lv' := [(3, .ref q9), (0, .ref qo), (1, .int bd), (2, .ref qout)]) hx hb dL_stretch_12 rfl hl (by decide) rfl (fun ls hl => ?_)
      refine lv_iconst (v := 1) hx hb dL_stretch_13 (by decide) ?_
      have e8 : s_L_stretch ft fw fh bd fo = 1 := by
        unfold s_L_stretch
        exact (if_neg c6)
      have e9 : n_L_stretch_qout ft fw fh bd fo = fo := by
        unfold n_L_stretch_qout
        exact (if_neg c6)
      refine vx_ret ?_
      exact W.iret (v := 1) hx hb hr (fun t ht hW => ⟨⟨_, (), rfl, e8.symm, ⟨(by rw [e9]; rw [ht]; exact hP), va_K.moved hW.alike hK, (by rw [e9]; exact hD)⟩⟩, hS.F ht⟩) hS.2.2 dL_stretch_14
    · exact absurd hk9 (by have := kr_X4_stretch ft fw fh bd; omega)
    · exact absurd hk9 (by have := kr_X4_stretch ft fw fh bd; omega)
  · obtain ⟨c10, hw⟩ := hw
    rw [hw]
    have hP := zk hP hk1
    refine W.widen (k := 1) (n := 6) (by decide) (by decide) ?_
    refine lv_f2d hx hb dL_stretch_7 (z_stf htr bd) ?_
    refine va_dast hx hb hK hP hD hS 6 3 rfl rfl (z_inc (k := 0) rfl (by decide)) dL_stretch_8 (fun H locs hP hD hS => ?_)
    have hP : va_P D vwCl [(qo, .inr (4, [.ref qm, .ref qb, .ref qr, .ref qf])), (qb, .inr (0, [.ref qt])), (qt, .inl (cI, 9, .inl ft)), (qm, .inr (2, [.ref qw, .ref qh])), (qw, .inl (cI, 10, .inl fw)), (qh, .inl (cI, 10, .inl fh)), (qout, .inl (cD, 1, .inr (.inr (.inr (.inl (vf_upd fo (0 : Int32).toNatClampNeg (FP.f2d (s_X4_stretch ft fw fh bd))))))))] H := hP
    have hD : va_D A [(qo, .inr (4, [.ref qm, .ref qb, .ref qr, .ref qf])), (qb, .inr (0, [.ref qt])), (qt, .inl (cI, 9, .inl ft)), (qm, .inr (2, [.ref qw, .ref qh])), (qw, .inl (cI, 10, .inl fw)), (qh, .inl (cI, 10, .inl fh)), (qout, .inl (cD, 1, .inr (.inr (.inr (.inl (vf_upd fo (0 : Int32).toNatClampNeg (FP.f2d (s_X4_stretch ft fw fh bd))))))))] := hD
    refine lv_goto (tgt := 15) hx hb dL_stretch_9 (by decide) ?_
    refine lv_iconst (v := 0) hx hb dL_stretch_15 (by decide) ?_
    have e11 : s_L_stretch ft fw fh bd fo = 0 := by
      unfold s_L_stretch
      exact (if_pos c10)
    have e12 : n_L_stretch_qout ft fw fh bd fo = vf_upd fo (0 : Int32).toNatClampNeg (FP.f2d (s_X4_stretch ft fw fh bd)) := by
      unfold n_L_stretch_qout
      exact (if_pos c10)
    refine vx_ret ?_
    exact W.iret (v := 0) hx hb hr (fun t ht hW => ⟨⟨_, (), rfl, e11.symm, ⟨(by rw [e12]; rw [ht]; exact hP), va_K.moved hW.alike hK, (by rw [e12]; exact hD)⟩⟩, hS.F ht⟩) hS.2.2 dL_stretch_16
def s_L_apart (o1 : Int32) (o2 : Int32) (fo : Nat → Int64) : Int32 := (if k_X4_apart o1 o2 = 0 then 0 else 1)
def n_L_apart_qout (o1 : Int32) (o2 : Int32) (fo : Nat → Int64) : Nat → Int64 := (if k_X4_apart o1 o2 = 0 then vp_updL fo (0 : Int32).toNatClampNeg ((s_X4_apart o1 o2).toInt64) else fo)
abbrev rm_L_apart : Room := { frames := 8, cells := 2, slots := 12, locals := 132 }
abbrev Qc_L_apart (D : va_G) (cI cZ cJ cD : ClassId) (qo : Nat) (qm : Nat) (qb : Nat) (qr : Nat) (qf : Nat) (o1 : Int32) (o2 : Int32) (qout : Nat) (fo : Nat → Int64) (A : Nat → Prop) : Array Value → State → Outcome → State → Prop := va_Qi (fun (r : Int32) (_ : Unit) => r = s_L_apart o1 o2 fo) (zPost D cI cZ cJ cD A [(qo, .inr (4, [.ref qm, .ref qb, .ref qr, .ref qf])), (qout, .inl (cJ, 1, .inr (.inl (n_L_apart_qout o1 o2 fo))))]) A
abbrev Xc_L_apart (D : va_G) (cI cZ cJ cD : ClassId) (qo : Nat) (qm : Nat) (qb : Nat) (qr : Nat) (qf : Nat) (o1 : Int32) (o2 : Int32) (qout : Nat) (fo : Nat → Int64) (A : Nat → Prop) : String → State → State → Prop := vx_X (fun _ : Unit => True) (fun _ _ _ => False) A
set_option maxHeartbeats 4000000 in
set_option maxRecDepth 100000 in
theorem c_L_apart (l : Launch) (hnt : l.stackTraces = false) (D : va_G) (cI cZ cJ cD : ClassId) (qo : Nat) (qm : Nat) (qb : Nat) (qr : Nat) (qf : Nat) (o1 : Int32) (o2 : Int32) (qout : Nat) (fo : Nat → Int64) (sz : Nat)  : vx_Met l yL_apart wsL_apart rm_L_apart (va_Pc [.ref qo, .int o1, .int o2, .ref qout] (zPreWE D cI cZ cJ cD [(qo, .inr (4, [.ref qm, .ref qb, .ref qr, .ref qf])), (qout, .inl (cJ, 1, .inr (.inl fo)))] sz)) (Qc_L_apart D cI cZ cJ cD qo qm qb qr qf o1 o2 qout fo (va_A [(qo, .inr (4, [.ref qm, .ref qb, .ref qr, .ref qf])), (qout, .inl (cJ, 1, .inr (.inl fo)))] sz)) (Xc_L_apart D cI cZ cJ cD qo qm qb qr qf o1 o2 qout fo (va_A [(qo, .inr (4, [.ref qm, .ref qb, .ref qr, .ref qf])), (qout, .inl (cJ, 1, .inr (.inl fo)))] sz)) 2 12 (va_A [(qo, .inr (4, [.ref qm, .ref qb, .ref qr, .ref qf])), (qout, .inl (cJ, 1, .inr (.inl fo)))] sz) := by
  refine vx_ofWH (cc := cL_apart) (maxL := 5) (ret := (some .int)) (hh := [(0, 10, 13, 15)]) (by decide) rfl ?_
  intro p e s m args below meth c s₁ B hml hv
  obtain ⟨rfl, hsz, hP, hK, hD0, hE⟩ := hv
  have hx := B.exec
  have hb := B.bytes
  have hr := B.returns
  have hts := atoms_spec (ws := wsL_apart) B.pre
  have hown : s.vm.findClass RL = some m.cls := findClass_of_methodNamed B.named
  have hlocks := B.notSynchronized
  have htab := vx_table (x := yL_apart) B (hts _ List.mem_cons_self)
  subst hsz
  have hD := hD0.self (sz := s.heap.size)
  generalize hAe : va_A [(qo, .inr (4, [.ref qm, .ref qb, .ref qr, .ref qf])), (qout, .inl (cJ, 1, .inr (.inl fo)))] s.heap.size = A at hE hD ⊢
  have hA : ∀ q : Nat, s.heap.size ≤ q → A q := fun q h => by rw [← hAe]; exact Or.inr h
  have hS : va_S A s.heap s.heap [] := va_S.rf
  have hl := lv_entry ([.ref qo, .int o1, .int o2, .ref qout]) (n := 5) (Nat.le_of_ble_eq_true rfl)
  rw [lg_entry_eq]
  generalize (lg_sl ([.ref qo, .int o1, .int o2, .ref qout]) ++ List.replicate (5 - (lg_sl ([.ref qo, .int o1, .int o2, .ref qout])).length) Slot.unset).toArray = ls at hl ⊢
  have hl : lv_has ls 5 [(0, .ref qo), (1, .int o1), (2, .int o2), (3, .ref qout)] := hl
  have hP : va_P D vwCl [(qo, .inr (4, [.ref qm, .ref qb, .ref qr, .ref qf])), (qout, .inl (cJ, 1, .inr (.inl fo)))] s.heap := hP
  have hP := hP
  refine lv_aload_n hx hb dL_apart_0 rfl (lv_at hl 3 rfl) ?_
  refine lv_iconst (v := 0) hx hb dL_apart_1 (by decide) ?_
  refine lv_aload_n hx hb dL_apart_2 rfl (lv_at hl 0 rfl) ?_
  refine lv_iload_n hx hb dL_apart_3 rfl (lv_at hl 1 rfl) ?_
  refine lv_iload_n hx hb dL_apart_4 rfl (lv_at hl 2 rfl) ?_
  refine vx_calli (vx_runV (As := [.int o1, .int o2]) (rest := [.int 0, .ref qout]) ⟨hx, hb, hml, hown, hts⟩ (c_X4_apart l hnt D cI cZ cJ cD qo o1 o2 ) (cwV 2 hts gL_apart_X4_apart rfl rfl rfl (by decide +kernel) ⟨Nat.le_of_ble_eq_true rfl, Nat.le_of_ble_eq_true rfl⟩) ⟨zblindE, va_recv hK hP (ci := 4) (q0 := 0) rfl rfl, (fun U hU hW => ⟨rfl, by rw [hU]; exact hP.sub (ws' := []) [] rfl, va_K.moved hW.alike hK, zEnv.go hE hS (fun q h => h.elim) hU hW⟩)⟩ rfl rfl hl.1 rfl (lv_room (Nat.le_of_ble_eq_true rfl)) dL_apart_5 ⟨Nat.le_of_ble_eq_true rfl, Nat.le_of_ble_eq_true rfl⟩) hS (fun q _ h => h.elim) (fun q h => h.elim) (fun q _ h => h.elim) (fun E ce q9 u t H locs ht hvm hpx hB hz1 hk1 hS hq9 hce hcl => ?_) (fun r5 u t H locs ht hvm hw hB hz1 hk1 hS => ?_)
  · have hX := hB
    have hP := zk hP hk1
    have c6 : ¬ k_X4_apart o1 o2 = 0 := zX_ne hX
    rcases hX with ⟨rfl, hk9⟩ | ⟨rfl, hk9⟩ | ⟨rfl, hk9⟩
    · exact absurd hk9 (by have := kr_X4_apart o1 o2; omega)
    · refine vx_catch (own := RL) (name := "java/lang/IllegalArgumentException") (E := "java/lang/IllegalArgumentException") hown [] ⟨0, 10, 13, 15⟩ [] (htab.trans rfl) (fun z hz => absurd hz List.not_mem_nil) rfl (by decide) (hts (.classLink RL 15 "java/lang/IllegalArgumentException") (List.mem_cons_of_mem _ (List.mem_append_left _ (List.mem_of_getElem? (i := 0) rfl)))) ((hE.2.2.2.1 ("java/lang/IllegalArgumentException", "java/lang/IllegalArgumentException") (by decide)).use rfl) hq9 hce hcl ?_
      refine lv_astore (lv' := [(4, .ref q9), (0, .ref qo), (1, .int o1), (2, .int o2), (3, .ref qout)]) hx hb dL_apart_13 hl (by decide) rfl (fun ls hl => ?_)
      refine lv_iconst (v := 1) hx hb dL_apart_15 (by decide) ?_
      have e8 : s_L_apart o1 o2 fo = 1 := by
        unfold s_L_apart
        exact (if_neg c6)
      have e9 : n_L_apart_qout o1 o2 fo = fo := by
        unfold n_L_apart_qout
        exact (if_neg c6)
      refine vx_ret ?_
      exact W.iret (v := 1) hx hb hr (fun t ht hW => ⟨⟨_, (), rfl, e8.symm, ⟨(by rw [e9]; rw [ht]; exact hP), va_K.moved hW.alike hK, (by rw [e9]; exact hD)⟩⟩, hS.F ht⟩) hS.2.2 dL_apart_16
    · exact absurd hk9 (by have := kr_X4_apart o1 o2; omega)
  · obtain ⟨c10, hw⟩ := hw
    rw [hw]
    have hP := zk hP hk1
    refine W.widen (k := 2) (n := 12) (by decide) (by decide) ?_
    refine lv_i2l hx hb dL_apart_8 rfl ?_
    refine va_last hx hb hK hP hD hS 1 2 rfl rfl (z_inc (k := 0) rfl (by decide)) dL_apart_9 (fun H locs hP hD hS => ?_)
    have hP : va_P D vwCl [(qo, .inr (4, [.ref qm, .ref qb, .ref qr, .ref qf])), (qout, .inl (cJ, 1, .inr (.inl (vp_updL fo (0 : Int32).toNatClampNeg ((s_X4_apart o1 o2).toInt64)))))] H := hP
    have hD : va_D A [(qo, .inr (4, [.ref qm, .ref qb, .ref qr, .ref qf])), (qout, .inl (cJ, 1, .inr (.inl (vp_updL fo (0 : Int32).toNatClampNeg ((s_X4_apart o1 o2).toInt64)))))] := hD
    refine lv_goto (tgt := 17) hx hb dL_apart_10 (by decide) ?_
    refine lv_iconst (v := 0) hx hb dL_apart_17 (by decide) ?_
    have e11 : s_L_apart o1 o2 fo = 0 := by
      unfold s_L_apart
      exact (if_pos c10)
    have e12 : n_L_apart_qout o1 o2 fo = vp_updL fo (0 : Int32).toNatClampNeg ((s_X4_apart o1 o2).toInt64) := by
      unfold n_L_apart_qout
      exact (if_pos c10)
    refine vx_ret ?_
    exact W.iret (v := 0) hx hb hr (fun t ht hW => ⟨⟨_, (), rfl, e11.symm, ⟨(by rw [e12]; rw [ht]; exact hP), va_K.moved hW.alike hK, (by rw [e12]; exact hD)⟩⟩, hS.F ht⟩) hS.2.2 dL_apart_18
def s_L_ringWay (fw : Nat → Int32) (fh : Nat → Int32) (lat : Int32) (o1 : Int32) (o2 : Int32) (fo : Nat → Int64) : Int32 := (if k_X4_ringWay fw fh lat o1 o2 = 0 then 0 else 1)
def n_L_ringWay_qout (fw : Nat → Int32) (fh : Nat → Int32) (lat : Int32) (o1 : Int32) (o2 : Int32) (fo : Nat → Int64) : Nat → Int64 := (if k_X4_ringWay fw fh lat o1 o2 = 0 then vp_updL fo (0 : Int32).toNatClampNeg ((s_X4_ringWay fw fh lat o1 o2).toInt64) else fo)
abbrev rm_L_ringWay : Room := { frames := 8, cells := 3, slots := 18, locals := 133 }
abbrev Qc_L_ringWay (D : va_G) (cI cZ cJ cD : ClassId) (qo : Nat) (qm : Nat) (qb : Nat) (qr : Nat) (qf : Nat) (qw : Nat) (qh : Nat) (fw : Nat → Int32) (fh : Nat → Int32) (lat : Int32) (o1 : Int32) (o2 : Int32) (qout : Nat) (fo : Nat → Int64) (A : Nat → Prop) : Array Value → State → Outcome → State → Prop := va_Qi (fun (r : Int32) (_ : Unit) => r = s_L_ringWay fw fh lat o1 o2 fo) (zPost D cI cZ cJ cD A [(qo, .inr (4, [.ref qm, .ref qb, .ref qr, .ref qf])), (qm, .inr (2, [.ref qw, .ref qh])), (qw, .inl (cI, 10, .inl fw)), (qh, .inl (cI, 10, .inl fh)), (qout, .inl (cJ, 1, .inr (.inl (n_L_ringWay_qout fw fh lat o1 o2 fo))))]) A
abbrev Xc_L_ringWay (D : va_G) (cI cZ cJ cD : ClassId) (qo : Nat) (qm : Nat) (qb : Nat) (qr : Nat) (qf : Nat) (qw : Nat) (qh : Nat) (fw : Nat → Int32) (fh : Nat → Int32) (lat : Int32) (o1 : Int32) (o2 : Int32) (qout : Nat) (fo : Nat → Int64) (A : Nat → Prop) : String → State → State → Prop := vx_X (fun _ : Unit => True) (fun _ _ _ => False) A
set_option maxHeartbeats 4000000 in
set_option maxRecDepth 100000 in
theorem c_L_ringWay (l : Launch) (hnt : l.stackTraces = false) (D : va_G) (cI cZ cJ cD : ClassId) (qo : Nat) (qm : Nat) (qb : Nat) (qr : Nat) (qf : Nat) (qw : Nat) (qh : Nat) (fw : Nat → Int32) (fh : Nat → Int32) (lat : Int32) (o1 : Int32) (o2 : Int32) (qout : Nat) (fo : Nat → Int64) (sz : Nat)  : vx_Met l yL_ringWay wsL_ringWay rm_L_ringWay (va_Pc [.ref qo, .int lat, .int o1, .int o2, .ref qout] (zPreWE D cI cZ cJ cD [(qo, .inr (4, [.ref qm, .ref qb, .ref qr, .ref qf])), (qm, .inr (2, [.ref qw, .ref qh])), (qw, .inl (cI, 10, .inl fw)), (qh, .inl (cI, 10, .inl fh)), (qout, .inl (cJ, 1, .inr (.inl fo)))] sz)) (Qc_L_ringWay D cI cZ cJ cD qo qm qb qr qf qw qh fw fh lat o1 o2 qout fo (va_A [(qo, .inr (4, [.ref qm, .ref qb, .ref qr, .ref qf])), (qm, .inr (2, [.ref qw, .ref qh])), (qw, .inl (cI, 10, .inl fw)), (qh, .inl (cI, 10, .inl fh)), (qout, .inl (cJ, 1, .inr (.inl fo)))] sz)) (Xc_L_ringWay D cI cZ cJ cD qo qm qb qr qf qw qh fw fh lat o1 o2 qout fo (va_A [(qo, .inr (4, [.ref qm, .ref qb, .ref qr, .ref qf])), (qm, .inr (2, [.ref qw, .ref qh])), (qw, .inl (cI, 10, .inl fw)), (qh, .inl (cI, 10, .inl fh)), (qout, .inl (cJ, 1, .inr (.inl fo)))] sz)) 3 18 (va_A [(qo, .inr (4, [.ref qm, .ref qb, .ref qr, .ref qf])), (qm, .inr (2, [.ref qw, .ref qh])), (qw, .inl (cI, 10, .inl fw)), (qh, .inl (cI, 10, .inl fh)), (qout, .inl (cJ, 1, .inr (.inl fo)))] sz) := by
  refine vx_ofWH (cc := cL_ringWay) (maxL := 6) (ret := (some .int)) (hh := [(0, 12, 15, 15)]) (by decide) rfl ?_
  intro p e s m args below meth c s₁ B hml hv
  obtain ⟨rfl, hsz, hP, hK, hD0, hE⟩ := hv
  have hx := B.exec
  have hb := B.bytes
  have hr := B.returns
  have hts := atoms_spec (ws := wsL_ringWay) B.pre
  have hown : s.vm.findClass RL = some m.cls := findClass_of_methodNamed B.named
  have hlocks := B.notSynchronized
  have htab := vx_table (x := yL_ringWay) B (hts _ List.mem_cons_self)
  subst hsz
  have hD := hD0.self (sz := s.heap.size)
  generalize hAe : va_A [(qo, .inr (4, [.ref qm, .ref qb, .ref qr, .ref qf])), (qm, .inr (2, [.ref qw, .ref qh])), (qw, .inl (cI, 10, .inl fw)), (qh, .inl (cI, 10, .inl fh)), (qout, .inl (cJ, 1, .inr (.inl fo)))] s.heap.size = A at hE hD ⊢
  have hA : ∀ q : Nat, s.heap.size ≤ q → A q := fun q h => by rw [← hAe]; exact Or.inr h
  have hS : va_S A s.heap s.heap [] := va_S.rf
  have hl := lv_entry ([.ref qo, .int lat, .int o1, .int o2, .ref qout]) (n := 6) (Nat.le_of_ble_eq_true rfl)
  rw [lg_entry_eq]
  generalize (lg_sl ([.ref qo, .int lat, .int o1, .int o2, .ref qout]) ++ List.replicate (6 - (lg_sl ([.ref qo, .int lat, .int o1, .int o2, .ref qout])).length) Slot.unset).toArray = ls at hl ⊢
  have hl : lv_has ls 6 [(0, .ref qo), (1, .int lat), (2, .int o1), (3, .int o2), (4, .ref qout)] := hl
  have hP : va_P D vwCl [(qo, .inr (4, [.ref qm, .ref qb, .ref qr, .ref qf])), (qm, .inr (2, [.ref qw, .ref qh])), (qw, .inl (cI, 10, .inl fw)), (qh, .inl (cI, 10, .inl fh)), (qout, .inl (cJ, 1, .inr (.inl fo)))] s.heap := hP
  have hP := hP
  refine lv_aload hx hb dL_ringWay_0 (lv_at hl 4 rfl) ?_
  refine lv_iconst (v := 0) hx hb dL_ringWay_2 (by decide) ?_
  refine lv_aload_n hx hb dL_ringWay_3 rfl (lv_at hl 0 rfl) ?_
  refine lv_iload_n hx hb dL_ringWay_4 rfl (lv_at hl 1 rfl) ?_
  refine lv_iload_n hx hb dL_ringWay_5 rfl (lv_at hl 2 rfl) ?_
  refine lv_iload_n hx hb dL_ringWay_6 rfl (lv_at hl 3 rfl) ?_
  refine vx_calli (vx_runV (As := [.int lat, .int o1, .int o2]) (rest := [.int 0, .ref qout]) ⟨hx, hb, hml, hown, hts⟩ (c_X4_ringWay l hnt D cI cZ cJ cD qo qm qb qr qf qw qh fw fh lat o1 o2 ) (cwV 3 hts gL_ringWay_X4_ringWay rfl rfl rfl (by decide +kernel) ⟨Nat.le_of_ble_eq_true rfl, Nat.le_of_ble_eq_true rfl⟩) ⟨zblindE, va_recv hK hP (ci := 4) (q0 := 0) rfl rfl, (fun U hU hW => ⟨rfl, by rw [hU]; exact hP.sub (ws' := [(qo, .inr (4, [.ref qm, .ref qb, .ref qr, .ref qf])), (qm, .inr (2, [.ref qw, .ref qh])), (qw, .inl (cI, 10, .inl fw)), (qh, .inl (cI, 10, .inl fh))]) [0, 1, 2, 3] rfl, va_K.moved hW.alike hK, zEnv.go hE hS (fun q h => h.elim) hU hW⟩)⟩ rfl rfl hl.1 rfl (lv_room (Nat.le_of_ble_eq_true rfl)) dL_ringWay_7 ⟨Nat.le_of_ble_eq_true rfl, Nat.le_of_ble_eq_true rfl⟩) hS (fun q _ h => h.elim) (fun q h => h.elim) (fun q _ h => h.elim) (fun E ce q9 u t H locs ht hvm hpx hB hz1 hk1 hS hq9 hce hcl => ?_) (fun r5 u t H locs ht hvm hw hB hz1 hk1 hS => ?_)
  · have hX := hB
    have hP := zk hP hk1
    have c6 : ¬ k_X4_ringWay fw fh lat o1 o2 = 0 := zX_ne hX
    rcases hX with ⟨rfl, hk9⟩ | ⟨rfl, hk9⟩ | ⟨rfl, hk9⟩
    · exact absurd hk9 (by have := kr_X4_ringWay fw fh lat o1 o2; omega)
    · refine vx_catch (own := RL) (name := "java/lang/IllegalArgumentException") (E := "java/lang/IllegalArgumentException") hown [] ⟨0, 12, 15, 15⟩ [] (htab.trans rfl) (fun z hz => absurd hz List.not_mem_nil) rfl (by decide) (hts (.classLink RL 15 "java/lang/IllegalArgumentException") (List.mem_cons_of_mem _ (List.mem_append_left _ (List.mem_append_left _ (List.mem_append_left _ (List.mem_append_left _ (List.mem_of_getElem? (i := 0) rfl))))))) ((hE.2.2.2.1 ("java/lang/IllegalArgumentException", "java/lang/IllegalArgumentException") (by decide)).use rfl) hq9 hce hcl ?_
      refine lv_astore (lv' := [(5, .ref q9), (0, .ref qo), (1, .int lat), (2, .int o1), (3, .int o2), (4, .ref qout)]) hx hb dL_ringWay_15 hl (by decide) rfl (fun ls hl => ?_)
      refine lv_iconst (v := 1) hx hb dL_ringWay_17 (by decide) ?_
      have e8 : s_L_ringWay fw fh lat o1 o2 fo = 1 := by
        unfold s_L_ringWay
        exact (if_neg c6)
      have e9 : n_L_ringWay_qout fw fh lat o1 o2 fo = fo := by
        unfold n_L_ringWay_qout
        exact (if_neg c6)
      refine vx_ret ?_
      exact W.iret (v := 1) hx hb hr (fun t ht hW => ⟨⟨_, (), rfl, e8.symm, ⟨(by rw [e9]; rw [ht]; exact hP), va_K.moved hW.alike hK, (by rw [e9]; exact hD)⟩⟩, hS.F ht⟩) hS.2.2 dL_ringWay_18
    · exact absurd hk9 (by have := kr_X4_ringWay fw fh lat o1 o2; omega)
  · obtain ⟨c10, hw⟩ := hw
    rw [hw]
    have hP := zk hP hk1
    refine W.widen (k := 3) (n := 18) (by decide) (by decide) ?_
    refine lv_i2l hx hb dL_ringWay_10 rfl ?_
    refine va_last hx hb hK hP hD hS 4 2 rfl rfl (z_inc (k := 0) rfl (by decide)) dL_ringWay_11 (fun H locs hP hD hS => ?_)
    have hP : va_P D vwCl [(qo, .inr (4, [.ref qm, .ref qb, .ref qr, .ref qf])), (qm, .inr (2, [.ref qw, .ref qh])), (qw, .inl (cI, 10, .inl fw)), (qh, .inl (cI, 10, .inl fh)), (qout, .inl (cJ, 1, .inr (.inl (vp_updL fo (0 : Int32).toNatClampNeg ((s_X4_ringWay fw fh lat o1 o2).toInt64)))))] H := hP
    have hD : va_D A [(qo, .inr (4, [.ref qm, .ref qb, .ref qr, .ref qf])), (qm, .inr (2, [.ref qw, .ref qh])), (qw, .inl (cI, 10, .inl fw)), (qh, .inl (cI, 10, .inl fh)), (qout, .inl (cJ, 1, .inr (.inl (vp_updL fo (0 : Int32).toNatClampNeg ((s_X4_ringWay fw fh lat o1 o2).toInt64)))))] := hD
    refine lv_goto (tgt := 19) hx hb dL_ringWay_12 (by decide) ?_
    refine lv_iconst (v := 0) hx hb dL_ringWay_19 (by decide) ?_
    have e11 : s_L_ringWay fw fh lat o1 o2 fo = 0 := by
      unfold s_L_ringWay
      exact (if_pos c10)
    have e12 : n_L_ringWay_qout fw fh lat o1 o2 fo = vp_updL fo (0 : Int32).toNatClampNeg ((s_X4_ringWay fw fh lat o1 o2).toInt64) := by
      unfold n_L_ringWay_qout
      exact (if_pos c10)
    refine vx_ret ?_
    exact W.iret (v := 0) hx hb hr (fun t ht hW => ⟨⟨_, (), rfl, e11.symm, ⟨(by rw [e12]; rw [ht]; exact hP), va_K.moved hW.alike hK, (by rw [e12]; exact hD)⟩⟩, hS.F ht⟩) hS.2.2 dL_ringWay_20
def s_L_zones (br : Int32) (nb : Int32) (fo : Nat → Int64) : Int32 := (if k_X4_zones br nb = 0 then 0 else 1)
def n_L_zones_qr_0 (br : Int32) (nb : Int32) (fo : Nat → Int64) : Int32 := n_X4_zones_qr_0 br nb
def n_L_zones_qout (br : Int32) (nb : Int32) (fo : Nat → Int64) : Nat → Int64 := (if k_X4_zones br nb = 0 then vp_updL fo (0 : Int32).toNatClampNeg ((s_X4_zones br nb).toInt64) else fo)
abbrev rm_L_zones : Room := { frames := 7, cells := 1, slots := 6, locals := 111 }
abbrev Qc_L_zones (D : va_G) (cI cZ cJ cD : ClassId) (qo : Nat) (qm : Nat) (qb : Nat) (qr : Nat) (qf : Nat) (br : Int32) (nb : Int32) (qout : Nat) (fo : Nat → Int64) (A : Nat → Prop) : Array Value → State → Outcome → State → Prop := va_Qi (fun (r : Int32) (_ : Unit) => r = s_L_zones br nb fo) (zPost D cI cZ cJ cD A [(qo, .inr (4, [.ref qm, .ref qb, .ref qr, .ref qf])), (qr, .inr (3, [.int (n_L_zones_qr_0 br nb fo)])), (qout, .inl (cJ, 1, .inr (.inl (n_L_zones_qout br nb fo))))]) A
abbrev Xc_L_zones (D : va_G) (cI cZ cJ cD : ClassId) (qo : Nat) (qm : Nat) (qb : Nat) (qr : Nat) (qf : Nat) (br : Int32) (nb : Int32) (qout : Nat) (fo : Nat → Int64) (A : Nat → Prop) : String → State → State → Prop := vx_X (fun _ : Unit => True) (fun _ _ _ => False) A
set_option maxHeartbeats 4000000 in
set_option maxRecDepth 100000 in
theorem c_L_zones (l : Launch) (hnt : l.stackTraces = false) (D : va_G) (cI cZ cJ cD : ClassId) (qo : Nat) (qm : Nat) (qb : Nat) (qr : Nat) (qf : Nat) (br : Int32) (nb : Int32) (qout : Nat) (fo : Nat → Int64) (sz : Nat)  : vx_Met l yL_zones wsL_zones rm_L_zones (va_Pc [.ref qo, .int nb, .ref qout] (zPreWE D cI cZ cJ cD [(qo, .inr (4, [.ref qm, .ref qb, .ref qr, .ref qf])), (qr, .inr (3, [.int br])), (qout, .inl (cJ, 1, .inr (.inl fo)))] sz)) (Qc_L_zones D cI cZ cJ cD qo qm qb qr qf br nb qout fo (va_A [(qo, .inr (4, [.ref qm, .ref qb, .ref qr, .ref qf])), (qr, .inr (3, [.int br])), (qout, .inl (cJ, 1, .inr (.inl fo)))] sz)) (Xc_L_zones D cI cZ cJ cD qo qm qb qr qf br nb qout fo (va_A [(qo, .inr (4, [.ref qm, .ref qb, .ref qr, .ref qf])), (qr, .inr (3, [.int br])), (qout, .inl (cJ, 1, .inr (.inl fo)))] sz)) 1 6 (va_A [(qo, .inr (4, [.ref qm, .ref qb, .ref qr, .ref qf])), (qr, .inr (3, [.int br])), (qout, .inl (cJ, 1, .inr (.inl fo)))] sz) := by
  refine vx_ofWH (cc := cL_zones) (maxL := 4) (ret := (some .int)) (hh := [(0, 9, 12, 15)]) (by decide) rfl ?_
  intro p e s m args below meth c s₁ B hml hv
  obtain ⟨rfl, hsz, hP, hK, hD0, hE⟩ := hv
  have hx := B.exec
  have hb := B.bytes
  have hr := B.returns
  have hts := atoms_spec (ws := wsL_zones) B.pre
  have hown : s.vm.findClass RL = some m.cls := findClass_of_methodNamed B.named
  have hlocks := B.notSynchronized
  have htab := vx_table (x := yL_zones) B (hts _ List.mem_cons_self)
  subst hsz
  have hD := hD0.self (sz := s.heap.size)
  generalize hAe : va_A [(qo, .inr (4, [.ref qm, .ref qb, .ref qr, .ref qf])), (qr, .inr (3, [.int br])), (qout, .inl (cJ, 1, .inr (.inl fo)))] s.heap.size = A at hE hD ⊢
  have hA : ∀ q : Nat, s.heap.size ≤ q → A q := fun q h => by rw [← hAe]; exact Or.inr h
  have hS : va_S A s.heap s.heap [] := va_S.rf
  have hl := lv_entry ([.ref qo, .int nb, .ref qout]) (n := 4) (Nat.le_of_ble_eq_true rfl)
  rw [lg_entry_eq]
  generalize (lg_sl ([.ref qo, .int nb, .ref qout]) ++ List.replicate (4 - (lg_sl ([.ref qo, .int nb, .ref qout])).length) Slot.unset).toArray = ls at hl ⊢
  have hl : lv_has ls 4 [(0, .ref qo), (1, .int nb), (2, .ref qout)] := hl
  have hP : va_P D vwCl [(qo, .inr (4, [.ref qm, .ref qb, .ref qr, .ref qf])), (qr, .inr (3, [.int br])), (qout, .inl (cJ, 1, .inr (.inl fo)))] s.heap := hP
  have hP := hP
  refine lv_aload_n hx hb dL_zones_0 rfl (lv_at hl 2 rfl) ?_
  refine lv_iconst (v := 0) hx hb dL_zones_1 (by decide) ?_
  refine lv_aload_n hx hb dL_zones_2 rfl (lv_at hl 0 rfl) ?_
  refine lv_iload_n hx hb dL_zones_3 rfl (lv_at hl 1 rfl) ?_
  have hPc := hP.sub (ws' := [(qo, .inr (4, [.ref qm, .ref qb, .ref qr, .ref qf])), (qr, .inr (3, [.int br]))]) [0, 1] rfl
  have hDc := hD.sub (ws' := [(qo, .inr (4, [.ref qm, .ref qb, .ref qr, .ref qf])), (qr, .inr (3, [.int br]))]) [0, 1] (by decide) rfl
  have hFc := va_free (wc := [(qo, .inr (4, [.ref qm, .ref qb, .ref qr, .ref qf])), (qr, .inr (3, [.int br]))]) hD hS hA [0, 1] rfl
  refine vx_calli (vx_runV (As := [.int nb]) (rest := [.int 0, .ref qout]) ⟨hx, hb, hml, hown, hts⟩ (c_X4_zones l hnt D cI cZ cJ cD qo qm qb qr qf br nb s.heap.size ) (cwV 1 hts gL_zones_X4_zones rfl rfl rfl (by decide +kernel) ⟨Nat.le_of_ble_eq_true rfl, Nat.le_of_ble_eq_true rfl⟩) ⟨zblindWE, va_recv hK hP (ci := 4) (q0 := 0) rfl rfl, (fun U hU hW => ⟨rfl, by rw [hU], by rw [hU]; exact hPc, va_K.moved hW.alike hK, hDc.weaken (fun _ _ _ _ => trivial), zEnv.go hE hS hFc hU hW⟩)⟩ rfl rfl hl.1 rfl (lv_room (Nat.le_of_ble_eq_true rfl)) dL_zones_4 ⟨Nat.le_of_ble_eq_true rfl, Nat.le_of_ble_eq_true rfl⟩) hS (fun q _ h => hFc q h) hFc (fun q _ h => hFc q h) (fun E ce q9 u t H locs ht hvm hpx hB hz1 hk1 hS hq9 hce hcl => ?_) (fun r5 u t H locs ht hvm hw hB hz1 hk1 hS => ?_)
  · obtain ⟨hX, hB⟩ := hB
    obtain ⟨hP1, hK1, hD1⟩ := hB
    rw [ht] at hP1
    obtain ⟨hP, hD⟩ := va_join (wr := [(qout, .inl (cJ, 1, .inr (.inl fo)))]) (w1 := [(qo, .inr (4, [.ref qm, .ref qb, .ref qr, .ref qf])), (qr, .inr (3, [.int (n_X4_zones_qr_0 br nb)]))]) hP hD [0, 1] [2] rfl rfl (by decide) (by decide) hk1 hFc hP1 hD1
    have hP := hP.sub (ws' := [(qo, .inr (4, [.ref qm, .ref qb, .ref qr, .ref qf])), (qr, .inr (3, [.int (n_X4_zones_qr_0 br nb)])), (qout, .inl (cJ, 1, .inr (.inl fo)))]) [1, 2, 0] rfl
    have hD := hD.sub (ws' := [(qo, .inr (4, [.ref qm, .ref qb, .ref qr, .ref qf])), (qr, .inr (3, [.int (n_X4_zones_qr_0 br nb)])), (qout, .inl (cJ, 1, .inr (.inl fo)))]) [1, 2, 0] (by decide) rfl
    have c6 : ¬ k_X4_zones br nb = 0 := zX_ne hX
    rcases hX with ⟨rfl, hk9⟩ | ⟨rfl, hk9⟩ | ⟨rfl, hk9⟩
    · exact absurd hk9 (by have := kr_X4_zones br nb; omega)
    · refine vx_catch (own := RL) (name := "java/lang/IllegalArgumentException") (E := "java/lang/IllegalArgumentException") hown [] ⟨0, 9, 12, 15⟩ [] (htab.trans rfl) (fun z hz => absurd hz List.not_mem_nil) rfl (by decide) (hts (.classLink RL 15 "java/lang/IllegalArgumentException") (List.mem_cons_of_mem _ (List.mem_append_left _ (List.mem_append_left _ (List.mem_append_left _ (List.mem_of_getElem? (i := 0) rfl)))))) ((hE.2.2.2.1 ("java/lang/IllegalArgumentException", "java/lang/IllegalArgumentException") (by decide)).use rfl) hq9 hce hcl ?_
      refine lv_astore_n (lv' := [(3, .ref q9), (0, .ref qo), (1, .int nb), (2, .ref qout)]) hx hb dL_zones_12 rfl hl (by decide) rfl (fun ls hl => ?_)
      refine lv_iconst (v := 1) hx hb dL_zones_13 (by decide) ?_
      have e8 : s_L_zones br nb fo = 1 := by
        unfold s_L_zones
        exact (if_neg c6)
      have e9 : n_L_zones_qr_0 br nb fo = n_X4_zones_qr_0 br nb := rfl
      have e10 : n_L_zones_qout br nb fo = fo := by
        unfold n_L_zones_qout
        exact (if_neg c6)
      refine vx_ret ?_
      exact W.iret (v := 1) hx hb hr (fun t ht hW => ⟨⟨_, (), rfl, e8.symm, ⟨(by rw [e9, e10]; rw [ht]; exact hP), va_K.moved hW.alike hK, (by rw [e9, e10]; exact hD)⟩⟩, hS.F ht⟩) hS.2.2 dL_zones_14
    · exact absurd hk9 (by have := kr_X4_zones br nb; omega)
  · obtain ⟨c11, hw⟩ := hw
    rw [hw]
    obtain ⟨hP1, hK1, hD1⟩ := hB
    rw [ht] at hP1
    obtain ⟨hP, hD⟩ := va_join (wr := [(qout, .inl (cJ, 1, .inr (.inl fo)))]) (w1 := [(qo, .inr (4, [.ref qm, .ref qb, .ref qr, .ref qf])), (qr, .inr (3, [.int (n_X4_zones_qr_0 br nb)]))]) hP hD [0, 1] [2] rfl rfl (by decide) (by decide) hk1 hFc hP1 hD1
    have hP := hP.sub (ws' := [(qo, .inr (4, [.ref qm, .ref qb, .ref qr, .ref qf])), (qr, .inr (3, [.int (n_X4_zones_qr_0 br nb)])), (qout, .inl (cJ, 1, .inr (.inl fo)))]) [1, 2, 0] rfl
    have hD := hD.sub (ws' := [(qo, .inr (4, [.ref qm, .ref qb, .ref qr, .ref qf])), (qr, .inr (3, [.int (n_X4_zones_qr_0 br nb)])), (qout, .inl (cJ, 1, .inr (.inl fo)))]) [1, 2, 0] (by decide) rfl
    refine W.widen (k := 1) (n := 6) (by decide) (by decide) ?_
    refine lv_i2l hx hb dL_zones_7 rfl ?_
    refine va_last hx hb hK hP hD hS 2 2 rfl rfl (z_inc (k := 0) rfl (by decide)) dL_zones_8 (fun H locs hP hD hS => ?_)
    have hP : va_P D vwCl [(qo, .inr (4, [.ref qm, .ref qb, .ref qr, .ref qf])), (qr, .inr (3, [.int (n_X4_zones_qr_0 br nb)])), (qout, .inl (cJ, 1, .inr (.inl (vp_updL fo (0 : Int32).toNatClampNeg ((s_X4_zones br nb).toInt64)))))] H := hP
    have hD : va_D A [(qo, .inr (4, [.ref qm, .ref qb, .ref qr, .ref qf])), (qr, .inr (3, [.int (n_X4_zones_qr_0 br nb)])), (qout, .inl (cJ, 1, .inr (.inl (vp_updL fo (0 : Int32).toNatClampNeg ((s_X4_zones br nb).toInt64)))))] := hD
    refine lv_goto (tgt := 15) hx hb dL_zones_9 (by decide) ?_
    refine lv_iconst (v := 0) hx hb dL_zones_15 (by decide) ?_
    have e12 : s_L_zones br nb fo = 0 := by
      unfold s_L_zones
      exact (if_pos c11)
    have e13 : n_L_zones_qr_0 br nb fo = n_X4_zones_qr_0 br nb := rfl
    have e14 : n_L_zones_qout br nb fo = vp_updL fo (0 : Int32).toNatClampNeg ((s_X4_zones br nb).toInt64) := by
      unfold n_L_zones_qout
      exact (if_pos c11)
    refine vx_ret ?_
    exact W.iret (v := 0) hx hb hr (fun t ht hW => ⟨⟨_, (), rfl, e12.symm, ⟨(by rw [e13, e14]; rw [ht]; exact hP), va_K.moved hW.alike hK, (by rw [e13, e14]; exact hD)⟩⟩, hS.F ht⟩) hS.2.2 dL_zones_16
def s_L_zone (br : Int32) (lon : Int32) (fo : Nat → Int64) : Int32 := (if k_X4_zone br lon = 0 then 0 else 1)
def n_L_zone_qout (br : Int32) (lon : Int32) (fo : Nat → Int64) : Nat → Int64 := (if k_X4_zone br lon = 0 then vp_updL fo (0 : Int32).toNatClampNeg ((s_X4_zone br lon).toInt64) else fo)
abbrev rm_L_zone : Room := { frames := 8, cells := 1, slots := 6, locals := 131 }
abbrev Qc_L_zone (D : va_G) (cI cZ cJ cD : ClassId) (qo : Nat) (qm : Nat) (qb : Nat) (qr : Nat) (qf : Nat) (br : Int32) (lon : Int32) (qout : Nat) (fo : Nat → Int64) (A : Nat → Prop) : Array Value → State → Outcome → State → Prop := va_Qi (fun (r : Int32) (_ : Unit) => r = s_L_zone br lon fo) (zPost D cI cZ cJ cD A [(qo, .inr (4, [.ref qm, .ref qb, .ref qr, .ref qf])), (qr, .inr (3, [.int br])), (qout, .inl (cJ, 1, .inr (.inl (n_L_zone_qout br lon fo))))]) A
abbrev Xc_L_zone (D : va_G) (cI cZ cJ cD : ClassId) (qo : Nat) (qm : Nat) (qb : Nat) (qr : Nat) (qf : Nat) (br : Int32) (lon : Int32) (qout : Nat) (fo : Nat → Int64) (A : Nat → Prop) : String → State → State → Prop := vx_X (fun _ : Unit => True) (fun _ _ _ => False) A
set_option maxHeartbeats 4000000 in
set_option maxRecDepth 100000 in
theorem c_L_zone (l : Launch) (hnt : l.stackTraces = false) (D : va_G) (cI cZ cJ cD : ClassId) (qo : Nat) (qm : Nat) (qb : Nat) (qr : Nat) (qf : Nat) (br : Int32) (lon : Int32) (qout : Nat) (fo : Nat → Int64) (sz : Nat)  : vx_Met l yL_zone wsL_zone rm_L_zone (va_Pc [.ref qo, .int lon, .ref qout] (zPreWE D cI cZ cJ cD [(qo, .inr (4, [.ref qm, .ref qb, .ref qr, .ref qf])), (qr, .inr (3, [.int br])), (qout, .inl (cJ, 1, .inr (.inl fo)))] sz)) (Qc_L_zone D cI cZ cJ cD qo qm qb qr qf br lon qout fo (va_A [(qo, .inr (4, [.ref qm, .ref qb, .ref qr, .ref qf])), (qr, .inr (3, [.int br])), (qout, .inl (cJ, 1, .inr (.inl fo)))] sz)) (Xc_L_zone D cI cZ cJ cD qo qm qb qr qf br lon qout fo (va_A [(qo, .inr (4, [.ref qm, .ref qb, .ref qr, .ref qf])), (qr, .inr (3, [.int br])), (qout, .inl (cJ, 1, .inr (.inl fo)))] sz)) 1 6 (va_A [(qo, .inr (4, [.ref qm, .ref qb, .ref qr, .ref qf])), (qr, .inr (3, [.int br])), (qout, .inl (cJ, 1, .inr (.inl fo)))] sz) := by
  refine vx_ofWH (cc := cL_zone) (maxL := 4) (ret := (some .int)) (hh := [(0, 9, 12, 15)]) (by decide) rfl ?_
  intro p e s m args below meth c s₁ B hml hv
  obtain ⟨rfl, hsz, hP, hK, hD0, hE⟩ := hv
  have hx := B.exec
  have hb := B.bytes
  have hr := B.returns
  have hts := atoms_spec (ws := wsL_zone) B.pre
  have hown : s.vm.findClass RL = some m.cls := findClass_of_methodNamed B.named
  have hlocks := B.notSynchronized
  have htab := vx_table (x := yL_zone) B (hts _ List.mem_cons_self)
  subst hsz
  have hD := hD0.self (sz := s.heap.size)
  generalize hAe : va_A [(qo, .inr (4, [.ref qm, .ref qb, .ref qr, .ref qf])), (qr, .inr (3, [.int br])), (qout, .inl (cJ, 1, .inr (.inl fo)))] s.heap.size = A at hE hD ⊢
  have hA : ∀ q : Nat, s.heap.size ≤ q → A q := fun q h => by rw [← hAe]; exact Or.inr h
  have hS : va_S A s.heap s.heap [] := va_S.rf
  have hl := lv_entry ([.ref qo, .int lon, .ref qout]) (n := 4) (Nat.le_of_ble_eq_true rfl)
  rw [lg_entry_eq]
  generalize (lg_sl ([.ref qo, .int lon, .ref qout]) ++ List.replicate (4 - (lg_sl ([.ref qo, .int lon, .ref qout])).length) Slot.unset).toArray = ls at hl ⊢
  have hl : lv_has ls 4 [(0, .ref qo), (1, .int lon), (2, .ref qout)] := hl
  have hP : va_P D vwCl [(qo, .inr (4, [.ref qm, .ref qb, .ref qr, .ref qf])), (qr, .inr (3, [.int br])), (qout, .inl (cJ, 1, .inr (.inl fo)))] s.heap := hP
  have hP := hP
  refine lv_aload_n hx hb dL_zone_0 rfl (lv_at hl 2 rfl) ?_
  refine lv_iconst (v := 0) hx hb dL_zone_1 (by decide) ?_
  refine lv_aload_n hx hb dL_zone_2 rfl (lv_at hl 0 rfl) ?_
  refine lv_iload_n hx hb dL_zone_3 rfl (lv_at hl 1 rfl) ?_
  refine vx_calli (vx_runV (As := [.int lon]) (rest := [.int 0, .ref qout]) ⟨hx, hb, hml, hown, hts⟩ (c_X4_zone l hnt D cI cZ cJ cD qo qm qb qr qf br lon ) (cwV 1 hts gL_zone_X4_zone rfl rfl rfl (by decide +kernel) ⟨Nat.le_of_ble_eq_true rfl, Nat.le_of_ble_eq_true rfl⟩) ⟨zblindE, va_recv hK hP (ci := 4) (q0 := 0) rfl rfl, (fun U hU hW => ⟨rfl, by rw [hU]; exact hP.sub (ws' := [(qo, .inr (4, [.ref qm, .ref qb, .ref qr, .ref qf])), (qr, .inr (3, [.int br]))]) [0, 1] rfl, va_K.moved hW.alike hK, zEnv.go hE hS (fun q h => h.elim) hU hW⟩)⟩ rfl rfl hl.1 rfl (lv_room (Nat.le_of_ble_eq_true rfl)) dL_zone_4 ⟨Nat.le_of_ble_eq_true rfl, Nat.le_of_ble_eq_true rfl⟩) hS (fun q _ h => h.elim) (fun q h => h.elim) (fun q _ h => h.elim) (fun E ce q9 u t H locs ht hvm hpx hB hz1 hk1 hS hq9 hce hcl => ?_) (fun r5 u t H locs ht hvm hw hB hz1 hk1 hS => ?_)
  · have hX := hB
    have hP := zk hP hk1
    have c6 : ¬ k_X4_zone br lon = 0 := zX_ne hX
    rcases hX with ⟨rfl, hk9⟩ | ⟨rfl, hk9⟩ | ⟨rfl, hk9⟩
    · exact absurd hk9 (by have := kr_X4_zone br lon; omega)
    · refine vx_catch (own := RL) (name := "java/lang/IllegalArgumentException") (E := "java/lang/IllegalArgumentException") hown [] ⟨0, 9, 12, 15⟩ [] (htab.trans rfl) (fun z hz => absurd hz List.not_mem_nil) rfl (by decide) (hts (.classLink RL 15 "java/lang/IllegalArgumentException") (List.mem_cons_of_mem _ (List.mem_append_left _ (List.mem_append_left _ (List.mem_append_left _ (List.mem_of_getElem? (i := 0) rfl)))))) ((hE.2.2.2.1 ("java/lang/IllegalArgumentException", "java/lang/IllegalArgumentException") (by decide)).use rfl) hq9 hce hcl ?_
      refine lv_astore_n (lv' := [(3, .ref q9), (0, .ref qo), (1, .int lon), (2, .ref qout)]) hx hb dL_zone_12 rfl hl (by decide) rfl (fun ls hl => ?_)
      refine lv_iconst (v := 1) hx hb dL_zone_13 (by decide) ?_
      have e8 : s_L_zone br lon fo = 1 := by
        unfold s_L_zone
        exact (if_neg c6)
      have e9 : n_L_zone_qout br lon fo = fo := by
        unfold n_L_zone_qout
        exact (if_neg c6)
      refine vx_ret ?_
      exact W.iret (v := 1) hx hb hr (fun t ht hW => ⟨⟨_, (), rfl, e8.symm, ⟨(by rw [e9]; rw [ht]; exact hP), va_K.moved hW.alike hK, (by rw [e9]; exact hD)⟩⟩, hS.F ht⟩) hS.2.2 dL_zone_14
    · exact absurd hk9 (by have := kr_X4_zone br lon; omega)
  · obtain ⟨c10, hw⟩ := hw
    rw [hw]
    have hP := zk hP hk1
    refine W.widen (k := 1) (n := 6) (by decide) (by decide) ?_
    refine lv_i2l hx hb dL_zone_7 rfl ?_
    refine va_last hx hb hK hP hD hS 2 2 rfl rfl (z_inc (k := 0) rfl (by decide)) dL_zone_8 (fun H locs hP hD hS => ?_)
    have hP : va_P D vwCl [(qo, .inr (4, [.ref qm, .ref qb, .ref qr, .ref qf])), (qr, .inr (3, [.int br])), (qout, .inl (cJ, 1, .inr (.inl (vp_updL fo (0 : Int32).toNatClampNeg ((s_X4_zone br lon).toInt64)))))] H := hP
    have hD : va_D A [(qo, .inr (4, [.ref qm, .ref qb, .ref qr, .ref qf])), (qr, .inr (3, [.int br])), (qout, .inl (cJ, 1, .inr (.inl (vp_updL fo (0 : Int32).toNatClampNeg ((s_X4_zone br lon).toInt64)))))] := hD
    refine lv_goto (tgt := 15) hx hb dL_zone_9 (by decide) ?_
    refine lv_iconst (v := 0) hx hb dL_zone_15 (by decide) ?_
    have e11 : s_L_zone br lon fo = 0 := by
      unfold s_L_zone
      exact (if_pos c10)
    have e12 : n_L_zone_qout br lon fo = vp_updL fo (0 : Int32).toNatClampNeg ((s_X4_zone br lon).toInt64) := by
      unfold n_L_zone_qout
      exact (if_pos c10)
    refine vx_ret ?_
    exact W.iret (v := 0) hx hb hr (fun t ht hW => ⟨⟨_, (), rfl, e11.symm, ⟨(by rw [e12]; rw [ht]; exact hP), va_K.moved hW.alike hK, (by rw [e12]; exact hD)⟩⟩, hS.F ht⟩) hS.2.2 dL_zone_16
def s_L_seams (br : Int32) (o1 : Int32) (o2 : Int32) (fo : Nat → Int64) : Int32 := (if k_X4_seams br o1 o2 = 0 then 0 else 1)
def n_L_seams_qout (br : Int32) (o1 : Int32) (o2 : Int32) (fo : Nat → Int64) : Nat → Int64 := (if k_X4_seams br o1 o2 = 0 then vp_updL fo (0 : Int32).toNatClampNeg ((s_X4_seams br o1 o2).toInt64) else fo)
abbrev rm_L_seams : Room := { frames := 8, cells := 2, slots := 12, locals := 133 }
abbrev Qc_L_seams (D : va_G) (cI cZ cJ cD : ClassId) (qo : Nat) (qm : Nat) (qb : Nat) (qr : Nat) (qf : Nat) (br : Int32) (o1 : Int32) (o2 : Int32) (qout : Nat) (fo : Nat → Int64) (A : Nat → Prop) : Array Value → State → Outcome → State → Prop := va_Qi (fun (r : Int32) (_ : Unit) => r = s_L_seams br o1 o2 fo) (zPost D cI cZ cJ cD A [(qo, .inr (4, [.ref qm, .ref qb, .ref qr, .ref qf])), (qr, .inr (3, [.int br])), (qout, .inl (cJ, 1, .inr (.inl (n_L_seams_qout br o1 o2 fo))))]) A
abbrev Xc_L_seams (D : va_G) (cI cZ cJ cD : ClassId) (qo : Nat) (qm : Nat) (qb : Nat) (qr : Nat) (qf : Nat) (br : Int32) (o1 : Int32) (o2 : Int32) (qout : Nat) (fo : Nat → Int64) (A : Nat → Prop) : String → State → State → Prop := vx_X (fun _ : Unit => True) (fun _ _ _ => False) A
set_option maxHeartbeats 4000000 in
set_option maxRecDepth 100000 in
theorem c_L_seams (l : Launch) (hnt : l.stackTraces = false) (D : va_G) (cI cZ cJ cD : ClassId) (qo : Nat) (qm : Nat) (qb : Nat) (qr : Nat) (qf : Nat) (br : Int32) (o1 : Int32) (o2 : Int32) (qout : Nat) (fo : Nat → Int64) (sz : Nat)  : vx_Met l yL_seams wsL_seams rm_L_seams (va_Pc [.ref qo, .int o1, .int o2, .ref qout] (zPreWE D cI cZ cJ cD [(qo, .inr (4, [.ref qm, .ref qb, .ref qr, .ref qf])), (qr, .inr (3, [.int br])), (qout, .inl (cJ, 1, .inr (.inl fo)))] sz)) (Qc_L_seams D cI cZ cJ cD qo qm qb qr qf br o1 o2 qout fo (va_A [(qo, .inr (4, [.ref qm, .ref qb, .ref qr, .ref qf])), (qr, .inr (3, [.int br])), (qout, .inl (cJ, 1, .inr (.inl fo)))] sz)) (Xc_L_seams D cI cZ cJ cD qo qm qb qr qf br o1 o2 qout fo (va_A [(qo, .inr (4, [.ref qm, .ref qb, .ref qr, .ref qf])), (qr, .inr (3, [.int br])), (qout, .inl (cJ, 1, .inr (.inl fo)))] sz)) 2 12 (va_A [(qo, .inr (4, [.ref qm, .ref qb, .ref qr, .ref qf])), (qr, .inr (3, [.int br])), (qout, .inl (cJ, 1, .inr (.inl fo)))] sz) := by
  refine vx_ofWH (cc := cL_seams) (maxL := 5) (ret := (some .int)) (hh := [(0, 10, 13, 15)]) (by decide) rfl ?_
  intro p e s m args below meth c s₁ B hml hv
  obtain ⟨rfl, hsz, hP, hK, hD0, hE⟩ := hv
  have hx := B.exec
  have hb := B.bytes
  have hr := B.returns
  have hts := atoms_spec (ws := wsL_seams) B.pre
  have hown : s.vm.findClass RL = some m.cls := findClass_of_methodNamed B.named
  have hlocks := B.notSynchronized
  have htab := vx_table (x := yL_seams) B (hts _ List.mem_cons_self)
  subst hsz
  have hD := hD0.self (sz := s.heap.size)
  generalize hAe : va_A [(qo, .inr (4, [.ref qm, .ref qb, .ref qr, .ref qf])), (qr, .inr (3, [.int br])), (qout, .inl (cJ, 1, .inr (.inl fo)))] s.heap.size = A at hE hD ⊢
  have hA : ∀ q : Nat, s.heap.size ≤ q → A q := fun q h => by rw [← hAe]; exact Or.inr h
  have hS : va_S A s.heap s.heap [] := va_S.rf
  have hl := lv_entry ([.ref qo, .int o1, .int o2, .ref qout]) (n := 5) (Nat.le_of_ble_eq_true rfl)
  rw [lg_entry_eq]
  generalize (lg_sl ([.ref qo, .int o1, .int o2, .ref qout]) ++ List.replicate (5 - (lg_sl ([.ref qo, .int o1, .int o2, .ref qout])).length) Slot.unset).toArray = ls at hl ⊢
  have hl : lv_has ls 5 [(0, .ref qo), (1, .int o1), (2, .int o2), (3, .ref qout)] := hl
  have hP : va_P D vwCl [(qo, .inr (4, [.ref qm, .ref qb, .ref qr, .ref qf])), (qr, .inr (3, [.int br])), (qout, .inl (cJ, 1, .inr (.inl fo)))] s.heap := hP
  have hP := hP
  refine lv_aload_n hx hb dL_seams_0 rfl (lv_at hl 3 rfl) ?_
  refine lv_iconst (v := 0) hx hb dL_seams_1 (by decide) ?_
  refine lv_aload_n hx hb dL_seams_2 rfl (lv_at hl 0 rfl) ?_
  refine lv_iload_n hx hb dL_seams_3 rfl (lv_at hl 1 rfl) ?_
  refine lv_iload_n hx hb dL_seams_4 rfl (lv_at hl 2 rfl) ?_
  refine vx_calli (vx_runV (As := [.int o1, .int o2]) (rest := [.int 0, .ref qout]) ⟨hx, hb, hml, hown, hts⟩ (c_X4_seams l hnt D cI cZ cJ cD qo qm qb qr qf br o1 o2 ) (cwV 2 hts gL_seams_X4_seams rfl rfl rfl (by decide +kernel) ⟨Nat.le_of_ble_eq_true rfl, Nat.le_of_ble_eq_true rfl⟩) ⟨zblindE, va_recv hK hP (ci := 4) (q0 := 0) rfl rfl, (fun U hU hW => ⟨rfl, by rw [hU]; exact hP.sub (ws' := [(qo, .inr (4, [.ref qm, .ref qb, .ref qr, .ref qf])), (qr, .inr (3, [.int br]))]) [0, 1] rfl, va_K.moved hW.alike hK, zEnv.go hE hS (fun q h => h.elim) hU hW⟩)⟩ rfl rfl hl.1 rfl (lv_room (Nat.le_of_ble_eq_true rfl)) dL_seams_5 ⟨Nat.le_of_ble_eq_true rfl, Nat.le_of_ble_eq_true rfl⟩) hS (fun q _ h => h.elim) (fun q h => h.elim) (fun q _ h => h.elim) (fun E ce q9 u t H locs ht hvm hpx hB hz1 hk1 hS hq9 hce hcl => ?_) (fun r5 u t H locs ht hvm hw hB hz1 hk1 hS => ?_)
  · have hX := hB
    have hP := zk hP hk1
    have c6 : ¬ k_X4_seams br o1 o2 = 0 := zX_ne hX
    rcases hX with ⟨rfl, hk9⟩ | ⟨rfl, hk9⟩ | ⟨rfl, hk9⟩
    · exact absurd hk9 (by have := kr_X4_seams br o1 o2; omega)
    · refine vx_catch (own := RL) (name := "java/lang/IllegalArgumentException") (E := "java/lang/IllegalArgumentException") hown [] ⟨0, 10, 13, 15⟩ [] (htab.trans rfl) (fun z hz => absurd hz List.not_mem_nil) rfl (by decide) (hts (.classLink RL 15 "java/lang/IllegalArgumentException") (List.mem_cons_of_mem _ (List.mem_append_left _ (List.mem_append_left _ (List.mem_append_left _ (List.mem_append_left _ (List.mem_of_getElem? (i := 0) rfl))))))) ((hE.2.2.2.1 ("java/lang/IllegalArgumentException", "java/lang/IllegalArgumentException") (by decide)).use rfl) hq9 hce hcl ?_
      refine lv_astore (lv' := [(4, .ref q9), (0, .ref qo), (1, .int o1), (2, .int o2), (3, .ref qout)]) hx hb dL_seams_13 hl (by decide) rfl (fun ls hl => ?_)
      refine lv_iconst (v := 1) hx hb dL_seams_15 (by decide) ?_
      have e8 : s_L_seams br o1 o2 fo = 1 := by
        unfold s_L_seams
        exact (if_neg c6)
      have e9 : n_L_seams_qout br o1 o2 fo = fo := by
        unfold n_L_seams_qout
        exact (if_neg c6)
      refine vx_ret ?_
      exact W.iret (v := 1) hx hb hr (fun t ht hW => ⟨⟨_, (), rfl, e8.symm, ⟨(by rw [e9]; rw [ht]; exact hP), va_K.moved hW.alike hK, (by rw [e9]; exact hD)⟩⟩, hS.F ht⟩) hS.2.2 dL_seams_16
    · exact absurd hk9 (by have := kr_X4_seams br o1 o2; omega)
  · obtain ⟨c10, hw⟩ := hw
    rw [hw]
    have hP := zk hP hk1
    refine W.widen (k := 2) (n := 12) (by decide) (by decide) ?_
    refine lv_i2l hx hb dL_seams_8 rfl ?_
    refine va_last hx hb hK hP hD hS 2 2 rfl rfl (z_inc (k := 0) rfl (by decide)) dL_seams_9 (fun H locs hP hD hS => ?_)
    have hP : va_P D vwCl [(qo, .inr (4, [.ref qm, .ref qb, .ref qr, .ref qf])), (qr, .inr (3, [.int br])), (qout, .inl (cJ, 1, .inr (.inl (vp_updL fo (0 : Int32).toNatClampNeg ((s_X4_seams br o1 o2).toInt64)))))] H := hP
    have hD : va_D A [(qo, .inr (4, [.ref qm, .ref qb, .ref qr, .ref qf])), (qr, .inr (3, [.int br])), (qout, .inl (cJ, 1, .inr (.inl (vp_updL fo (0 : Int32).toNatClampNeg ((s_X4_seams br o1 o2).toInt64)))))] := hD
    refine lv_goto (tgt := 17) hx hb dL_seams_10 (by decide) ?_
    refine lv_iconst (v := 0) hx hb dL_seams_17 (by decide) ?_
    have e11 : s_L_seams br o1 o2 fo = 0 := by
      unfold s_L_seams
      exact (if_pos c10)
    have e12 : n_L_seams_qout br o1 o2 fo = vp_updL fo (0 : Int32).toNatClampNeg ((s_X4_seams br o1 o2).toInt64) := by
      unfold n_L_seams_qout
      exact (if_pos c10)
    refine vx_ret ?_
    exact W.iret (v := 0) hx hb hr (fun t ht hW => ⟨⟨_, (), rfl, e11.symm, ⟨(by rw [e12]; rw [ht]; exact hP), va_K.moved hW.alike hK, (by rw [e12]; exact hD)⟩⟩, hS.F ht⟩) hS.2.2 dL_seams_18
def s_L_dateLine (o1 : Int32) (o2 : Int32) (fo : Nat → Int64) : Int32 := (if k_X4_dateLine o1 o2 = 0 then 0 else 1)
def n_L_dateLine_qout (o1 : Int32) (o2 : Int32) (fo : Nat → Int64) : Nat → Int64 := (if k_X4_dateLine o1 o2 = 0 then vp_updL fo (0 : Int32).toNatClampNeg ((s_X4_dateLine o1 o2).toInt64) else fo)
abbrev rm_L_dateLine : Room := { frames := 8, cells := 2, slots := 12, locals := 132 }
abbrev Qc_L_dateLine (D : va_G) (cI cZ cJ cD : ClassId) (qo : Nat) (qm : Nat) (qb : Nat) (qr : Nat) (qf : Nat) (o1 : Int32) (o2 : Int32) (qout : Nat) (fo : Nat → Int64) (A : Nat → Prop) : Array Value → State → Outcome → State → Prop := va_Qi (fun (r : Int32) (_ : Unit) => r = s_L_dateLine o1 o2 fo) (zPost D cI cZ cJ cD A [(qo, .inr (4, [.ref qm, .ref qb, .ref qr, .ref qf])), (qout, .inl (cJ, 1, .inr (.inl (n_L_dateLine_qout o1 o2 fo))))]) A
abbrev Xc_L_dateLine (D : va_G) (cI cZ cJ cD : ClassId) (qo : Nat) (qm : Nat) (qb : Nat) (qr : Nat) (qf : Nat) (o1 : Int32) (o2 : Int32) (qout : Nat) (fo : Nat → Int64) (A : Nat → Prop) : String → State → State → Prop := vx_X (fun _ : Unit => True) (fun _ _ _ => False) A
set_option maxHeartbeats 4000000 in
set_option maxRecDepth 100000 in
theorem c_L_dateLine (l : Launch) (hnt : l.stackTraces = false) (D : va_G) (cI cZ cJ cD : ClassId) (qo : Nat) (qm : Nat) (qb : Nat) (qr : Nat) (qf : Nat) (o1 : Int32) (o2 : Int32) (qout : Nat) (fo : Nat → Int64) (sz : Nat)  : vx_Met l yL_dateLine wsL_dateLine rm_L_dateLine (va_Pc [.ref qo, .int o1, .int o2, .ref qout] (zPreWE D cI cZ cJ cD [(qo, .inr (4, [.ref qm, .ref qb, .ref qr, .ref qf])), (qout, .inl (cJ, 1, .inr (.inl fo)))] sz)) (Qc_L_dateLine D cI cZ cJ cD qo qm qb qr qf o1 o2 qout fo (va_A [(qo, .inr (4, [.ref qm, .ref qb, .ref qr, .ref qf])), (qout, .inl (cJ, 1, .inr (.inl fo)))] sz)) (Xc_L_dateLine D cI cZ cJ cD qo qm qb qr qf o1 o2 qout fo (va_A [(qo, .inr (4, [.ref qm, .ref qb, .ref qr, .ref qf])), (qout, .inl (cJ, 1, .inr (.inl fo)))] sz)) 2 12 (va_A [(qo, .inr (4, [.ref qm, .ref qb, .ref qr, .ref qf])), (qout, .inl (cJ, 1, .inr (.inl fo)))] sz) := by
  refine vx_ofWH (cc := cL_dateLine) (maxL := 5) (ret := (some .int)) (hh := [(0, 10, 13, 15)]) (by decide) rfl ?_
  intro p e s m args below meth c s₁ B hml hv
  obtain ⟨rfl, hsz, hP, hK, hD0, hE⟩ := hv
  have hx := B.exec
  have hb := B.bytes
  have hr := B.returns
  have hts := atoms_spec (ws := wsL_dateLine) B.pre
  have hown : s.vm.findClass RL = some m.cls := findClass_of_methodNamed B.named
  have hlocks := B.notSynchronized
  have htab := vx_table (x := yL_dateLine) B (hts _ List.mem_cons_self)
  subst hsz
  have hD := hD0.self (sz := s.heap.size)
  generalize hAe : va_A [(qo, .inr (4, [.ref qm, .ref qb, .ref qr, .ref qf])), (qout, .inl (cJ, 1, .inr (.inl fo)))] s.heap.size = A at hE hD ⊢
  have hA : ∀ q : Nat, s.heap.size ≤ q → A q := fun q h => by rw [← hAe]; exact Or.inr h
  have hS : va_S A s.heap s.heap [] := va_S.rf
  have hl := lv_entry ([.ref qo, .int o1, .int o2, .ref qout]) (n := 5) (Nat.le_of_ble_eq_true rfl)
  rw [lg_entry_eq]
  generalize (lg_sl ([.ref qo, .int o1, .int o2, .ref qout]) ++ List.replicate (5 - (lg_sl ([.ref qo, .int o1, .int o2, .ref qout])).length) Slot.unset).toArray = ls at hl ⊢
  have hl : lv_has ls 5 [(0, .ref qo), (1, .int o1), (2, .int o2), (3, .ref qout)] := hl
  have hP : va_P D vwCl [(qo, .inr (4, [.ref qm, .ref qb, .ref qr, .ref qf])), (qout, .inl (cJ, 1, .inr (.inl fo)))] s.heap := hP
  have hP := hP
  refine lv_aload_n hx hb dL_dateLine_0 rfl (lv_at hl 3 rfl) ?_
  refine lv_iconst (v := 0) hx hb dL_dateLine_1 (by decide) ?_
  refine lv_aload_n hx hb dL_dateLine_2 rfl (lv_at hl 0 rfl) ?_
  refine lv_iload_n hx hb dL_dateLine_3 rfl (lv_at hl 1 rfl) ?_
  refine lv_iload_n hx hb dL_dateLine_4 rfl (lv_at hl 2 rfl) ?_
  refine vx_calli (vx_runV (As := [.int o1, .int o2]) (rest := [.int 0, .ref qout]) ⟨hx, hb, hml, hown, hts⟩ (c_X4_dateLine l hnt D cI cZ cJ cD qo o1 o2 ) (cwV 2 hts gL_dateLine_X4_dateLine rfl rfl rfl (by decide +kernel) ⟨Nat.le_of_ble_eq_true rfl, Nat.le_of_ble_eq_true rfl⟩) ⟨zblindE, va_recv hK hP (ci := 4) (q0 := 0) rfl rfl, (fun U hU hW => ⟨rfl, by rw [hU]; exact hP.sub (ws' := []) [] rfl, va_K.moved hW.alike hK, zEnv.go hE hS (fun q h => h.elim) hU hW⟩)⟩ rfl rfl hl.1 rfl (lv_room (Nat.le_of_ble_eq_true rfl)) dL_dateLine_5 ⟨Nat.le_of_ble_eq_true rfl, Nat.le_of_ble_eq_true rfl⟩) hS (fun q _ h => h.elim) (fun q h => h.elim) (fun q _ h => h.elim) (fun E ce q9 u t H locs ht hvm hpx hB hz1 hk1 hS hq9 hce hcl => ?_) (fun r5 u t H locs ht hvm hw hB hz1 hk1 hS => ?_)
  · have hX := hB
    have hP := zk hP hk1
    have c6 : ¬ k_X4_dateLine o1 o2 = 0 := zX_ne hX
    rcases hX with ⟨rfl, hk9⟩ | ⟨rfl, hk9⟩ | ⟨rfl, hk9⟩
    · exact absurd hk9 (by have := kr_X4_dateLine o1 o2; omega)
    · refine vx_catch (own := RL) (name := "java/lang/IllegalArgumentException") (E := "java/lang/IllegalArgumentException") hown [] ⟨0, 10, 13, 15⟩ [] (htab.trans rfl) (fun z hz => absurd hz List.not_mem_nil) rfl (by decide) (hts (.classLink RL 15 "java/lang/IllegalArgumentException") (List.mem_cons_of_mem _ (List.mem_append_left _ (List.mem_of_getElem? (i := 0) rfl)))) ((hE.2.2.2.1 ("java/lang/IllegalArgumentException", "java/lang/IllegalArgumentException") (by decide)).use rfl) hq9 hce hcl ?_
      refine lv_astore (lv' := [(4, .ref q9), (0, .ref qo), (1, .int o1), (2, .int o2), (3, .ref qout)]) hx hb dL_dateLine_13 hl (by decide) rfl (fun ls hl => ?_)
      refine lv_iconst (v := 1) hx hb dL_dateLine_15 (by decide) ?_
      have e8 : s_L_dateLine o1 o2 fo = 1 := by
        unfold s_L_dateLine
        exact (if_neg c6)
      have e9 : n_L_dateLine_qout o1 o2 fo = fo := by
        unfold n_L_dateLine_qout
        exact (if_neg c6)
      refine vx_ret ?_
      exact W.iret (v := 1) hx hb hr (fun t ht hW => ⟨⟨_, (), rfl, e8.symm, ⟨(by rw [e9]; rw [ht]; exact hP), va_K.moved hW.alike hK, (by rw [e9]; exact hD)⟩⟩, hS.F ht⟩) hS.2.2 dL_dateLine_16
    · exact absurd hk9 (by have := kr_X4_dateLine o1 o2; omega)
  · obtain ⟨c10, hw⟩ := hw
    rw [hw]
    have hP := zk hP hk1
    refine W.widen (k := 2) (n := 12) (by decide) (by decide) ?_
    refine lv_i2l hx hb dL_dateLine_8 rfl ?_
    refine va_last hx hb hK hP hD hS 1 2 rfl rfl (z_inc (k := 0) rfl (by decide)) dL_dateLine_9 (fun H locs hP hD hS => ?_)
    have hP : va_P D vwCl [(qo, .inr (4, [.ref qm, .ref qb, .ref qr, .ref qf])), (qout, .inl (cJ, 1, .inr (.inl (vp_updL fo (0 : Int32).toNatClampNeg ((s_X4_dateLine o1 o2).toInt64)))))] H := hP
    have hD : va_D A [(qo, .inr (4, [.ref qm, .ref qb, .ref qr, .ref qf])), (qout, .inl (cJ, 1, .inr (.inl (vp_updL fo (0 : Int32).toNatClampNeg ((s_X4_dateLine o1 o2).toInt64)))))] := hD
    refine lv_goto (tgt := 17) hx hb dL_dateLine_10 (by decide) ?_
    refine lv_iconst (v := 0) hx hb dL_dateLine_17 (by decide) ?_
    have e11 : s_L_dateLine o1 o2 fo = 0 := by
      unfold s_L_dateLine
      exact (if_pos c10)
    have e12 : n_L_dateLine_qout o1 o2 fo = vp_updL fo (0 : Int32).toNatClampNeg ((s_X4_dateLine o1 o2).toInt64) := by
      unfold n_L_dateLine_qout
      exact (if_pos c10)
    refine vx_ret ?_
    exact W.iret (v := 0) hx hb hr (fun t ht hW => ⟨⟨_, (), rfl, e11.symm, ⟨(by rw [e12]; rw [ht]; exact hP), va_K.moved hW.alike hK, (by rw [e12]; exact hD)⟩⟩, hS.F ht⟩) hS.2.2 dL_dateLine_18
def s_L_sheet (jC : Int32) (jR : Int32) (nf : Int32) (fx : Nat → Int32) (fy : Nat → Int32) (fz : Nat → Int32) (fu : Nat → Int32) (co : Int32) (ro : Int32) : Int32 := (if k_X4_sheet jC jR nf fx fy fz fu co ro = 0 then 0 else 1)
def n_L_sheet_qf_4 (jC : Int32) (jR : Int32) (nf : Int32) (fx : Nat → Int32) (fy : Nat → Int32) (fz : Nat → Int32) (fu : Nat → Int32) (co : Int32) (ro : Int32) : Int32 := n_X4_sheet_qf_4 jC jR nf fx fy fz fu co ro
def n_L_sheet_qf_5 (jC : Int32) (jR : Int32) (nf : Int32) (fx : Nat → Int32) (fy : Nat → Int32) (fz : Nat → Int32) (fu : Nat → Int32) (co : Int32) (ro : Int32) : Int32 := n_X4_sheet_qf_5 jC jR nf fx fy fz fu co ro
def n_L_sheet_qf_6 (jC : Int32) (jR : Int32) (nf : Int32) (fx : Nat → Int32) (fy : Nat → Int32) (fz : Nat → Int32) (fu : Nat → Int32) (co : Int32) (ro : Int32) : Int32 := n_X4_sheet_qf_6 jC jR nf fx fy fz fu co ro
def n_L_sheet_qx (jC : Int32) (jR : Int32) (nf : Int32) (fx : Nat → Int32) (fy : Nat → Int32) (fz : Nat → Int32) (fu : Nat → Int32) (co : Int32) (ro : Int32) : Nat → Int32 := n_X4_sheet_qx jC jR nf fx fy fz fu co ro
def n_L_sheet_qy (jC : Int32) (jR : Int32) (nf : Int32) (fx : Nat → Int32) (fy : Nat → Int32) (fz : Nat → Int32) (fu : Nat → Int32) (co : Int32) (ro : Int32) : Nat → Int32 := n_X4_sheet_qy jC jR nf fx fy fz fu co ro
def n_L_sheet_qz (jC : Int32) (jR : Int32) (nf : Int32) (fx : Nat → Int32) (fy : Nat → Int32) (fz : Nat → Int32) (fu : Nat → Int32) (co : Int32) (ro : Int32) : Nat → Int32 := n_X4_sheet_qz jC jR nf fx fy fz fu co ro
def n_L_sheet_qu (jC : Int32) (jR : Int32) (nf : Int32) (fx : Nat → Int32) (fy : Nat → Int32) (fz : Nat → Int32) (fu : Nat → Int32) (co : Int32) (ro : Int32) : Nat → Int32 := n_X4_sheet_qu jC jR nf fx fy fz fu co ro
abbrev rm_L_sheet : Room := { frames := 7, cells := 1, slots := 6, locals := 112 }
abbrev Qc_L_sheet (D : va_G) (cI cZ cJ cD : ClassId) (qo : Nat) (qm : Nat) (qb : Nat) (qr : Nat) (qf : Nat) (qx : Nat) (qy : Nat) (qz : Nat) (qu : Nat) (jC : Int32) (jR : Int32) (nf : Int32) (fx : Nat → Int32) (fy : Nat → Int32) (fz : Nat → Int32) (fu : Nat → Int32) (co : Int32) (ro : Int32) (A : Nat → Prop) : Array Value → State → Outcome → State → Prop := va_Qi (fun (r : Int32) (_ : Unit) => r = s_L_sheet jC jR nf fx fy fz fu co ro) (zPost D cI cZ cJ cD A [(qo, .inr (4, [.ref qm, .ref qb, .ref qr, .ref qf])), (qf, .inr (1, [.ref qx, .ref qy, .ref qz, .ref qu, .int (n_L_sheet_qf_4 jC jR nf fx fy fz fu co ro), .int (n_L_sheet_qf_5 jC jR nf fx fy fz fu co ro), .int (n_L_sheet_qf_6 jC jR nf fx fy fz fu co ro)])), (qx, .inl (cI, 36, .inl (n_L_sheet_qx jC jR nf fx fy fz fu co ro))), (qy, .inl (cI, 36, .inl (n_L_sheet_qy jC jR nf fx fy fz fu co ro))), (qz, .inl (cI, 36, .inl (n_L_sheet_qz jC jR nf fx fy fz fu co ro))), (qu, .inl (cZ, 36, .inl (n_L_sheet_qu jC jR nf fx fy fz fu co ro)))]) A
abbrev Xc_L_sheet (D : va_G) (cI cZ cJ cD : ClassId) (qo : Nat) (qm : Nat) (qb : Nat) (qr : Nat) (qf : Nat) (qx : Nat) (qy : Nat) (qz : Nat) (qu : Nat) (jC : Int32) (jR : Int32) (nf : Int32) (fx : Nat → Int32) (fy : Nat → Int32) (fz : Nat → Int32) (fu : Nat → Int32) (co : Int32) (ro : Int32) (A : Nat → Prop) : String → State → State → Prop := vx_X (fun _ : Unit => True) (fun _ _ _ => False) A
set_option maxHeartbeats 4000000 in
set_option maxRecDepth 100000 in
theorem c_L_sheet (l : Launch) (hnt : l.stackTraces = false) (D : va_G) (cI cZ cJ cD : ClassId) (qo : Nat) (qm : Nat) (qb : Nat) (qr : Nat) (qf : Nat) (qx : Nat) (qy : Nat) (qz : Nat) (qu : Nat) (jC : Int32) (jR : Int32) (nf : Int32) (fx : Nat → Int32) (fy : Nat → Int32) (fz : Nat → Int32) (fu : Nat → Int32) (co : Int32) (ro : Int32) (sz : Nat)  : vx_Met l yL_sheet wsL_sheet rm_L_sheet (va_Pc [.ref qo, .int co, .int ro] (zPreWE D cI cZ cJ cD [(qo, .inr (4, [.ref qm, .ref qb, .ref qr, .ref qf])), (qf, .inr (1, [.ref qx, .ref qy, .ref qz, .ref qu, .int jC, .int jR, .int nf])), (qx, .inl (cI, 36, .inl fx)), (qy, .inl (cI, 36, .inl fy)), (qz, .inl (cI, 36, .inl fz)), (qu, .inl (cZ, 36, .inl fu))] sz)) (Qc_L_sheet D cI cZ cJ cD qo qm qb qr qf qx qy qz qu jC jR nf fx fy fz fu co ro (va_A [(qo, .inr (4, [.ref qm, .ref qb, .ref qr, .ref qf])), (qf, .inr (1, [.ref qx, .ref qy, .ref qz, .ref qu, .int jC, .int jR, .int nf])), (qx, .inl (cI, 36, .inl fx)), (qy, .inl (cI, 36, .inl fy)), (qz, .inl (cI, 36, .inl fz)), (qu, .inl (cZ, 36, .inl fu))] sz)) (Xc_L_sheet D cI cZ cJ cD qo qm qb qr qf qx qy qz qu jC jR nf fx fy fz fu co ro (va_A [(qo, .inr (4, [.ref qm, .ref qb, .ref qr, .ref qf])), (qf, .inr (1, [.ref qx, .ref qy, .ref qz, .ref qu, .int jC, .int jR, .int nf])), (qx, .inl (cI, 36, .inl fx)), (qy, .inl (cI, 36, .inl fy)), (qz, .inl (cI, 36, .inl fz)), (qu, .inl (cZ, 36, .inl fu))] sz)) 1 6 (va_A [(qo, .inr (4, [.ref qm, .ref qb, .ref qr, .ref qf])), (qf, .inr (1, [.ref qx, .ref qy, .ref qz, .ref qu, .int jC, .int jR, .int nf])), (qx, .inl (cI, 36, .inl fx)), (qy, .inl (cI, 36, .inl fy)), (qz, .inl (cI, 36, .inl fz)), (qu, .inl (cZ, 36, .inl fu))] sz) := by
  refine vx_ofWH (cc := cL_sheet) (maxL := 4) (ret := (some .int)) (hh := [(0, 6, 9, 15)]) (by decide) rfl ?_
  intro p e s m args below meth c s₁ B hml hv
  obtain ⟨rfl, hsz, hP, hK, hD0, hE⟩ := hv
  have hx := B.exec
  have hb := B.bytes
  have hr := B.returns
  have hts := atoms_spec (ws := wsL_sheet) B.pre
  have hown : s.vm.findClass RL = some m.cls := findClass_of_methodNamed B.named
  have hlocks := B.notSynchronized
  have htab := vx_table (x := yL_sheet) B (hts _ List.mem_cons_self)
  subst hsz
  have hD := hD0.self (sz := s.heap.size)
  generalize hAe : va_A [(qo, .inr (4, [.ref qm, .ref qb, .ref qr, .ref qf])), (qf, .inr (1, [.ref qx, .ref qy, .ref qz, .ref qu, .int jC, .int jR, .int nf])), (qx, .inl (cI, 36, .inl fx)), (qy, .inl (cI, 36, .inl fy)), (qz, .inl (cI, 36, .inl fz)), (qu, .inl (cZ, 36, .inl fu))] s.heap.size = A at hE hD ⊢
  have hA : ∀ q : Nat, s.heap.size ≤ q → A q := fun q h => by rw [← hAe]; exact Or.inr h
  have hS : va_S A s.heap s.heap [] := va_S.rf
  have hl := lv_entry ([.ref qo, .int co, .int ro]) (n := 4) (Nat.le_of_ble_eq_true rfl)
  rw [lg_entry_eq]
  generalize (lg_sl ([.ref qo, .int co, .int ro]) ++ List.replicate (4 - (lg_sl ([.ref qo, .int co, .int ro])).length) Slot.unset).toArray = ls at hl ⊢
  have hl : lv_has ls 4 [(0, .ref qo), (1, .int co), (2, .int ro)] := hl
  have hP : va_P D vwCl [(qo, .inr (4, [.ref qm, .ref qb, .ref qr, .ref qf])), (qf, .inr (1, [.ref qx, .ref qy, .ref qz, .ref qu, .int jC, .int jR, .int nf])), (qx, .inl (cI, 36, .inl fx)), (qy, .inl (cI, 36, .inl fy)), (qz, .inl (cI, 36, .inl fz)), (qu, .inl (cZ, 36, .inl fu))] s.heap := hP
  have hP := hP
  refine lv_aload_n hx hb dL_sheet_0 rfl (lv_at hl 0 rfl) ?_
  refine lv_iload_n hx hb dL_sheet_1 rfl (lv_at hl 1 rfl) ?_
  refine lv_iload_n hx hb dL_sheet_2 rfl (lv_at hl 2 rfl) ?_
  have hPc := hP.sub (ws' := [(qo, .inr (4, [.ref qm, .ref qb, .ref qr, .ref qf])), (qf, .inr (1, [.ref qx, .ref qy, .ref qz, .ref qu, .int jC, .int jR, .int nf])), (qx, .inl (cI, 36, .inl fx)), (qy, .inl (cI, 36, .inl fy)), (qz, .inl (cI, 36, .inl fz)), (qu, .inl (cZ, 36, .inl fu))]) [0, 1, 2, 3, 4, 5] rfl
  have hDc := hD.sub (ws' := [(qo, .inr (4, [.ref qm, .ref qb, .ref qr, .ref qf])), (qf, .inr (1, [.ref qx, .ref qy, .ref qz, .ref qu, .int jC, .int jR, .int nf])), (qx, .inl (cI, 36, .inl fx)), (qy, .inl (cI, 36, .inl fy)), (qz, .inl (cI, 36, .inl fz)), (qu, .inl (cZ, 36, .inl fu))]) [0, 1, 2, 3, 4, 5] (by decide) rfl
  have hFc := va_free (wc := [(qo, .inr (4, [.ref qm, .ref qb, .ref qr, .ref qf])), (qf, .inr (1, [.ref qx, .ref qy, .ref qz, .ref qu, .int jC, .int jR, .int nf])), (qx, .inl (cI, 36, .inl fx)), (qy, .inl (cI, 36, .inl fy)), (qz, .inl (cI, 36, .inl fz)), (qu, .inl (cZ, 36, .inl fu))]) hD hS hA [0, 1, 2, 3, 4, 5] rfl
  refine vx_callv (vx_runV (As := [.int co, .int ro]) (rest := []) ⟨hx, hb, hml, hown, hts⟩ (c_X4_sheet l hnt D cI cZ cJ cD qo qm qb qr qf qx qy qz qu jC jR nf fx fy fz fu co ro s.heap.size ) (cwV 2 hts gL_sheet_X4_sheet rfl rfl rfl (by decide +kernel) ⟨Nat.le_of_ble_eq_true rfl, Nat.le_of_ble_eq_true rfl⟩) ⟨zblindWE, va_recv hK hP (ci := 4) (q0 := 0) rfl rfl, (fun U hU hW => ⟨rfl, by rw [hU], by rw [hU]; exact hPc, va_K.moved hW.alike hK, hDc.weaken (fun _ _ _ _ => trivial), zEnv.go hE hS hFc hU hW⟩)⟩ rfl rfl hl.1 rfl (lv_room (Nat.le_of_ble_eq_true rfl)) dL_sheet_3 ⟨Nat.le_of_ble_eq_true rfl, Nat.le_of_ble_eq_true rfl⟩) hS (fun q _ h => hFc q h) hFc (fun q _ h => hFc q h) (fun E ce q9 u t H locs ht hvm hpx hB hz1 hk1 hS hq9 hce hcl => ?_) (fun u t H locs ht hvm hw hB hz1 hk1 hS => ?_)
  · obtain ⟨hX, hB⟩ := hB
    obtain ⟨hP1, hK1, hD1⟩ := hB
    rw [ht] at hP1
    obtain ⟨hP, hD⟩ := va_join (wr := []) (w1 := [(qo, .inr (4, [.ref qm, .ref qb, .ref qr, .ref qf])), (qf, .inr (1, [.ref qx, .ref qy, .ref qz, .ref qu, .int (n_X4_sheet_qf_4 jC jR nf fx fy fz fu co ro), .int (n_X4_sheet_qf_5 jC jR nf fx fy fz fu co ro), .int (n_X4_sheet_qf_6 jC jR nf fx fy fz fu co ro)])), (qx, .inl (cI, 36, .inl (n_X4_sheet_qx jC jR nf fx fy fz fu co ro))), (qy, .inl (cI, 36, .inl (n_X4_sheet_qy jC jR nf fx fy fz fu co ro))), (qz, .inl (cI, 36, .inl (n_X4_sheet_qz jC jR nf fx fy fz fu co ro))), (qu, .inl (cZ, 36, .inl (n_X4_sheet_qu jC jR nf fx fy fz fu co ro)))]) hP hD [0, 1, 2, 3, 4, 5] [] rfl rfl (by decide) (by decide) hk1 hFc hP1 hD1
    have hP := hP.sub (ws' := [(qo, .inr (4, [.ref qm, .ref qb, .ref qr, .ref qf])), (qf, .inr (1, [.ref qx, .ref qy, .ref qz, .ref qu, .int (n_X4_sheet_qf_4 jC jR nf fx fy fz fu co ro), .int (n_X4_sheet_qf_5 jC jR nf fx fy fz fu co ro), .int (n_X4_sheet_qf_6 jC jR nf fx fy fz fu co ro)])), (qx, .inl (cI, 36, .inl (n_X4_sheet_qx jC jR nf fx fy fz fu co ro))), (qy, .inl (cI, 36, .inl (n_X4_sheet_qy jC jR nf fx fy fz fu co ro))), (qz, .inl (cI, 36, .inl (n_X4_sheet_qz jC jR nf fx fy fz fu co ro))), (qu, .inl (cZ, 36, .inl (n_X4_sheet_qu jC jR nf fx fy fz fu co ro)))]) [0, 1, 2, 3, 4, 5] rfl
    have hD := hD.sub (ws' := [(qo, .inr (4, [.ref qm, .ref qb, .ref qr, .ref qf])), (qf, .inr (1, [.ref qx, .ref qy, .ref qz, .ref qu, .int (n_X4_sheet_qf_4 jC jR nf fx fy fz fu co ro), .int (n_X4_sheet_qf_5 jC jR nf fx fy fz fu co ro), .int (n_X4_sheet_qf_6 jC jR nf fx fy fz fu co ro)])), (qx, .inl (cI, 36, .inl (n_X4_sheet_qx jC jR nf fx fy fz fu co ro))), (qy, .inl (cI, 36, .inl (n_X4_sheet_qy jC jR nf fx fy fz fu co ro))), (qz, .inl (cI, 36, .inl (n_X4_sheet_qz jC jR nf fx fy fz fu co ro))), (qu, .inl (cZ, 36, .inl (n_X4_sheet_qu jC jR nf fx fy fz fu co ro)))]) [0, 1, 2, 3, 4, 5] (by decide) rfl
    have c6 : ¬ k_X4_sheet jC jR nf fx fy fz fu co ro = 0 := zX_ne hX
    rcases hX with ⟨rfl, hk9⟩ | ⟨rfl, hk9⟩ | ⟨rfl, hk9⟩
    · exact absurd hk9 (by have := kr_X4_sheet jC jR nf fx fy fz fu co ro; omega)
    · refine vx_catch (own := RL) (name := "java/lang/IllegalArgumentException") (E := "java/lang/IllegalArgumentException") hown [] ⟨0, 6, 9, 15⟩ [] (htab.trans rfl) (fun z hz => absurd hz List.not_mem_nil) rfl (by decide) (hts (.classLink RL 15 "java/lang/IllegalArgumentException") (List.mem_cons_of_mem _ (List.mem_append_left _ (List.mem_append_left _ (List.mem_append_left _ (List.mem_append_left _ (List.mem_of_getElem? (i := 0) rfl))))))) ((hE.2.2.2.1 ("java/lang/IllegalArgumentException", "java/lang/IllegalArgumentException") (by decide)).use rfl) hq9 hce hcl ?_
      refine lv_astore_n (lv' := [(3, .ref q9), (0, .ref qo), (1, .int co), (2, .int ro)]) hx hb dL_sheet_9 rfl hl (by decide) rfl (fun ls hl => ?_)
      refine lv_iconst (v := 1) hx hb dL_sheet_10 (by decide) ?_
      have e8 : s_L_sheet jC jR nf fx fy fz fu co ro = 1 := by
        unfold s_L_sheet
        exact (if_neg c6)
      have e9 : n_L_sheet_qf_4 jC jR nf fx fy fz fu co ro = n_X4_sheet_qf_4 jC jR nf fx fy fz fu co ro := rfl
      have e10 : n_L_sheet_qf_5 jC jR nf fx fy fz fu co ro = n_X4_sheet_qf_5 jC jR nf fx fy fz fu co ro := rfl
      have e11 : n_L_sheet_qf_6 jC jR nf fx fy fz fu co ro = n_X4_sheet_qf_6 jC jR nf fx fy fz fu co ro := rfl
      have e12 : n_L_sheet_qx jC jR nf fx fy fz fu co ro = n_X4_sheet_qx jC jR nf fx fy fz fu co ro := rfl
      have e13 : n_L_sheet_qy jC jR nf fx fy fz fu co ro = n_X4_sheet_qy jC jR nf fx fy fz fu co ro := rfl
      have e14 : n_L_sheet_qz jC jR nf fx fy fz fu co ro = n_X4_sheet_qz jC jR nf fx fy fz fu co ro := rfl
      have e15 : n_L_sheet_qu jC jR nf fx fy fz fu co ro = n_X4_sheet_qu jC jR nf fx fy fz fu co ro := rfl
      refine vx_ret ?_
      exact W.iret (v := 1) hx hb hr (fun t ht hW => ⟨⟨_, (), rfl, e8.symm, ⟨(by rw [e9, e10, e11, e12, e13, e14, e15]; rw [ht]; exact hP), va_K.moved hW.alike hK, (by rw [e9, e10, e11, e12, e13, e14, e15]; exact hD)⟩⟩, hS.F ht⟩) hS.2.2 dL_sheet_11
    · exact absurd hk9 (by have := kr_X4_sheet jC jR nf fx fy fz fu co ro; omega)
  · have c16 : k_X4_sheet jC jR nf fx fy fz fu co ro = 0 := hw
    obtain ⟨hP1, hK1, hD1⟩ := hB
    rw [ht] at hP1
    obtain ⟨hP, hD⟩ := va_join (wr := []) (w1 := [(qo, .inr (4, [.ref qm, .ref qb, .ref qr, .ref qf])), (qf, .inr (1, [.ref qx, .ref qy, .ref qz, .ref qu, .int (n_X4_sheet_qf_4 jC jR nf fx fy fz fu co ro), .int (n_X4_sheet_qf_5 jC jR nf fx fy fz fu co ro), .int (n_X4_sheet_qf_6 jC jR nf fx fy fz fu co ro)])), (qx, .inl (cI, 36, .inl (n_X4_sheet_qx jC jR nf fx fy fz fu co ro))), (qy, .inl (cI, 36, .inl (n_X4_sheet_qy jC jR nf fx fy fz fu co ro))), (qz, .inl (cI, 36, .inl (n_X4_sheet_qz jC jR nf fx fy fz fu co ro))), (qu, .inl (cZ, 36, .inl (n_X4_sheet_qu jC jR nf fx fy fz fu co ro)))]) hP hD [0, 1, 2, 3, 4, 5] [] rfl rfl (by decide) (by decide) hk1 hFc hP1 hD1
    have hP := hP.sub (ws' := [(qo, .inr (4, [.ref qm, .ref qb, .ref qr, .ref qf])), (qf, .inr (1, [.ref qx, .ref qy, .ref qz, .ref qu, .int (n_X4_sheet_qf_4 jC jR nf fx fy fz fu co ro), .int (n_X4_sheet_qf_5 jC jR nf fx fy fz fu co ro), .int (n_X4_sheet_qf_6 jC jR nf fx fy fz fu co ro)])), (qx, .inl (cI, 36, .inl (n_X4_sheet_qx jC jR nf fx fy fz fu co ro))), (qy, .inl (cI, 36, .inl (n_X4_sheet_qy jC jR nf fx fy fz fu co ro))), (qz, .inl (cI, 36, .inl (n_X4_sheet_qz jC jR nf fx fy fz fu co ro))), (qu, .inl (cZ, 36, .inl (n_X4_sheet_qu jC jR nf fx fy fz fu co ro)))]) [0, 1, 2, 3, 4, 5] rfl
    have hD := hD.sub (ws' := [(qo, .inr (4, [.ref qm, .ref qb, .ref qr, .ref qf])), (qf, .inr (1, [.ref qx, .ref qy, .ref qz, .ref qu, .int (n_X4_sheet_qf_4 jC jR nf fx fy fz fu co ro), .int (n_X4_sheet_qf_5 jC jR nf fx fy fz fu co ro), .int (n_X4_sheet_qf_6 jC jR nf fx fy fz fu co ro)])), (qx, .inl (cI, 36, .inl (n_X4_sheet_qx jC jR nf fx fy fz fu co ro))), (qy, .inl (cI, 36, .inl (n_X4_sheet_qy jC jR nf fx fy fz fu co ro))), (qz, .inl (cI, 36, .inl (n_X4_sheet_qz jC jR nf fx fy fz fu co ro))), (qu, .inl (cZ, 36, .inl (n_X4_sheet_qu jC jR nf fx fy fz fu co ro)))]) [0, 1, 2, 3, 4, 5] (by decide) rfl
    refine W.widen (k := 1) (n := 6) (by decide) (by decide) ?_
    refine lv_goto (tgt := 12) hx hb dL_sheet_6 (by decide) ?_
    refine lv_iconst (v := 0) hx hb dL_sheet_12 (by decide) ?_
    have e17 : s_L_sheet jC jR nf fx fy fz fu co ro = 0 := by
      unfold s_L_sheet
      exact (if_pos c16)
    have e18 : n_L_sheet_qf_4 jC jR nf fx fy fz fu co ro = n_X4_sheet_qf_4 jC jR nf fx fy fz fu co ro := rfl
    have e19 : n_L_sheet_qf_5 jC jR nf fx fy fz fu co ro = n_X4_sheet_qf_5 jC jR nf fx fy fz fu co ro := rfl
    have e20 : n_L_sheet_qf_6 jC jR nf fx fy fz fu co ro = n_X4_sheet_qf_6 jC jR nf fx fy fz fu co ro := rfl
    have e21 : n_L_sheet_qx jC jR nf fx fy fz fu co ro = n_X4_sheet_qx jC jR nf fx fy fz fu co ro := rfl
    have e22 : n_L_sheet_qy jC jR nf fx fy fz fu co ro = n_X4_sheet_qy jC jR nf fx fy fz fu co ro := rfl
    have e23 : n_L_sheet_qz jC jR nf fx fy fz fu co ro = n_X4_sheet_qz jC jR nf fx fy fz fu co ro := rfl
    have e24 : n_L_sheet_qu jC jR nf fx fy fz fu co ro = n_X4_sheet_qu jC jR nf fx fy fz fu co ro := rfl
    refine vx_ret ?_
    exact W.iret (v := 0) hx hb hr (fun t ht hW => ⟨⟨_, (), rfl, e17.symm, ⟨(by rw [e18, e19, e20, e21, e22, e23, e24]; rw [ht]; exact hP), va_K.moved hW.alike hK, (by rw [e18, e19, e20, e21, e22, e23, e24]; exact hD)⟩⟩, hS.F ht⟩) hS.2.2 dL_sheet_13
def s_L_foldColumns (nC : Nat) (nR : Nat) (nf : Int32) (fx : Nat → Int32) (fz : Nat → Int32) (fu : Nat → Int32) (b : Int32) (fo : Nat → Int64) : Int32 := (if k_X4_foldColumns nC nR nf fx fz fu b = 0 then 0 else 1)
def n_L_foldColumns_qf_6 (nC : Nat) (nR : Nat) (nf : Int32) (fx : Nat → Int32) (fz : Nat → Int32) (fu : Nat → Int32) (b : Int32) (fo : Nat → Int64) : Int32 := n_X4_foldColumns_qf_6 nC nR nf fx fz fu b
def n_L_foldColumns_qx (nC : Nat) (nR : Nat) (nf : Int32) (fx : Nat → Int32) (fz : Nat → Int32) (fu : Nat → Int32) (b : Int32) (fo : Nat → Int64) : Nat → Int32 := n_X4_foldColumns_qx nC nR nf fx fz fu b
def n_L_foldColumns_qz (nC : Nat) (nR : Nat) (nf : Int32) (fx : Nat → Int32) (fz : Nat → Int32) (fu : Nat → Int32) (b : Int32) (fo : Nat → Int64) : Nat → Int32 := n_X4_foldColumns_qz nC nR nf fx fz fu b
def n_L_foldColumns_qu (nC : Nat) (nR : Nat) (nf : Int32) (fx : Nat → Int32) (fz : Nat → Int32) (fu : Nat → Int32) (b : Int32) (fo : Nat → Int64) : Nat → Int32 := n_X4_foldColumns_qu nC nR nf fx fz fu b
def n_L_foldColumns_qout (nC : Nat) (nR : Nat) (nf : Int32) (fx : Nat → Int32) (fz : Nat → Int32) (fu : Nat → Int32) (b : Int32) (fo : Nat → Int64) : Nat → Int64 := (if k_X4_foldColumns nC nR nf fx fz fu b = 0 then vp_updL fo (0 : Int32).toNatClampNeg ((s_X4_foldColumns nC nR nf fx fz fu b).toInt64) else fo)
abbrev rm_L_foldColumns : Room := { frames := 8, cells := 1, slots := 6, locals := 131 }
abbrev Qc_L_foldColumns (D : va_G) (cI cZ cJ cD : ClassId) (qo : Nat) (qm : Nat) (qb : Nat) (qr : Nat) (qf : Nat) (qx : Nat) (qy : Nat) (qz : Nat) (qu : Nat) (nC : Nat) (nR : Nat) (nf : Int32) (fx : Nat → Int32) (fz : Nat → Int32) (fu : Nat → Int32) (b : Int32) (qout : Nat) (fo : Nat → Int64) (A : Nat → Prop) : Array Value → State → Outcome → State → Prop := va_Qi (fun (r : Int32) (_ : Unit) => r = s_L_foldColumns nC nR nf fx fz fu b fo) (zPost D cI cZ cJ cD A [(qo, .inr (4, [.ref qm, .ref qb, .ref qr, .ref qf])), (qf, .inr (1, [.ref qx, .ref qy, .ref qz, .ref qu, .int (nI nC), .int (nI nR), .int (n_L_foldColumns_qf_6 nC nR nf fx fz fu b fo)])), (qx, .inl (cI, 36, .inl (n_L_foldColumns_qx nC nR nf fx fz fu b fo))), (qz, .inl (cI, 36, .inl (n_L_foldColumns_qz nC nR nf fx fz fu b fo))), (qu, .inl (cZ, 36, .inl (n_L_foldColumns_qu nC nR nf fx fz fu b fo))), (qout, .inl (cJ, 1, .inr (.inl (n_L_foldColumns_qout nC nR nf fx fz fu b fo))))]) A
abbrev Xc_L_foldColumns (D : va_G) (cI cZ cJ cD : ClassId) (qo : Nat) (qm : Nat) (qb : Nat) (qr : Nat) (qf : Nat) (qx : Nat) (qy : Nat) (qz : Nat) (qu : Nat) (nC : Nat) (nR : Nat) (nf : Int32) (fx : Nat → Int32) (fz : Nat → Int32) (fu : Nat → Int32) (b : Int32) (qout : Nat) (fo : Nat → Int64) (A : Nat → Prop) : String → State → State → Prop := vx_X (fun _ : Unit => True) (fun _ _ _ => False) A
set_option maxHeartbeats 4000000 in
set_option maxRecDepth 100000 in
theorem c_L_foldColumns (l : Launch) (hnt : l.stackTraces = false) (D : va_G) (cI cZ cJ cD : ClassId) (qo : Nat) (qm : Nat) (qb : Nat) (qr : Nat) (qf : Nat) (qx : Nat) (qy : Nat) (qz : Nat) (qu : Nat) (nC : Nat) (nR : Nat) (nf : Int32) (fx : Nat → Int32) (fz : Nat → Int32) (fu : Nat → Int32) (b : Int32) (qout : Nat) (fo : Nat → Int64) (sz : Nat) (hN : nC * nR ≤ 36) : vx_Met l yL_foldColumns wsL_foldColumns rm_L_foldColumns (va_Pc [.ref qo, .int b, .ref qout] (zPreWE D cI cZ cJ cD [(qo, .inr (4, [.ref qm, .ref qb, .ref qr, .ref qf])), (qf, .inr (1, [.ref qx, .ref qy, .ref qz, .ref qu, .int (nI nC), .int (nI nR), .int nf])), (qx, .inl (cI, 36, .inl fx)), (qz, .inl (cI, 36, .inl fz)), (qu, .inl (cZ, 36, .inl fu)), (qout, .inl (cJ, 1, .inr (.inl fo)))] sz)) (Qc_L_foldColumns D cI cZ cJ cD qo qm qb qr qf qx qy qz qu nC nR nf fx fz fu b qout fo (va_A [(qo, .inr (4, [.ref qm, .ref qb, .ref qr, .ref qf])), (qf, .inr (1, [.ref qx, .ref qy, .ref qz, .ref qu, .int (nI nC), .int (nI nR), .int nf])), (qx, .inl (cI, 36, .inl fx)), (qz, .inl (cI, 36, .inl fz)), (qu, .inl (cZ, 36, .inl fu)), (qout, .inl (cJ, 1, .inr (.inl fo)))] sz)) (Xc_L_foldColumns D cI cZ cJ cD qo qm qb qr qf qx qy qz qu nC nR nf fx fz fu b qout fo (va_A [(qo, .inr (4, [.ref qm, .ref qb, .ref qr, .ref qf])), (qf, .inr (1, [.ref qx, .ref qy, .ref qz, .ref qu, .int (nI nC), .int (nI nR), .int nf])), (qx, .inl (cI, 36, .inl fx)), (qz, .inl (cI, 36, .inl fz)), (qu, .inl (cZ, 36, .inl fu)), (qout, .inl (cJ, 1, .inr (.inl fo)))] sz)) 1 6 (va_A [(qo, .inr (4, [.ref qm, .ref qb, .ref qr, .ref qf])), (qf, .inr (1, [.ref qx, .ref qy, .ref qz, .ref qu, .int (nI nC), .int (nI nR), .int nf])), (qx, .inl (cI, 36, .inl fx)), (qz, .inl (cI, 36, .inl fz)), (qu, .inl (cZ, 36, .inl fu)), (qout, .inl (cJ, 1, .inr (.inl fo)))] sz) := by
  refine vx_ofWH (cc := cL_foldColumns) (maxL := 4) (ret := (some .int)) (hh := [(0, 9, 12, 17)]) (by decide) rfl ?_
  intro p e s m args below meth c s₁ B hml hv
  obtain ⟨rfl, hsz, hP, hK, hD0, hE⟩ := hv
  have hx := B.exec
  have hb := B.bytes
  have hr := B.returns
  have hts := atoms_spec (ws := wsL_foldColumns) B.pre
  have hown : s.vm.findClass RL = some m.cls := findClass_of_methodNamed B.named
  have hlocks := B.notSynchronized
  have htab := vx_table (x := yL_foldColumns) B (hts _ List.mem_cons_self)
  subst hsz
  have hD := hD0.self (sz := s.heap.size)
  generalize hAe : va_A [(qo, .inr (4, [.ref qm, .ref qb, .ref qr, .ref qf])), (qf, .inr (1, [.ref qx, .ref qy, .ref qz, .ref qu, .int (nI nC), .int (nI nR), .int nf])), (qx, .inl (cI, 36, .inl fx)), (qz, .inl (cI, 36, .inl fz)), (qu, .inl (cZ, 36, .inl fu)), (qout, .inl (cJ, 1, .inr (.inl fo)))] s.heap.size = A at hE hD ⊢
  have hA : ∀ q : Nat, s.heap.size ≤ q → A q := fun q h => by rw [← hAe]; exact Or.inr h
  have hS : va_S A s.heap s.heap [] := va_S.rf
  have hl := lv_entry ([.ref qo, .int b, .ref qout]) (n := 4) (Nat.le_of_ble_eq_true rfl)
  rw [lg_entry_eq]
  generalize (lg_sl ([.ref qo, .int b, .ref qout]) ++ List.replicate (4 - (lg_sl ([.ref qo, .int b, .ref qout])).length) Slot.unset).toArray = ls at hl ⊢
  have hl : lv_has ls 4 [(0, .ref qo), (1, .int b), (2, .ref qout)] := hl
  have hP : va_P D vwCl [(qo, .inr (4, [.ref qm, .ref qb, .ref qr, .ref qf])), (qf, .inr (1, [.ref qx, .ref qy, .ref qz, .ref qu, .int (nI nC), .int (nI nR), .int nf])), (qx, .inl (cI, 36, .inl fx)), (qz, .inl (cI, 36, .inl fz)), (qu, .inl (cZ, 36, .inl fu)), (qout, .inl (cJ, 1, .inr (.inl fo)))] s.heap := hP
  have hP := hP
  refine lv_aload_n hx hb dL_foldColumns_0 rfl (lv_at hl 2 rfl) ?_
  refine lv_iconst (v := 0) hx hb dL_foldColumns_1 (by decide) ?_
  refine lv_aload_n hx hb dL_foldColumns_2 rfl (lv_at hl 0 rfl) ?_
  refine lv_iload_n hx hb dL_foldColumns_3 rfl (lv_at hl 1 rfl) ?_
  have hPc := hP.sub (ws' := [(qo, .inr (4, [.ref qm, .ref qb, .ref qr, .ref qf])), (qf, .inr (1, [.ref qx, .ref qy, .ref qz, .ref qu, .int (nI nC), .int (nI nR), .int nf])), (qx, .inl (cI, 36, .inl fx)), (qz, .inl (cI, 36, .inl fz)), (qu, .inl (cZ, 36, .inl fu))]) [0, 1, 2, 3, 4] rfl
  have hDc := hD.sub (ws' := [(qo, .inr (4, [.ref qm, .ref qb, .ref qr, .ref qf])), (qf, .inr (1, [.ref qx, .ref qy, .ref qz, .ref qu, .int (nI nC), .int (nI nR), .int nf])), (qx, .inl (cI, 36, .inl fx)), (qz, .inl (cI, 36, .inl fz)), (qu, .inl (cZ, 36, .inl fu))]) [0, 1, 2, 3, 4] (by decide) rfl
  have hFc := va_free (wc := [(qo, .inr (4, [.ref qm, .ref qb, .ref qr, .ref qf])), (qf, .inr (1, [.ref qx, .ref qy, .ref qz, .ref qu, .int (nI nC), .int (nI nR), .int nf])), (qx, .inl (cI, 36, .inl fx)), (qz, .inl (cI, 36, .inl fz)), (qu, .inl (cZ, 36, .inl fu))]) hD hS hA [0, 1, 2, 3, 4] rfl
  refine vx_calli (vx_runV (As := [.int b]) (rest := [.int 0, .ref qout]) ⟨hx, hb, hml, hown, hts⟩ (c_X4_foldColumns l hnt D cI cZ cJ cD qo qm qb qr qf qx qy qz qu nC nR nf fx fz fu b s.heap.size (by assumption)) (cwV 1 hts gL_foldColumns_X4_foldColumns rfl rfl rfl (by decide +kernel) ⟨Nat.le_of_ble_eq_true rfl, Nat.le_of_ble_eq_true rfl⟩) ⟨zblindWE, va_recv hK hP (ci := 4) (q0 := 0) rfl rfl, (fun U hU hW => ⟨rfl, by rw [hU], by rw [hU]; exact hPc, va_K.moved hW.alike hK, hDc.weaken (fun _ _ _ _ => trivial), zEnv.go hE hS hFc hU hW⟩)⟩ rfl rfl hl.1 rfl (lv_room (Nat.le_of_ble_eq_true rfl)) dL_foldColumns_4 ⟨Nat.le_of_ble_eq_true rfl, Nat.le_of_ble_eq_true rfl⟩) hS (fun q _ h => hFc q h) hFc (fun q _ h => hFc q h) (fun E ce q9 u t H locs ht hvm hpx hB hz1 hk1 hS hq9 hce hcl => ?_) (fun r5 u t H locs ht hvm hw hB hz1 hk1 hS => ?_)
  · obtain ⟨hX, hB⟩ := hB
    obtain ⟨hP1, hK1, hD1⟩ := hB
    rw [ht] at hP1
    obtain ⟨hP, hD⟩ := va_join (wr := [(qout, .inl (cJ, 1, .inr (.inl fo)))]) (w1 := [(qo, .inr (4, [.ref qm, .ref qb, .ref qr, .ref qf])), (qf, .inr (1, [.ref qx, .ref qy, .ref qz, .ref qu, .int (nI nC), .int (nI nR), .int (n_X4_foldColumns_qf_6 nC nR nf fx fz fu b)])), (qx, .inl (cI, 36, .inl (n_X4_foldColumns_qx nC nR nf fx fz fu b))), (qz, .inl (cI, 36, .inl (n_X4_foldColumns_qz nC nR nf fx fz fu b))), (qu, .inl (cZ, 36, .inl (n_X4_foldColumns_qu nC nR nf fx fz fu b)))]) hP hD [0, 1, 2, 3, 4] [5] rfl rfl (by decide) (by decide) hk1 hFc hP1 hD1
    have hP := hP.sub (ws' := [(qo, .inr (4, [.ref qm, .ref qb, .ref qr, .ref qf])), (qf, .inr (1, [.ref qx, .ref qy, .ref qz, .ref qu, .int (nI nC), .int (nI nR), .int (n_X4_foldColumns_qf_6 nC nR nf fx fz fu b)])), (qx, .inl (cI, 36, .inl (n_X4_foldColumns_qx nC nR nf fx fz fu b))), (qz, .inl (cI, 36, .inl (n_X4_foldColumns_qz nC nR nf fx fz fu b))), (qu, .inl (cZ, 36, .inl (n_X4_foldColumns_qu nC nR nf fx fz fu b))), (qout, .inl (cJ, 1, .inr (.inl fo)))]) [1, 2, 3, 4, 5, 0] rfl
    have hD := hD.sub (ws' := [(qo, .inr (4, [.ref qm, .ref qb, .ref qr, .ref qf])), (qf, .inr (1, [.ref qx, .ref qy, .ref qz, .ref qu, .int (nI nC), .int (nI nR), .int (n_X4_foldColumns_qf_6 nC nR nf fx fz fu b)])), (qx, .inl (cI, 36, .inl (n_X4_foldColumns_qx nC nR nf fx fz fu b))), (qz, .inl (cI, 36, .inl (n_X4_foldColumns_qz nC nR nf fx fz fu b))), (qu, .inl (cZ, 36, .inl (n_X4_foldColumns_qu nC nR nf fx fz fu b))), (qout, .inl (cJ, 1, .inr (.inl fo)))]) [1, 2, 3, 4, 5, 0] (by decide) rfl
    have c6 : ¬ k_X4_foldColumns nC nR nf fx fz fu b = 0 := zX_ne hX
    rcases hX with ⟨rfl, hk9⟩ | ⟨rfl, hk9⟩ | ⟨rfl, hk9⟩
    · exact absurd hk9 (by have := kr_X4_foldColumns nC nR nf fx fz fu b; omega)
    · exact absurd hk9 (by have := kr_X4_foldColumns nC nR nf fx fz fu b; omega)
    · refine vx_catch (own := RL) (name := "java/lang/IllegalStateException") (E := "java/lang/IllegalStateException") hown [] ⟨0, 9, 12, 17⟩ [] (htab.trans rfl) (fun z hz => absurd hz List.not_mem_nil) rfl (by decide) (hts (.classLink RL 17 "java/lang/IllegalStateException") (List.mem_cons_of_mem _ (List.mem_append_left _ (List.mem_append_left _ (List.mem_append_left _ (List.mem_append_left _ (List.mem_of_getElem? (i := 0) rfl))))))) ((hE.2.2.2.1 ("java/lang/IllegalStateException", "java/lang/IllegalStateException") (by decide)).use rfl) hq9 hce hcl ?_
      refine lv_astore_n (lv' := [(3, .ref q9), (0, .ref qo), (1, .int b), (2, .ref qout)]) hx hb dL_foldColumns_12 rfl hl (by decide) rfl (fun ls hl => ?_)
      refine lv_iconst (v := 1) hx hb dL_foldColumns_13 (by decide) ?_
      have e8 : s_L_foldColumns nC nR nf fx fz fu b fo = 1 := by
        unfold s_L_foldColumns
        exact (if_neg c6)
      have e9 : n_L_foldColumns_qf_6 nC nR nf fx fz fu b fo = n_X4_foldColumns_qf_6 nC nR nf fx fz fu b := rfl
      have e10 : n_L_foldColumns_qx nC nR nf fx fz fu b fo = n_X4_foldColumns_qx nC nR nf fx fz fu b := rfl
      have e11 : n_L_foldColumns_qz nC nR nf fx fz fu b fo = n_X4_foldColumns_qz nC nR nf fx fz fu b := rfl
      have e12 : n_L_foldColumns_qu nC nR nf fx fz fu b fo = n_X4_foldColumns_qu nC nR nf fx fz fu b := rfl
      have e13 : n_L_foldColumns_qout nC nR nf fx fz fu b fo = fo := by
        unfold n_L_foldColumns_qout
        exact (if_neg c6)
      refine vx_ret ?_
      exact W.iret (v := 1) hx hb hr (fun t ht hW => ⟨⟨_, (), rfl, e8.symm, ⟨(by rw [e9, e10, e11, e12, e13]; rw [ht]; exact hP), va_K.moved hW.alike hK, (by rw [e9, e10, e11, e12, e13]; exact hD)⟩⟩, hS.F ht⟩) hS.2.2 dL_foldColumns_14
  · obtain ⟨c14, hw⟩ := hw
    rw [hw]
    obtain ⟨hP1, hK1, hD1⟩ := hB
    rw [ht] at hP1
    obtain ⟨hP, hD⟩ := va_join (wr := [(qout, .inl (cJ, 1, .inr (.inl fo)))]) (w1 := [(qo, .inr (4, [.ref qm, .ref qb, .ref qr, .ref qf])), (qf, .inr (1, [.ref qx, .ref qy, .ref qz, .ref qu, .int (nI nC), .int (nI nR), .int (n_X4_foldColumns_qf_6 nC nR nf fx fz fu b)])), (qx, .inl (cI, 36, .inl (n_X4_foldColumns_qx nC nR nf fx fz fu b))), (qz, .inl (cI, 36, .inl (n_X4_foldColumns_qz nC nR nf fx fz fu b))), (qu, .inl (cZ, 36, .inl (n_X4_foldColumns_qu nC nR nf fx fz fu b)))]) hP hD [0, 1, 2, 3, 4] [5] rfl rfl (by decide) (by decide) hk1 hFc hP1 hD1
    have hP := hP.sub (ws' := [(qo, .inr (4, [.ref qm, .ref qb, .ref qr, .ref qf])), (qf, .inr (1, [.ref qx, .ref qy, .ref qz, .ref qu, .int (nI nC), .int (nI nR), .int (n_X4_foldColumns_qf_6 nC nR nf fx fz fu b)])), (qx, .inl (cI, 36, .inl (n_X4_foldColumns_qx nC nR nf fx fz fu b))), (qz, .inl (cI, 36, .inl (n_X4_foldColumns_qz nC nR nf fx fz fu b))), (qu, .inl (cZ, 36, .inl (n_X4_foldColumns_qu nC nR nf fx fz fu b))), (qout, .inl (cJ, 1, .inr (.inl fo)))]) [1, 2, 3, 4, 5, 0] rfl
    have hD := hD.sub (ws' := [(qo, .inr (4, [.ref qm, .ref qb, .ref qr, .ref qf])), (qf, .inr (1, [.ref qx, .ref qy, .ref qz, .ref qu, .int (nI nC), .int (nI nR), .int (n_X4_foldColumns_qf_6 nC nR nf fx fz fu b)])), (qx, .inl (cI, 36, .inl (n_X4_foldColumns_qx nC nR nf fx fz fu b))), (qz, .inl (cI, 36, .inl (n_X4_foldColumns_qz nC nR nf fx fz fu b))), (qu, .inl (cZ, 36, .inl (n_X4_foldColumns_qu nC nR nf fx fz fu b))), (qout, .inl (cJ, 1, .inr (.inl fo)))]) [1, 2, 3, 4, 5, 0] (by decide) rfl
    refine W.widen (k := 1) (n := 6) (by decide) (by decide) ?_
    refine lv_i2l hx hb dL_foldColumns_7 rfl ?_
    refine va_last hx hb hK hP hD hS 5 2 rfl rfl (z_inc (k := 0) rfl (by decide)) dL_foldColumns_8 (fun H locs hP hD hS => ?_)
    have hP : va_P D vwCl [(qo, .inr (4, [.ref qm, .ref qb, .ref qr, .ref qf])), (qf, .inr (1, [.ref qx, .ref qy, .ref qz, .ref qu, .int (nI nC), .int (nI nR), .int (n_X4_foldColumns_qf_6 nC nR nf fx fz fu b)])), (qx, .inl (cI, 36, .inl (n_X4_foldColumns_qx nC nR nf fx fz fu b))), (qz, .inl (cI, 36, .inl (n_X4_foldColumns_qz nC nR nf fx fz fu b))), (qu, .inl (cZ, 36, .inl (n_X4_foldColumns_qu nC nR nf fx fz fu b))), (qout, .inl (cJ, 1, .inr (.inl (vp_updL fo (0 : Int32).toNatClampNeg ((s_X4_foldColumns nC nR nf fx fz fu b).toInt64)))))] H := hP
    have hD : va_D A [(qo, .inr (4, [.ref qm, .ref qb, .ref qr, .ref qf])), (qf, .inr (1, [.ref qx, .ref qy, .ref qz, .ref qu, .int (nI nC), .int (nI nR), .int (n_X4_foldColumns_qf_6 nC nR nf fx fz fu b)])), (qx, .inl (cI, 36, .inl (n_X4_foldColumns_qx nC nR nf fx fz fu b))), (qz, .inl (cI, 36, .inl (n_X4_foldColumns_qz nC nR nf fx fz fu b))), (qu, .inl (cZ, 36, .inl (n_X4_foldColumns_qu nC nR nf fx fz fu b))), (qout, .inl (cJ, 1, .inr (.inl (vp_updL fo (0 : Int32).toNatClampNeg ((s_X4_foldColumns nC nR nf fx fz fu b).toInt64)))))] := hD
    refine lv_goto (tgt := 15) hx hb dL_foldColumns_9 (by decide) ?_
    refine lv_iconst (v := 0) hx hb dL_foldColumns_15 (by decide) ?_
    have e15 : s_L_foldColumns nC nR nf fx fz fu b fo = 0 := by
      unfold s_L_foldColumns
      exact (if_pos c14)
    have e16 : n_L_foldColumns_qf_6 nC nR nf fx fz fu b fo = n_X4_foldColumns_qf_6 nC nR nf fx fz fu b := rfl
    have e17 : n_L_foldColumns_qx nC nR nf fx fz fu b fo = n_X4_foldColumns_qx nC nR nf fx fz fu b := rfl
    have e18 : n_L_foldColumns_qz nC nR nf fx fz fu b fo = n_X4_foldColumns_qz nC nR nf fx fz fu b := rfl
    have e19 : n_L_foldColumns_qu nC nR nf fx fz fu b fo = n_X4_foldColumns_qu nC nR nf fx fz fu b := rfl
    have e20 : n_L_foldColumns_qout nC nR nf fx fz fu b fo = vp_updL fo (0 : Int32).toNatClampNeg ((s_X4_foldColumns nC nR nf fx fz fu b).toInt64) := by
      unfold n_L_foldColumns_qout
      exact (if_pos c14)
    refine vx_ret ?_
    exact W.iret (v := 0) hx hb hr (fun t ht hW => ⟨⟨_, (), rfl, e15.symm, ⟨(by rw [e16, e17, e18, e19, e20]; rw [ht]; exact hP), va_K.moved hW.alike hK, (by rw [e16, e17, e18, e19, e20]; exact hD)⟩⟩, hS.F ht⟩) hS.2.2 dL_foldColumns_16
def s_L_foldRows (nC : Nat) (nR : Nat) (nf : Int32) (fy : Nat → Int32) (fz : Nat → Int32) (fu : Nat → Int32) (b : Int32) (fo : Nat → Int64) : Int32 := (if k_X4_foldRows nC nR nf fy fz fu b = 0 then 0 else 1)
def n_L_foldRows_qf_6 (nC : Nat) (nR : Nat) (nf : Int32) (fy : Nat → Int32) (fz : Nat → Int32) (fu : Nat → Int32) (b : Int32) (fo : Nat → Int64) : Int32 := n_X4_foldRows_qf_6 nC nR nf fy fz fu b
def n_L_foldRows_qy (nC : Nat) (nR : Nat) (nf : Int32) (fy : Nat → Int32) (fz : Nat → Int32) (fu : Nat → Int32) (b : Int32) (fo : Nat → Int64) : Nat → Int32 := n_X4_foldRows_qy nC nR nf fy fz fu b
def n_L_foldRows_qz (nC : Nat) (nR : Nat) (nf : Int32) (fy : Nat → Int32) (fz : Nat → Int32) (fu : Nat → Int32) (b : Int32) (fo : Nat → Int64) : Nat → Int32 := n_X4_foldRows_qz nC nR nf fy fz fu b
def n_L_foldRows_qu (nC : Nat) (nR : Nat) (nf : Int32) (fy : Nat → Int32) (fz : Nat → Int32) (fu : Nat → Int32) (b : Int32) (fo : Nat → Int64) : Nat → Int32 := n_X4_foldRows_qu nC nR nf fy fz fu b
def n_L_foldRows_qout (nC : Nat) (nR : Nat) (nf : Int32) (fy : Nat → Int32) (fz : Nat → Int32) (fu : Nat → Int32) (b : Int32) (fo : Nat → Int64) : Nat → Int64 := (if k_X4_foldRows nC nR nf fy fz fu b = 0 then vp_updL fo (0 : Int32).toNatClampNeg ((s_X4_foldRows nC nR nf fy fz fu b).toInt64) else fo)
abbrev rm_L_foldRows : Room := { frames := 8, cells := 1, slots := 6, locals := 131 }
abbrev Qc_L_foldRows (D : va_G) (cI cZ cJ cD : ClassId) (qo : Nat) (qm : Nat) (qb : Nat) (qr : Nat) (qf : Nat) (qx : Nat) (qy : Nat) (qz : Nat) (qu : Nat) (nC : Nat) (nR : Nat) (nf : Int32) (fy : Nat → Int32) (fz : Nat → Int32) (fu : Nat → Int32) (b : Int32) (qout : Nat) (fo : Nat → Int64) (A : Nat → Prop) : Array Value → State → Outcome → State → Prop := va_Qi (fun (r : Int32) (_ : Unit) => r = s_L_foldRows nC nR nf fy fz fu b fo) (zPost D cI cZ cJ cD A [(qo, .inr (4, [.ref qm, .ref qb, .ref qr, .ref qf])), (qf, .inr (1, [.ref qx, .ref qy, .ref qz, .ref qu, .int (nI nC), .int (nI nR), .int (n_L_foldRows_qf_6 nC nR nf fy fz fu b fo)])), (qy, .inl (cI, 36, .inl (n_L_foldRows_qy nC nR nf fy fz fu b fo))), (qz, .inl (cI, 36, .inl (n_L_foldRows_qz nC nR nf fy fz fu b fo))), (qu, .inl (cZ, 36, .inl (n_L_foldRows_qu nC nR nf fy fz fu b fo))), (qout, .inl (cJ, 1, .inr (.inl (n_L_foldRows_qout nC nR nf fy fz fu b fo))))]) A
abbrev Xc_L_foldRows (D : va_G) (cI cZ cJ cD : ClassId) (qo : Nat) (qm : Nat) (qb : Nat) (qr : Nat) (qf : Nat) (qx : Nat) (qy : Nat) (qz : Nat) (qu : Nat) (nC : Nat) (nR : Nat) (nf : Int32) (fy : Nat → Int32) (fz : Nat → Int32) (fu : Nat → Int32) (b : Int32) (qout : Nat) (fo : Nat → Int64) (A : Nat → Prop) : String → State → State → Prop := vx_X (fun _ : Unit => True) (fun _ _ _ => False) A
set_option maxHeartbeats 4000000 in
set_option maxRecDepth 100000 in
theorem c_L_foldRows (l : Launch) (hnt : l.stackTraces = false) (D : va_G) (cI cZ cJ cD : ClassId) (qo : Nat) (qm : Nat) (qb : Nat) (qr : Nat) (qf : Nat) (qx : Nat) (qy : Nat) (qz : Nat) (qu : Nat) (nC : Nat) (nR : Nat) (nf : Int32) (fy : Nat → Int32) (fz : Nat → Int32) (fu : Nat → Int32) (b : Int32) (qout : Nat) (fo : Nat → Int64) (sz : Nat) (hN : nC * nR ≤ 36) : vx_Met l yL_foldRows wsL_foldRows rm_L_foldRows (va_Pc [.ref qo, .int b, .ref qout] (zPreWE D cI cZ cJ cD [(qo, .inr (4, [.ref qm, .ref qb, .ref qr, .ref qf])), (qf, .inr (1, [.ref qx, .ref qy, .ref qz, .ref qu, .int (nI nC), .int (nI nR), .int nf])), (qy, .inl (cI, 36, .inl fy)), (qz, .inl (cI, 36, .inl fz)), (qu, .inl (cZ, 36, .inl fu)), (qout, .inl (cJ, 1, .inr (.inl fo)))] sz)) (Qc_L_foldRows D cI cZ cJ cD qo qm qb qr qf qx qy qz qu nC nR nf fy fz fu b qout fo (va_A [(qo, .inr (4, [.ref qm, .ref qb, .ref qr, .ref qf])), (qf, .inr (1, [.ref qx, .ref qy, .ref qz, .ref qu, .int (nI nC), .int (nI nR), .int nf])), (qy, .inl (cI, 36, .inl fy)), (qz, .inl (cI, 36, .inl fz)), (qu, .inl (cZ, 36, .inl fu)), (qout, .inl (cJ, 1, .inr (.inl fo)))] sz)) (Xc_L_foldRows D cI cZ cJ cD qo qm qb qr qf qx qy qz qu nC nR nf fy fz fu b qout fo (va_A [(qo, .inr (4, [.ref qm, .ref qb, .ref qr, .ref qf])), (qf, .inr (1, [.ref qx, .ref qy, .ref qz, .ref qu, .int (nI nC), .int (nI nR), .int nf])), (qy, .inl (cI, 36, .inl fy)), (qz, .inl (cI, 36, .inl fz)), (qu, .inl (cZ, 36, .inl fu)), (qout, .inl (cJ, 1, .inr (.inl fo)))] sz)) 1 6 (va_A [(qo, .inr (4, [.ref qm, .ref qb, .ref qr, .ref qf])), (qf, .inr (1, [.ref qx, .ref qy, .ref qz, .ref qu, .int (nI nC), .int (nI nR), .int nf])), (qy, .inl (cI, 36, .inl fy)), (qz, .inl (cI, 36, .inl fz)), (qu, .inl (cZ, 36, .inl fu)), (qout, .inl (cJ, 1, .inr (.inl fo)))] sz) := by
  refine vx_ofWH (cc := cL_foldRows) (maxL := 4) (ret := (some .int)) (hh := [(0, 9, 12, 17)]) (by decide) rfl ?_
  intro p e s m args below meth c s₁ B hml hv
  obtain ⟨rfl, hsz, hP, hK, hD0, hE⟩ := hv
  have hx := B.exec
  have hb := B.bytes
  have hr := B.returns
  have hts := atoms_spec (ws := wsL_foldRows) B.pre
  have hown : s.vm.findClass RL = some m.cls := findClass_of_methodNamed B.named
  have hlocks := B.notSynchronized
  have htab := vx_table (x := yL_foldRows) B (hts _ List.mem_cons_self)
  subst hsz
  have hD := hD0.self (sz := s.heap.size)
  generalize hAe : va_A [(qo, .inr (4, [.ref qm, .ref qb, .ref qr, .ref qf])), (qf, .inr (1, [.ref qx, .ref qy, .ref qz, .ref qu, .int (nI nC), .int (nI nR), .int nf])), (qy, .inl (cI, 36, .inl fy)), (qz, .inl (cI, 36, .inl fz)), (qu, .inl (cZ, 36, .inl fu)), (qout, .inl (cJ, 1, .inr (.inl fo)))] s.heap.size = A at hE hD ⊢
  have hA : ∀ q : Nat, s.heap.size ≤ q → A q := fun q h => by rw [← hAe]; exact Or.inr h
  have hS : va_S A s.heap s.heap [] := va_S.rf
  have hl := lv_entry ([.ref qo, .int b, .ref qout]) (n := 4) (Nat.le_of_ble_eq_true rfl)
  rw [lg_entry_eq]
  generalize (lg_sl ([.ref qo, .int b, .ref qout]) ++ List.replicate (4 - (lg_sl ([.ref qo, .int b, .ref qout])).length) Slot.unset).toArray = ls at hl ⊢
  have hl : lv_has ls 4 [(0, .ref qo), (1, .int b), (2, .ref qout)] := hl
  have hP : va_P D vwCl [(qo, .inr (4, [.ref qm, .ref qb, .ref qr, .ref qf])), (qf, .inr (1, [.ref qx, .ref qy, .ref qz, .ref qu, .int (nI nC), .int (nI nR), .int nf])), (qy, .inl (cI, 36, .inl fy)), (qz, .inl (cI, 36, .inl fz)), (qu, .inl (cZ, 36, .inl fu)), (qout, .inl (cJ, 1, .inr (.inl fo)))] s.heap := hP
  have hP := hP
  refine lv_aload_n hx hb dL_foldRows_0 rfl (lv_at hl 2 rfl) ?_
  refine lv_iconst (v := 0) hx hb dL_foldRows_1 (by decide) ?_
  refine lv_aload_n hx hb dL_foldRows_2 rfl (lv_at hl 0 rfl) ?_
  refine lv_iload_n hx hb dL_foldRows_3 rfl (lv_at hl 1 rfl) ?_
  have hPc := hP.sub (ws' := [(qo, .inr (4, [.ref qm, .ref qb, .ref qr, .ref qf])), (qf, .inr (1, [.ref qx, .ref qy, .ref qz, .ref qu, .int (nI nC), .int (nI nR), .int nf])), (qy, .inl (cI, 36, .inl fy)), (qz, .inl (cI, 36, .inl fz)), (qu, .inl (cZ, 36, .inl fu))]) [0, 1, 2, 3, 4] rfl
  have hDc := hD.sub (ws' := [(qo, .inr (4, [.ref qm, .ref qb, .ref qr, .ref qf])), (qf, .inr (1, [.ref qx, .ref qy, .ref qz, .ref qu, .int (nI nC), .int (nI nR), .int nf])), (qy, .inl (cI, 36, .inl fy)), (qz, .inl (cI, 36, .inl fz)), (qu, .inl (cZ, 36, .inl fu))]) [0, 1, 2, 3, 4] (by decide) rfl
  have hFc := va_free (wc := [(qo, .inr (4, [.ref qm, .ref qb, .ref qr, .ref qf])), (qf, .inr (1, [.ref qx, .ref qy, .ref qz, .ref qu, .int (nI nC), .int (nI nR), .int nf])), (qy, .inl (cI, 36, .inl fy)), (qz, .inl (cI, 36, .inl fz)), (qu, .inl (cZ, 36, .inl fu))]) hD hS hA [0, 1, 2, 3, 4] rfl
  refine vx_calli (vx_runV (As := [.int b]) (rest := [.int 0, .ref qout]) ⟨hx, hb, hml, hown, hts⟩ (c_X4_foldRows l hnt D cI cZ cJ cD qo qm qb qr qf qx qy qz qu nC nR nf fy fz fu b s.heap.size (by assumption)) (cwV 1 hts gL_foldRows_X4_foldRows rfl rfl rfl (by decide +kernel) ⟨Nat.le_of_ble_eq_true rfl, Nat.le_of_ble_eq_true rfl⟩) ⟨zblindWE, va_recv hK hP (ci := 4) (q0 := 0) rfl rfl, (fun U hU hW => ⟨rfl, by rw [hU], by rw [hU]; exact hPc, va_K.moved hW.alike hK, hDc.weaken (fun _ _ _ _ => trivial), zEnv.go hE hS hFc hU hW⟩)⟩ rfl rfl hl.1 rfl (lv_room (Nat.le_of_ble_eq_true rfl)) dL_foldRows_4 ⟨Nat.le_of_ble_eq_true rfl, Nat.le_of_ble_eq_true rfl⟩) hS (fun q _ h => hFc q h) hFc (fun q _ h => hFc q h) (fun E ce q9 u t H locs ht hvm hpx hB hz1 hk1 hS hq9 hce hcl => ?_) (fun r5 u t H locs ht hvm hw hB hz1 hk1 hS => ?_)
  · obtain ⟨hX, hB⟩ := hB
    obtain ⟨hP1, hK1, hD1⟩ := hB
    rw [ht] at hP1
    obtain ⟨hP, hD⟩ := va_join (wr := [(qout, .inl (cJ, 1, .inr (.inl fo)))]) (w1 := [(qo, .inr (4, [.ref qm, .ref qb, .ref qr, .ref qf])), (qf, .inr (1, [.ref qx, .ref qy, .ref qz, .ref qu, .int (nI nC), .int (nI nR), .int (n_X4_foldRows_qf_6 nC nR nf fy fz fu b)])), (qy, .inl (cI, 36, .inl (n_X4_foldRows_qy nC nR nf fy fz fu b))), (qz, .inl (cI, 36, .inl (n_X4_foldRows_qz nC nR nf fy fz fu b))), (qu, .inl (cZ, 36, .inl (n_X4_foldRows_qu nC nR nf fy fz fu b)))]) hP hD [0, 1, 2, 3, 4] [5] rfl rfl (by decide) (by decide) hk1 hFc hP1 hD1
    have hP := hP.sub (ws' := [(qo, .inr (4, [.ref qm, .ref qb, .ref qr, .ref qf])), (qf, .inr (1, [.ref qx, .ref qy, .ref qz, .ref qu, .int (nI nC), .int (nI nR), .int (n_X4_foldRows_qf_6 nC nR nf fy fz fu b)])), (qy, .inl (cI, 36, .inl (n_X4_foldRows_qy nC nR nf fy fz fu b))), (qz, .inl (cI, 36, .inl (n_X4_foldRows_qz nC nR nf fy fz fu b))), (qu, .inl (cZ, 36, .inl (n_X4_foldRows_qu nC nR nf fy fz fu b))), (qout, .inl (cJ, 1, .inr (.inl fo)))]) [1, 2, 3, 4, 5, 0] rfl
    have hD := hD.sub (ws' := [(qo, .inr (4, [.ref qm, .ref qb, .ref qr, .ref qf])), (qf, .inr (1, [.ref qx, .ref qy, .ref qz, .ref qu, .int (nI nC), .int (nI nR), .int (n_X4_foldRows_qf_6 nC nR nf fy fz fu b)])), (qy, .inl (cI, 36, .inl (n_X4_foldRows_qy nC nR nf fy fz fu b))), (qz, .inl (cI, 36, .inl (n_X4_foldRows_qz nC nR nf fy fz fu b))), (qu, .inl (cZ, 36, .inl (n_X4_foldRows_qu nC nR nf fy fz fu b))), (qout, .inl (cJ, 1, .inr (.inl fo)))]) [1, 2, 3, 4, 5, 0] (by decide) rfl
    have c6 : ¬ k_X4_foldRows nC nR nf fy fz fu b = 0 := zX_ne hX
    rcases hX with ⟨rfl, hk9⟩ | ⟨rfl, hk9⟩ | ⟨rfl, hk9⟩
    · exact absurd hk9 (by have := kr_X4_foldRows nC nR nf fy fz fu b; omega)
    · exact absurd hk9 (by have := kr_X4_foldRows nC nR nf fy fz fu b; omega)
    · refine vx_catch (own := RL) (name := "java/lang/IllegalStateException") (E := "java/lang/IllegalStateException") hown [] ⟨0, 9, 12, 17⟩ [] (htab.trans rfl) (fun z hz => absurd hz List.not_mem_nil) rfl (by decide) (hts (.classLink RL 17 "java/lang/IllegalStateException") (List.mem_cons_of_mem _ (List.mem_append_left _ (List.mem_append_left _ (List.mem_append_left _ (List.mem_append_left _ (List.mem_of_getElem? (i := 0) rfl))))))) ((hE.2.2.2.1 ("java/lang/IllegalStateException", "java/lang/IllegalStateException") (by decide)).use rfl) hq9 hce hcl ?_
      refine lv_astore_n (lv' := [(3, .ref q9), (0, .ref qo), (1, .int b), (2, .ref qout)]) hx hb dL_foldRows_12 rfl hl (by decide) rfl (fun ls hl => ?_)
      refine lv_iconst (v := 1) hx hb dL_foldRows_13 (by decide) ?_
      have e8 : s_L_foldRows nC nR nf fy fz fu b fo = 1 := by
        unfold s_L_foldRows
        exact (if_neg c6)
      have e9 : n_L_foldRows_qf_6 nC nR nf fy fz fu b fo = n_X4_foldRows_qf_6 nC nR nf fy fz fu b := rfl
      have e10 : n_L_foldRows_qy nC nR nf fy fz fu b fo = n_X4_foldRows_qy nC nR nf fy fz fu b := rfl
      have e11 : n_L_foldRows_qz nC nR nf fy fz fu b fo = n_X4_foldRows_qz nC nR nf fy fz fu b := rfl
      have e12 : n_L_foldRows_qu nC nR nf fy fz fu b fo = n_X4_foldRows_qu nC nR nf fy fz fu b := rfl
      have e13 : n_L_foldRows_qout nC nR nf fy fz fu b fo = fo := by
        unfold n_L_foldRows_qout
        exact (if_neg c6)
      refine vx_ret ?_
      exact W.iret (v := 1) hx hb hr (fun t ht hW => ⟨⟨_, (), rfl, e8.symm, ⟨(by rw [e9, e10, e11, e12, e13]; rw [ht]; exact hP), va_K.moved hW.alike hK, (by rw [e9, e10, e11, e12, e13]; exact hD)⟩⟩, hS.F ht⟩) hS.2.2 dL_foldRows_14
  · obtain ⟨c14, hw⟩ := hw
    rw [hw]
    obtain ⟨hP1, hK1, hD1⟩ := hB
    rw [ht] at hP1
    obtain ⟨hP, hD⟩ := va_join (wr := [(qout, .inl (cJ, 1, .inr (.inl fo)))]) (w1 := [(qo, .inr (4, [.ref qm, .ref qb, .ref qr, .ref qf])), (qf, .inr (1, [.ref qx, .ref qy, .ref qz, .ref qu, .int (nI nC), .int (nI nR), .int (n_X4_foldRows_qf_6 nC nR nf fy fz fu b)])), (qy, .inl (cI, 36, .inl (n_X4_foldRows_qy nC nR nf fy fz fu b))), (qz, .inl (cI, 36, .inl (n_X4_foldRows_qz nC nR nf fy fz fu b))), (qu, .inl (cZ, 36, .inl (n_X4_foldRows_qu nC nR nf fy fz fu b)))]) hP hD [0, 1, 2, 3, 4] [5] rfl rfl (by decide) (by decide) hk1 hFc hP1 hD1
    have hP := hP.sub (ws' := [(qo, .inr (4, [.ref qm, .ref qb, .ref qr, .ref qf])), (qf, .inr (1, [.ref qx, .ref qy, .ref qz, .ref qu, .int (nI nC), .int (nI nR), .int (n_X4_foldRows_qf_6 nC nR nf fy fz fu b)])), (qy, .inl (cI, 36, .inl (n_X4_foldRows_qy nC nR nf fy fz fu b))), (qz, .inl (cI, 36, .inl (n_X4_foldRows_qz nC nR nf fy fz fu b))), (qu, .inl (cZ, 36, .inl (n_X4_foldRows_qu nC nR nf fy fz fu b))), (qout, .inl (cJ, 1, .inr (.inl fo)))]) [1, 2, 3, 4, 5, 0] rfl
    have hD := hD.sub (ws' := [(qo, .inr (4, [.ref qm, .ref qb, .ref qr, .ref qf])), (qf, .inr (1, [.ref qx, .ref qy, .ref qz, .ref qu, .int (nI nC), .int (nI nR), .int (n_X4_foldRows_qf_6 nC nR nf fy fz fu b)])), (qy, .inl (cI, 36, .inl (n_X4_foldRows_qy nC nR nf fy fz fu b))), (qz, .inl (cI, 36, .inl (n_X4_foldRows_qz nC nR nf fy fz fu b))), (qu, .inl (cZ, 36, .inl (n_X4_foldRows_qu nC nR nf fy fz fu b))), (qout, .inl (cJ, 1, .inr (.inl fo)))]) [1, 2, 3, 4, 5, 0] (by decide) rfl
    refine W.widen (k := 1) (n := 6) (by decide) (by decide) ?_
    refine lv_i2l hx hb dL_foldRows_7 rfl ?_
    refine va_last hx hb hK hP hD hS 5 2 rfl rfl (z_inc (k := 0) rfl (by decide)) dL_foldRows_8 (fun H locs hP hD hS => ?_)
    have hP : va_P D vwCl [(qo, .inr (4, [.ref qm, .ref qb, .ref qr, .ref qf])), (qf, .inr (1, [.ref qx, .ref qy, .ref qz, .ref qu, .int (nI nC), .int (nI nR), .int (n_X4_foldRows_qf_6 nC nR nf fy fz fu b)])), (qy, .inl (cI, 36, .inl (n_X4_foldRows_qy nC nR nf fy fz fu b))), (qz, .inl (cI, 36, .inl (n_X4_foldRows_qz nC nR nf fy fz fu b))), (qu, .inl (cZ, 36, .inl (n_X4_foldRows_qu nC nR nf fy fz fu b))), (qout, .inl (cJ, 1, .inr (.inl (vp_updL fo (0 : Int32).toNatClampNeg ((s_X4_foldRows nC nR nf fy fz fu b).toInt64)))))] H := hP
    have hD : va_D A [(qo, .inr (4, [.ref qm, .ref qb, .ref qr, .ref qf])), (qf, .inr (1, [.ref qx, .ref qy, .ref qz, .ref qu, .int (nI nC), .int (nI nR), .int (n_X4_foldRows_qf_6 nC nR nf fy fz fu b)])), (qy, .inl (cI, 36, .inl (n_X4_foldRows_qy nC nR nf fy fz fu b))), (qz, .inl (cI, 36, .inl (n_X4_foldRows_qz nC nR nf fy fz fu b))), (qu, .inl (cZ, 36, .inl (n_X4_foldRows_qu nC nR nf fy fz fu b))), (qout, .inl (cJ, 1, .inr (.inl (vp_updL fo (0 : Int32).toNatClampNeg ((s_X4_foldRows nC nR nf fy fz fu b).toInt64)))))] := hD
    refine lv_goto (tgt := 15) hx hb dL_foldRows_9 (by decide) ?_
    refine lv_iconst (v := 0) hx hb dL_foldRows_15 (by decide) ?_
    have e15 : s_L_foldRows nC nR nf fy fz fu b fo = 0 := by
      unfold s_L_foldRows
      exact (if_pos c14)
    have e16 : n_L_foldRows_qf_6 nC nR nf fy fz fu b fo = n_X4_foldRows_qf_6 nC nR nf fy fz fu b := rfl
    have e17 : n_L_foldRows_qy nC nR nf fy fz fu b fo = n_X4_foldRows_qy nC nR nf fy fz fu b := rfl
    have e18 : n_L_foldRows_qz nC nR nf fy fz fu b fo = n_X4_foldRows_qz nC nR nf fy fz fu b := rfl
    have e19 : n_L_foldRows_qu nC nR nf fy fz fu b fo = n_X4_foldRows_qu nC nR nf fy fz fu b := rfl
    have e20 : n_L_foldRows_qout nC nR nf fy fz fu b fo = vp_updL fo (0 : Int32).toNatClampNeg ((s_X4_foldRows nC nR nf fy fz fu b).toInt64) := by
      unfold n_L_foldRows_qout
      exact (if_pos c14)
    refine vx_ret ?_
    exact W.iret (v := 0) hx hb hr (fun t ht hW => ⟨⟨_, (), rfl, e15.symm, ⟨(by rw [e16, e17, e18, e19, e20]; rw [ht]; exact hP), va_K.moved hW.alike hK, (by rw [e16, e17, e18, e19, e20]; exact hD)⟩⟩, hS.F ht⟩) hS.2.2 dL_foldRows_16
def s_L_panel (nC : Nat) (nR : Nat) (nf : Int32) (lat : Int32) (lon : Int32) (fo : Nat → Int64) : Int32 := (if k_X4_panel nC nR nf lat lon = 0 then 0 else 1)
def n_L_panel_qout (nC : Nat) (nR : Nat) (nf : Int32) (lat : Int32) (lon : Int32) (fo : Nat → Int64) : Nat → Int64 := (if k_X4_panel nC nR nf lat lon = 0 then vp_updL fo (0 : Int32).toNatClampNeg ((s_X4_panel nC nR nf lat lon).toInt64) else fo)
abbrev rm_L_panel : Room := { frames := 8, cells := 2, slots := 12, locals := 132 }
abbrev Qc_L_panel (D : va_G) (cI cZ cJ cD : ClassId) (qo : Nat) (qm : Nat) (qb : Nat) (qr : Nat) (qf : Nat) (qx : Nat) (qy : Nat) (qz : Nat) (qu : Nat) (nC : Nat) (nR : Nat) (nf : Int32) (lat : Int32) (lon : Int32) (qout : Nat) (fo : Nat → Int64) (A : Nat → Prop) : Array Value → State → Outcome → State → Prop := va_Qi (fun (r : Int32) (_ : Unit) => r = s_L_panel nC nR nf lat lon fo) (zPost D cI cZ cJ cD A [(qo, .inr (4, [.ref qm, .ref qb, .ref qr, .ref qf])), (qf, .inr (1, [.ref qx, .ref qy, .ref qz, .ref qu, .int (nI nC), .int (nI nR), .int nf])), (qout, .inl (cJ, 1, .inr (.inl (n_L_panel_qout nC nR nf lat lon fo))))]) A
abbrev Xc_L_panel (D : va_G) (cI cZ cJ cD : ClassId) (qo : Nat) (qm : Nat) (qb : Nat) (qr : Nat) (qf : Nat) (qx : Nat) (qy : Nat) (qz : Nat) (qu : Nat) (nC : Nat) (nR : Nat) (nf : Int32) (lat : Int32) (lon : Int32) (qout : Nat) (fo : Nat → Int64) (A : Nat → Prop) : String → State → State → Prop := vx_X (fun _ : Unit => True) (fun _ _ _ => False) A
set_option maxHeartbeats 4000000 in
set_option maxRecDepth 100000 in
theorem c_L_panel (l : Launch) (hnt : l.stackTraces = false) (D : va_G) (cI cZ cJ cD : ClassId) (qo : Nat) (qm : Nat) (qb : Nat) (qr : Nat) (qf : Nat) (qx : Nat) (qy : Nat) (qz : Nat) (qu : Nat) (nC : Nat) (nR : Nat) (nf : Int32) (lat : Int32) (lon : Int32) (qout : Nat) (fo : Nat → Int64) (sz : Nat)  : vx_Met l yL_panel wsL_panel rm_L_panel (va_Pc [.ref qo, .int lat, .int lon, .ref qout] (zPreWE D cI cZ cJ cD [(qo, .inr (4, [.ref qm, .ref qb, .ref qr, .ref qf])), (qf, .inr (1, [.ref qx, .ref qy, .ref qz, .ref qu, .int (nI nC), .int (nI nR), .int nf])), (qout, .inl (cJ, 1, .inr (.inl fo)))] sz)) (Qc_L_panel D cI cZ cJ cD qo qm qb qr qf qx qy qz qu nC nR nf lat lon qout fo (va_A [(qo, .inr (4, [.ref qm, .ref qb, .ref qr, .ref qf])), (qf, .inr (1, [.ref qx, .ref qy, .ref qz, .ref qu, .int (nI nC), .int (nI nR), .int nf])), (qout, .inl (cJ, 1, .inr (.inl fo)))] sz)) (Xc_L_panel D cI cZ cJ cD qo qm qb qr qf qx qy qz qu nC nR nf lat lon qout fo (va_A [(qo, .inr (4, [.ref qm, .ref qb, .ref qr, .ref qf])), (qf, .inr (1, [.ref qx, .ref qy, .ref qz, .ref qu, .int (nI nC), .int (nI nR), .int nf])), (qout, .inl (cJ, 1, .inr (.inl fo)))] sz)) 2 12 (va_A [(qo, .inr (4, [.ref qm, .ref qb, .ref qr, .ref qf])), (qf, .inr (1, [.ref qx, .ref qy, .ref qz, .ref qu, .int (nI nC), .int (nI nR), .int nf])), (qout, .inl (cJ, 1, .inr (.inl fo)))] sz) := by
  refine vx_ofWH (cc := cL_panel) (maxL := 5) (ret := (some .int)) (hh := [(0, 10, 13, 15)]) (by decide) rfl ?_
  intro p e s m args below meth c s₁ B hml hv
  obtain ⟨rfl, hsz, hP, hK, hD0, hE⟩ := hv
  have hx := B.exec
  have hb := B.bytes
  have hr := B.returns
  have hts := atoms_spec (ws := wsL_panel) B.pre
  have hown : s.vm.findClass RL = some m.cls := findClass_of_methodNamed B.named
  have hlocks := B.notSynchronized
  have htab := vx_table (x := yL_panel) B (hts _ List.mem_cons_self)
  subst hsz
  have hD := hD0.self (sz := s.heap.size)
  generalize hAe : va_A [(qo, .inr (4, [.ref qm, .ref qb, .ref qr, .ref qf])), (qf, .inr (1, [.ref qx, .ref qy, .ref qz, .ref qu, .int (nI nC), .int (nI nR), .int nf])), (qout, .inl (cJ, 1, .inr (.inl fo)))] s.heap.size = A at hE hD ⊢
  have hA : ∀ q : Nat, s.heap.size ≤ q → A q := fun q h => by rw [← hAe]; exact Or.inr h
  have hS : va_S A s.heap s.heap [] := va_S.rf
  have hl := lv_entry ([.ref qo, .int lat, .int lon, .ref qout]) (n := 5) (Nat.le_of_ble_eq_true rfl)
  rw [lg_entry_eq]
  generalize (lg_sl ([.ref qo, .int lat, .int lon, .ref qout]) ++ List.replicate (5 - (lg_sl ([.ref qo, .int lat, .int lon, .ref qout])).length) Slot.unset).toArray = ls at hl ⊢
  have hl : lv_has ls 5 [(0, .ref qo), (1, .int lat), (2, .int lon), (3, .ref qout)] := hl
  have hP : va_P D vwCl [(qo, .inr (4, [.ref qm, .ref qb, .ref qr, .ref qf])), (qf, .inr (1, [.ref qx, .ref qy, .ref qz, .ref qu, .int (nI nC), .int (nI nR), .int nf])), (qout, .inl (cJ, 1, .inr (.inl fo)))] s.heap := hP
  have hP := hP
  refine lv_aload_n hx hb dL_panel_0 rfl (lv_at hl 3 rfl) ?_
  refine lv_iconst (v := 0) hx hb dL_panel_1 (by decide) ?_
  refine lv_aload_n hx hb dL_panel_2 rfl (lv_at hl 0 rfl) ?_
  refine lv_iload_n hx hb dL_panel_3 rfl (lv_at hl 1 rfl) ?_
  refine lv_iload_n hx hb dL_panel_4 rfl (lv_at hl 2 rfl) ?_
  refine vx_calli (vx_runV (As := [.int lat, .int lon]) (rest := [.int 0, .ref qout]) ⟨hx, hb, hml, hown, hts⟩ (c_X4_panel l hnt D cI cZ cJ cD qo qm qb qr qf qx qy qz qu nC nR nf lat lon ) (cwV 2 hts gL_panel_X4_panel rfl rfl rfl (by decide +kernel) ⟨Nat.le_of_ble_eq_true rfl, Nat.le_of_ble_eq_true rfl⟩) ⟨zblindE, va_recv hK hP (ci := 4) (q0 := 0) rfl rfl, (fun U hU hW => ⟨rfl, by rw [hU]; exact hP.sub (ws' := [(qo, .inr (4, [.ref qm, .ref qb, .ref qr, .ref qf])), (qf, .inr (1, [.ref qx, .ref qy, .ref qz, .ref qu, .int (nI nC), .int (nI nR), .int nf]))]) [0, 1] rfl, va_K.moved hW.alike hK, zEnv.go hE hS (fun q h => h.elim) hU hW⟩)⟩ rfl rfl hl.1 rfl (lv_room (Nat.le_of_ble_eq_true rfl)) dL_panel_5 ⟨Nat.le_of_ble_eq_true rfl, Nat.le_of_ble_eq_true rfl⟩) hS (fun q _ h => h.elim) (fun q h => h.elim) (fun q _ h => h.elim) (fun E ce q9 u t H locs ht hvm hpx hB hz1 hk1 hS hq9 hce hcl => ?_) (fun r5 u t H locs ht hvm hw hB hz1 hk1 hS => ?_)
  · have hX := hB
    have hP := zk hP hk1
    have c6 : ¬ k_X4_panel nC nR nf lat lon = 0 := zX_ne hX
    rcases hX with ⟨rfl, hk9⟩ | ⟨rfl, hk9⟩ | ⟨rfl, hk9⟩
    · exact absurd hk9 (by have := kr_X4_panel nC nR nf lat lon; omega)
    · refine vx_catch (own := RL) (name := "java/lang/IllegalArgumentException") (E := "java/lang/IllegalArgumentException") hown [] ⟨0, 10, 13, 15⟩ [] (htab.trans rfl) (fun z hz => absurd hz List.not_mem_nil) rfl (by decide) (hts (.classLink RL 15 "java/lang/IllegalArgumentException") (List.mem_cons_of_mem _ (List.mem_append_left _ (List.mem_append_left _ (List.mem_append_left _ (List.mem_append_left _ (List.mem_of_getElem? (i := 0) rfl))))))) ((hE.2.2.2.1 ("java/lang/IllegalArgumentException", "java/lang/IllegalArgumentException") (by decide)).use rfl) hq9 hce hcl ?_
      refine lv_astore (lv' := [(4, .ref q9), (0, .ref qo), (1, .int lat), (2, .int lon), (3, .ref qout)]) hx hb dL_panel_13 hl (by decide) rfl (fun ls hl => ?_)
      refine lv_iconst (v := 1) hx hb dL_panel_15 (by decide) ?_
      have e8 : s_L_panel nC nR nf lat lon fo = 1 := by
        unfold s_L_panel
        exact (if_neg c6)
      have e9 : n_L_panel_qout nC nR nf lat lon fo = fo := by
        unfold n_L_panel_qout
        exact (if_neg c6)
      refine vx_ret ?_
      exact W.iret (v := 1) hx hb hr (fun t ht hW => ⟨⟨_, (), rfl, e8.symm, ⟨(by rw [e9]; rw [ht]; exact hP), va_K.moved hW.alike hK, (by rw [e9]; exact hD)⟩⟩, hS.F ht⟩) hS.2.2 dL_panel_16
    · exact absurd hk9 (by have := kr_X4_panel nC nR nf lat lon; omega)
  · obtain ⟨c10, hw⟩ := hw
    rw [hw]
    have hP := zk hP hk1
    refine W.widen (k := 2) (n := 12) (by decide) (by decide) ?_
    refine lv_i2l hx hb dL_panel_8 rfl ?_
    refine va_last hx hb hK hP hD hS 2 2 rfl rfl (z_inc (k := 0) rfl (by decide)) dL_panel_9 (fun H locs hP hD hS => ?_)
    have hP : va_P D vwCl [(qo, .inr (4, [.ref qm, .ref qb, .ref qr, .ref qf])), (qf, .inr (1, [.ref qx, .ref qy, .ref qz, .ref qu, .int (nI nC), .int (nI nR), .int nf])), (qout, .inl (cJ, 1, .inr (.inl (vp_updL fo (0 : Int32).toNatClampNeg ((s_X4_panel nC nR nf lat lon).toInt64)))))] H := hP
    have hD : va_D A [(qo, .inr (4, [.ref qm, .ref qb, .ref qr, .ref qf])), (qf, .inr (1, [.ref qx, .ref qy, .ref qz, .ref qu, .int (nI nC), .int (nI nR), .int nf])), (qout, .inl (cJ, 1, .inr (.inl (vp_updL fo (0 : Int32).toNatClampNeg ((s_X4_panel nC nR nf lat lon).toInt64)))))] := hD
    refine lv_goto (tgt := 17) hx hb dL_panel_10 (by decide) ?_
    refine lv_iconst (v := 0) hx hb dL_panel_17 (by decide) ?_
    have e11 : s_L_panel nC nR nf lat lon fo = 0 := by
      unfold s_L_panel
      exact (if_pos c10)
    have e12 : n_L_panel_qout nC nR nf lat lon fo = vp_updL fo (0 : Int32).toNatClampNeg ((s_X4_panel nC nR nf lat lon).toInt64) := by
      unfold n_L_panel_qout
      exact (if_pos c10)
    refine vx_ret ?_
    exact W.iret (v := 0) hx hb hr (fun t ht hW => ⟨⟨_, (), rfl, e11.symm, ⟨(by rw [e12]; rw [ht]; exact hP), va_K.moved hW.alike hK, (by rw [e12]; exact hD)⟩⟩, hS.F ht⟩) hS.2.2 dL_panel_18
def s_L_placeX (nC : Nat) (nR : Nat) (nf : Int32) (fx : Nat → Int32) (co : Int32) (ro : Int32) (fo : Nat → Int64) : Int32 := (if k_X4_placeX nC nR nf fx co ro = 0 then 0 else 1)
def n_L_placeX_qout (nC : Nat) (nR : Nat) (nf : Int32) (fx : Nat → Int32) (co : Int32) (ro : Int32) (fo : Nat → Int64) : Nat → Int64 := (if k_X4_placeX nC nR nf fx co ro = 0 then vp_updL fo (0 : Int32).toNatClampNeg ((s_X4_placeX nC nR nf fx co ro).toInt64) else fo)
abbrev rm_L_placeX : Room := { frames := 8, cells := 1, slots := 6, locals := 134 }
abbrev Qc_L_placeX (D : va_G) (cI cZ cJ cD : ClassId) (qo : Nat) (qm : Nat) (qb : Nat) (qr : Nat) (qf : Nat) (qx : Nat) (qy : Nat) (qz : Nat) (qu : Nat) (nC : Nat) (nR : Nat) (nf : Int32) (fx : Nat → Int32) (co : Int32) (ro : Int32) (qout : Nat) (fo : Nat → Int64) (A : Nat → Prop) : Array Value → State → Outcome → State → Prop := va_Qi (fun (r : Int32) (_ : Unit) => r = s_L_placeX nC nR nf fx co ro fo) (zPost D cI cZ cJ cD A [(qo, .inr (4, [.ref qm, .ref qb, .ref qr, .ref qf])), (qf, .inr (1, [.ref qx, .ref qy, .ref qz, .ref qu, .int (nI nC), .int (nI nR), .int nf])), (qx, .inl (cI, 36, .inl fx)), (qout, .inl (cJ, 1, .inr (.inl (n_L_placeX_qout nC nR nf fx co ro fo))))]) A
abbrev Xc_L_placeX (D : va_G) (cI cZ cJ cD : ClassId) (qo : Nat) (qm : Nat) (qb : Nat) (qr : Nat) (qf : Nat) (qx : Nat) (qy : Nat) (qz : Nat) (qu : Nat) (nC : Nat) (nR : Nat) (nf : Int32) (fx : Nat → Int32) (co : Int32) (ro : Int32) (qout : Nat) (fo : Nat → Int64) (A : Nat → Prop) : String → State → State → Prop := vx_X (fun _ : Unit => True) (fun _ _ _ => False) A
set_option maxHeartbeats 4000000 in
set_option maxRecDepth 100000 in
theorem c_L_placeX (l : Launch) (hnt : l.stackTraces = false) (D : va_G) (cI cZ cJ cD : ClassId) (qo : Nat) (qm : Nat) (qb : Nat) (qr : Nat) (qf : Nat) (qx : Nat) (qy : Nat) (qz : Nat) (qu : Nat) (nC : Nat) (nR : Nat) (nf : Int32) (fx : Nat → Int32) (co : Int32) (ro : Int32) (qout : Nat) (fo : Nat → Int64) (sz : Nat) (hN : nC * nR ≤ 36) (hC : nC ≤ 36) (hR : nR ≤ 36) : vx_Met l yL_placeX wsL_placeX rm_L_placeX (va_Pc [.ref qo, .int co, .int ro, .ref qout] (zPreWE D cI cZ cJ cD [(qo, .inr (4, [.ref qm, .ref qb, .ref qr, .ref qf])), (qf, .inr (1, [.ref qx, .ref qy, .ref qz, .ref qu, .int (nI nC), .int (nI nR), .int nf])), (qx, .inl (cI, 36, .inl fx)), (qout, .inl (cJ, 1, .inr (.inl fo)))] sz)) (Qc_L_placeX D cI cZ cJ cD qo qm qb qr qf qx qy qz qu nC nR nf fx co ro qout fo (va_A [(qo, .inr (4, [.ref qm, .ref qb, .ref qr, .ref qf])), (qf, .inr (1, [.ref qx, .ref qy, .ref qz, .ref qu, .int (nI nC), .int (nI nR), .int nf])), (qx, .inl (cI, 36, .inl fx)), (qout, .inl (cJ, 1, .inr (.inl fo)))] sz)) (Xc_L_placeX D cI cZ cJ cD qo qm qb qr qf qx qy qz qu nC nR nf fx co ro qout fo (va_A [(qo, .inr (4, [.ref qm, .ref qb, .ref qr, .ref qf])), (qf, .inr (1, [.ref qx, .ref qy, .ref qz, .ref qu, .int (nI nC), .int (nI nR), .int nf])), (qx, .inl (cI, 36, .inl fx)), (qout, .inl (cJ, 1, .inr (.inl fo)))] sz)) 1 6 (va_A [(qo, .inr (4, [.ref qm, .ref qb, .ref qr, .ref qf])), (qf, .inr (1, [.ref qx, .ref qy, .ref qz, .ref qu, .int (nI nC), .int (nI nR), .int nf])), (qx, .inl (cI, 36, .inl fx)), (qout, .inl (cJ, 1, .inr (.inl fo)))] sz) := by
  refine vx_ofWH (cc := cL_placeX) (maxL := 5) (ret := (some .int)) (hh := [(0, 10, 13, 13)]) (by decide) rfl ?_
  intro p e s m args below meth c s₁ B hml hv
  obtain ⟨rfl, hsz, hP, hK, hD0, hE⟩ := hv
  have hx := B.exec
  have hb := B.bytes
  have hr := B.returns
  have hts := atoms_spec (ws := wsL_placeX) B.pre
  have hown : s.vm.findClass RL = some m.cls := findClass_of_methodNamed B.named
  have hlocks := B.notSynchronized
  have htab := vx_table (x := yL_placeX) B (hts _ List.mem_cons_self)
  subst hsz
  have hD := hD0.self (sz := s.heap.size)
  generalize hAe : va_A [(qo, .inr (4, [.ref qm, .ref qb, .ref qr, .ref qf])), (qf, .inr (1, [.ref qx, .ref qy, .ref qz, .ref qu, .int (nI nC), .int (nI nR), .int nf])), (qx, .inl (cI, 36, .inl fx)), (qout, .inl (cJ, 1, .inr (.inl fo)))] s.heap.size = A at hE hD ⊢
  have hA : ∀ q : Nat, s.heap.size ≤ q → A q := fun q h => by rw [← hAe]; exact Or.inr h
  have hS : va_S A s.heap s.heap [] := va_S.rf
  have hl := lv_entry ([.ref qo, .int co, .int ro, .ref qout]) (n := 5) (Nat.le_of_ble_eq_true rfl)
  rw [lg_entry_eq]
  generalize (lg_sl ([.ref qo, .int co, .int ro, .ref qout]) ++ List.replicate (5 - (lg_sl ([.ref qo, .int co, .int ro, .ref qout])).length) Slot.unset).toArray = ls at hl ⊢
  have hl : lv_has ls 5 [(0, .ref qo), (1, .int co), (2, .int ro), (3, .ref qout)] := hl
  have hP : va_P D vwCl [(qo, .inr (4, [.ref qm, .ref qb, .ref qr, .ref qf])), (qf, .inr (1, [.ref qx, .ref qy, .ref qz, .ref qu, .int (nI nC), .int (nI nR), .int nf])), (qx, .inl (cI, 36, .inl fx)), (qout, .inl (cJ, 1, .inr (.inl fo)))] s.heap := hP
  have hP := hP
  refine lv_aload_n hx hb dL_placeX_0 rfl (lv_at hl 3 rfl) ?_
  refine lv_iconst (v := 0) hx hb dL_placeX_1 (by decide) ?_
  refine lv_aload_n hx hb dL_placeX_2 rfl (lv_at hl 0 rfl) ?_
  refine lv_iload_n hx hb dL_placeX_3 rfl (lv_at hl 1 rfl) ?_
  refine lv_iload_n hx hb dL_placeX_4 rfl (lv_at hl 2 rfl) ?_
  refine vx_calli (vx_runV (As := [.int co, .int ro]) (rest := [.int 0, .ref qout]) ⟨hx, hb, hml, hown, hts⟩ (c_X4_placeX l hnt D cI cZ cJ cD qo qm qb qr qf qx qy qz qu nC nR nf fx co ro (by assumption) (by assumption) (by assumption)) (cwV 2 hts gL_placeX_X4_placeX rfl rfl rfl (by decide +kernel) ⟨Nat.le_of_ble_eq_true rfl, Nat.le_of_ble_eq_true rfl⟩) ⟨zblindE, va_recv hK hP (ci := 4) (q0 := 0) rfl rfl, (fun U hU hW => ⟨rfl, by rw [hU]; exact hP.sub (ws' := [(qo, .inr (4, [.ref qm, .ref qb, .ref qr, .ref qf])), (qf, .inr (1, [.ref qx, .ref qy, .ref qz, .ref qu, .int (nI nC), .int (nI nR), .int nf])), (qx, .inl (cI, 36, .inl fx))]) [0, 1, 2] rfl, va_K.moved hW.alike hK, zEnv.go hE hS (fun q h => h.elim) hU hW⟩)⟩ rfl rfl hl.1 rfl (lv_room (Nat.le_of_ble_eq_true rfl)) dL_placeX_5 ⟨Nat.le_of_ble_eq_true rfl, Nat.le_of_ble_eq_true rfl⟩) hS (fun q _ h => h.elim) (fun q h => h.elim) (fun q _ h => h.elim) (fun E ce q9 u t H locs ht hvm hpx hB hz1 hk1 hS hq9 hce hcl => ?_) (fun r5 u t H locs ht hvm hw hB hz1 hk1 hS => ?_)
  · have hX := hB
    have hP := zk hP hk1
    have c6 : ¬ k_X4_placeX nC nR nf fx co ro = 0 := zX_ne hX
    rcases hX with ⟨rfl, hk9⟩ | ⟨rfl, hk9⟩ | ⟨rfl, hk9⟩
    · refine vx_catch (own := RL) (name := "java/lang/IndexOutOfBoundsException") (E := "java/lang/IndexOutOfBoundsException") hown [] ⟨0, 10, 13, 13⟩ [] (htab.trans rfl) (fun z hz => absurd hz List.not_mem_nil) rfl (by decide) (hts (.classLink RL 13 "java/lang/IndexOutOfBoundsException") (List.mem_cons_of_mem _ (List.mem_append_left _ (List.mem_append_left _ (List.mem_append_left _ (List.mem_append_left _ (List.mem_of_getElem? (i := 0) rfl))))))) ((hE.2.2.2.1 ("java/lang/IndexOutOfBoundsException", "java/lang/IndexOutOfBoundsException") (by decide)).use rfl) hq9 hce hcl ?_
      refine lv_astore (lv' := [(4, .ref q9), (0, .ref qo), (1, .int co), (2, .int ro), (3, .ref qout)]) hx hb dL_placeX_13 hl (by decide) rfl (fun ls hl => ?_)
      refine lv_iconst (v := 1) hx hb dL_placeX_15 (by decide) ?_
      have e8 : s_L_placeX nC nR nf fx co ro fo = 1 := by
        unfold s_L_placeX
        exact (if_neg c6)
      have e9 : n_L_placeX_qout nC nR nf fx co ro fo = fo := by
        unfold n_L_placeX_qout
        exact (if_neg c6)
      refine vx_ret ?_
      exact W.iret (v := 1) hx hb hr (fun t ht hW => ⟨⟨_, (), rfl, e8.symm, ⟨(by rw [e9]; rw [ht]; exact hP), va_K.moved hW.alike hK, (by rw [e9]; exact hD)⟩⟩, hS.F ht⟩) hS.2.2 dL_placeX_16
    · exact absurd hk9 (by have := kr_X4_placeX nC nR nf fx co ro; omega)
    · exact absurd hk9 (by have := kr_X4_placeX nC nR nf fx co ro; omega)
  · obtain ⟨c10, hw⟩ := hw
    rw [hw]
    have hP := zk hP hk1
    refine W.widen (k := 1) (n := 6) (by decide) (by decide) ?_
    refine lv_i2l hx hb dL_placeX_8 rfl ?_
    refine va_last hx hb hK hP hD hS 3 2 rfl rfl (z_inc (k := 0) rfl (by decide)) dL_placeX_9 (fun H locs hP hD hS => ?_)
    have hP : va_P D vwCl [(qo, .inr (4, [.ref qm, .ref qb, .ref qr, .ref qf])), (qf, .inr (1, [.ref qx, .ref qy, .ref qz, .ref qu, .int (nI nC), .int (nI nR), .int nf])), (qx, .inl (cI, 36, .inl fx)), (qout, .inl (cJ, 1, .inr (.inl (vp_updL fo (0 : Int32).toNatClampNeg ((s_X4_placeX nC nR nf fx co ro).toInt64)))))] H := hP
    have hD : va_D A [(qo, .inr (4, [.ref qm, .ref qb, .ref qr, .ref qf])), (qf, .inr (1, [.ref qx, .ref qy, .ref qz, .ref qu, .int (nI nC), .int (nI nR), .int nf])), (qx, .inl (cI, 36, .inl fx)), (qout, .inl (cJ, 1, .inr (.inl (vp_updL fo (0 : Int32).toNatClampNeg ((s_X4_placeX nC nR nf fx co ro).toInt64)))))] := hD
    refine lv_goto (tgt := 17) hx hb dL_placeX_10 (by decide) ?_
    refine lv_iconst (v := 0) hx hb dL_placeX_17 (by decide) ?_
    have e11 : s_L_placeX nC nR nf fx co ro fo = 0 := by
      unfold s_L_placeX
      exact (if_pos c10)
    have e12 : n_L_placeX_qout nC nR nf fx co ro fo = vp_updL fo (0 : Int32).toNatClampNeg ((s_X4_placeX nC nR nf fx co ro).toInt64) := by
      unfold n_L_placeX_qout
      exact (if_pos c10)
    refine vx_ret ?_
    exact W.iret (v := 0) hx hb hr (fun t ht hW => ⟨⟨_, (), rfl, e11.symm, ⟨(by rw [e12]; rw [ht]; exact hP), va_K.moved hW.alike hK, (by rw [e12]; exact hD)⟩⟩, hS.F ht⟩) hS.2.2 dL_placeX_18
def s_L_placeY (nC : Nat) (nR : Nat) (nf : Int32) (fy : Nat → Int32) (co : Int32) (ro : Int32) (fo : Nat → Int64) : Int32 := (if k_X4_placeY nC nR nf fy co ro = 0 then 0 else 1)
def n_L_placeY_qout (nC : Nat) (nR : Nat) (nf : Int32) (fy : Nat → Int32) (co : Int32) (ro : Int32) (fo : Nat → Int64) : Nat → Int64 := (if k_X4_placeY nC nR nf fy co ro = 0 then vp_updL fo (0 : Int32).toNatClampNeg ((s_X4_placeY nC nR nf fy co ro).toInt64) else fo)
abbrev rm_L_placeY : Room := { frames := 8, cells := 1, slots := 6, locals := 134 }
abbrev Qc_L_placeY (D : va_G) (cI cZ cJ cD : ClassId) (qo : Nat) (qm : Nat) (qb : Nat) (qr : Nat) (qf : Nat) (qx : Nat) (qy : Nat) (qz : Nat) (qu : Nat) (nC : Nat) (nR : Nat) (nf : Int32) (fy : Nat → Int32) (co : Int32) (ro : Int32) (qout : Nat) (fo : Nat → Int64) (A : Nat → Prop) : Array Value → State → Outcome → State → Prop := va_Qi (fun (r : Int32) (_ : Unit) => r = s_L_placeY nC nR nf fy co ro fo) (zPost D cI cZ cJ cD A [(qo, .inr (4, [.ref qm, .ref qb, .ref qr, .ref qf])), (qf, .inr (1, [.ref qx, .ref qy, .ref qz, .ref qu, .int (nI nC), .int (nI nR), .int nf])), (qy, .inl (cI, 36, .inl fy)), (qout, .inl (cJ, 1, .inr (.inl (n_L_placeY_qout nC nR nf fy co ro fo))))]) A
abbrev Xc_L_placeY (D : va_G) (cI cZ cJ cD : ClassId) (qo : Nat) (qm : Nat) (qb : Nat) (qr : Nat) (qf : Nat) (qx : Nat) (qy : Nat) (qz : Nat) (qu : Nat) (nC : Nat) (nR : Nat) (nf : Int32) (fy : Nat → Int32) (co : Int32) (ro : Int32) (qout : Nat) (fo : Nat → Int64) (A : Nat → Prop) : String → State → State → Prop := vx_X (fun _ : Unit => True) (fun _ _ _ => False) A
set_option maxHeartbeats 4000000 in
set_option maxRecDepth 100000 in
theorem c_L_placeY (l : Launch) (hnt : l.stackTraces = false) (D : va_G) (cI cZ cJ cD : ClassId) (qo : Nat) (qm : Nat) (qb : Nat) (qr : Nat) (qf : Nat) (qx : Nat) (qy : Nat) (qz : Nat) (qu : Nat) (nC : Nat) (nR : Nat) (nf : Int32) (fy : Nat → Int32) (co : Int32) (ro : Int32) (qout : Nat) (fo : Nat → Int64) (sz : Nat) (hN : nC * nR ≤ 36) (hC : nC ≤ 36) (hR : nR ≤ 36) : vx_Met l yL_placeY wsL_placeY rm_L_placeY (va_Pc [.ref qo, .int co, .int ro, .ref qout] (zPreWE D cI cZ cJ cD [(qo, .inr (4, [.ref qm, .ref qb, .ref qr, .ref qf])), (qf, .inr (1, [.ref qx, .ref qy, .ref qz, .ref qu, .int (nI nC), .int (nI nR), .int nf])), (qy, .inl (cI, 36, .inl fy)), (qout, .inl (cJ, 1, .inr (.inl fo)))] sz)) (Qc_L_placeY D cI cZ cJ cD qo qm qb qr qf qx qy qz qu nC nR nf fy co ro qout fo (va_A [(qo, .inr (4, [.ref qm, .ref qb, .ref qr, .ref qf])), (qf, .inr (1, [.ref qx, .ref qy, .ref qz, .ref qu, .int (nI nC), .int (nI nR), .int nf])), (qy, .inl (cI, 36, .inl fy)), (qout, .inl (cJ, 1, .inr (.inl fo)))] sz)) (Xc_L_placeY D cI cZ cJ cD qo qm qb qr qf qx qy qz qu nC nR nf fy co ro qout fo (va_A [(qo, .inr (4, [.ref qm, .ref qb, .ref qr, .ref qf])), (qf, .inr (1, [.ref qx, .ref qy, .ref qz, .ref qu, .int (nI nC), .int (nI nR), .int nf])), (qy, .inl (cI, 36, .inl fy)), (qout, .inl (cJ, 1, .inr (.inl fo)))] sz)) 1 6 (va_A [(qo, .inr (4, [.ref qm, .ref qb, .ref qr, .ref qf])), (qf, .inr (1, [.ref qx, .ref qy, .ref qz, .ref qu, .int (nI nC), .int (nI nR), .int nf])), (qy, .inl (cI, 36, .inl fy)), (qout, .inl (cJ, 1, .inr (.inl fo)))] sz) := by
  refine vx_ofWH (cc := cL_placeY) (maxL := 5) (ret := (some .int)) (hh := [(0, 10, 13, 13)]) (by decide) rfl ?_
  intro p e s m args below meth c s₁ B hml hv
  obtain ⟨rfl, hsz, hP, hK, hD0, hE⟩ := hv
  have hx := B.exec
  have hb := B.bytes
  have hr := B.returns
  have hts := atoms_spec (ws := wsL_placeY) B.pre
  have hown : s.vm.findClass RL = some m.cls := findClass_of_methodNamed B.named
  have hlocks := B.notSynchronized
  have htab := vx_table (x := yL_placeY) B (hts _ List.mem_cons_self)
  subst hsz
  have hD := hD0.self (sz := s.heap.size)
  generalize hAe : va_A [(qo, .inr (4, [.ref qm, .ref qb, .ref qr, .ref qf])), (qf, .inr (1, [.ref qx, .ref qy, .ref qz, .ref qu, .int (nI nC), .int (nI nR), .int nf])), (qy, .inl (cI, 36, .inl fy)), (qout, .inl (cJ, 1, .inr (.inl fo)))] s.heap.size = A at hE hD ⊢
  have hA : ∀ q : Nat, s.heap.size ≤ q → A q := fun q h => by rw [← hAe]; exact Or.inr h
  have hS : va_S A s.heap s.heap [] := va_S.rf
  have hl := lv_entry ([.ref qo, .int co, .int ro, .ref qout]) (n := 5) (Nat.le_of_ble_eq_true rfl)
  rw [lg_entry_eq]
  generalize (lg_sl ([.ref qo, .int co, .int ro, .ref qout]) ++ List.replicate (5 - (lg_sl ([.ref qo, .int co, .int ro, .ref qout])).length) Slot.unset).toArray = ls at hl ⊢
  have hl : lv_has ls 5 [(0, .ref qo), (1, .int co), (2, .int ro), (3, .ref qout)] := hl
  have hP : va_P D vwCl [(qo, .inr (4, [.ref qm, .ref qb, .ref qr, .ref qf])), (qf, .inr (1, [.ref qx, .ref qy, .ref qz, .ref qu, .int (nI nC), .int (nI nR), .int nf])), (qy, .inl (cI, 36, .inl fy)), (qout, .inl (cJ, 1, .inr (.inl fo)))] s.heap := hP
  have hP := hP
  refine lv_aload_n hx hb dL_placeY_0 rfl (lv_at hl 3 rfl) ?_
  refine lv_iconst (v := 0) hx hb dL_placeY_1 (by decide) ?_
  refine lv_aload_n hx hb dL_placeY_2 rfl (lv_at hl 0 rfl) ?_
  refine lv_iload_n hx hb dL_placeY_3 rfl (lv_at hl 1 rfl) ?_
  refine lv_iload_n hx hb dL_placeY_4 rfl (lv_at hl 2 rfl) ?_
  refine vx_calli (vx_runV (As := [.int co, .int ro]) (rest := [.int 0, .ref qout]) ⟨hx, hb, hml, hown, hts⟩ (c_X4_placeY l hnt D cI cZ cJ cD qo qm qb qr qf qx qy qz qu nC nR nf fy co ro (by assumption) (by assumption) (by assumption)) (cwV 2 hts gL_placeY_X4_placeY rfl rfl rfl (by decide +kernel) ⟨Nat.le_of_ble_eq_true rfl, Nat.le_of_ble_eq_true rfl⟩) ⟨zblindE, va_recv hK hP (ci := 4) (q0 := 0) rfl rfl, (fun U hU hW => ⟨rfl, by rw [hU]; exact hP.sub (ws' := [(qo, .inr (4, [.ref qm, .ref qb, .ref qr, .ref qf])), (qf, .inr (1, [.ref qx, .ref qy, .ref qz, .ref qu, .int (nI nC), .int (nI nR), .int nf])), (qy, .inl (cI, 36, .inl fy))]) [0, 1, 2] rfl, va_K.moved hW.alike hK, zEnv.go hE hS (fun q h => h.elim) hU hW⟩)⟩ rfl rfl hl.1 rfl (lv_room (Nat.le_of_ble_eq_true rfl)) dL_placeY_5 ⟨Nat.le_of_ble_eq_true rfl, Nat.le_of_ble_eq_true rfl⟩) hS (fun q _ h => h.elim) (fun q h => h.elim) (fun q _ h => h.elim) (fun E ce q9 u t H locs ht hvm hpx hB hz1 hk1 hS hq9 hce hcl => ?_) (fun r5 u t H locs ht hvm hw hB hz1 hk1 hS => ?_)
  · have hX := hB
    have hP := zk hP hk1
    have c6 : ¬ k_X4_placeY nC nR nf fy co ro = 0 := zX_ne hX
    rcases hX with ⟨rfl, hk9⟩ | ⟨rfl, hk9⟩ | ⟨rfl, hk9⟩
    · refine vx_catch (own := RL) (name := "java/lang/IndexOutOfBoundsException") (E := "java/lang/IndexOutOfBoundsException") hown [] ⟨0, 10, 13, 13⟩ [] (htab.trans rfl) (fun z hz => absurd hz List.not_mem_nil) rfl (by decide) (hts (.classLink RL 13 "java/lang/IndexOutOfBoundsException") (List.mem_cons_of_mem _ (List.mem_append_left _ (List.mem_append_left _ (List.mem_append_left _ (List.mem_append_left _ (List.mem_of_getElem? (i := 0) rfl))))))) ((hE.2.2.2.1 ("java/lang/IndexOutOfBoundsException", "java/lang/IndexOutOfBoundsException") (by decide)).use rfl) hq9 hce hcl ?_
      refine lv_astore (lv' := [(4, .ref q9), (0, .ref qo), (1, .int co), (2, .int ro), (3, .ref qout)]) hx hb dL_placeY_13 hl (by decide) rfl (fun ls hl => ?_)
      refine lv_iconst (v := 1) hx hb dL_placeY_15 (by decide) ?_
      have e8 : s_L_placeY nC nR nf fy co ro fo = 1 := by
        unfold s_L_placeY
        exact (if_neg c6)
      have e9 : n_L_placeY_qout nC nR nf fy co ro fo = fo := by
        unfold n_L_placeY_qout
        exact (if_neg c6)
      refine vx_ret ?_
      exact W.iret (v := 1) hx hb hr (fun t ht hW => ⟨⟨_, (), rfl, e8.symm, ⟨(by rw [e9]; rw [ht]; exact hP), va_K.moved hW.alike hK, (by rw [e9]; exact hD)⟩⟩, hS.F ht⟩) hS.2.2 dL_placeY_16
    · exact absurd hk9 (by have := kr_X4_placeY nC nR nf fy co ro; omega)
    · exact absurd hk9 (by have := kr_X4_placeY nC nR nf fy co ro; omega)
  · obtain ⟨c10, hw⟩ := hw
    rw [hw]
    have hP := zk hP hk1
    refine W.widen (k := 1) (n := 6) (by decide) (by decide) ?_
    refine lv_i2l hx hb dL_placeY_8 rfl ?_
    refine va_last hx hb hK hP hD hS 3 2 rfl rfl (z_inc (k := 0) rfl (by decide)) dL_placeY_9 (fun H locs hP hD hS => ?_)
    have hP : va_P D vwCl [(qo, .inr (4, [.ref qm, .ref qb, .ref qr, .ref qf])), (qf, .inr (1, [.ref qx, .ref qy, .ref qz, .ref qu, .int (nI nC), .int (nI nR), .int nf])), (qy, .inl (cI, 36, .inl fy)), (qout, .inl (cJ, 1, .inr (.inl (vp_updL fo (0 : Int32).toNatClampNeg ((s_X4_placeY nC nR nf fy co ro).toInt64)))))] H := hP
    have hD : va_D A [(qo, .inr (4, [.ref qm, .ref qb, .ref qr, .ref qf])), (qf, .inr (1, [.ref qx, .ref qy, .ref qz, .ref qu, .int (nI nC), .int (nI nR), .int nf])), (qy, .inl (cI, 36, .inl fy)), (qout, .inl (cJ, 1, .inr (.inl (vp_updL fo (0 : Int32).toNatClampNeg ((s_X4_placeY nC nR nf fy co ro).toInt64)))))] := hD
    refine lv_goto (tgt := 17) hx hb dL_placeY_10 (by decide) ?_
    refine lv_iconst (v := 0) hx hb dL_placeY_17 (by decide) ?_
    have e11 : s_L_placeY nC nR nf fy co ro fo = 0 := by
      unfold s_L_placeY
      exact (if_pos c10)
    have e12 : n_L_placeY_qout nC nR nf fy co ro fo = vp_updL fo (0 : Int32).toNatClampNeg ((s_X4_placeY nC nR nf fy co ro).toInt64) := by
      unfold n_L_placeY_qout
      exact (if_pos c10)
    refine vx_ret ?_
    exact W.iret (v := 0) hx hb hr (fun t ht hW => ⟨⟨_, (), rfl, e11.symm, ⟨(by rw [e12]; rw [ht]; exact hP), va_K.moved hW.alike hK, (by rw [e12]; exact hD)⟩⟩, hS.F ht⟩) hS.2.2 dL_placeY_18
def s_L_above (nC : Nat) (nR : Nat) (nf : Int32) (fx : Nat → Int32) (fy : Nat → Int32) (fz : Nat → Int32) (co : Int32) (ro : Int32) (fo : Nat → Int64) : Int32 := (if k_X4_above nC nR nf fx fy fz co ro = 0 then 0 else 1)
def n_L_above_qout (nC : Nat) (nR : Nat) (nf : Int32) (fx : Nat → Int32) (fy : Nat → Int32) (fz : Nat → Int32) (co : Int32) (ro : Int32) (fo : Nat → Int64) : Nat → Int64 := (if k_X4_above nC nR nf fx fy fz co ro = 0 then vp_updL fo (0 : Int32).toNatClampNeg ((s_X4_above nC nR nf fx fy fz co ro).toInt64) else fo)
abbrev rm_L_above : Room := { frames := 8, cells := 1, slots := 6, locals := 134 }
abbrev Qc_L_above (D : va_G) (cI cZ cJ cD : ClassId) (qo : Nat) (qm : Nat) (qb : Nat) (qr : Nat) (qf : Nat) (qx : Nat) (qy : Nat) (qz : Nat) (qu : Nat) (nC : Nat) (nR : Nat) (nf : Int32) (fx : Nat → Int32) (fy : Nat → Int32) (fz : Nat → Int32) (co : Int32) (ro : Int32) (qout : Nat) (fo : Nat → Int64) (A : Nat → Prop) : Array Value → State → Outcome → State → Prop := va_Qi (fun (r : Int32) (_ : Unit) => r = s_L_above nC nR nf fx fy fz co ro fo) (zPost D cI cZ cJ cD A [(qo, .inr (4, [.ref qm, .ref qb, .ref qr, .ref qf])), (qf, .inr (1, [.ref qx, .ref qy, .ref qz, .ref qu, .int (nI nC), .int (nI nR), .int nf])), (qx, .inl (cI, 36, .inl fx)), (qy, .inl (cI, 36, .inl fy)), (qz, .inl (cI, 36, .inl fz)), (qout, .inl (cJ, 1, .inr (.inl (n_L_above_qout nC nR nf fx fy fz co ro fo))))]) A
abbrev Xc_L_above (D : va_G) (cI cZ cJ cD : ClassId) (qo : Nat) (qm : Nat) (qb : Nat) (qr : Nat) (qf : Nat) (qx : Nat) (qy : Nat) (qz : Nat) (qu : Nat) (nC : Nat) (nR : Nat) (nf : Int32) (fx : Nat → Int32) (fy : Nat → Int32) (fz : Nat → Int32) (co : Int32) (ro : Int32) (qout : Nat) (fo : Nat → Int64) (A : Nat → Prop) : String → State → State → Prop := vx_X (fun _ : Unit => True) (fun _ _ _ => False) A
set_option maxHeartbeats 4000000 in
set_option maxRecDepth 100000 in
theorem c_L_above (l : Launch) (hnt : l.stackTraces = false) (D : va_G) (cI cZ cJ cD : ClassId) (qo : Nat) (qm : Nat) (qb : Nat) (qr : Nat) (qf : Nat) (qx : Nat) (qy : Nat) (qz : Nat) (qu : Nat) (nC : Nat) (nR : Nat) (nf : Int32) (fx : Nat → Int32) (fy : Nat → Int32) (fz : Nat → Int32) (co : Int32) (ro : Int32) (qout : Nat) (fo : Nat → Int64) (sz : Nat) (hN : nC * nR ≤ 36) (hC : nC ≤ 36) (hR : nR ≤ 36) : vx_Met l yL_above wsL_above rm_L_above (va_Pc [.ref qo, .int co, .int ro, .ref qout] (zPreWE D cI cZ cJ cD [(qo, .inr (4, [.ref qm, .ref qb, .ref qr, .ref qf])), (qf, .inr (1, [.ref qx, .ref qy, .ref qz, .ref qu, .int (nI nC), .int (nI nR), .int nf])), (qx, .inl (cI, 36, .inl fx)), (qy, .inl (cI, 36, .inl fy)), (qz, .inl (cI, 36, .inl fz)), (qout, .inl (cJ, 1, .inr (.inl fo)))] sz)) (Qc_L_above D cI cZ cJ cD qo qm qb qr qf qx qy qz qu nC nR nf fx fy fz co ro qout fo (va_A [(qo, .inr (4, [.ref qm, .ref qb, .ref qr, .ref qf])), (qf, .inr (1, [.ref qx, .ref qy, .ref qz, .ref qu, .int (nI nC), .int (nI nR), .int nf])), (qx, .inl (cI, 36, .inl fx)), (qy, .inl (cI, 36, .inl fy)), (qz, .inl (cI, 36, .inl fz)), (qout, .inl (cJ, 1, .inr (.inl fo)))] sz)) (Xc_L_above D cI cZ cJ cD qo qm qb qr qf qx qy qz qu nC nR nf fx fy fz co ro qout fo (va_A [(qo, .inr (4, [.ref qm, .ref qb, .ref qr, .ref qf])), (qf, .inr (1, [.ref qx, .ref qy, .ref qz, .ref qu, .int (nI nC), .int (nI nR), .int nf])), (qx, .inl (cI, 36, .inl fx)), (qy, .inl (cI, 36, .inl fy)), (qz, .inl (cI, 36, .inl fz)), (qout, .inl (cJ, 1, .inr (.inl fo)))] sz)) 1 6 (va_A [(qo, .inr (4, [.ref qm, .ref qb, .ref qr, .ref qf])), (qf, .inr (1, [.ref qx, .ref qy, .ref qz, .ref qu, .int (nI nC), .int (nI nR), .int nf])), (qx, .inl (cI, 36, .inl fx)), (qy, .inl (cI, 36, .inl fy)), (qz, .inl (cI, 36, .inl fz)), (qout, .inl (cJ, 1, .inr (.inl fo)))] sz) := by
  refine vx_ofWH (cc := cL_above) (maxL := 5) (ret := (some .int)) (hh := [(0, 10, 13, 13)]) (by decide) rfl ?_
  intro p e s m args below meth c s₁ B hml hv
  obtain ⟨rfl, hsz, hP, hK, hD0, hE⟩ := hv
  have hx := B.exec
  have hb := B.bytes
  have hr := B.returns
  have hts := atoms_spec (ws := wsL_above) B.pre
  have hown : s.vm.findClass RL = some m.cls := findClass_of_methodNamed B.named
  have hlocks := B.notSynchronized
  have htab := vx_table (x := yL_above) B (hts _ List.mem_cons_self)
  subst hsz
  have hD := hD0.self (sz := s.heap.size)
  generalize hAe : va_A [(qo, .inr (4, [.ref qm, .ref qb, .ref qr, .ref qf])), (qf, .inr (1, [.ref qx, .ref qy, .ref qz, .ref qu, .int (nI nC), .int (nI nR), .int nf])), (qx, .inl (cI, 36, .inl fx)), (qy, .inl (cI, 36, .inl fy)), (qz, .inl (cI, 36, .inl fz)), (qout, .inl (cJ, 1, .inr (.inl fo)))] s.heap.size = A at hE hD ⊢
  have hA : ∀ q : Nat, s.heap.size ≤ q → A q := fun q h => by rw [← hAe]; exact Or.inr h
  have hS : va_S A s.heap s.heap [] := va_S.rf
  have hl := lv_entry ([.ref qo, .int co, .int ro, .ref qout]) (n := 5) (Nat.le_of_ble_eq_true rfl)
  rw [lg_entry_eq]
  generalize (lg_sl ([.ref qo, .int co, .int ro, .ref qout]) ++ List.replicate (5 - (lg_sl ([.ref qo, .int co, .int ro, .ref qout])).length) Slot.unset).toArray = ls at hl ⊢
  have hl : lv_has ls 5 [(0, .ref qo), (1, .int co), (2, .int ro), (3, .ref qout)] := hl
  have hP : va_P D vwCl [(qo, .inr (4, [.ref qm, .ref qb, .ref qr, .ref qf])), (qf, .inr (1, [.ref qx, .ref qy, .ref qz, .ref qu, .int (nI nC), .int (nI nR), .int nf])), (qx, .inl (cI, 36, .inl fx)), (qy, .inl (cI, 36, .inl fy)), (qz, .inl (cI, 36, .inl fz)), (qout, .inl (cJ, 1, .inr (.inl fo)))] s.heap := hP
  have hP := hP
  refine lv_aload_n hx hb dL_above_0 rfl (lv_at hl 3 rfl) ?_
  refine lv_iconst (v := 0) hx hb dL_above_1 (by decide) ?_
  refine lv_aload_n hx hb dL_above_2 rfl (lv_at hl 0 rfl) ?_
  refine lv_iload_n hx hb dL_above_3 rfl (lv_at hl 1 rfl) ?_
  refine lv_iload_n hx hb dL_above_4 rfl (lv_at hl 2 rfl) ?_
  refine vx_calli (vx_runV (As := [.int co, .int ro]) (rest := [.int 0, .ref qout]) ⟨hx, hb, hml, hown, hts⟩ (c_X4_above l hnt D cI cZ cJ cD qo qm qb qr qf qx qy qz qu nC nR nf fx fy fz co ro (by assumption) (by assumption) (by assumption)) (cwV 2 hts gL_above_X4_above rfl rfl rfl (by decide +kernel) ⟨Nat.le_of_ble_eq_true rfl, Nat.le_of_ble_eq_true rfl⟩) ⟨zblindE, va_recv hK hP (ci := 4) (q0 := 0) rfl rfl, (fun U hU hW => ⟨rfl, by rw [hU]; exact hP.sub (ws' := [(qo, .inr (4, [.ref qm, .ref qb, .ref qr, .ref qf])), (qf, .inr (1, [.ref qx, .ref qy, .ref qz, .ref qu, .int (nI nC), .int (nI nR), .int nf])), (qx, .inl (cI, 36, .inl fx)), (qy, .inl (cI, 36, .inl fy)), (qz, .inl (cI, 36, .inl fz))]) [0, 1, 2, 3, 4] rfl, va_K.moved hW.alike hK, zEnv.go hE hS (fun q h => h.elim) hU hW⟩)⟩ rfl rfl hl.1 rfl (lv_room (Nat.le_of_ble_eq_true rfl)) dL_above_5 ⟨Nat.le_of_ble_eq_true rfl, Nat.le_of_ble_eq_true rfl⟩) hS (fun q _ h => h.elim) (fun q h => h.elim) (fun q _ h => h.elim) (fun E ce q9 u t H locs ht hvm hpx hB hz1 hk1 hS hq9 hce hcl => ?_) (fun r5 u t H locs ht hvm hw hB hz1 hk1 hS => ?_)
  · have hX := hB
    have hP := zk hP hk1
    have c6 : ¬ k_X4_above nC nR nf fx fy fz co ro = 0 := zX_ne hX
    rcases hX with ⟨rfl, hk9⟩ | ⟨rfl, hk9⟩ | ⟨rfl, hk9⟩
    · refine vx_catch (own := RL) (name := "java/lang/IndexOutOfBoundsException") (E := "java/lang/IndexOutOfBoundsException") hown [] ⟨0, 10, 13, 13⟩ [] (htab.trans rfl) (fun z hz => absurd hz List.not_mem_nil) rfl (by decide) (hts (.classLink RL 13 "java/lang/IndexOutOfBoundsException") (List.mem_cons_of_mem _ (List.mem_append_left _ (List.mem_append_left _ (List.mem_append_left _ (List.mem_append_left _ (List.mem_of_getElem? (i := 0) rfl))))))) ((hE.2.2.2.1 ("java/lang/IndexOutOfBoundsException", "java/lang/IndexOutOfBoundsException") (by decide)).use rfl) hq9 hce hcl ?_
      refine lv_astore (lv' := [(4, .ref q9), (0, .ref qo), (1, .int co), (2, .int ro), (3, .ref qout)]) hx hb dL_above_13 hl (by decide) rfl (fun ls hl => ?_)
      refine lv_iconst (v := 1) hx hb dL_above_15 (by decide) ?_
      have e8 : s_L_above nC nR nf fx fy fz co ro fo = 1 := by
        unfold s_L_above
        exact (if_neg c6)
      have e9 : n_L_above_qout nC nR nf fx fy fz co ro fo = fo := by
        unfold n_L_above_qout
        exact (if_neg c6)
      refine vx_ret ?_
      exact W.iret (v := 1) hx hb hr (fun t ht hW => ⟨⟨_, (), rfl, e8.symm, ⟨(by rw [e9]; rw [ht]; exact hP), va_K.moved hW.alike hK, (by rw [e9]; exact hD)⟩⟩, hS.F ht⟩) hS.2.2 dL_above_16
    · exact absurd hk9 (by have := kr_X4_above nC nR nf fx fy fz co ro; omega)
    · exact absurd hk9 (by have := kr_X4_above nC nR nf fx fy fz co ro; omega)
  · obtain ⟨c10, hw⟩ := hw
    rw [hw]
    have hP := zk hP hk1
    refine W.widen (k := 1) (n := 6) (by decide) (by decide) ?_
    refine lv_i2l hx hb dL_above_8 rfl ?_
    refine va_last hx hb hK hP hD hS 5 2 rfl rfl (z_inc (k := 0) rfl (by decide)) dL_above_9 (fun H locs hP hD hS => ?_)
    have hP : va_P D vwCl [(qo, .inr (4, [.ref qm, .ref qb, .ref qr, .ref qf])), (qf, .inr (1, [.ref qx, .ref qy, .ref qz, .ref qu, .int (nI nC), .int (nI nR), .int nf])), (qx, .inl (cI, 36, .inl fx)), (qy, .inl (cI, 36, .inl fy)), (qz, .inl (cI, 36, .inl fz)), (qout, .inl (cJ, 1, .inr (.inl (vp_updL fo (0 : Int32).toNatClampNeg ((s_X4_above nC nR nf fx fy fz co ro).toInt64)))))] H := hP
    have hD : va_D A [(qo, .inr (4, [.ref qm, .ref qb, .ref qr, .ref qf])), (qf, .inr (1, [.ref qx, .ref qy, .ref qz, .ref qu, .int (nI nC), .int (nI nR), .int nf])), (qx, .inl (cI, 36, .inl fx)), (qy, .inl (cI, 36, .inl fy)), (qz, .inl (cI, 36, .inl fz)), (qout, .inl (cJ, 1, .inr (.inl (vp_updL fo (0 : Int32).toNatClampNeg ((s_X4_above nC nR nf fx fy fz co ro).toInt64)))))] := hD
    refine lv_goto (tgt := 17) hx hb dL_above_10 (by decide) ?_
    refine lv_iconst (v := 0) hx hb dL_above_17 (by decide) ?_
    have e11 : s_L_above nC nR nf fx fy fz co ro fo = 0 := by
      unfold s_L_above
      exact (if_pos c10)
    have e12 : n_L_above_qout nC nR nf fx fy fz co ro fo = vp_updL fo (0 : Int32).toNatClampNeg ((s_X4_above nC nR nf fx fy fz co ro).toInt64) := by
      unfold n_L_above_qout
      exact (if_pos c10)
    refine vx_ret ?_
    exact W.iret (v := 0) hx hb hr (fun t ht hW => ⟨⟨_, (), rfl, e11.symm, ⟨(by rw [e12]; rw [ht]; exact hP), va_K.moved hW.alike hK, (by rw [e12]; exact hD)⟩⟩, hS.F ht⟩) hS.2.2 dL_above_18
def s_L_isUp (nC : Nat) (nR : Nat) (nf : Int32) (fu : Nat → Int32) (co : Int32) (ro : Int32) (fo : Nat → Int64) : Int32 := (if k_X4_isUp nC nR nf fu co ro = 0 then 0 else 1)
def n_L_isUp_qout (nC : Nat) (nR : Nat) (nf : Int32) (fu : Nat → Int32) (co : Int32) (ro : Int32) (fo : Nat → Int64) : Nat → Int64 := (if k_X4_isUp nC nR nf fu co ro = 0 then vp_updL fo (0 : Int32).toNatClampNeg (if (s_X4_isUp nC nR nf fu co ro) = 0 then 0 else 1) else fo)
abbrev rm_L_isUp : Room := { frames := 8, cells := 1, slots := 6, locals := 134 }
abbrev Qc_L_isUp (D : va_G) (cI cZ cJ cD : ClassId) (qo : Nat) (qm : Nat) (qb : Nat) (qr : Nat) (qf : Nat) (qx : Nat) (qy : Nat) (qz : Nat) (qu : Nat) (nC : Nat) (nR : Nat) (nf : Int32) (fu : Nat → Int32) (co : Int32) (ro : Int32) (qout : Nat) (fo : Nat → Int64) (A : Nat → Prop) : Array Value → State → Outcome → State → Prop := va_Qi (fun (r : Int32) (_ : Unit) => r = s_L_isUp nC nR nf fu co ro fo) (zPost D cI cZ cJ cD A [(qo, .inr (4, [.ref qm, .ref qb, .ref qr, .ref qf])), (qf, .inr (1, [.ref qx, .ref qy, .ref qz, .ref qu, .int (nI nC), .int (nI nR), .int nf])), (qu, .inl (cZ, 36, .inl fu)), (qout, .inl (cJ, 1, .inr (.inl (n_L_isUp_qout nC nR nf fu co ro fo))))]) A
abbrev Xc_L_isUp (D : va_G) (cI cZ cJ cD : ClassId) (qo : Nat) (qm : Nat) (qb : Nat) (qr : Nat) (qf : Nat) (qx : Nat) (qy : Nat) (qz : Nat) (qu : Nat) (nC : Nat) (nR : Nat) (nf : Int32) (fu : Nat → Int32) (co : Int32) (ro : Int32) (qout : Nat) (fo : Nat → Int64) (A : Nat → Prop) : String → State → State → Prop := vx_X (fun _ : Unit => True) (fun _ _ _ => False) A
set_option maxHeartbeats 4000000 in
set_option maxRecDepth 100000 in
theorem c_L_isUp (l : Launch) (hnt : l.stackTraces = false) (D : va_G) (cI cZ cJ cD : ClassId) (qo : Nat) (qm : Nat) (qb : Nat) (qr : Nat) (qf : Nat) (qx : Nat) (qy : Nat) (qz : Nat) (qu : Nat) (nC : Nat) (nR : Nat) (nf : Int32) (fu : Nat → Int32) (co : Int32) (ro : Int32) (qout : Nat) (fo : Nat → Int64) (sz : Nat) (hN : nC * nR ≤ 36) (hC : nC ≤ 36) (hR : nR ≤ 36) : vx_Met l yL_isUp wsL_isUp rm_L_isUp (va_Pc [.ref qo, .int co, .int ro, .ref qout] (zPreWE D cI cZ cJ cD [(qo, .inr (4, [.ref qm, .ref qb, .ref qr, .ref qf])), (qf, .inr (1, [.ref qx, .ref qy, .ref qz, .ref qu, .int (nI nC), .int (nI nR), .int nf])), (qu, .inl (cZ, 36, .inl fu)), (qout, .inl (cJ, 1, .inr (.inl fo)))] sz)) (Qc_L_isUp D cI cZ cJ cD qo qm qb qr qf qx qy qz qu nC nR nf fu co ro qout fo (va_A [(qo, .inr (4, [.ref qm, .ref qb, .ref qr, .ref qf])), (qf, .inr (1, [.ref qx, .ref qy, .ref qz, .ref qu, .int (nI nC), .int (nI nR), .int nf])), (qu, .inl (cZ, 36, .inl fu)), (qout, .inl (cJ, 1, .inr (.inl fo)))] sz)) (Xc_L_isUp D cI cZ cJ cD qo qm qb qr qf qx qy qz qu nC nR nf fu co ro qout fo (va_A [(qo, .inr (4, [.ref qm, .ref qb, .ref qr, .ref qf])), (qf, .inr (1, [.ref qx, .ref qy, .ref qz, .ref qu, .int (nI nC), .int (nI nR), .int nf])), (qu, .inl (cZ, 36, .inl fu)), (qout, .inl (cJ, 1, .inr (.inl fo)))] sz)) 1 6 (va_A [(qo, .inr (4, [.ref qm, .ref qb, .ref qr, .ref qf])), (qf, .inr (1, [.ref qx, .ref qy, .ref qz, .ref qu, .int (nI nC), .int (nI nR), .int nf])), (qu, .inl (cZ, 36, .inl fu)), (qout, .inl (cJ, 1, .inr (.inl fo)))] sz) := by
  refine vx_ofWH (cc := cL_isUp) (maxL := 5) (ret := (some .int)) (hh := [(0, 17, 20, 13)]) (by decide) rfl ?_
  intro p e s m args below meth c s₁ B hml hv
  obtain ⟨rfl, hsz, hP, hK, hD0, hE⟩ := hv
  have hx := B.exec
  have hb := B.bytes
  have hr := B.returns
  have hts := atoms_spec (ws := wsL_isUp) B.pre
  have hown : s.vm.findClass RL = some m.cls := findClass_of_methodNamed B.named
  have hlocks := B.notSynchronized
  have htab := vx_table (x := yL_isUp) B (hts _ List.mem_cons_self)
  subst hsz
  have hD := hD0.self (sz := s.heap.size)
  generalize hAe : va_A [(qo, .inr (4, [.ref qm, .ref qb, .ref qr, .ref qf])), (qf, .inr (1, [.ref qx, .ref qy, .ref qz, .ref qu, .int (nI nC), .int (nI nR), .int nf])), (qu, .inl (cZ, 36, .inl fu)), (qout, .inl (cJ, 1, .inr (.inl fo)))] s.heap.size = A at hE hD ⊢
  have hA : ∀ q : Nat, s.heap.size ≤ q → A q := fun q h => by rw [← hAe]; exact Or.inr h
  have hS : va_S A s.heap s.heap [] := va_S.rf
  have hl := lv_entry ([.ref qo, .int co, .int ro, .ref qout]) (n := 5) (Nat.le_of_ble_eq_true rfl)
  rw [lg_entry_eq]
  generalize (lg_sl ([.ref qo, .int co, .int ro, .ref qout]) ++ List.replicate (5 - (lg_sl ([.ref qo, .int co, .int ro, .ref qout])).length) Slot.unset).toArray = ls at hl ⊢
  have hl : lv_has ls 5 [(0, .ref qo), (1, .int co), (2, .int ro), (3, .ref qout)] := hl
  have hP : va_P D vwCl [(qo, .inr (4, [.ref qm, .ref qb, .ref qr, .ref qf])), (qf, .inr (1, [.ref qx, .ref qy, .ref qz, .ref qu, .int (nI nC), .int (nI nR), .int nf])), (qu, .inl (cZ, 36, .inl fu)), (qout, .inl (cJ, 1, .inr (.inl fo)))] s.heap := hP
  have hP := hP
  refine lv_aload_n hx hb dL_isUp_0 rfl (lv_at hl 3 rfl) ?_
  refine lv_iconst (v := 0) hx hb dL_isUp_1 (by decide) ?_
  refine lv_aload_n hx hb dL_isUp_2 rfl (lv_at hl 0 rfl) ?_
  refine lv_iload_n hx hb dL_isUp_3 rfl (lv_at hl 1 rfl) ?_
  refine lv_iload_n hx hb dL_isUp_4 rfl (lv_at hl 2 rfl) ?_
  refine vx_calli (vx_runV (As := [.int co, .int ro]) (rest := [.int 0, .ref qout]) ⟨hx, hb, hml, hown, hts⟩ (c_X4_isUp l hnt D cI cZ cJ cD qo qm qb qr qf qx qy qz qu nC nR nf fu co ro (by assumption) (by assumption) (by assumption)) (cwV 2 hts gL_isUp_X4_isUp rfl rfl rfl (by decide +kernel) ⟨Nat.le_of_ble_eq_true rfl, Nat.le_of_ble_eq_true rfl⟩) ⟨zblindE, va_recv hK hP (ci := 4) (q0 := 0) rfl rfl, (fun U hU hW => ⟨rfl, by rw [hU]; exact hP.sub (ws' := [(qo, .inr (4, [.ref qm, .ref qb, .ref qr, .ref qf])), (qf, .inr (1, [.ref qx, .ref qy, .ref qz, .ref qu, .int (nI nC), .int (nI nR), .int nf])), (qu, .inl (cZ, 36, .inl fu))]) [0, 1, 2] rfl, va_K.moved hW.alike hK, zEnv.go hE hS (fun q h => h.elim) hU hW⟩)⟩ rfl rfl hl.1 rfl (lv_room (Nat.le_of_ble_eq_true rfl)) dL_isUp_5 ⟨Nat.le_of_ble_eq_true rfl, Nat.le_of_ble_eq_true rfl⟩) hS (fun q _ h => h.elim) (fun q h => h.elim) (fun q _ h => h.elim) (fun E ce q9 u t H locs ht hvm hpx hB hz1 hk1 hS hq9 hce hcl => ?_) (fun r8 u t H locs ht hvm hw hB hz1 hk1 hS => ?_)
  · have hX := hB
    have hP := zk hP hk1
    have c9 : ¬ k_X4_isUp nC nR nf fu co ro = 0 := zX_ne hX
    rcases hX with ⟨rfl, hk9⟩ | ⟨rfl, hk9⟩ | ⟨rfl, hk9⟩
    · refine vx_catch (own := RL) (name := "java/lang/IndexOutOfBoundsException") (E := "java/lang/IndexOutOfBoundsException") hown [] ⟨0, 17, 20, 13⟩ [] (htab.trans rfl) (fun z hz => absurd hz List.not_mem_nil) rfl (by decide) (hts (.classLink RL 13 "java/lang/IndexOutOfBoundsException") (List.mem_cons_of_mem _ (List.mem_append_left _ (List.mem_append_left _ (List.mem_append_left _ (List.mem_append_left _ (List.mem_of_getElem? (i := 0) rfl))))))) ((hE.2.2.2.1 ("java/lang/IndexOutOfBoundsException", "java/lang/IndexOutOfBoundsException") (by decide)).use rfl) hq9 hce hcl ?_
      refine lv_astore (lv' := [(4, .ref q9), (0, .ref qo), (1, .int co), (2, .int ro), (3, .ref qout)]) hx hb dL_isUp_20 hl (by decide) rfl (fun ls hl => ?_)
      refine lv_iconst (v := 1) hx hb dL_isUp_22 (by decide) ?_
      have e11 : s_L_isUp nC nR nf fu co ro fo = 1 := by
        unfold s_L_isUp
        exact (if_neg c9)
      have e12 : n_L_isUp_qout nC nR nf fu co ro fo = fo := by
        unfold n_L_isUp_qout
        exact (if_neg c9)
      refine vx_ret ?_
      exact W.iret (v := 1) hx hb hr (fun t ht hW => ⟨⟨_, (), rfl, e11.symm, ⟨(by rw [e12]; rw [ht]; exact hP), va_K.moved hW.alike hK, (by rw [e12]; exact hD)⟩⟩, hS.F ht⟩) hS.2.2 dL_isUp_23
    · exact absurd hk9 (by have := kr_X4_isUp nC nR nf fu co ro; omega)
    · exact absurd hk9 (by have := kr_X4_isUp nC nR nf fu co ro; omega)
  · obtain ⟨c13, hw⟩ := hw
    rw [hw]
    have hP := zk hP hk1
    refine W.widen (k := 1) (n := 6) (by decide) (by decide) ?_
    have K15 : ∀ v15_0 : Int64, v15_0 = (if (s_X4_isUp nC nR nf fu co ro) = 0 then 0 else 1) → ∀ (H : Heap) (locs : List Loc), va_P D vwCl [(qo, .inr (4, [.ref qm, .ref qb, .ref qr, .ref qf])), (qf, .inr (1, [.ref qx, .ref qy, .ref qz, .ref qu, .int (nI nC), .int (nI nR), .int nf])), (qu, .inl (cZ, 36, .inl fu)), (qout, .inl (cJ, 1, .inr (.inl fo)))] H → va_D A [(qo, .inr (4, [.ref qm, .ref qb, .ref qr, .ref qf])), (qf, .inr (1, [.ref qx, .ref qy, .ref qz, .ref qu, .int (nI nC), .int (nI nR), .int nf])), (qu, .inl (cZ, 36, .inl fu)), (qout, .inl (cJ, 1, .inr (.inl fo)))] → va_S A s.heap H locs → ∀ (ls : Array Slot), lv_has ls 5 [(0, .ref qo), (1, .int co), (2, .int ro), (3, .ref qout)] → W p l e (headSpec wsL_isUp rm_L_isUp).room s m ([.ref qo, .int co, .int ro, .ref qout]).toArray below meth c H locs 1 6 (vx_MQ below (Qc_L_isUp D cI cZ cJ cD qo qm qb qr qf qx qy qz qu nC nR nf fu co ro qout fo A) (Xc_L_isUp D cI cZ cJ cD qo qm qb qr qf qx qy qz qu nC nR nf fu co ro qout fo A) ([.ref qo, .int co, .int ro, .ref qout]).toArray s 1 6 A) (F0 m 16 ls [.long v15_0, .int 0, .ref qout]) := by
      intro v15_0 hv15_0 H locs hP hD hS ls hl
      subst hv15_0
      refine va_last hx hb hK hP hD hS 3 2 rfl rfl (z_inc (k := 0) rfl (by decide)) dL_isUp_16 (fun H locs hP hD hS => ?_)
      have hP : va_P D vwCl [(qo, .inr (4, [.ref qm, .ref qb, .ref qr, .ref qf])), (qf, .inr (1, [.ref qx, .ref qy, .ref qz, .ref qu, .int (nI nC), .int (nI nR), .int nf])), (qu, .inl (cZ, 36, .inl fu)), (qout, .inl (cJ, 1, .inr (.inl (vp_updL fo (0 : Int32).toNatClampNeg (if (s_X4_isUp nC nR nf fu co ro) = 0 then 0 else 1)))))] H := hP
      have hD : va_D A [(qo, .inr (4, [.ref qm, .ref qb, .ref qr, .ref qf])), (qf, .inr (1, [.ref qx, .ref qy, .ref qz, .ref qu, .int (nI nC), .int (nI nR), .int nf])), (qu, .inl (cZ, 36, .inl fu)), (qout, .inl (cJ, 1, .inr (.inl (vp_updL fo (0 : Int32).toNatClampNeg (if (s_X4_isUp nC nR nf fu co ro) = 0 then 0 else 1)))))] := hD
      refine lv_goto (tgt := 24) hx hb dL_isUp_17 (by decide) ?_
      refine lv_iconst (v := 0) hx hb dL_isUp_24 (by decide) ?_
      have e16 : s_L_isUp nC nR nf fu co ro fo = 0 := by
        unfold s_L_isUp
        exact (if_pos c13)
      have e17 : n_L_isUp_qout nC nR nf fu co ro fo = vp_updL fo (0 : Int32).toNatClampNeg (if (s_X4_isUp nC nR nf fu co ro) = 0 then 0 else 1) := by
        unfold n_L_isUp_qout
        exact (if_pos c13)
      refine vx_ret ?_
      exact W.iret (v := 0) hx hb hr (fun t ht hW => ⟨⟨_, (), rfl, e16.symm, ⟨(by rw [e17]; rw [ht]; exact hP), va_K.moved hW.alike hK, (by rw [e17]; exact hD)⟩⟩, hS.F ht⟩) hS.2.2 dL_isUp_25
    refine lv_if_eq (tgt := 15) hx hb dL_isUp_8 (by decide) (fun c18 => ?_) (fun c18 => ?_)
    · refine lv_lconst (v := 0) hx hb dL_isUp_15 (by decide) ?_
      exact K15 _ (if_pos c18).symm _ _ hP hD hS _ (lv_sub hl [0, 1, 2, 3] rfl)
    · refine lv_lconst (v := 1) hx hb dL_isUp_11 (by decide) ?_
      refine lv_goto (tgt := 16) hx hb dL_isUp_12 (by decide) ?_
      exact K15 _ (if_neg c18).symm _ _ hP hD hS _ (lv_sub hl [0, 1, 2, 3] rfl)
