def s_X2_valueAt (f : Nat → Int32) (row : Int32) : Int32 := (if row < 0 then 0 else (if 10 ≤ row then 0 else f row.toNatClampNeg))
abbrev rm_X2_valueAt : Room := { frames := 0, cells := 0, slots := 0, locals := 0 }
abbrev Qc_X2_valueAt (D : va_G) (cI cZ cJ cD : ClassId) (qa : Nat) (f : Nat → Int32) (row : Int32) : Array Value → State → Outcome → State → Prop := va_Qi (fun (r : Int32) (_ : Unit) => r = s_X2_valueAt f row) (fun _ _ => True) (fun _ : Nat => False)
set_option maxHeartbeats 4000000 in
set_option maxRecDepth 100000 in
theorem c_X2_valueAt (l : Launch) (D : va_G) (cI cZ cJ cD : ClassId) (qa : Nat) (f : Nat → Int32) (row : Int32)  : Met l yX2_valueAt wsX2_valueAt rm_X2_valueAt (va_Pc [.ref qa, .int row] (zPre D cI cZ cJ cD [(qa, .inl (cI, 10, .inl f))])) (Qc_X2_valueAt D cI cZ cJ cD qa f row ) 0 0 (fun _ : Nat => False) := by
  refine Met.ofW (cc := cX2_valueAt) (maxL := 2) (ret := (some .int)) (by decide) rfl ?_
  intro p e s m args below meth c s₁ B hml hv
  obtain ⟨rfl, hP, hK⟩ := hv
  have hx := B.exec
  have hb := B.bytes
  have hr := B.returns
  have hts := atoms_spec (ws := wsX2_valueAt) B.pre
  have hown : s.vm.findClass RX2 = some m.cls := findClass_of_methodNamed B.named
  have hlocks := B.notSynchronized
  have hS : va_S (fun _ : Nat => False) s.heap s.heap [] := va_S.rf
  have hl := lv_entry ([.ref qa, .int row]) (n := 2) (Nat.le_of_ble_eq_true rfl)
  rw [lg_entry_eq]
  generalize (lg_sl ([.ref qa, .int row]) ++ List.replicate (2 - (lg_sl ([.ref qa, .int row])).length) Slot.unset).toArray = ls at hl ⊢
  have hl : lv_has ls 2 [(0, .ref qa), (1, .int row)] := hl
  have hP : va_P D vwCl [(qa, .inl (cI, 10, .inl f))] s.heap := hP
  have hP := hP
  refine lv_iload_n hx hb dX2_valueAt_0 rfl (lv_at hl 1 rfl) ?_
  have K6 : ∀ v6_0 : Int32, v6_0 = (if row < 0 then 0 else (if 10 ≤ row then 0 else f row.toNatClampNeg)) → ∀ (H : Heap) (locs : List Loc), va_P D vwCl [(qa, .inl (cI, 10, .inl f))] H → va_S (fun _ : Nat => False) s.heap H locs → ∀ (ls : Array Slot), lv_has ls 2 [(0, .ref qa), (1, .int row)] → W p l e (headSpec wsX2_valueAt rm_X2_valueAt).room s m ([.ref qa, .int row]).toArray below meth c H locs 0 0 (MQ below (Qc_X2_valueAt D cI cZ cJ cD qa f row) ([.ref qa, .int row]).toArray s 0 0 (fun _ : Nat => False)) (F0 m 17 ls [.int v6_0]) := by
    intro v6_0 hv6_0 H locs hP hS ls hl
    subst hv6_0
    have e7 : s_X2_valueAt f row = (if row < 0 then 0 else (if 10 ≤ row then 0 else f row.toNatClampNeg)) := rfl
    exact W.iret (v := (if row < 0 then 0 else (if 10 ≤ row then 0 else f row.toNatClampNeg))) hx hb hr (fun t ht hW => ⟨⟨_, (), rfl, e7.symm, trivial⟩, hS.F ht⟩) hS.2.2 dX2_valueAt_17
  refine lv_if_lt (tgt := 16) hx hb dX2_valueAt_1 (by decide) (fun c8 => ?_) (fun c8 => ?_)
  · refine lv_iconst (v := 0) hx hb dX2_valueAt_16 (by decide) ?_
    exact K6 _ (if_pos c8).symm _ _ hP hS _ (lv_sub hl [0, 1] rfl)
  · refine lv_iload_n hx hb dX2_valueAt_4 rfl (lv_at hl 1 rfl) ?_
    refine lv_aload_n hx hb dX2_valueAt_5 rfl (lv_at hl 0 rfl) ?_
    refine va_alen (v := 10) hx hb hK hP 0 0 rfl rfl rfl dX2_valueAt_6 ?_
    refine lv_icmp_ge (tgt := 16) hx hb dX2_valueAt_7 (by decide) (fun c9 => ?_) (fun c9 => ?_)
    · refine lv_iconst (v := 0) hx hb dX2_valueAt_16 (by decide) ?_
      exact K6 _ ((if_neg c8).trans (if_pos c9)).symm _ _ hP hS _ (lv_sub hl [0, 1] rfl)
    · refine lv_aload_n hx hb dX2_valueAt_10 rfl (lv_at hl 0 rfl) ?_
      refine lv_iload_n hx hb dX2_valueAt_11 rfl (lv_at hl 1 rfl) ?_
      refine va_iald hx hb hK hP 0 0 rfl rfl (z_in rfl c8 c9) dX2_valueAt_12 ?_
      refine lv_goto (tgt := 17) hx hb dX2_valueAt_13 (by decide) ?_
      exact K6 _ ((if_neg c8).trans (if_neg c9)).symm _ _ hP hS _ (lv_sub hl [0, 1] rfl)
def s_X2_tenTimesAt (f : Nat → Int32) (dg : Int32) : Int32 := ((10 - (dg - dg / 10 * 10)) * (s_X2_valueAt f (dg / 10))) + ((dg - dg / 10 * 10) * (s_X2_valueAt f ((dg / 10) + 1)))
abbrev rm_X2_tenTimesAt : Room := { frames := 1, cells := 0, slots := 0, locals := 21 }
abbrev Qc_X2_tenTimesAt (D : va_G) (cI cZ cJ cD : ClassId) (qa : Nat) (f : Nat → Int32) (dg : Int32) : Array Value → State → Outcome → State → Prop := va_Qi (fun (r : Int32) (_ : Unit) => r = s_X2_tenTimesAt f dg) (fun _ _ => True) (fun _ : Nat => False)
set_option maxHeartbeats 4000000 in
set_option maxRecDepth 100000 in
theorem c_X2_tenTimesAt (l : Launch) (D : va_G) (cI cZ cJ cD : ClassId) (qa : Nat) (f : Nat → Int32) (dg : Int32)  : Met l yX2_tenTimesAt wsX2_tenTimesAt rm_X2_tenTimesAt (va_Pc [.ref qa, .int dg] (zPre D cI cZ cJ cD [(qa, .inl (cI, 10, .inl f))])) (Qc_X2_tenTimesAt D cI cZ cJ cD qa f dg ) 0 0 (fun _ : Nat => False) := by
  refine Met.ofW (cc := cX2_tenTimesAt) (maxL := 4) (ret := (some .int)) (by decide) rfl ?_
  intro p e s m args below meth c s₁ B hml hv
  obtain ⟨rfl, hP, hK⟩ := hv
  have hx := B.exec
  have hb := B.bytes
  have hr := B.returns
  have hts := atoms_spec (ws := wsX2_tenTimesAt) B.pre
  have hown : s.vm.findClass RX2 = some m.cls := findClass_of_methodNamed B.named
  have hlocks := B.notSynchronized
  have hS : va_S (fun _ : Nat => False) s.heap s.heap [] := va_S.rf
  have hl := lv_entry ([.ref qa, .int dg]) (n := 4) (Nat.le_of_ble_eq_true rfl)
  rw [lg_entry_eq]
  generalize (lg_sl ([.ref qa, .int dg]) ++ List.replicate (4 - (lg_sl ([.ref qa, .int dg])).length) Slot.unset).toArray = ls at hl ⊢
  have hl : lv_has ls 4 [(0, .ref qa), (1, .int dg)] := hl
  have hP : va_P D vwCl [(qa, .inl (cI, 10, .inl f))] s.heap := hP
  have hP := hP
  refine lv_iload_n hx hb dX2_tenTimesAt_0 rfl (lv_at hl 1 rfl) ?_
  refine lv_bipush (v := 10) hx hb dX2_tenTimesAt_1 (by decide) ?_
  refine lv_idiv hx hb dX2_tenTimesAt_3 (by decide) ?_
  refine lv_istore_n (lv' := [(2, .int (dg / 10)), (0, .ref qa), (1, .int dg)]) hx hb dX2_tenTimesAt_4 rfl hl (by decide) rfl (fun ls hl => ?_)
  refine lv_iload_n hx hb dX2_tenTimesAt_5 rfl (lv_at hl 2 rfl) ?_
  refine lv_bipush (v := 10) hx hb dX2_tenTimesAt_6 (by decide) ?_
  refine lv_irem hx hb dX2_tenTimesAt_8 (by decide) ?_
  refine lv_istore_n (lv' := [(3, .int (dg - dg / 10 * 10)), (2, .int (dg / 10)), (0, .ref qa), (1, .int dg)]) hx hb dX2_tenTimesAt_9 rfl hl (by decide) rfl (fun ls hl => ?_)
  refine lv_bipush (v := 10) hx hb dX2_tenTimesAt_10 (by decide) ?_
  refine lv_iload_n hx hb dX2_tenTimesAt_12 rfl (lv_at hl 0 rfl) ?_
  refine lv_isub hx hb dX2_tenTimesAt_13 ?_
  refine lv_aload_n hx hb dX2_tenTimesAt_14 rfl (lv_at hl 2 rfl) ?_
  refine lv_iload_n hx hb dX2_tenTimesAt_15 rfl (lv_at hl 1 rfl) ?_
  refine va_calli (va_runS (As := [.ref qa, .int (dg / 10)]) (rest := [.int (10 - (dg - dg / 10 * 10))]) ⟨hx, hb, hml, hown, hts⟩ (c_X2_valueAt l D cI cZ cJ cD qa f (dg / 10) ) (va_cwS 2 hts gX2_tenTimesAt_X2_valueAt rfl rfl rfl (by decide +kernel) ⟨Nat.le_of_ble_eq_true rfl, Nat.le_of_ble_eq_true rfl⟩) ⟨zblind, (fun U hU hW => ⟨rfl, by rw [hU]; exact hP.sub (ws' := [(qa, .inl (cI, 10, .inl f))]) [0] rfl, va_K.moved hW.alike hK⟩)⟩ rfl rfl hl.1 rfl (lv_room (Nat.le_of_ble_eq_true rfl)) dX2_tenTimesAt_16 ⟨Nat.le_of_ble_eq_true rfl, Nat.le_of_ble_eq_true rfl⟩) hS (fun q _ h => h.elim) (fun q h => h.elim) (fun r3 u t H locs ht hvm hw hB hz1 hk1 hS => ?_)
  rw [hw]
  have hP := zk hP hk1
  refine lv_imul hx hb dX2_tenTimesAt_19 ?_
  refine lv_iload_n hx hb dX2_tenTimesAt_20 rfl (lv_at hl 0 rfl) ?_
  refine lv_aload_n hx hb dX2_tenTimesAt_21 rfl (lv_at hl 2 rfl) ?_
  refine lv_iload_n hx hb dX2_tenTimesAt_22 rfl (lv_at hl 1 rfl) ?_
  refine lv_iconst (v := 1) hx hb dX2_tenTimesAt_23 (by decide) ?_
  refine lv_iadd hx hb dX2_tenTimesAt_24 ?_
  refine va_calli (va_runS (As := [.ref qa, .int ((dg / 10) + 1)]) (rest := [.int (dg - dg / 10 * 10), .int ((10 - (dg - dg / 10 * 10)) * (s_X2_valueAt f (dg / 10)))]) ⟨hx, hb, hml, hown, hts⟩ (c_X2_valueAt l D cI cZ cJ cD qa f ((dg / 10) + 1) ) (va_cwS 2 hts gX2_tenTimesAt_X2_valueAt rfl rfl rfl (by decide +kernel) ⟨Nat.le_of_ble_eq_true rfl, Nat.le_of_ble_eq_true rfl⟩) ⟨zblind, (fun U hU hW => ⟨rfl, by rw [hU]; exact hP.sub (ws' := [(qa, .inl (cI, 10, .inl f))]) [0] rfl, va_K.moved hW.alike hK⟩)⟩ rfl rfl hl.1 rfl (lv_room (Nat.le_of_ble_eq_true rfl)) dX2_tenTimesAt_25 ⟨Nat.le_of_ble_eq_true rfl, Nat.le_of_ble_eq_true rfl⟩) hS (fun q _ h => h.elim) (fun q h => h.elim) (fun r4 u t H locs ht hvm hw hB hz1 hk1 hS => ?_)
  rw [hw]
  have hP := zk hP hk1
  refine lv_imul hx hb dX2_tenTimesAt_28 ?_
  refine lv_iadd hx hb dX2_tenTimesAt_29 ?_
  have e5 : s_X2_tenTimesAt f dg = ((10 - (dg - dg / 10 * 10)) * (s_X2_valueAt f (dg / 10))) + ((dg - dg / 10 * 10) * (s_X2_valueAt f ((dg / 10) + 1))) := rfl
  exact W.iret (v := (((10 - (dg - dg / 10 * 10)) * (s_X2_valueAt f (dg / 10))) + ((dg - dg / 10 * 10) * (s_X2_valueAt f ((dg / 10) + 1))))) hx hb hr (fun t ht hW => ⟨⟨_, (), rfl, e5.symm, trivial⟩, hS.F ht⟩) hS.2.2 dX2_tenTimesAt_30
def s_X2_tenWidths (fw : Nat → Int32) (fh : Nat → Int32) (lat : Int32) : Int32 := s_X2_tenTimesAt fw (if 0 ≤ lat then lat else 0 - lat)
abbrev rm_X2_tenWidths : Room := { frames := 2, cells := 0, slots := 0, locals := 44 }
abbrev Qc_X2_tenWidths (D : va_G) (cI cZ cJ cD : ClassId) (qm : Nat) (qw : Nat) (qh : Nat) (fw : Nat → Int32) (fh : Nat → Int32) (lat : Int32) : Array Value → State → Outcome → State → Prop := va_Qi (fun (r : Int32) (_ : Unit) => r = s_X2_tenWidths fw fh lat) (fun _ _ => True) (fun _ : Nat => False)
set_option maxHeartbeats 4000000 in
set_option maxRecDepth 100000 in
theorem c_X2_tenWidths (l : Launch) (D : va_G) (cI cZ cJ cD : ClassId) (qm : Nat) (qw : Nat) (qh : Nat) (fw : Nat → Int32) (fh : Nat → Int32) (lat : Int32)  : Met l yX2_tenWidths wsX2_tenWidths rm_X2_tenWidths (va_Pc [.ref qm, .int lat] (zPre D cI cZ cJ cD [(qm, .inr (2, [.ref qw, .ref qh])), (qw, .inl (cI, 10, .inl fw)), (qh, .inl (cI, 10, .inl fh))])) (Qc_X2_tenWidths D cI cZ cJ cD qm qw qh fw fh lat ) 0 0 (fun _ : Nat => False) := by
  refine Met.ofW (cc := cX2_tenWidths) (maxL := 2) (ret := (some .int)) (by decide) rfl ?_
  intro p e s m args below meth c s₁ B hml hv
  obtain ⟨rfl, hP, hK⟩ := hv
  have hx := B.exec
  have hb := B.bytes
  have hr := B.returns
  have hts := atoms_spec (ws := wsX2_tenWidths) B.pre
  have hown : s.vm.findClass RX2 = some m.cls := findClass_of_methodNamed B.named
  have hlocks := B.notSynchronized
  have hS : va_S (fun _ : Nat => False) s.heap s.heap [] := va_S.rf
  have hl := lv_entry ([.ref qm, .int lat]) (n := 2) (Nat.le_of_ble_eq_true rfl)
  rw [lg_entry_eq]
  generalize (lg_sl ([.ref qm, .int lat]) ++ List.replicate (2 - (lg_sl ([.ref qm, .int lat])).length) Slot.unset).toArray = ls at hl ⊢
  have hl : lv_has ls 2 [(0, .ref qm), (1, .int lat)] := hl
  have hP : va_P D vwCl [(qm, .inr (2, [.ref qw, .ref qh])), (qw, .inl (cI, 10, .inl fw)), (qh, .inl (cI, 10, .inl fh))] s.heap := hP
  have hP := hP
  refine lv_aload_n hx hb dX2_tenWidths_0 rfl (lv_at hl 0 rfl) ?_
  refine va_get (D := D) (ci := 2) (v := .ref qw) (C := RX2) (T := TX2) (N := 2) hx hb hts (fun w h => List.mem_cons_of_mem _ (List.mem_append_right _ h)) hown hK hP 0 rfl rfl 0 (by decide) (hts (.fieldLink RX2 9 "AtlasFolder$MapTable" "widths" "[I") (List.mem_cons_of_mem _ (List.mem_append_left _ (List.mem_of_getElem? (i := 0) rfl)))) (fun _ h9 => h9) rfl dX2_tenWidths_1 ?_
  refine lv_iload_n hx hb dX2_tenWidths_4 rfl (lv_at hl 1 rfl) ?_
  refine va_mabs hx hb (hml.trans hl.1.symm) hown (hts (.methodLink RX2 22 Lib.Math.abs.name) (List.mem_cons_of_mem _ (List.mem_append_left _ (List.mem_of_getElem? (i := 1) rfl)))) (hts (.static Lib.Math.abs.name) (List.mem_cons_of_mem _ (List.mem_append_left _ (List.mem_of_getElem? (i := 2) rfl)))) (hts (.initialized "java/lang/Math") (List.mem_cons_of_mem _ (List.mem_append_left _ (List.mem_of_getElem? (i := 3) rfl)))) (hts (.code Lib.Math.abs.name Lib.Math.abs.code 1 (some .int)) (List.mem_cons_of_mem _ (List.mem_append_left _ (List.mem_of_getElem? (i := 4) rfl)))) (Nat.le_of_ble_eq_true rfl) (Nat.le_of_ble_eq_true rfl) (Nat.le_of_ble_eq_true rfl) (Nat.le_of_ble_eq_true rfl) dX2_tenWidths_5 ?_
  refine va_calli (va_runS (As := [.ref qw, .int (if 0 ≤ lat then lat else 0 - lat)]) (rest := []) ⟨hx, hb, hml, hown, hts⟩ (c_X2_tenTimesAt l D cI cZ cJ cD qw fw (if 0 ≤ lat then lat else 0 - lat) ) (va_cwS 2 hts gX2_tenWidths_X2_tenTimesAt rfl rfl rfl (by decide +kernel) ⟨Nat.le_of_ble_eq_true rfl, Nat.le_of_ble_eq_true rfl⟩) ⟨zblind, (fun U hU hW => ⟨rfl, by rw [hU]; exact hP.sub (ws' := [(qw, .inl (cI, 10, .inl fw))]) [1] rfl, va_K.moved hW.alike hK⟩)⟩ rfl rfl hl.1 rfl (lv_room (Nat.le_of_ble_eq_true rfl)) dX2_tenWidths_8 ⟨Nat.le_of_ble_eq_true rfl, Nat.le_of_ble_eq_true rfl⟩) hS (fun q _ h => h.elim) (fun q h => h.elim) (fun r2 u t H locs ht hvm hw hB hz1 hk1 hS => ?_)
  rw [hw]
  have hP := zk hP hk1
  have e3 : s_X2_tenWidths fw fh lat = s_X2_tenTimesAt fw (if 0 ≤ lat then lat else 0 - lat) := rfl
  exact W.iret (v := (s_X2_tenTimesAt fw (if 0 ≤ lat then lat else 0 - lat))) hx hb hr (fun t ht hW => ⟨⟨_, (), rfl, e3.symm, trivial⟩, hS.F ht⟩) hS.2.2 dX2_tenWidths_11
def s_X2_tenHeights (fw : Nat → Int32) (fh : Nat → Int32) (lat : Int32) : Int32 := (if 0 ≤ lat then s_X2_tenTimesAt fh (if 0 ≤ lat then lat else 0 - lat) else -(s_X2_tenTimesAt fh (if 0 ≤ lat then lat else 0 - lat)))
abbrev rm_X2_tenHeights : Room := { frames := 2, cells := 0, slots := 0, locals := 44 }
abbrev Qc_X2_tenHeights (D : va_G) (cI cZ cJ cD : ClassId) (qm : Nat) (qw : Nat) (qh : Nat) (fw : Nat → Int32) (fh : Nat → Int32) (lat : Int32) : Array Value → State → Outcome → State → Prop := va_Qi (fun (r : Int32) (_ : Unit) => r = s_X2_tenHeights fw fh lat) (fun _ _ => True) (fun _ : Nat => False)
set_option maxHeartbeats 4000000 in
set_option maxRecDepth 100000 in
theorem c_X2_tenHeights (l : Launch) (D : va_G) (cI cZ cJ cD : ClassId) (qm : Nat) (qw : Nat) (qh : Nat) (fw : Nat → Int32) (fh : Nat → Int32) (lat : Int32)  : Met l yX2_tenHeights wsX2_tenHeights rm_X2_tenHeights (va_Pc [.ref qm, .int lat] (zPre D cI cZ cJ cD [(qm, .inr (2, [.ref qw, .ref qh])), (qw, .inl (cI, 10, .inl fw)), (qh, .inl (cI, 10, .inl fh))])) (Qc_X2_tenHeights D cI cZ cJ cD qm qw qh fw fh lat ) 0 0 (fun _ : Nat => False) := by
  refine Met.ofW (cc := cX2_tenHeights) (maxL := 3) (ret := (some .int)) (by decide) rfl ?_
  intro p e s m args below meth c s₁ B hml hv
  obtain ⟨rfl, hP, hK⟩ := hv
  have hx := B.exec
  have hb := B.bytes
  have hr := B.returns
  have hts := atoms_spec (ws := wsX2_tenHeights) B.pre
  have hown : s.vm.findClass RX2 = some m.cls := findClass_of_methodNamed B.named
  have hlocks := B.notSynchronized
  have hS : va_S (fun _ : Nat => False) s.heap s.heap [] := va_S.rf
  have hl := lv_entry ([.ref qm, .int lat]) (n := 3) (Nat.le_of_ble_eq_true rfl)
  rw [lg_entry_eq]
  generalize (lg_sl ([.ref qm, .int lat]) ++ List.replicate (3 - (lg_sl ([.ref qm, .int lat])).length) Slot.unset).toArray = ls at hl ⊢
  have hl : lv_has ls 3 [(0, .ref qm), (1, .int lat)] := hl
  have hP : va_P D vwCl [(qm, .inr (2, [.ref qw, .ref qh])), (qw, .inl (cI, 10, .inl fw)), (qh, .inl (cI, 10, .inl fh))] s.heap := hP
  have hP := hP
  refine lv_aload_n hx hb dX2_tenHeights_0 rfl (lv_at hl 0 rfl) ?_
  refine va_get (D := D) (ci := 2) (v := .ref qh) (C := RX2) (T := TX2) (N := 2) hx hb hts (fun w h => List.mem_cons_of_mem _ (List.mem_append_right _ h)) hown hK hP 0 rfl rfl 1 (by decide) (hts (.fieldLink RX2 15 "AtlasFolder$MapTable" "heights" "[I") (List.mem_cons_of_mem _ (List.mem_append_left _ (List.mem_of_getElem? (i := 0) rfl)))) (fun _ h9 => h9) rfl dX2_tenHeights_1 ?_
  refine lv_iload_n hx hb dX2_tenHeights_4 rfl (lv_at hl 1 rfl) ?_
  refine va_mabs hx hb (hml.trans hl.1.symm) hown (hts (.methodLink RX2 22 Lib.Math.abs.name) (List.mem_cons_of_mem _ (List.mem_append_left _ (List.mem_of_getElem? (i := 1) rfl)))) (hts (.static Lib.Math.abs.name) (List.mem_cons_of_mem _ (List.mem_append_left _ (List.mem_of_getElem? (i := 2) rfl)))) (hts (.initialized "java/lang/Math") (List.mem_cons_of_mem _ (List.mem_append_left _ (List.mem_of_getElem? (i := 3) rfl)))) (hts (.code Lib.Math.abs.name Lib.Math.abs.code 1 (some .int)) (List.mem_cons_of_mem _ (List.mem_append_left _ (List.mem_of_getElem? (i := 4) rfl)))) (Nat.le_of_ble_eq_true rfl) (Nat.le_of_ble_eq_true rfl) (Nat.le_of_ble_eq_true rfl) (Nat.le_of_ble_eq_true rfl) dX2_tenHeights_5 ?_
  refine va_calli (va_runS (As := [.ref qh, .int (if 0 ≤ lat then lat else 0 - lat)]) (rest := []) ⟨hx, hb, hml, hown, hts⟩ (c_X2_tenTimesAt l D cI cZ cJ cD qh fh (if 0 ≤ lat then lat else 0 - lat) ) (va_cwS 2 hts gX2_tenHeights_X2_tenTimesAt rfl rfl rfl (by decide +kernel) ⟨Nat.le_of_ble_eq_true rfl, Nat.le_of_ble_eq_true rfl⟩) ⟨zblind, (fun U hU hW => ⟨rfl, by rw [hU]; exact hP.sub (ws' := [(qh, .inl (cI, 10, .inl fh))]) [2] rfl, va_K.moved hW.alike hK⟩)⟩ rfl rfl hl.1 rfl (lv_room (Nat.le_of_ble_eq_true rfl)) dX2_tenHeights_8 ⟨Nat.le_of_ble_eq_true rfl, Nat.le_of_ble_eq_true rfl⟩) hS (fun q _ h => h.elim) (fun q h => h.elim) (fun r5 u t H locs ht hvm hw hB hz1 hk1 hS => ?_)
  rw [hw]
  have hP := zk hP hk1
  refine lv_istore_n (lv' := [(2, .int (s_X2_tenTimesAt fh (if 0 ≤ lat then lat else 0 - lat))), (0, .ref qm), (1, .int lat)]) hx hb dX2_tenHeights_11 rfl hl (by decide) rfl (fun ls hl => ?_)
  refine lv_iload_n hx hb dX2_tenHeights_12 rfl (lv_at hl 2 rfl) ?_
  have K7 : ∀ v7_0 : Int32, v7_0 = (if 0 ≤ lat then s_X2_tenTimesAt fh (if 0 ≤ lat then lat else 0 - lat) else -(s_X2_tenTimesAt fh (if 0 ≤ lat then lat else 0 - lat))) → ∀ (H : Heap) (locs : List Loc), va_P D vwCl [(qm, .inr (2, [.ref qw, .ref qh])), (qw, .inl (cI, 10, .inl fw)), (qh, .inl (cI, 10, .inl fh))] H → va_S (fun _ : Nat => False) s.heap H locs → ∀ (ls : Array Slot), lv_has ls 3 [(2, .int (s_X2_tenTimesAt fh (if 0 ≤ lat then lat else 0 - lat))), (0, .ref qm), (1, .int lat)] → W p l e (headSpec wsX2_tenHeights rm_X2_tenHeights).room s m ([.ref qm, .int lat]).toArray below meth c H locs 0 0 (MQ below (Qc_X2_tenHeights D cI cZ cJ cD qm qw qh fw fh lat) ([.ref qm, .int lat]).toArray s 0 0 (fun _ : Nat => False)) (F0 m 22 ls [.int v7_0]) := by
    intro v7_0 hv7_0 H locs hP hS ls hl
    subst hv7_0
    have e8 : s_X2_tenHeights fw fh lat = (if 0 ≤ lat then s_X2_tenTimesAt fh (if 0 ≤ lat then lat else 0 - lat) else -(s_X2_tenTimesAt fh (if 0 ≤ lat then lat else 0 - lat))) := rfl
    exact W.iret (v := (if 0 ≤ lat then s_X2_tenTimesAt fh (if 0 ≤ lat then lat else 0 - lat) else -(s_X2_tenTimesAt fh (if 0 ≤ lat then lat else 0 - lat)))) hx hb hr (fun t ht hW => ⟨⟨_, (), rfl, e8.symm, trivial⟩, hS.F ht⟩) hS.2.2 dX2_tenHeights_22
  refine lv_if_ge (tgt := 21) hx hb dX2_tenHeights_13 (by decide) (fun c9 => ?_) (fun c9 => ?_)
  · refine lv_iload_n hx hb dX2_tenHeights_21 rfl (lv_at hl 0 rfl) ?_
    exact K7 _ (if_pos c9).symm _ _ hP hS _ (lv_sub hl [0, 1, 2] rfl)
  · refine lv_iload_n hx hb dX2_tenHeights_16 rfl (lv_at hl 0 rfl) ?_
    refine lv_ineg hx hb dX2_tenHeights_17 ?_
    refine lv_goto (tgt := 22) hx hb dX2_tenHeights_18 (by decide) ?_
    exact K7 _ (if_neg c9).symm _ _ hP hS _ (lv_sub hl [0, 1, 2] rfl)
def s_X2_wouldRise (fw : Nat → Int32) (fh : Nat → Int32) (row : Int32) (hgt : Int32) : Int32 := (if row = 0 then (if hgt = 0 then 1 else 0) else (if hgt ≤ (s_X2_valueAt fh (row - 1)) then 0 else (if row = 9 then 1 else (if (s_X2_valueAt fh (row + 1)) ≤ hgt then 0 else 1))))
abbrev rm_X2_wouldRise : Room := { frames := 1, cells := 0, slots := 0, locals := 21 }
abbrev Qc_X2_wouldRise (D : va_G) (cI cZ cJ cD : ClassId) (qm : Nat) (qw : Nat) (qh : Nat) (fw : Nat → Int32) (fh : Nat → Int32) (row : Int32) (hgt : Int32) : Array Value → State → Outcome → State → Prop := va_Qi (fun (r : Int32) (_ : Unit) => r = s_X2_wouldRise fw fh row hgt) (fun _ _ => True) (fun _ : Nat => False)
set_option maxHeartbeats 4000000 in
set_option maxRecDepth 100000 in
theorem c_X2_wouldRise (l : Launch) (D : va_G) (cI cZ cJ cD : ClassId) (qm : Nat) (qw : Nat) (qh : Nat) (fw : Nat → Int32) (fh : Nat → Int32) (row : Int32) (hgt : Int32)  : Met l yX2_wouldRise wsX2_wouldRise rm_X2_wouldRise (va_Pc [.ref qm, .int row, .int hgt] (zPre D cI cZ cJ cD [(qm, .inr (2, [.ref qw, .ref qh])), (qw, .inl (cI, 10, .inl fw)), (qh, .inl (cI, 10, .inl fh))])) (Qc_X2_wouldRise D cI cZ cJ cD qm qw qh fw fh row hgt ) 0 0 (fun _ : Nat => False) := by
  refine Met.ofW (cc := cX2_wouldRise) (maxL := 3) (ret := (some .boolean)) (by decide) rfl ?_
  intro p e s m args below meth c s₁ B hml hv
  obtain ⟨rfl, hP, hK⟩ := hv
  have hx := B.exec
  have hb := B.bytes
  have hr := B.returns
  have hts := atoms_spec (ws := wsX2_wouldRise) B.pre
  have hown : s.vm.findClass RX2 = some m.cls := findClass_of_methodNamed B.named
  have hlocks := B.notSynchronized
  have hS : va_S (fun _ : Nat => False) s.heap s.heap [] := va_S.rf
  have hl := lv_entry ([.ref qm, .int row, .int hgt]) (n := 3) (Nat.le_of_ble_eq_true rfl)
  rw [lg_entry_eq]
  generalize (lg_sl ([.ref qm, .int row, .int hgt]) ++ List.replicate (3 - (lg_sl ([.ref qm, .int row, .int hgt])).length) Slot.unset).toArray = ls at hl ⊢
  have hl : lv_has ls 3 [(0, .ref qm), (1, .int row), (2, .int hgt)] := hl
  have hP : va_P D vwCl [(qm, .inr (2, [.ref qw, .ref qh])), (qw, .inl (cI, 10, .inl fw)), (qh, .inl (cI, 10, .inl fh))] s.heap := hP
  have hP := hP
  refine lv_iload_n hx hb dX2_wouldRise_0 rfl (lv_at hl 1 rfl) ?_
  refine lv_if_ne (tgt := 14) hx hb dX2_wouldRise_1 (by decide) (fun c12 => ?_) (fun c12 => ?_)
  · refine lv_iload_n hx hb dX2_wouldRise_14 rfl (lv_at hl 2 rfl) ?_
    refine lv_aload_n hx hb dX2_wouldRise_15 rfl (lv_at hl 0 rfl) ?_
    refine va_get (D := D) (ci := 2) (v := .ref qh) (C := RX2) (T := TX2) (N := 2) hx hb hts (fun w h => List.mem_cons_of_mem _ (List.mem_append_right _ h)) hown hK hP 0 rfl rfl 1 (by decide) (hts (.fieldLink RX2 15 "AtlasFolder$MapTable" "heights" "[I") (List.mem_cons_of_mem _ (List.mem_append_left _ (List.mem_of_getElem? (i := 0) rfl)))) (fun _ h9 => h9) rfl dX2_wouldRise_16 ?_
    refine lv_iload_n hx hb dX2_wouldRise_19 rfl (lv_at hl 1 rfl) ?_
    refine lv_iconst (v := 1) hx hb dX2_wouldRise_20 (by decide) ?_
    refine lv_isub hx hb dX2_wouldRise_21 ?_
    refine va_calli (va_runS (As := [.ref qh, .int (row - 1)]) (rest := [.int hgt]) ⟨hx, hb, hml, hown, hts⟩ (c_X2_valueAt l D cI cZ cJ cD qh fh (row - 1) ) (va_cwS 2 hts gX2_wouldRise_X2_valueAt rfl rfl rfl (by decide +kernel) ⟨Nat.le_of_ble_eq_true rfl, Nat.le_of_ble_eq_true rfl⟩) ⟨zblind, (fun U hU hW => ⟨rfl, by rw [hU]; exact hP.sub (ws' := [(qh, .inl (cI, 10, .inl fh))]) [2] rfl, va_K.moved hW.alike hK⟩)⟩ rfl rfl hl.1 rfl (lv_room (Nat.le_of_ble_eq_true rfl)) dX2_wouldRise_22 ⟨Nat.le_of_ble_eq_true rfl, Nat.le_of_ble_eq_true rfl⟩) hS (fun q _ h => h.elim) (fun q h => h.elim) (fun r13 u t H locs ht hvm hw hB hz1 hk1 hS => ?_)
    rw [hw]
    have hP := zk hP hk1
    have K15 : ∀ v15_0 : Int32, v15_0 = (if hgt ≤ (s_X2_valueAt fh (row - 1)) then 0 else (if row = 9 then 1 else (if (s_X2_valueAt fh (row + 1)) ≤ hgt then 0 else 1))) → ∀ (H : Heap) (locs : List Loc), va_P D vwCl [(qm, .inr (2, [.ref qw, .ref qh])), (qw, .inl (cI, 10, .inl fw)), (qh, .inl (cI, 10, .inl fh))] H → va_S (fun _ : Nat => False) s.heap H locs → ∀ (ls : Array Slot), lv_has ls 3 [(0, .ref qm), (1, .int row), (2, .int hgt)] → W p l e (headSpec wsX2_wouldRise rm_X2_wouldRise).room s m ([.ref qm, .int row, .int hgt]).toArray below meth c H locs 0 0 (MQ below (Qc_X2_wouldRise D cI cZ cJ cD qm qw qh fw fh row hgt) ([.ref qm, .int row, .int hgt]).toArray s 0 0 (fun _ : Nat => False)) (F0 m 53 ls [.int v15_0]) := by
      intro v15_0 hv15_0 H locs hP hS ls hl
      subst hv15_0
      have e16 : s_X2_wouldRise fw fh row hgt = (if hgt ≤ (s_X2_valueAt fh (row - 1)) then 0 else (if row = 9 then 1 else (if (s_X2_valueAt fh (row + 1)) ≤ hgt then 0 else 1))) := by
        unfold s_X2_wouldRise
        exact (if_neg c12)
      exact W.zret (v := (if hgt ≤ (s_X2_valueAt fh (row - 1)) then 0 else (if row = 9 then 1 else (if (s_X2_valueAt fh (row + 1)) ≤ hgt then 0 else 1)))) hx hb hr (z_b (by (repeat' split) <;> simp)) (fun t ht hW => ⟨⟨_, (), rfl, e16.symm, trivial⟩, hS.F ht⟩) hS.2.2 dX2_wouldRise_53
    refine lv_icmp_le (tgt := 52) hx hb dX2_wouldRise_25 (by decide) (fun c17 => ?_) (fun c17 => ?_)
    · refine lv_iconst (v := 0) hx hb dX2_wouldRise_52 (by decide) ?_
      exact K15 _ (if_pos c17).symm _ _ hP hS _ (lv_sub hl [0, 1, 2] rfl)
    · refine lv_iload_n hx hb dX2_wouldRise_28 rfl (lv_at hl 1 rfl) ?_
      refine lv_bipush (v := 9) hx hb dX2_wouldRise_29 (by decide) ?_
      refine lv_icmp_eq (tgt := 48) hx hb dX2_wouldRise_31 (by decide) (fun c18 => ?_) (fun c18 => ?_)
      · refine lv_iconst (v := 1) hx hb dX2_wouldRise_48 (by decide) ?_
        refine lv_goto (tgt := 53) hx hb dX2_wouldRise_49 (by decide) ?_
        exact K15 _ ((if_neg c17).trans (if_pos c18)).symm _ _ hP hS _ (lv_sub hl [0, 1, 2] rfl)
      · refine lv_iload_n hx hb dX2_wouldRise_34 rfl (lv_at hl 2 rfl) ?_
        refine lv_aload_n hx hb dX2_wouldRise_35 rfl (lv_at hl 0 rfl) ?_
        refine va_get (D := D) (ci := 2) (v := .ref qh) (C := RX2) (T := TX2) (N := 2) hx hb hts (fun w h => List.mem_cons_of_mem _ (List.mem_append_right _ h)) hown hK hP 0 rfl rfl 1 (by decide) (hts (.fieldLink RX2 15 "AtlasFolder$MapTable" "heights" "[I") (List.mem_cons_of_mem _ (List.mem_append_left _ (List.mem_of_getElem? (i := 0) rfl)))) (fun _ h9 => h9) rfl dX2_wouldRise_36 ?_
        refine lv_iload_n hx hb dX2_wouldRise_39 rfl (lv_at hl 1 rfl) ?_
        refine lv_iconst (v := 1) hx hb dX2_wouldRise_40 (by decide) ?_
        refine lv_iadd hx hb dX2_wouldRise_41 ?_
        refine va_calli (va_runS (As := [.ref qh, .int (row + 1)]) (rest := [.int hgt]) ⟨hx, hb, hml, hown, hts⟩ (c_X2_valueAt l D cI cZ cJ cD qh fh (row + 1) ) (va_cwS 2 hts gX2_wouldRise_X2_valueAt rfl rfl rfl (by decide +kernel) ⟨Nat.le_of_ble_eq_true rfl, Nat.le_of_ble_eq_true rfl⟩) ⟨zblind, (fun U hU hW => ⟨rfl, by rw [hU]; exact hP.sub (ws' := [(qh, .inl (cI, 10, .inl fh))]) [2] rfl, va_K.moved hW.alike hK⟩)⟩ rfl rfl hl.1 rfl (lv_room (Nat.le_of_ble_eq_true rfl)) dX2_wouldRise_42 ⟨Nat.le_of_ble_eq_true rfl, Nat.le_of_ble_eq_true rfl⟩) hS (fun q _ h => h.elim) (fun q h => h.elim) (fun r19 u t H locs ht hvm hw hB hz1 hk1 hS => ?_)
        rw [hw]
        have hP := zk hP hk1
        refine lv_icmp_ge (tgt := 52) hx hb dX2_wouldRise_45 (by decide) (fun c20 => ?_) (fun c20 => ?_)
        · refine lv_iconst (v := 0) hx hb dX2_wouldRise_52 (by decide) ?_
          exact K15 _ ((if_neg c17).trans ((if_neg c18).trans (if_pos c20))).symm _ _ hP hS _ (lv_sub hl [0, 1, 2] rfl)
        · refine lv_iconst (v := 1) hx hb dX2_wouldRise_48 (by decide) ?_
          refine lv_goto (tgt := 53) hx hb dX2_wouldRise_49 (by decide) ?_
          exact K15 _ ((if_neg c17).trans ((if_neg c18).trans (if_neg c20))).symm _ _ hP hS _ (lv_sub hl [0, 1, 2] rfl)
  · refine lv_iload_n hx hb dX2_wouldRise_4 rfl (lv_at hl 2 rfl) ?_
    have K22 : ∀ v22_0 : Int32, v22_0 = (if hgt = 0 then 1 else 0) → ∀ (H : Heap) (locs : List Loc), va_P D vwCl [(qm, .inr (2, [.ref qw, .ref qh])), (qw, .inl (cI, 10, .inl fw)), (qh, .inl (cI, 10, .inl fh))] H → va_S (fun _ : Nat => False) s.heap H locs → ∀ (ls : Array Slot), lv_has ls 3 [(0, .ref qm), (1, .int row), (2, .int hgt)] → W p l e (headSpec wsX2_wouldRise rm_X2_wouldRise).room s m ([.ref qm, .int row, .int hgt]).toArray below meth c H locs 0 0 (MQ below (Qc_X2_wouldRise D cI cZ cJ cD qm qw qh fw fh row hgt) ([.ref qm, .int row, .int hgt]).toArray s 0 0 (fun _ : Nat => False)) (F0 m 13 ls [.int v22_0]) := by
      intro v22_0 hv22_0 H locs hP hS ls hl
      subst hv22_0
      have e23 : s_X2_wouldRise fw fh row hgt = (if hgt = 0 then 1 else 0) := by
        unfold s_X2_wouldRise
        exact (if_pos c12)
      exact W.zret (v := (if hgt = 0 then 1 else 0)) hx hb hr (z_b (by (repeat' split) <;> simp)) (fun t ht hW => ⟨⟨_, (), rfl, e23.symm, trivial⟩, hS.F ht⟩) hS.2.2 dX2_wouldRise_13
    refine lv_if_ne (tgt := 12) hx hb dX2_wouldRise_5 (by decide) (fun c24 => ?_) (fun c24 => ?_)
    · refine lv_iconst (v := 0) hx hb dX2_wouldRise_12 (by decide) ?_
      exact K22 _ (if_neg c24).symm _ _ hP hS _ (lv_sub hl [0, 1, 2] rfl)
    · refine lv_iconst (v := 1) hx hb dX2_wouldRise_8 (by decide) ?_
      refine lv_goto (tgt := 13) hx hb dX2_wouldRise_9 (by decide) ?_
      exact K22 _ (if_pos c24).symm _ _ hP hS _ (lv_sub hl [0, 1, 2] rfl)
def s_X2_cellArea (fw : Nat → Int32) (fh : Nat → Int32) (lat : Int32) : Int64 := (((s_X2_tenWidths fw fh lat) + (s_X2_tenWidths fw fh (lat + 1))).toInt64) * (((s_X2_tenHeights fw fh (lat + 1)) - (s_X2_tenHeights fw fh lat)).toInt64)
abbrev rm_X2_cellArea : Room := { frames := 3, cells := 0, slots := 0, locals := 66 }
abbrev Qc_X2_cellArea (D : va_G) (cI cZ cJ cD : ClassId) (qm : Nat) (qw : Nat) (qh : Nat) (fw : Nat → Int32) (fh : Nat → Int32) (lat : Int32) : Array Value → State → Outcome → State → Prop := va_Ql (fun (r : Int64) (_ : Unit) => r = s_X2_cellArea fw fh lat) (fun _ _ => True) (fun _ : Nat => False)
set_option maxHeartbeats 4000000 in
set_option maxRecDepth 100000 in
theorem c_X2_cellArea (l : Launch) (D : va_G) (cI cZ cJ cD : ClassId) (qm : Nat) (qw : Nat) (qh : Nat) (fw : Nat → Int32) (fh : Nat → Int32) (lat : Int32)  : Met l yX2_cellArea wsX2_cellArea rm_X2_cellArea (va_Pc [.ref qm, .int lat] (zPre D cI cZ cJ cD [(qm, .inr (2, [.ref qw, .ref qh])), (qw, .inl (cI, 10, .inl fw)), (qh, .inl (cI, 10, .inl fh))])) (Qc_X2_cellArea D cI cZ cJ cD qm qw qh fw fh lat ) 0 0 (fun _ : Nat => False) := by
  refine Met.ofW (cc := cX2_cellArea) (maxL := 4) (ret := (some .long)) (by decide) rfl ?_
  intro p e s m args below meth c s₁ B hml hv
  obtain ⟨rfl, hP, hK⟩ := hv
  have hx := B.exec
  have hb := B.bytes
  have hr := B.returns
  have hts := atoms_spec (ws := wsX2_cellArea) B.pre
  have hown : s.vm.findClass RX2 = some m.cls := findClass_of_methodNamed B.named
  have hlocks := B.notSynchronized
  have hS : va_S (fun _ : Nat => False) s.heap s.heap [] := va_S.rf
  have hl := lv_entry ([.ref qm, .int lat]) (n := 4) (Nat.le_of_ble_eq_true rfl)
  rw [lg_entry_eq]
  generalize (lg_sl ([.ref qm, .int lat]) ++ List.replicate (4 - (lg_sl ([.ref qm, .int lat])).length) Slot.unset).toArray = ls at hl ⊢
  have hl : lv_has ls 4 [(0, .ref qm), (1, .int lat)] := hl
  have hP : va_P D vwCl [(qm, .inr (2, [.ref qw, .ref qh])), (qw, .inl (cI, 10, .inl fw)), (qh, .inl (cI, 10, .inl fh))] s.heap := hP
  have hP := hP
  refine lv_aload_n hx hb dX2_cellArea_0 rfl (lv_at hl 0 rfl) ?_
  refine lv_iload_n hx hb dX2_cellArea_1 rfl (lv_at hl 1 rfl) ?_
  refine va_calli (va_runV (As := [.int lat]) (rest := []) ⟨hx, hb, hml, hown, hts⟩ (c_X2_tenWidths l D cI cZ cJ cD qm qw qh fw fh lat ) (cwV 1 hts gX2_cellArea_X2_tenWidths rfl rfl rfl (by decide +kernel) ⟨Nat.le_of_ble_eq_true rfl, Nat.le_of_ble_eq_true rfl⟩) ⟨zblind, va_recv hK hP (ci := 2) (q0 := 0) rfl rfl, (fun U hU hW => ⟨rfl, by rw [hU]; exact hP.sub (ws' := [(qm, .inr (2, [.ref qw, .ref qh])), (qw, .inl (cI, 10, .inl fw)), (qh, .inl (cI, 10, .inl fh))]) [0, 1, 2] rfl, va_K.moved hW.alike hK⟩)⟩ rfl rfl hl.1 rfl (lv_room (Nat.le_of_ble_eq_true rfl)) dX2_cellArea_2 ⟨Nat.le_of_ble_eq_true rfl, Nat.le_of_ble_eq_true rfl⟩) hS (fun q _ h => h.elim) (fun q h => h.elim) (fun r5 u t H locs ht hvm hw hB hz1 hk1 hS => ?_)
  rw [hw]
  have hP := zk hP hk1
  refine lv_aload_n hx hb dX2_cellArea_5 rfl (lv_at hl 0 rfl) ?_
  refine lv_iload_n hx hb dX2_cellArea_6 rfl (lv_at hl 1 rfl) ?_
  refine lv_iconst (v := 1) hx hb dX2_cellArea_7 (by decide) ?_
  refine lv_iadd hx hb dX2_cellArea_8 ?_
  refine va_calli (va_runV (As := [.int (lat + 1)]) (rest := [.int (s_X2_tenWidths fw fh lat)]) ⟨hx, hb, hml, hown, hts⟩ (c_X2_tenWidths l D cI cZ cJ cD qm qw qh fw fh (lat + 1) ) (cwV 1 hts gX2_cellArea_X2_tenWidths rfl rfl rfl (by decide +kernel) ⟨Nat.le_of_ble_eq_true rfl, Nat.le_of_ble_eq_true rfl⟩) ⟨zblind, va_recv hK hP (ci := 2) (q0 := 0) rfl rfl, (fun U hU hW => ⟨rfl, by rw [hU]; exact hP.sub (ws' := [(qm, .inr (2, [.ref qw, .ref qh])), (qw, .inl (cI, 10, .inl fw)), (qh, .inl (cI, 10, .inl fh))]) [0, 1, 2] rfl, va_K.moved hW.alike hK⟩)⟩ rfl rfl hl.1 rfl (lv_room (Nat.le_of_ble_eq_true rfl)) dX2_cellArea_9 ⟨Nat.le_of_ble_eq_true rfl, Nat.le_of_ble_eq_true rfl⟩) hS (fun q _ h => h.elim) (fun q h => h.elim) (fun r6 u t H locs ht hvm hw hB hz1 hk1 hS => ?_)
  rw [hw]
  have hP := zk hP hk1
  refine lv_iadd hx hb dX2_cellArea_12 ?_
  refine lv_i2l hx hb dX2_cellArea_13 rfl ?_
  refine lv_lstore_n (lv' := [(2, .long (((s_X2_tenWidths fw fh lat) + (s_X2_tenWidths fw fh (lat + 1))).toInt64)), (0, .ref qm), (1, .int lat)]) hx hb dX2_cellArea_14 rfl hl (by decide) rfl (fun ls hl => ?_)
  refine lv_lload_n hx hb dX2_cellArea_15 rfl (lv_at hl 0 rfl) ?_
  refine lv_aload_n hx hb dX2_cellArea_16 rfl (lv_at hl 1 rfl) ?_
  refine lv_iload_n hx hb dX2_cellArea_17 rfl (lv_at hl 2 rfl) ?_
  refine lv_iconst (v := 1) hx hb dX2_cellArea_18 (by decide) ?_
  refine lv_iadd hx hb dX2_cellArea_19 ?_
  refine va_calli (va_runV (As := [.int (lat + 1)]) (rest := [.long (((s_X2_tenWidths fw fh lat) + (s_X2_tenWidths fw fh (lat + 1))).toInt64)]) ⟨hx, hb, hml, hown, hts⟩ (c_X2_tenHeights l D cI cZ cJ cD qm qw qh fw fh (lat + 1) ) (cwV 1 hts gX2_cellArea_X2_tenHeights rfl rfl rfl (by decide +kernel) ⟨Nat.le_of_ble_eq_true rfl, Nat.le_of_ble_eq_true rfl⟩) ⟨zblind, va_recv hK hP (ci := 2) (q0 := 0) rfl rfl, (fun U hU hW => ⟨rfl, by rw [hU]; exact hP.sub (ws' := [(qm, .inr (2, [.ref qw, .ref qh])), (qw, .inl (cI, 10, .inl fw)), (qh, .inl (cI, 10, .inl fh))]) [0, 1, 2] rfl, va_K.moved hW.alike hK⟩)⟩ rfl rfl hl.1 rfl (lv_room (Nat.le_of_ble_eq_true rfl)) dX2_cellArea_20 ⟨Nat.le_of_ble_eq_true rfl, Nat.le_of_ble_eq_true rfl⟩) hS (fun q _ h => h.elim) (fun q h => h.elim) (fun r7 u t H locs ht hvm hw hB hz1 hk1 hS => ?_)
  rw [hw]
  have hP := zk hP hk1
  refine lv_aload_n hx hb dX2_cellArea_23 rfl (lv_at hl 1 rfl) ?_
  refine lv_iload_n hx hb dX2_cellArea_24 rfl (lv_at hl 2 rfl) ?_
  refine va_calli (va_runV (As := [.int lat]) (rest := [.int (s_X2_tenHeights fw fh (lat + 1)), .long (((s_X2_tenWidths fw fh lat) + (s_X2_tenWidths fw fh (lat + 1))).toInt64)]) ⟨hx, hb, hml, hown, hts⟩ (c_X2_tenHeights l D cI cZ cJ cD qm qw qh fw fh lat ) (cwV 1 hts gX2_cellArea_X2_tenHeights rfl rfl rfl (by decide +kernel) ⟨Nat.le_of_ble_eq_true rfl, Nat.le_of_ble_eq_true rfl⟩) ⟨zblind, va_recv hK hP (ci := 2) (q0 := 0) rfl rfl, (fun U hU hW => ⟨rfl, by rw [hU]; exact hP.sub (ws' := [(qm, .inr (2, [.ref qw, .ref qh])), (qw, .inl (cI, 10, .inl fw)), (qh, .inl (cI, 10, .inl fh))]) [0, 1, 2] rfl, va_K.moved hW.alike hK⟩)⟩ rfl rfl hl.1 rfl (lv_room (Nat.le_of_ble_eq_true rfl)) dX2_cellArea_25 ⟨Nat.le_of_ble_eq_true rfl, Nat.le_of_ble_eq_true rfl⟩) hS (fun q _ h => h.elim) (fun q h => h.elim) (fun r8 u t H locs ht hvm hw hB hz1 hk1 hS => ?_)
  rw [hw]
  have hP := zk hP hk1
  refine lv_isub hx hb dX2_cellArea_28 ?_
  refine lv_i2l hx hb dX2_cellArea_29 rfl ?_
  refine lv_lmul hx hb dX2_cellArea_30 ?_
  have e9 : s_X2_cellArea fw fh lat = (((s_X2_tenWidths fw fh lat) + (s_X2_tenWidths fw fh (lat + 1))).toInt64) * (((s_X2_tenHeights fw fh (lat + 1)) - (s_X2_tenHeights fw fh lat)).toInt64) := rfl
  exact W.lret (v := ((((s_X2_tenWidths fw fh lat) + (s_X2_tenWidths fw fh (lat + 1))).toInt64) * (((s_X2_tenHeights fw fh (lat + 1)) - (s_X2_tenHeights fw fh lat)).toInt64))) hx hb hr (fun t ht hW => ⟨⟨_, (), rfl, e9.symm, trivial⟩, hS.F ht⟩) hS.2.2 dX2_cellArea_31
def s_X2_bandArea (fw : Nat → Int32) (fh : Nat → Int32) (bd : Int32) : Int64 := (36000 * (((s_X2_valueAt fw bd) + (s_X2_valueAt fw (bd + 1))).toInt64)) * (((s_X2_valueAt fh (bd + 1)) - (s_X2_valueAt fh bd)).toInt64)
abbrev rm_X2_bandArea : Room := { frames := 1, cells := 0, slots := 0, locals := 21 }
abbrev Qc_X2_bandArea (D : va_G) (cI cZ cJ cD : ClassId) (qm : Nat) (qw : Nat) (qh : Nat) (fw : Nat → Int32) (fh : Nat → Int32) (bd : Int32) : Array Value → State → Outcome → State → Prop := va_Ql (fun (r : Int64) (_ : Unit) => r = s_X2_bandArea fw fh bd) (fun _ _ => True) (fun _ : Nat => False)
set_option maxHeartbeats 4000000 in
set_option maxRecDepth 100000 in
theorem c_X2_bandArea (l : Launch) (D : va_G) (cI cZ cJ cD : ClassId) (qm : Nat) (qw : Nat) (qh : Nat) (fw : Nat → Int32) (fh : Nat → Int32) (bd : Int32)  : Met l yX2_bandArea wsX2_bandArea rm_X2_bandArea (va_Pc [.ref qm, .int bd] (zPre D cI cZ cJ cD [(qm, .inr (2, [.ref qw, .ref qh])), (qw, .inl (cI, 10, .inl fw)), (qh, .inl (cI, 10, .inl fh))])) (Qc_X2_bandArea D cI cZ cJ cD qm qw qh fw fh bd ) 0 0 (fun _ : Nat => False) := by
  refine Met.ofW (cc := cX2_bandArea) (maxL := 6) (ret := (some .long)) (by decide) rfl ?_
  intro p e s m args below meth c s₁ B hml hv
  obtain ⟨rfl, hP, hK⟩ := hv
  have hx := B.exec
  have hb := B.bytes
  have hr := B.returns
  have hts := atoms_spec (ws := wsX2_bandArea) B.pre
  have hown : s.vm.findClass RX2 = some m.cls := findClass_of_methodNamed B.named
  have hlocks := B.notSynchronized
  have hS : va_S (fun _ : Nat => False) s.heap s.heap [] := va_S.rf
  have hl := lv_entry ([.ref qm, .int bd]) (n := 6) (Nat.le_of_ble_eq_true rfl)
  rw [lg_entry_eq]
  generalize (lg_sl ([.ref qm, .int bd]) ++ List.replicate (6 - (lg_sl ([.ref qm, .int bd])).length) Slot.unset).toArray = ls at hl ⊢
  have hl : lv_has ls 6 [(0, .ref qm), (1, .int bd)] := hl
  have hP : va_P D vwCl [(qm, .inr (2, [.ref qw, .ref qh])), (qw, .inl (cI, 10, .inl fw)), (qh, .inl (cI, 10, .inl fh))] s.heap := hP
  have hP := hP
  refine lv_aload_n hx hb dX2_bandArea_0 rfl (lv_at hl 0 rfl) ?_
  refine va_get (D := D) (ci := 2) (v := .ref qw) (C := RX2) (T := TX2) (N := 2) hx hb hts (fun w h => List.mem_cons_of_mem _ (List.mem_append_right _ h)) hown hK hP 0 rfl rfl 0 (by decide) (hts (.fieldLink RX2 9 "AtlasFolder$MapTable" "widths" "[I") (List.mem_cons_of_mem _ (List.mem_append_left _ (List.mem_of_getElem? (i := 0) rfl)))) (fun _ h9 => h9) rfl dX2_bandArea_1 ?_
  refine lv_iload_n hx hb dX2_bandArea_4 rfl (lv_at hl 1 rfl) ?_
  refine va_calli (va_runS (As := [.ref qw, .int bd]) (rest := []) ⟨hx, hb, hml, hown, hts⟩ (c_X2_valueAt l D cI cZ cJ cD qw fw bd ) (va_cwS 2 hts gX2_bandArea_X2_valueAt rfl rfl rfl (by decide +kernel) ⟨Nat.le_of_ble_eq_true rfl, Nat.le_of_ble_eq_true rfl⟩) ⟨zblind, (fun U hU hW => ⟨rfl, by rw [hU]; exact hP.sub (ws' := [(qw, .inl (cI, 10, .inl fw))]) [1] rfl, va_K.moved hW.alike hK⟩)⟩ rfl rfl hl.1 rfl (lv_room (Nat.le_of_ble_eq_true rfl)) dX2_bandArea_5 ⟨Nat.le_of_ble_eq_true rfl, Nat.le_of_ble_eq_true rfl⟩) hS (fun q _ h => h.elim) (fun q h => h.elim) (fun r5 u t H locs ht hvm hw hB hz1 hk1 hS => ?_)
  rw [hw]
  have hP := zk hP hk1
  refine lv_aload_n hx hb dX2_bandArea_8 rfl (lv_at hl 0 rfl) ?_
  refine va_get (D := D) (ci := 2) (v := .ref qw) (C := RX2) (T := TX2) (N := 2) hx hb hts (fun w h => List.mem_cons_of_mem _ (List.mem_append_right _ h)) hown hK hP 0 rfl rfl 0 (by decide) (hts (.fieldLink RX2 9 "AtlasFolder$MapTable" "widths" "[I") (List.mem_cons_of_mem _ (List.mem_append_left _ (List.mem_of_getElem? (i := 0) rfl)))) (fun _ h9 => h9) rfl dX2_bandArea_9 ?_
  refine lv_iload_n hx hb dX2_bandArea_12 rfl (lv_at hl 1 rfl) ?_
  refine lv_iconst (v := 1) hx hb dX2_bandArea_13 (by decide) ?_
  refine lv_iadd hx hb dX2_bandArea_14 ?_
  refine va_calli (va_runS (As := [.ref qw, .int (bd + 1)]) (rest := [.int (s_X2_valueAt fw bd)]) ⟨hx, hb, hml, hown, hts⟩ (c_X2_valueAt l D cI cZ cJ cD qw fw (bd + 1) ) (va_cwS 2 hts gX2_bandArea_X2_valueAt rfl rfl rfl (by decide +kernel) ⟨Nat.le_of_ble_eq_true rfl, Nat.le_of_ble_eq_true rfl⟩) ⟨zblind, (fun U hU hW => ⟨rfl, by rw [hU]; exact hP.sub (ws' := [(qw, .inl (cI, 10, .inl fw))]) [1] rfl, va_K.moved hW.alike hK⟩)⟩ rfl rfl hl.1 rfl (lv_room (Nat.le_of_ble_eq_true rfl)) dX2_bandArea_15 ⟨Nat.le_of_ble_eq_true rfl, Nat.le_of_ble_eq_true rfl⟩) hS (fun q _ h => h.elim) (fun q h => h.elim) (fun r6 u t H locs ht hvm hw hB hz1 hk1 hS => ?_)
  rw [hw]
  have hP := zk hP hk1
  refine lv_iadd hx hb dX2_bandArea_18 ?_
  refine lv_i2l hx hb dX2_bandArea_19 rfl ?_
  refine lv_lstore_n (lv' := [(2, .long (((s_X2_valueAt fw bd) + (s_X2_valueAt fw (bd + 1))).toInt64)), (0, .ref qm), (1, .int bd)]) hx hb dX2_bandArea_20 rfl hl (by decide) rfl (fun ls hl => ?_)
  refine lv_aload_n hx hb dX2_bandArea_21 rfl (lv_at hl 1 rfl) ?_
  refine va_get (D := D) (ci := 2) (v := .ref qh) (C := RX2) (T := TX2) (N := 2) hx hb hts (fun w h => List.mem_cons_of_mem _ (List.mem_append_right _ h)) hown hK hP 0 rfl rfl 1 (by decide) (hts (.fieldLink RX2 15 "AtlasFolder$MapTable" "heights" "[I") (List.mem_cons_of_mem _ (List.mem_append_left _ (List.mem_of_getElem? (i := 1) rfl)))) (fun _ h9 => h9) rfl dX2_bandArea_22 ?_
  refine lv_iload_n hx hb dX2_bandArea_25 rfl (lv_at hl 2 rfl) ?_
  refine lv_iconst (v := 1) hx hb dX2_bandArea_26 (by decide) ?_
  refine lv_iadd hx hb dX2_bandArea_27 ?_
  refine va_calli (va_runS (As := [.ref qh, .int (bd + 1)]) (rest := []) ⟨hx, hb, hml, hown, hts⟩ (c_X2_valueAt l D cI cZ cJ cD qh fh (bd + 1) ) (va_cwS 2 hts gX2_bandArea_X2_valueAt rfl rfl rfl (by decide +kernel) ⟨Nat.le_of_ble_eq_true rfl, Nat.le_of_ble_eq_true rfl⟩) ⟨zblind, (fun U hU hW => ⟨rfl, by rw [hU]; exact hP.sub (ws' := [(qh, .inl (cI, 10, .inl fh))]) [2] rfl, va_K.moved hW.alike hK⟩)⟩ rfl rfl hl.1 rfl (lv_room (Nat.le_of_ble_eq_true rfl)) dX2_bandArea_28 ⟨Nat.le_of_ble_eq_true rfl, Nat.le_of_ble_eq_true rfl⟩) hS (fun q _ h => h.elim) (fun q h => h.elim) (fun r7 u t H locs ht hvm hw hB hz1 hk1 hS => ?_)
  rw [hw]
  have hP := zk hP hk1
  refine lv_aload_n hx hb dX2_bandArea_31 rfl (lv_at hl 1 rfl) ?_
  refine va_get (D := D) (ci := 2) (v := .ref qh) (C := RX2) (T := TX2) (N := 2) hx hb hts (fun w h => List.mem_cons_of_mem _ (List.mem_append_right _ h)) hown hK hP 0 rfl rfl 1 (by decide) (hts (.fieldLink RX2 15 "AtlasFolder$MapTable" "heights" "[I") (List.mem_cons_of_mem _ (List.mem_append_left _ (List.mem_of_getElem? (i := 1) rfl)))) (fun _ h9 => h9) rfl dX2_bandArea_32 ?_
  refine lv_iload_n hx hb dX2_bandArea_35 rfl (lv_at hl 2 rfl) ?_
  refine va_calli (va_runS (As := [.ref qh, .int bd]) (rest := [.int (s_X2_valueAt fh (bd + 1))]) ⟨hx, hb, hml, hown, hts⟩ (c_X2_valueAt l D cI cZ cJ cD qh fh bd ) (va_cwS 2 hts gX2_bandArea_X2_valueAt rfl rfl rfl (by decide +kernel) ⟨Nat.le_of_ble_eq_true rfl, Nat.le_of_ble_eq_true rfl⟩) ⟨zblind, (fun U hU hW => ⟨rfl, by rw [hU]; exact hP.sub (ws' := [(qh, .inl (cI, 10, .inl fh))]) [2] rfl, va_K.moved hW.alike hK⟩)⟩ rfl rfl hl.1 rfl (lv_room (Nat.le_of_ble_eq_true rfl)) dX2_bandArea_36 ⟨Nat.le_of_ble_eq_true rfl, Nat.le_of_ble_eq_true rfl⟩) hS (fun q _ h => h.elim) (fun q h => h.elim) (fun r8 u t H locs ht hvm hw hB hz1 hk1 hS => ?_)
  rw [hw]
  have hP := zk hP hk1
  refine lv_isub hx hb dX2_bandArea_39 ?_
  refine lv_i2l hx hb dX2_bandArea_40 rfl ?_
  refine lv_lstore (lv' := [(4, .long (((s_X2_valueAt fh (bd + 1)) - (s_X2_valueAt fh bd)).toInt64)), (2, .long (((s_X2_valueAt fw bd) + (s_X2_valueAt fw (bd + 1))).toInt64)), (0, .ref qm), (1, .int bd)]) hx hb dX2_bandArea_41 hl (by decide) rfl (fun ls hl => ?_)
  refine lv_ldc2 (v := 36000) hx hb hown (hts (.constantLong RX2 41 (36000)) (List.mem_cons_of_mem _ (List.mem_append_left _ (List.mem_of_getElem? (i := 2) rfl)))) dX2_bandArea_43 ?_
  refine lv_lload_n hx hb dX2_bandArea_46 rfl (lv_at hl 1 rfl) ?_
  refine lv_lmul hx hb dX2_bandArea_47 ?_
  refine lv_lload hx hb dX2_bandArea_48 (lv_at hl 0 rfl) ?_
  refine lv_lmul hx hb dX2_bandArea_50 ?_
  have e9 : s_X2_bandArea fw fh bd = (36000 * (((s_X2_valueAt fw bd) + (s_X2_valueAt fw (bd + 1))).toInt64)) * (((s_X2_valueAt fh (bd + 1)) - (s_X2_valueAt fh bd)).toInt64) := rfl
  exact W.lret (v := ((36000 * (((s_X2_valueAt fw bd) + (s_X2_valueAt fw (bd + 1))).toInt64)) * (((s_X2_valueAt fh (bd + 1)) - (s_X2_valueAt fh bd)).toInt64))) hx hb hr (fun t ht hW => ⟨⟨_, (), rfl, e9.symm, trivial⟩, hS.F ht⟩) hS.2.2 dX2_bandArea_51
def n_X2_setRow_qw (fw : Nat → Int32) (fh : Nat → Int32) (row : Int32) (wd : Int32) (hgt : Int32) : Nat → Int32 := (if row < 0 then fw else (if 10 ≤ row then fw else upd fw row.toNatClampNeg wd))
def n_X2_setRow_qh (fw : Nat → Int32) (fh : Nat → Int32) (row : Int32) (wd : Int32) (hgt : Int32) : Nat → Int32 := (if row < 0 then fh else (if 10 ≤ row then fh else upd fh row.toNatClampNeg hgt))
abbrev rm_X2_setRow : Room := { frames := 0, cells := 0, slots := 0, locals := 0 }
abbrev Qc_X2_setRow (D : va_G) (cI cZ cJ cD : ClassId) (qm : Nat) (qw : Nat) (qh : Nat) (fw : Nat → Int32) (fh : Nat → Int32) (row : Int32) (wd : Int32) (hgt : Int32) (A : Nat → Prop) : Array Value → State → Outcome → State → Prop := va_Qv (fun _ : Unit => True) (zPost D cI cZ cJ cD A [(qm, .inr (2, [.ref qw, .ref qh])), (qw, .inl (cI, 10, .inl (n_X2_setRow_qw fw fh row wd hgt))), (qh, .inl (cI, 10, .inl (n_X2_setRow_qh fw fh row wd hgt)))]) A
set_option maxHeartbeats 4000000 in
set_option maxRecDepth 100000 in
theorem c_X2_setRow (l : Launch) (D : va_G) (cI cZ cJ cD : ClassId) (qm : Nat) (qw : Nat) (qh : Nat) (fw : Nat → Int32) (fh : Nat → Int32) (row : Int32) (wd : Int32) (hgt : Int32) (sz : Nat)  : Met l yX2_setRow wsX2_setRow rm_X2_setRow (va_Pc [.ref qm, .int row, .int wd, .int hgt] (zPreW D cI cZ cJ cD [(qm, .inr (2, [.ref qw, .ref qh])), (qw, .inl (cI, 10, .inl fw)), (qh, .inl (cI, 10, .inl fh))] sz)) (Qc_X2_setRow D cI cZ cJ cD qm qw qh fw fh row wd hgt (va_A [(qm, .inr (2, [.ref qw, .ref qh])), (qw, .inl (cI, 10, .inl fw)), (qh, .inl (cI, 10, .inl fh))] sz)) 0 0 (va_A [(qm, .inr (2, [.ref qw, .ref qh])), (qw, .inl (cI, 10, .inl fw)), (qh, .inl (cI, 10, .inl fh))] sz) := by
  refine Met.ofW (cc := cX2_setRow) (maxL := 4) (ret := none) (by decide) rfl ?_
  intro p e s m args below meth c s₁ B hml hv
  obtain ⟨rfl, hsz, hP, hK, hD0⟩ := hv
  have hx := B.exec
  have hb := B.bytes
  have hr := B.returns
  have hts := atoms_spec (ws := wsX2_setRow) B.pre
  have hown : s.vm.findClass RX2 = some m.cls := findClass_of_methodNamed B.named
  have hlocks := B.notSynchronized
  subst hsz
  have hD := hD0.self (sz := s.heap.size)
  generalize hAe : va_A [(qm, .inr (2, [.ref qw, .ref qh])), (qw, .inl (cI, 10, .inl fw)), (qh, .inl (cI, 10, .inl fh))] s.heap.size = A at hD ⊢
  have hA : ∀ q : Nat, s.heap.size ≤ q → A q := fun q h => by rw [← hAe]; exact Or.inr h
  have hS : va_S A s.heap s.heap [] := va_S.rf
  have hl := lv_entry ([.ref qm, .int row, .int wd, .int hgt]) (n := 4) (Nat.le_of_ble_eq_true rfl)
  rw [lg_entry_eq]
  generalize (lg_sl ([.ref qm, .int row, .int wd, .int hgt]) ++ List.replicate (4 - (lg_sl ([.ref qm, .int row, .int wd, .int hgt])).length) Slot.unset).toArray = ls at hl ⊢
  have hl : lv_has ls 4 [(0, .ref qm), (1, .int row), (2, .int wd), (3, .int hgt)] := hl
  have hP : va_P D vwCl [(qm, .inr (2, [.ref qw, .ref qh])), (qw, .inl (cI, 10, .inl fw)), (qh, .inl (cI, 10, .inl fh))] s.heap := hP
  have hP := hP
  refine lv_iload_n hx hb dX2_setRow_0 rfl (lv_at hl 1 rfl) ?_
  refine lv_if_lt (tgt := 24) hx hb dX2_setRow_1 (by decide) (fun c3 => ?_) (fun c3 => ?_)
  · have e4 : n_X2_setRow_qw fw fh row wd hgt = fw := by
      unfold n_X2_setRow_qw
      exact (if_pos c3)
    have e5 : n_X2_setRow_qh fw fh row wd hgt = fh := by
      unfold n_X2_setRow_qh
      exact (if_pos c3)
    exact W.vret hx hb hr (fun t ht hW => ⟨⟨(), rfl, trivial, ⟨(by rw [e4, e5]; rw [ht]; exact hP), va_K.moved hW.alike hK, (by rw [e4, e5]; exact hD)⟩⟩, hS.F ht⟩) hS.2.2 dX2_setRow_24
  · refine lv_iload_n hx hb dX2_setRow_4 rfl (lv_at hl 1 rfl) ?_
    refine lv_bipush (v := 10) hx hb dX2_setRow_5 (by decide) ?_
    refine lv_icmp_ge (tgt := 24) hx hb dX2_setRow_7 (by decide) (fun c6 => ?_) (fun c6 => ?_)
    · have e7 : n_X2_setRow_qw fw fh row wd hgt = fw := by
        unfold n_X2_setRow_qw
        exact ((if_neg c3).trans (if_pos c6))
      have e8 : n_X2_setRow_qh fw fh row wd hgt = fh := by
        unfold n_X2_setRow_qh
        exact ((if_neg c3).trans (if_pos c6))
      exact W.vret hx hb hr (fun t ht hW => ⟨⟨(), rfl, trivial, ⟨(by rw [e7, e8]; rw [ht]; exact hP), va_K.moved hW.alike hK, (by rw [e7, e8]; exact hD)⟩⟩, hS.F ht⟩) hS.2.2 dX2_setRow_24
    · refine lv_aload_n hx hb dX2_setRow_10 rfl (lv_at hl 0 rfl) ?_
      refine va_get (D := D) (ci := 2) (v := .ref qw) (C := RX2) (T := TX2) (N := 2) hx hb hts (fun w h => List.mem_cons_of_mem _ (List.mem_append_right _ h)) hown hK hP 0 rfl rfl 0 (by decide) (hts (.fieldLink RX2 9 "AtlasFolder$MapTable" "widths" "[I") (List.mem_cons_of_mem _ (List.mem_append_left _ (List.mem_of_getElem? (i := 0) rfl)))) (fun _ h9 => h9) rfl dX2_setRow_11 ?_
      refine lv_iload_n hx hb dX2_setRow_14 rfl (lv_at hl 1 rfl) ?_
      refine lv_iload_n hx hb dX2_setRow_15 rfl (lv_at hl 2 rfl) ?_
      refine va_iast hx hb hK hP hD hS 1 0 rfl rfl (z_in rfl c3 c6) dX2_setRow_16 (fun H locs hP hD hS => ?_)
      have hP : va_P D vwCl [(qm, .inr (2, [.ref qw, .ref qh])), (qw, .inl (cI, 10, .inl (upd fw row.toNatClampNeg wd))), (qh, .inl (cI, 10, .inl fh))] H := hP
      have hD : va_D A [(qm, .inr (2, [.ref qw, .ref qh])), (qw, .inl (cI, 10, .inl (upd fw row.toNatClampNeg wd))), (qh, .inl (cI, 10, .inl fh))] := hD
      refine lv_aload_n hx hb dX2_setRow_17 rfl (lv_at hl 0 rfl) ?_
      refine va_get (D := D) (ci := 2) (v := .ref qh) (C := RX2) (T := TX2) (N := 2) hx hb hts (fun w h => List.mem_cons_of_mem _ (List.mem_append_right _ h)) hown hK hP 0 rfl rfl 1 (by decide) (hts (.fieldLink RX2 15 "AtlasFolder$MapTable" "heights" "[I") (List.mem_cons_of_mem _ (List.mem_append_left _ (List.mem_of_getElem? (i := 1) rfl)))) (fun _ h9 => h9) rfl dX2_setRow_18 ?_
      refine lv_iload_n hx hb dX2_setRow_21 rfl (lv_at hl 1 rfl) ?_
      refine lv_iload_n hx hb dX2_setRow_22 rfl (lv_at hl 3 rfl) ?_
      refine va_iast hx hb hK hP hD hS 2 0 rfl rfl (z_in rfl c3 c6) dX2_setRow_23 (fun H locs hP hD hS => ?_)
      have hP : va_P D vwCl [(qm, .inr (2, [.ref qw, .ref qh])), (qw, .inl (cI, 10, .inl (upd fw row.toNatClampNeg wd))), (qh, .inl (cI, 10, .inl (upd fh row.toNatClampNeg hgt)))] H := hP
      have hD : va_D A [(qm, .inr (2, [.ref qw, .ref qh])), (qw, .inl (cI, 10, .inl (upd fw row.toNatClampNeg wd))), (qh, .inl (cI, 10, .inl (upd fh row.toNatClampNeg hgt)))] := hD
      have e9 : n_X2_setRow_qw fw fh row wd hgt = upd fw row.toNatClampNeg wd := by
        unfold n_X2_setRow_qw
        exact ((if_neg c3).trans (if_neg c6))
      have e10 : n_X2_setRow_qh fw fh row wd hgt = upd fh row.toNatClampNeg hgt := by
        unfold n_X2_setRow_qh
        exact ((if_neg c3).trans (if_neg c6))
      exact W.vret hx hb hr (fun t ht hW => ⟨⟨(), rfl, trivial, ⟨(by rw [e9, e10]; rw [ht]; exact hP), va_K.moved hW.alike hK, (by rw [e9, e10]; exact hD)⟩⟩, hS.F ht⟩) hS.2.2 dX2_setRow_24
def s_J13_compare_74951 (x : Int64) (y : Int64) : Int32 := (if 0 ≤ (lg_cmp x y) then (if (lg_cmp x y) = 0 then 0 else 1) else (-1))
abbrev rm_J13_compare_74951 : Room := { frames := 0, cells := 0, slots := 0, locals := 0 }
abbrev Qc_J13_compare_74951 (D : va_G) (cI cZ cJ cD : ClassId) (x : Int64) (y : Int64) : Array Value → State → Outcome → State → Prop := va_Qi (fun (r : Int32) (_ : Unit) => r = s_J13_compare_74951 x y) (fun _ _ => True) (fun _ : Nat => False)
set_option maxHeartbeats 4000000 in
set_option maxRecDepth 100000 in
theorem c_J13_compare_74951 (l : Launch) (D : va_G) (cI cZ cJ cD : ClassId) (x : Int64) (y : Int64)  : Met l yJ13_compare_74951 wsJ13_compare_74951 rm_J13_compare_74951 (va_Pc [.long x, .long y] (zPre D cI cZ cJ cD [])) (Qc_J13_compare_74951 D cI cZ cJ cD x y ) 0 0 (fun _ : Nat => False) := by
  refine Met.ofW (cc := cJ13_compare_74951) (maxL := 4) (ret := (some .int)) (by decide) rfl ?_
  intro p e s m args below meth c s₁ B hml hv
  obtain ⟨rfl, hP, hK⟩ := hv
  have hx := B.exec
  have hb := B.bytes
  have hr := B.returns
  have hts := atoms_spec (ws := wsJ13_compare_74951) B.pre
  have hown : s.vm.findClass RJ13 = some m.cls := findClass_of_methodNamed B.named
  have hlocks := B.notSynchronized
  have hS : va_S (fun _ : Nat => False) s.heap s.heap [] := va_S.rf
  have hl := lv_entry ([.long x, .long y]) (n := 4) (Nat.le_of_ble_eq_true rfl)
  rw [lg_entry_eq]
  generalize (lg_sl ([.long x, .long y]) ++ List.replicate (4 - (lg_sl ([.long x, .long y])).length) Slot.unset).toArray = ls at hl ⊢
  have hl : lv_has ls 4 [(0, .long x), (2, .long y)] := hl
  have hP : va_P D vwCl [] s.heap := hP
  have hP := hP
  refine lv_lload_n hx hb dJ13_compare_74951_0 rfl (lv_at hl 0 rfl) ?_
  refine lv_lload_n hx hb dJ13_compare_74951_1 rfl (lv_at hl 1 rfl) ?_
  refine W.lcmp hx hb dJ13_compare_74951_2 ?_
  have K6 : ∀ v6_0 : Int32, v6_0 = (if 0 ≤ (lg_cmp x y) then (if (lg_cmp x y) = 0 then 0 else 1) else (-1)) → ∀ (H : Heap) (locs : List Loc), va_P D vwCl [] H → va_S (fun _ : Nat => False) s.heap H locs → ∀ (ls : Array Slot), lv_has ls 4 [(0, .long x), (2, .long y)] → W p l e (headSpec wsJ13_compare_74951 rm_J13_compare_74951).room s m ([.long x, .long y]).toArray below meth c H locs 0 0 (MQ below (Qc_J13_compare_74951 D cI cZ cJ cD x y) ([.long x, .long y]).toArray s 0 0 (fun _ : Nat => False)) (F0 m 21 ls [.int v6_0]) := by
    intro v6_0 hv6_0 H locs hP hS ls hl
    subst hv6_0
    have e7 : s_J13_compare_74951 x y = (if 0 ≤ (lg_cmp x y) then (if (lg_cmp x y) = 0 then 0 else 1) else (-1)) := rfl
    exact W.iret (v := (if 0 ≤ (lg_cmp x y) then (if (lg_cmp x y) = 0 then 0 else 1) else (-1))) hx hb hr (fun t ht hW => ⟨⟨_, (), rfl, e7.symm, trivial⟩, hS.F ht⟩) hS.2.2 dJ13_compare_74951_21
  refine lv_if_ge (tgt := 10) hx hb dJ13_compare_74951_3 (by decide) (fun c8 => ?_) (fun c8 => ?_)
  · refine lv_lload_n hx hb dJ13_compare_74951_10 rfl (lv_at hl 0 rfl) ?_
    refine lv_lload_n hx hb dJ13_compare_74951_11 rfl (lv_at hl 1 rfl) ?_
    refine W.lcmp hx hb dJ13_compare_74951_12 ?_
    refine lv_if_ne (tgt := 20) hx hb dJ13_compare_74951_13 (by decide) (fun c9 => ?_) (fun c9 => ?_)
    · refine lv_iconst (v := 1) hx hb dJ13_compare_74951_20 (by decide) ?_
      exact K6 _ ((if_pos c8).trans (if_neg c9)).symm _ _ hP hS _ (lv_sub hl [0, 1] rfl)
    · refine lv_iconst (v := 0) hx hb dJ13_compare_74951_16 (by decide) ?_
      refine lv_goto (tgt := 21) hx hb dJ13_compare_74951_17 (by decide) ?_
      exact K6 _ ((if_pos c8).trans (if_pos c9)).symm _ _ hP hS _ (lv_sub hl [0, 1] rfl)
  · refine lv_iconst (v := (-1)) hx hb dJ13_compare_74951_6 (by decide) ?_
    refine lv_goto (tgt := 21) hx hb dJ13_compare_74951_7 (by decide) ?_
    exact K6 _ (if_neg c8).symm _ _ hP hS _ (lv_sub hl [0, 1] rfl)
def s_X0_truthOf (ft : Nat → Int32) (bd : Int32) : Int32 := (if bd < 0 then 1000 else (if 9 ≤ bd then 1000 else ft bd.toNatClampNeg))
abbrev rm_X0_truthOf : Room := { frames := 0, cells := 0, slots := 0, locals := 0 }
abbrev Qc_X0_truthOf (D : va_G) (cI cZ cJ cD : ClassId) (qb : Nat) (qt : Nat) (ft : Nat → Int32) (bd : Int32) : Array Value → State → Outcome → State → Prop := va_Qi (fun (r : Int32) (_ : Unit) => r = s_X0_truthOf ft bd) (fun _ _ => True) (fun _ : Nat => False)
set_option maxHeartbeats 4000000 in
set_option maxRecDepth 100000 in
theorem c_X0_truthOf (l : Launch) (D : va_G) (cI cZ cJ cD : ClassId) (qb : Nat) (qt : Nat) (ft : Nat → Int32) (bd : Int32)  : Met l yX0_truthOf wsX0_truthOf rm_X0_truthOf (va_Pc [.ref qb, .int bd] (zPre D cI cZ cJ cD [(qb, .inr (0, [.ref qt])), (qt, .inl (cI, 9, .inl ft))])) (Qc_X0_truthOf D cI cZ cJ cD qb qt ft bd ) 0 0 (fun _ : Nat => False) := by
  refine Met.ofW (cc := cX0_truthOf) (maxL := 2) (ret := (some .int)) (by decide) rfl ?_
  intro p e s m args below meth c s₁ B hml hv
  obtain ⟨rfl, hP, hK⟩ := hv
  have hx := B.exec
  have hb := B.bytes
  have hr := B.returns
  have hts := atoms_spec (ws := wsX0_truthOf) B.pre
  have hown : s.vm.findClass RX0 = some m.cls := findClass_of_methodNamed B.named
  have hlocks := B.notSynchronized
  have hS : va_S (fun _ : Nat => False) s.heap s.heap [] := va_S.rf
  have hl := lv_entry ([.ref qb, .int bd]) (n := 2) (Nat.le_of_ble_eq_true rfl)
  rw [lg_entry_eq]
  generalize (lg_sl ([.ref qb, .int bd]) ++ List.replicate (2 - (lg_sl ([.ref qb, .int bd])).length) Slot.unset).toArray = ls at hl ⊢
  have hl : lv_has ls 2 [(0, .ref qb), (1, .int bd)] := hl
  have hP : va_P D vwCl [(qb, .inr (0, [.ref qt])), (qt, .inl (cI, 9, .inl ft))] s.heap := hP
  have hP := hP
  refine lv_iload_n hx hb dX0_truthOf_0 rfl (lv_at hl 1 rfl) ?_
  have K6 : ∀ v6_0 : Int32, v6_0 = (if bd < 0 then 1000 else (if 9 ≤ bd then 1000 else ft bd.toNatClampNeg)) → ∀ (H : Heap) (locs : List Loc), va_P D vwCl [(qb, .inr (0, [.ref qt])), (qt, .inl (cI, 9, .inl ft))] H → va_S (fun _ : Nat => False) s.heap H locs → ∀ (ls : Array Slot), lv_has ls 2 [(0, .ref qb), (1, .int bd)] → W p l e (headSpec wsX0_truthOf rm_X0_truthOf).room s m ([.ref qb, .int bd]).toArray below meth c H locs 0 0 (MQ below (Qc_X0_truthOf D cI cZ cJ cD qb qt ft bd) ([.ref qb, .int bd]).toArray s 0 0 (fun _ : Nat => False)) (F0 m 22 ls [.int v6_0]) := by
    intro v6_0 hv6_0 H locs hP hS ls hl
    subst hv6_0
    have e7 : s_X0_truthOf ft bd = (if bd < 0 then 1000 else (if 9 ≤ bd then 1000 else ft bd.toNatClampNeg)) := rfl
    exact W.iret (v := (if bd < 0 then 1000 else (if 9 ≤ bd then 1000 else ft bd.toNatClampNeg))) hx hb hr (fun t ht hW => ⟨⟨_, (), rfl, e7.symm, trivial⟩, hS.F ht⟩) hS.2.2 dX0_truthOf_22
  refine lv_if_lt (tgt := 19) hx hb dX0_truthOf_1 (by decide) (fun c8 => ?_) (fun c8 => ?_)
  · refine lv_sipush (v := 1000) hx hb dX0_truthOf_19 (by decide) ?_
    exact K6 _ (if_pos c8).symm _ _ hP hS _ (lv_sub hl [0, 1] rfl)
  · refine lv_iload_n hx hb dX0_truthOf_4 rfl (lv_at hl 1 rfl) ?_
    refine lv_bipush (v := 9) hx hb dX0_truthOf_5 (by decide) ?_
    refine lv_icmp_ge (tgt := 19) hx hb dX0_truthOf_7 (by decide) (fun c9 => ?_) (fun c9 => ?_)
    · refine lv_sipush (v := 1000) hx hb dX0_truthOf_19 (by decide) ?_
      exact K6 _ ((if_neg c8).trans (if_pos c9)).symm _ _ hP hS _ (lv_sub hl [0, 1] rfl)
    · refine lv_aload_n hx hb dX0_truthOf_10 rfl (lv_at hl 0 rfl) ?_
      refine va_get (D := D) (ci := 0) (v := .ref qt) (C := RX0) (T := TX0) (N := 1) hx hb hts (fun w h => List.mem_cons_of_mem _ (List.mem_append_right _ h)) hown hK hP 0 rfl rfl 0 (by decide) (hts (.fieldLink RX0 9 "AtlasFolder$BandTruths" "truths" "[I") (List.mem_cons_of_mem _ (List.mem_append_left _ (List.mem_of_getElem? (i := 0) rfl)))) (fun _ h9 => h9) rfl dX0_truthOf_11 ?_
      refine lv_iload_n hx hb dX0_truthOf_14 rfl (lv_at hl 1 rfl) ?_
      refine va_iald hx hb hK hP 1 0 rfl rfl (z_in rfl c8 c9) dX0_truthOf_15 ?_
      refine lv_goto (tgt := 22) hx hb dX0_truthOf_16 (by decide) ?_
      exact K6 _ ((if_neg c8).trans (if_neg c9)).symm _ _ hP hS _ (lv_sub hl [0, 1] rfl)
def s_X0_replaceTruth (ft : Nat → Int32) (bd : Int32) (tr : Int32) : Int32 := s_X0_truthOf ft bd
def n_X0_replaceTruth_qt (ft : Nat → Int32) (bd : Int32) (tr : Int32) : Nat → Int32 := (if bd < 0 then ft else (if 9 ≤ bd then ft else upd ft bd.toNatClampNeg tr))
abbrev rm_X0_replaceTruth : Room := { frames := 1, cells := 0, slots := 0, locals := 21 }
abbrev Qc_X0_replaceTruth (D : va_G) (cI cZ cJ cD : ClassId) (qb : Nat) (qt : Nat) (ft : Nat → Int32) (bd : Int32) (tr : Int32) (A : Nat → Prop) : Array Value → State → Outcome → State → Prop := va_Qi (fun (r : Int32) (_ : Unit) => r = s_X0_replaceTruth ft bd tr) (zPost D cI cZ cJ cD A [(qb, .inr (0, [.ref qt])), (qt, .inl (cI, 9, .inl (n_X0_replaceTruth_qt ft bd tr)))]) A
set_option maxHeartbeats 4000000 in
set_option maxRecDepth 100000 in
theorem c_X0_replaceTruth (l : Launch) (D : va_G) (cI cZ cJ cD : ClassId) (qb : Nat) (qt : Nat) (ft : Nat → Int32) (bd : Int32) (tr : Int32) (sz : Nat)  : Met l yX0_replaceTruth wsX0_replaceTruth rm_X0_replaceTruth (va_Pc [.ref qb, .int bd, .int tr] (zPreW D cI cZ cJ cD [(qb, .inr (0, [.ref qt])), (qt, .inl (cI, 9, .inl ft))] sz)) (Qc_X0_replaceTruth D cI cZ cJ cD qb qt ft bd tr (va_A [(qb, .inr (0, [.ref qt])), (qt, .inl (cI, 9, .inl ft))] sz)) 0 0 (va_A [(qb, .inr (0, [.ref qt])), (qt, .inl (cI, 9, .inl ft))] sz) := by
  refine Met.ofW (cc := cX0_replaceTruth) (maxL := 4) (ret := (some .int)) (by decide) rfl ?_
  intro p e s m args below meth c s₁ B hml hv
  obtain ⟨rfl, hsz, hP, hK, hD0⟩ := hv
  have hx := B.exec
  have hb := B.bytes
  have hr := B.returns
  have hts := atoms_spec (ws := wsX0_replaceTruth) B.pre
  have hown : s.vm.findClass RX0 = some m.cls := findClass_of_methodNamed B.named
  have hlocks := B.notSynchronized
  subst hsz
  have hD := hD0.self (sz := s.heap.size)
  generalize hAe : va_A [(qb, .inr (0, [.ref qt])), (qt, .inl (cI, 9, .inl ft))] s.heap.size = A at hD ⊢
  have hA : ∀ q : Nat, s.heap.size ≤ q → A q := fun q h => by rw [← hAe]; exact Or.inr h
  have hS : va_S A s.heap s.heap [] := va_S.rf
  have hl := lv_entry ([.ref qb, .int bd, .int tr]) (n := 4) (Nat.le_of_ble_eq_true rfl)
  rw [lg_entry_eq]
  generalize (lg_sl ([.ref qb, .int bd, .int tr]) ++ List.replicate (4 - (lg_sl ([.ref qb, .int bd, .int tr])).length) Slot.unset).toArray = ls at hl ⊢
  have hl : lv_has ls 4 [(0, .ref qb), (1, .int bd), (2, .int tr)] := hl
  have hP : va_P D vwCl [(qb, .inr (0, [.ref qt])), (qt, .inl (cI, 9, .inl ft))] s.heap := hP
  have hP := hP
  refine lv_aload_n hx hb dX0_replaceTruth_0 rfl (lv_at hl 0 rfl) ?_
  refine lv_iload_n hx hb dX0_replaceTruth_1 rfl (lv_at hl 1 rfl) ?_
  refine va_calli (va_runV (As := [.int bd]) (rest := []) ⟨hx, hb, hml, hown, hts⟩ (c_X0_truthOf l D cI cZ cJ cD qb qt ft bd ) (cwV 1 hts gX0_replaceTruth_X0_truthOf rfl rfl rfl (by decide +kernel) ⟨Nat.le_of_ble_eq_true rfl, Nat.le_of_ble_eq_true rfl⟩) ⟨zblind, va_recv hK hP (ci := 0) (q0 := 0) rfl rfl, (fun U hU hW => ⟨rfl, by rw [hU]; exact hP.sub (ws' := [(qb, .inr (0, [.ref qt])), (qt, .inl (cI, 9, .inl ft))]) [0, 1] rfl, va_K.moved hW.alike hK⟩)⟩ rfl rfl hl.1 rfl (lv_room (Nat.le_of_ble_eq_true rfl)) dX0_replaceTruth_2 ⟨Nat.le_of_ble_eq_true rfl, Nat.le_of_ble_eq_true rfl⟩) hS (fun q _ h => h.elim) (fun q h => h.elim) (fun r4 u t H locs ht hvm hw hB hz1 hk1 hS => ?_)
  rw [hw]
  have hP := zk hP hk1
  refine lv_istore_n (lv' := [(3, .int (s_X0_truthOf ft bd)), (0, .ref qb), (1, .int bd), (2, .int tr)]) hx hb dX0_replaceTruth_5 rfl hl (by decide) rfl (fun ls hl => ?_)
  refine lv_iload_n hx hb dX0_replaceTruth_6 rfl (lv_at hl 2 rfl) ?_
  refine lv_if_lt (tgt := 23) hx hb dX0_replaceTruth_7 (by decide) (fun c5 => ?_) (fun c5 => ?_)
  · refine lv_iload_n hx hb dX0_replaceTruth_23 rfl (lv_at hl 0 rfl) ?_
    have e6 : s_X0_replaceTruth ft bd tr = s_X0_truthOf ft bd := rfl
    have e7 : n_X0_replaceTruth_qt ft bd tr = ft := by
      unfold n_X0_replaceTruth_qt
      exact (if_pos c5)
    exact W.iret (v := (s_X0_truthOf ft bd)) hx hb hr (fun t ht hW => ⟨⟨_, (), rfl, e6.symm, ⟨(by rw [e7]; rw [ht]; exact hP), va_K.moved hW.alike hK, (by rw [e7]; exact hD)⟩⟩, hS.F ht⟩) hS.2.2 dX0_replaceTruth_24
  · refine lv_iload_n hx hb dX0_replaceTruth_10 rfl (lv_at hl 2 rfl) ?_
    refine lv_bipush (v := 9) hx hb dX0_replaceTruth_11 (by decide) ?_
    refine lv_icmp_ge (tgt := 23) hx hb dX0_replaceTruth_13 (by decide) (fun c8 => ?_) (fun c8 => ?_)
    · refine lv_iload_n hx hb dX0_replaceTruth_23 rfl (lv_at hl 0 rfl) ?_
      have e9 : s_X0_replaceTruth ft bd tr = s_X0_truthOf ft bd := rfl
      have e10 : n_X0_replaceTruth_qt ft bd tr = ft := by
        unfold n_X0_replaceTruth_qt
        exact ((if_neg c5).trans (if_pos c8))
      exact W.iret (v := (s_X0_truthOf ft bd)) hx hb hr (fun t ht hW => ⟨⟨_, (), rfl, e9.symm, ⟨(by rw [e10]; rw [ht]; exact hP), va_K.moved hW.alike hK, (by rw [e10]; exact hD)⟩⟩, hS.F ht⟩) hS.2.2 dX0_replaceTruth_24
    · refine lv_aload_n hx hb dX0_replaceTruth_16 rfl (lv_at hl 1 rfl) ?_
      refine va_get (D := D) (ci := 0) (v := .ref qt) (C := RX0) (T := TX0) (N := 1) hx hb hts (fun w h => List.mem_cons_of_mem _ (List.mem_append_right _ h)) hown hK hP 0 rfl rfl 0 (by decide) (hts (.fieldLink RX0 9 "AtlasFolder$BandTruths" "truths" "[I") (List.mem_cons_of_mem _ (List.mem_append_left _ (List.mem_of_getElem? (i := 0) rfl)))) (fun _ h9 => h9) rfl dX0_replaceTruth_17 ?_
      refine lv_iload_n hx hb dX0_replaceTruth_20 rfl (lv_at hl 2 rfl) ?_
      refine lv_iload_n hx hb dX0_replaceTruth_21 rfl (lv_at hl 3 rfl) ?_
      refine va_iast hx hb hK hP hD hS 1 0 rfl rfl (z_in rfl c5 c8) dX0_replaceTruth_22 (fun H locs hP hD hS => ?_)
      have hP : va_P D vwCl [(qb, .inr (0, [.ref qt])), (qt, .inl (cI, 9, .inl (upd ft bd.toNatClampNeg tr)))] H := hP
      have hD : va_D A [(qb, .inr (0, [.ref qt])), (qt, .inl (cI, 9, .inl (upd ft bd.toNatClampNeg tr)))] := hD
      refine lv_iload_n hx hb dX0_replaceTruth_23 rfl (lv_at hl 0 rfl) ?_
      have e11 : s_X0_replaceTruth ft bd tr = s_X0_truthOf ft bd := rfl
      have e12 : n_X0_replaceTruth_qt ft bd tr = upd ft bd.toNatClampNeg tr := by
        unfold n_X0_replaceTruth_qt
        exact ((if_neg c5).trans (if_neg c8))
      exact W.iret (v := (s_X0_truthOf ft bd)) hx hb hr (fun t ht hW => ⟨⟨_, (), rfl, e11.symm, ⟨(by rw [e12]; rw [ht]; exact hP), va_K.moved hW.alike hK, (by rw [e12]; exact hD)⟩⟩, hS.F ht⟩) hS.2.2 dX0_replaceTruth_24
def s_X0_compareBands (ft : Nat → Int32) (fw : Nat → Int32) (fh : Nat → Int32) (b1 : Int32) (b2 : Int32) : Int32 := s_J13_compare_74951 ((s_X2_bandArea fw fh b1) * ((s_X0_truthOf ft b2).toInt64)) ((s_X2_bandArea fw fh b2) * ((s_X0_truthOf ft b1).toInt64))
abbrev rm_X0_compareBands : Room := { frames := 2, cells := 0, slots := 0, locals := 46 }
abbrev Qc_X0_compareBands (D : va_G) (cI cZ cJ cD : ClassId) (qb : Nat) (qt : Nat) (ft : Nat → Int32) (qm : Nat) (qw : Nat) (qh : Nat) (fw : Nat → Int32) (fh : Nat → Int32) (b1 : Int32) (b2 : Int32) : Array Value → State → Outcome → State → Prop := va_Qi (fun (r : Int32) (_ : Unit) => r = s_X0_compareBands ft fw fh b1 b2) (fun _ _ => True) (fun _ : Nat => False)
set_option maxHeartbeats 4000000 in
set_option maxRecDepth 100000 in
theorem c_X0_compareBands (l : Launch) (D : va_G) (cI cZ cJ cD : ClassId) (qb : Nat) (qt : Nat) (ft : Nat → Int32) (qm : Nat) (qw : Nat) (qh : Nat) (fw : Nat → Int32) (fh : Nat → Int32) (b1 : Int32) (b2 : Int32)  : Met l yX0_compareBands wsX0_compareBands rm_X0_compareBands (va_Pc [.ref qb, .ref qm, .int b1, .int b2] (zPre D cI cZ cJ cD [(qb, .inr (0, [.ref qt])), (qt, .inl (cI, 9, .inl ft)), (qm, .inr (2, [.ref qw, .ref qh])), (qw, .inl (cI, 10, .inl fw)), (qh, .inl (cI, 10, .inl fh))])) (Qc_X0_compareBands D cI cZ cJ cD qb qt ft qm qw qh fw fh b1 b2 ) 0 0 (fun _ : Nat => False) := by
  refine Met.ofW (cc := cX0_compareBands) (maxL := 4) (ret := (some .int)) (by decide) rfl ?_
  intro p e s m args below meth c s₁ B hml hv
  obtain ⟨rfl, hP, hK⟩ := hv
  have hx := B.exec
  have hb := B.bytes
  have hr := B.returns
  have hts := atoms_spec (ws := wsX0_compareBands) B.pre
  have hown : s.vm.findClass RX0 = some m.cls := findClass_of_methodNamed B.named
  have hlocks := B.notSynchronized
  have hS : va_S (fun _ : Nat => False) s.heap s.heap [] := va_S.rf
  have hl := lv_entry ([.ref qb, .ref qm, .int b1, .int b2]) (n := 4) (Nat.le_of_ble_eq_true rfl)
  rw [lg_entry_eq]
  generalize (lg_sl ([.ref qb, .ref qm, .int b1, .int b2]) ++ List.replicate (4 - (lg_sl ([.ref qb, .ref qm, .int b1, .int b2])).length) Slot.unset).toArray = ls at hl ⊢
  have hl : lv_has ls 4 [(0, .ref qb), (1, .ref qm), (2, .int b1), (3, .int b2)] := hl
  have hP : va_P D vwCl [(qb, .inr (0, [.ref qt])), (qt, .inl (cI, 9, .inl ft)), (qm, .inr (2, [.ref qw, .ref qh])), (qw, .inl (cI, 10, .inl fw)), (qh, .inl (cI, 10, .inl fh))] s.heap := hP
  have hP := hP
  refine lv_aload_n hx hb dX0_compareBands_0 rfl (lv_at hl 1 rfl) ?_
  refine lv_iload_n hx hb dX0_compareBands_1 rfl (lv_at hl 2 rfl) ?_
  refine va_calll (va_runV (As := [.int b1]) (rest := []) ⟨hx, hb, hml, hown, hts⟩ (c_X2_bandArea l D cI cZ cJ cD qm qw qh fw fh b1 ) (cwV 1 hts gX0_compareBands_X2_bandArea rfl rfl rfl (by decide +kernel) ⟨Nat.le_of_ble_eq_true rfl, Nat.le_of_ble_eq_true rfl⟩) ⟨zblind, va_recv hK hP (ci := 2) (q0 := 2) rfl rfl, (fun U hU hW => ⟨rfl, by rw [hU]; exact hP.sub (ws' := [(qm, .inr (2, [.ref qw, .ref qh])), (qw, .inl (cI, 10, .inl fw)), (qh, .inl (cI, 10, .inl fh))]) [2, 3, 4] rfl, va_K.moved hW.alike hK⟩)⟩ rfl rfl hl.1 rfl (lv_room (Nat.le_of_ble_eq_true rfl)) dX0_compareBands_2 ⟨Nat.le_of_ble_eq_true rfl, Nat.le_of_ble_eq_true rfl⟩) hS (fun q _ h => h.elim) (fun q h => h.elim) (fun r6 u t H locs ht hvm hw hB hz1 hk1 hS => ?_)
  rw [hw]
  have hP := zk hP hk1
  refine lv_aload_n hx hb dX0_compareBands_5 rfl (lv_at hl 0 rfl) ?_
  refine lv_iload_n hx hb dX0_compareBands_6 rfl (lv_at hl 3 rfl) ?_
  refine va_calli (va_runV (As := [.int b2]) (rest := [.long (s_X2_bandArea fw fh b1)]) ⟨hx, hb, hml, hown, hts⟩ (c_X0_truthOf l D cI cZ cJ cD qb qt ft b2 ) (cwV 1 hts gX0_compareBands_X0_truthOf rfl rfl rfl (by decide +kernel) ⟨Nat.le_of_ble_eq_true rfl, Nat.le_of_ble_eq_true rfl⟩) ⟨zblind, va_recv hK hP (ci := 0) (q0 := 0) rfl rfl, (fun U hU hW => ⟨rfl, by rw [hU]; exact hP.sub (ws' := [(qb, .inr (0, [.ref qt])), (qt, .inl (cI, 9, .inl ft))]) [0, 1] rfl, va_K.moved hW.alike hK⟩)⟩ rfl rfl hl.1 rfl (lv_room (Nat.le_of_ble_eq_true rfl)) dX0_compareBands_7 ⟨Nat.le_of_ble_eq_true rfl, Nat.le_of_ble_eq_true rfl⟩) hS (fun q _ h => h.elim) (fun q h => h.elim) (fun r7 u t H locs ht hvm hw hB hz1 hk1 hS => ?_)
  rw [hw]
  have hP := zk hP hk1
  refine lv_i2l hx hb dX0_compareBands_10 rfl ?_
  refine lv_lmul hx hb dX0_compareBands_11 ?_
  refine lv_aload_n hx hb dX0_compareBands_12 rfl (lv_at hl 1 rfl) ?_
  refine lv_iload_n hx hb dX0_compareBands_13 rfl (lv_at hl 3 rfl) ?_
  refine va_calll (va_runV (As := [.int b2]) (rest := [.long ((s_X2_bandArea fw fh b1) * ((s_X0_truthOf ft b2).toInt64))]) ⟨hx, hb, hml, hown, hts⟩ (c_X2_bandArea l D cI cZ cJ cD qm qw qh fw fh b2 ) (cwV 1 hts gX0_compareBands_X2_bandArea rfl rfl rfl (by decide +kernel) ⟨Nat.le_of_ble_eq_true rfl, Nat.le_of_ble_eq_true rfl⟩) ⟨zblind, va_recv hK hP (ci := 2) (q0 := 2) rfl rfl, (fun U hU hW => ⟨rfl, by rw [hU]; exact hP.sub (ws' := [(qm, .inr (2, [.ref qw, .ref qh])), (qw, .inl (cI, 10, .inl fw)), (qh, .inl (cI, 10, .inl fh))]) [2, 3, 4] rfl, va_K.moved hW.alike hK⟩)⟩ rfl rfl hl.1 rfl (lv_room (Nat.le_of_ble_eq_true rfl)) dX0_compareBands_14 ⟨Nat.le_of_ble_eq_true rfl, Nat.le_of_ble_eq_true rfl⟩) hS (fun q _ h => h.elim) (fun q h => h.elim) (fun r8 u t H locs ht hvm hw hB hz1 hk1 hS => ?_)
  rw [hw]
  have hP := zk hP hk1
  refine lv_aload_n hx hb dX0_compareBands_17 rfl (lv_at hl 0 rfl) ?_
  refine lv_iload_n hx hb dX0_compareBands_18 rfl (lv_at hl 2 rfl) ?_
  refine va_calli (va_runV (As := [.int b1]) (rest := [.long (s_X2_bandArea fw fh b2), .long ((s_X2_bandArea fw fh b1) * ((s_X0_truthOf ft b2).toInt64))]) ⟨hx, hb, hml, hown, hts⟩ (c_X0_truthOf l D cI cZ cJ cD qb qt ft b1 ) (cwV 1 hts gX0_compareBands_X0_truthOf rfl rfl rfl (by decide +kernel) ⟨Nat.le_of_ble_eq_true rfl, Nat.le_of_ble_eq_true rfl⟩) ⟨zblind, va_recv hK hP (ci := 0) (q0 := 0) rfl rfl, (fun U hU hW => ⟨rfl, by rw [hU]; exact hP.sub (ws' := [(qb, .inr (0, [.ref qt])), (qt, .inl (cI, 9, .inl ft))]) [0, 1] rfl, va_K.moved hW.alike hK⟩)⟩ rfl rfl hl.1 rfl (lv_room (Nat.le_of_ble_eq_true rfl)) dX0_compareBands_19 ⟨Nat.le_of_ble_eq_true rfl, Nat.le_of_ble_eq_true rfl⟩) hS (fun q _ h => h.elim) (fun q h => h.elim) (fun r9 u t H locs ht hvm hw hB hz1 hk1 hS => ?_)
  rw [hw]
  have hP := zk hP hk1
  refine lv_i2l hx hb dX0_compareBands_22 rfl ?_
  refine lv_lmul hx hb dX0_compareBands_23 ?_
  refine va_calli (va_runS (As := [.long ((s_X2_bandArea fw fh b1) * ((s_X0_truthOf ft b2).toInt64)), .long ((s_X2_bandArea fw fh b2) * ((s_X0_truthOf ft b1).toInt64))]) (rest := []) ⟨hx, hb, hml, hown, hts⟩ (c_J13_compare_74951 l D cI cZ cJ cD ((s_X2_bandArea fw fh b1) * ((s_X0_truthOf ft b2).toInt64)) ((s_X2_bandArea fw fh b2) * ((s_X0_truthOf ft b1).toInt64)) ) (va_cwS 2 hts gX0_compareBands_J13_compare_74951 rfl rfl rfl (by decide +kernel) ⟨Nat.le_of_ble_eq_true rfl, Nat.le_of_ble_eq_true rfl⟩) ⟨zblind, (fun U hU hW => ⟨rfl, by rw [hU]; exact hP.sub (ws' := []) [] rfl, va_K.moved hW.alike hK⟩)⟩ rfl rfl hl.1 rfl (lv_room (Nat.le_of_ble_eq_true rfl)) dX0_compareBands_24 ⟨Nat.le_of_ble_eq_true rfl, Nat.le_of_ble_eq_true rfl⟩) hS (fun q _ h => h.elim) (fun q h => h.elim) (fun r10 u t H locs ht hvm hw hB hz1 hk1 hS => ?_)
  rw [hw]
  have hP := zk hP hk1
  have e11 : s_X0_compareBands ft fw fh b1 b2 = s_J13_compare_74951 ((s_X2_bandArea fw fh b1) * ((s_X0_truthOf ft b2).toInt64)) ((s_X2_bandArea fw fh b2) * ((s_X0_truthOf ft b1).toInt64)) := rfl
  exact W.iret (v := (s_J13_compare_74951 ((s_X2_bandArea fw fh b1) * ((s_X0_truthOf ft b2).toInt64)) ((s_X2_bandArea fw fh b2) * ((s_X0_truthOf ft b1).toInt64)))) hx hb hr (fun t ht hW => ⟨⟨_, (), rfl, e11.symm, trivial⟩, hS.F ht⟩) hS.2.2 dX0_compareBands_27
def s_X3_replaceBreadth (br : Int32) (nb : Int32) : Int32 := br
def n_X3_replaceBreadth_qz_0 (br : Int32) (nb : Int32) : Int32 := nb
abbrev rm_X3_replaceBreadth : Room := { frames := 0, cells := 0, slots := 0, locals := 0 }
abbrev Qc_X3_replaceBreadth (D : va_G) (cI cZ cJ cD : ClassId) (qz : Nat) (br : Int32) (nb : Int32) (A : Nat → Prop) : Array Value → State → Outcome → State → Prop := va_Qi (fun (r : Int32) (_ : Unit) => r = s_X3_replaceBreadth br nb) (zPost D cI cZ cJ cD A [(qz, .inr (3, [.int (n_X3_replaceBreadth_qz_0 br nb)]))]) A
set_option maxHeartbeats 4000000 in
set_option maxRecDepth 100000 in
theorem c_X3_replaceBreadth (l : Launch) (D : va_G) (cI cZ cJ cD : ClassId) (qz : Nat) (br : Int32) (nb : Int32) (sz : Nat)  : Met l yX3_replaceBreadth wsX3_replaceBreadth rm_X3_replaceBreadth (va_Pc [.ref qz, .int nb] (zPreW D cI cZ cJ cD [(qz, .inr (3, [.int br]))] sz)) (Qc_X3_replaceBreadth D cI cZ cJ cD qz br nb (va_A [(qz, .inr (3, [.int br]))] sz)) 0 0 (va_A [(qz, .inr (3, [.int br]))] sz) := by
  refine Met.ofW (cc := cX3_replaceBreadth) (maxL := 3) (ret := (some .int)) (by decide) rfl ?_
  intro p e s m args below meth c s₁ B hml hv
  obtain ⟨rfl, hsz, hP, hK, hD0⟩ := hv
  have hx := B.exec
  have hb := B.bytes
  have hr := B.returns
  have hts := atoms_spec (ws := wsX3_replaceBreadth) B.pre
  have hown : s.vm.findClass RX3 = some m.cls := findClass_of_methodNamed B.named
  have hlocks := B.notSynchronized
  subst hsz
  have hD := hD0.self (sz := s.heap.size)
  generalize hAe : va_A [(qz, .inr (3, [.int br]))] s.heap.size = A at hD ⊢
  have hA : ∀ q : Nat, s.heap.size ≤ q → A q := fun q h => by rw [← hAe]; exact Or.inr h
  have hS : va_S A s.heap s.heap [] := va_S.rf
  have hl := lv_entry ([.ref qz, .int nb]) (n := 3) (Nat.le_of_ble_eq_true rfl)
  rw [lg_entry_eq]
  generalize (lg_sl ([.ref qz, .int nb]) ++ List.replicate (3 - (lg_sl ([.ref qz, .int nb])).length) Slot.unset).toArray = ls at hl ⊢
  have hl : lv_has ls 3 [(0, .ref qz), (1, .int nb)] := hl
  have hP : va_P D vwCl [(qz, .inr (3, [.int br]))] s.heap := hP
  have hP := hP
  refine lv_aload_n hx hb dX3_replaceBreadth_0 rfl (lv_at hl 0 rfl) ?_
  refine va_get (D := D) (ci := 3) (v := .int br) (C := RX3) (T := TX3) (N := 1) hx hb hts (fun w h => List.mem_cons_of_mem _ (List.mem_append_right _ h)) hown hK hP 0 rfl rfl 0 (by decide) (hts (.fieldLink RX3 9 "AtlasFolder$ZoneRing" "breadth" "I") (List.mem_cons_of_mem _ (List.mem_append_left _ (List.mem_of_getElem? (i := 0) rfl)))) (fun _ h9 => h9) rfl dX3_replaceBreadth_1 ?_
  refine lv_istore_n (lv' := [(2, .int br), (0, .ref qz), (1, .int nb)]) hx hb dX3_replaceBreadth_4 rfl hl (by decide) rfl (fun ls hl => ?_)
  refine lv_aload_n hx hb dX3_replaceBreadth_5 rfl (lv_at hl 1 rfl) ?_
  refine lv_iload_n hx hb dX3_replaceBreadth_6 rfl (lv_at hl 2 rfl) ?_
  refine va_put (D := D) (ci := 3) (v := .int nb) (ty := .int) (C := RX3) (T := TX3) (N := 1) hx hb hts (fun w h => List.mem_cons_of_mem _ (List.mem_append_right _ h)) tyX3 tyX3_ok nmX3 hown hK hP hD hS 0 rfl rfl 0 (by decide) (hts (.fieldLink RX3 9 "AtlasFolder$ZoneRing" "breadth" "I") (List.mem_cons_of_mem _ (List.mem_append_left _ (List.mem_of_getElem? (i := 0) rfl)))) (fun _ h9 => h9) rfl (by decide +kernel) rfl rfl (Nat.le_of_ble_eq_true rfl) dX3_replaceBreadth_7 (fun H locs hP hD hS => ?_)
  have hP : va_P D vwCl [(qz, .inr (3, [.int nb]))] H := hP
  have hD : va_D A [(qz, .inr (3, [.int nb]))] := hD
  refine lv_iload_n hx hb dX3_replaceBreadth_10 rfl (lv_at hl 0 rfl) ?_
  have e1 : s_X3_replaceBreadth br nb = br := rfl
  have e2 : n_X3_replaceBreadth_qz_0 br nb = nb := rfl
  exact W.iret (v := br) hx hb hr (fun t ht hW => ⟨⟨_, (), rfl, e1.symm, ⟨(by rw [e2]; rw [ht]; exact hP), va_K.moved hW.alike hK, (by rw [e2]; exact hD)⟩⟩, hS.F ht⟩) hS.2.2 dX3_replaceBreadth_11
def s_X3_zonesBefore (br : Int32) (lon : Int32) : Int32 := (if 1 ≤ br then (lon - (-180)) / br else 0)
abbrev rm_X3_zonesBefore : Room := { frames := 0, cells := 0, slots := 0, locals := 0 }
abbrev Qc_X3_zonesBefore (D : va_G) (cI cZ cJ cD : ClassId) (qz : Nat) (br : Int32) (lon : Int32) : Array Value → State → Outcome → State → Prop := va_Qi (fun (r : Int32) (_ : Unit) => r = s_X3_zonesBefore br lon) (fun _ _ => True) (fun _ : Nat => False)
set_option maxHeartbeats 4000000 in
set_option maxRecDepth 100000 in
theorem c_X3_zonesBefore (l : Launch) (D : va_G) (cI cZ cJ cD : ClassId) (qz : Nat) (br : Int32) (lon : Int32)  : Met l yX3_zonesBefore wsX3_zonesBefore rm_X3_zonesBefore (va_Pc [.ref qz, .int lon] (zPre D cI cZ cJ cD [(qz, .inr (3, [.int br]))])) (Qc_X3_zonesBefore D cI cZ cJ cD qz br lon ) 0 0 (fun _ : Nat => False) := by
  refine Met.ofW (cc := cX3_zonesBefore) (maxL := 2) (ret := (some .int)) (by decide) rfl ?_
  intro p e s m args below meth c s₁ B hml hv
  obtain ⟨rfl, hP, hK⟩ := hv
  have hx := B.exec
  have hb := B.bytes
  have hr := B.returns
  have hts := atoms_spec (ws := wsX3_zonesBefore) B.pre
  have hown : s.vm.findClass RX3 = some m.cls := findClass_of_methodNamed B.named
  have hlocks := B.notSynchronized
  have hS : va_S (fun _ : Nat => False) s.heap s.heap [] := va_S.rf
  have hl := lv_entry ([.ref qz, .int lon]) (n := 2) (Nat.le_of_ble_eq_true rfl)
  rw [lg_entry_eq]
  generalize (lg_sl ([.ref qz, .int lon]) ++ List.replicate (2 - (lg_sl ([.ref qz, .int lon])).length) Slot.unset).toArray = ls at hl ⊢
  have hl : lv_has ls 2 [(0, .ref qz), (1, .int lon)] := hl
  have hP : va_P D vwCl [(qz, .inr (3, [.int br]))] s.heap := hP
  have hP := hP
  refine lv_aload_n hx hb dX3_zonesBefore_0 rfl (lv_at hl 0 rfl) ?_
  refine va_get (D := D) (ci := 3) (v := .int br) (C := RX3) (T := TX3) (N := 1) hx hb hts (fun w h => List.mem_cons_of_mem _ (List.mem_append_right _ h)) hown hK hP 0 rfl rfl 0 (by decide) (hts (.fieldLink RX3 9 "AtlasFolder$ZoneRing" "breadth" "I") (List.mem_cons_of_mem _ (List.mem_append_left _ (List.mem_of_getElem? (i := 0) rfl)))) (fun _ h9 => h9) rfl dX3_zonesBefore_1 ?_
  refine lv_iconst (v := 1) hx hb dX3_zonesBefore_4 (by decide) ?_
  have K5 : ∀ v5_0 : Int32, v5_0 = (if 1 ≤ br then (lon - (-180)) / br else 0) → ∀ (H : Heap) (locs : List Loc), va_P D vwCl [(qz, .inr (3, [.int br]))] H → va_S (fun _ : Nat => False) s.heap H locs → ∀ (ls : Array Slot), lv_has ls 2 [(0, .ref qz), (1, .int lon)] → W p l e (headSpec wsX3_zonesBefore rm_X3_zonesBefore).room s m ([.ref qz, .int lon]).toArray below meth c H locs 0 0 (MQ below (Qc_X3_zonesBefore D cI cZ cJ cD qz br lon) ([.ref qz, .int lon]).toArray s 0 0 (fun _ : Nat => False)) (F0 m 22 ls [.int v5_0]) := by
    intro v5_0 hv5_0 H locs hP hS ls hl
    subst hv5_0
    have e6 : s_X3_zonesBefore br lon = (if 1 ≤ br then (lon - (-180)) / br else 0) := rfl
    exact W.iret (v := (if 1 ≤ br then (lon - (-180)) / br else 0)) hx hb hr (fun t ht hW => ⟨⟨_, (), rfl, e6.symm, trivial⟩, hS.F ht⟩) hS.2.2 dX3_zonesBefore_22
  refine lv_icmp_ge (tgt := 12) hx hb dX3_zonesBefore_5 (by decide) (fun c7 => ?_) (fun c7 => ?_)
  · refine lv_iload_n hx hb dX3_zonesBefore_12 rfl (lv_at hl 1 rfl) ?_
    refine lv_sipush (v := (-180)) hx hb dX3_zonesBefore_13 (by decide) ?_
    refine lv_isub hx hb dX3_zonesBefore_16 ?_
    refine lv_aload_n hx hb dX3_zonesBefore_17 rfl (lv_at hl 0 rfl) ?_
    refine va_get (D := D) (ci := 3) (v := .int br) (C := RX3) (T := TX3) (N := 1) hx hb hts (fun w h => List.mem_cons_of_mem _ (List.mem_append_right _ h)) hown hK hP 0 rfl rfl 0 (by decide) (hts (.fieldLink RX3 9 "AtlasFolder$ZoneRing" "breadth" "I") (List.mem_cons_of_mem _ (List.mem_append_left _ (List.mem_of_getElem? (i := 0) rfl)))) (fun _ h9 => h9) rfl dX3_zonesBefore_18 ?_
    refine lv_idiv hx hb dX3_zonesBefore_21 (z_nz1 c7) ?_
    exact K5 _ (if_pos c7).symm _ _ hP hS _ (lv_sub hl [0, 1] rfl)
  · refine lv_iconst (v := 0) hx hb dX3_zonesBefore_8 (by decide) ?_
    refine lv_goto (tgt := 22) hx hb dX3_zonesBefore_9 (by decide) ?_
    exact K5 _ (if_neg c7).symm _ _ hP hS _ (lv_sub hl [0, 1] rfl)
def s_X3_seamsEastOf (br : Int32) (so : Int32) (dg : Int32) : Int32 := (s_X3_zonesBefore br (so + dg)) - (s_X3_zonesBefore br so)
abbrev rm_X3_seamsEastOf : Room := { frames := 1, cells := 0, slots := 0, locals := 21 }
abbrev Qc_X3_seamsEastOf (D : va_G) (cI cZ cJ cD : ClassId) (qz : Nat) (br : Int32) (so : Int32) (dg : Int32) : Array Value → State → Outcome → State → Prop := va_Qi (fun (r : Int32) (_ : Unit) => r = s_X3_seamsEastOf br so dg) (fun _ _ => True) (fun _ : Nat => False)
set_option maxHeartbeats 4000000 in
set_option maxRecDepth 100000 in
theorem c_X3_seamsEastOf (l : Launch) (D : va_G) (cI cZ cJ cD : ClassId) (qz : Nat) (br : Int32) (so : Int32) (dg : Int32)  : Met l yX3_seamsEastOf wsX3_seamsEastOf rm_X3_seamsEastOf (va_Pc [.ref qz, .int so, .int dg] (zPre D cI cZ cJ cD [(qz, .inr (3, [.int br]))])) (Qc_X3_seamsEastOf D cI cZ cJ cD qz br so dg ) 0 0 (fun _ : Nat => False) := by
  refine Met.ofW (cc := cX3_seamsEastOf) (maxL := 3) (ret := (some .int)) (by decide) rfl ?_
  intro p e s m args below meth c s₁ B hml hv
  obtain ⟨rfl, hP, hK⟩ := hv
  have hx := B.exec
  have hb := B.bytes
  have hr := B.returns
  have hts := atoms_spec (ws := wsX3_seamsEastOf) B.pre
  have hown : s.vm.findClass RX3 = some m.cls := findClass_of_methodNamed B.named
  have hlocks := B.notSynchronized
  have hS : va_S (fun _ : Nat => False) s.heap s.heap [] := va_S.rf
  have hl := lv_entry ([.ref qz, .int so, .int dg]) (n := 3) (Nat.le_of_ble_eq_true rfl)
  rw [lg_entry_eq]
  generalize (lg_sl ([.ref qz, .int so, .int dg]) ++ List.replicate (3 - (lg_sl ([.ref qz, .int so, .int dg])).length) Slot.unset).toArray = ls at hl ⊢
  have hl : lv_has ls 3 [(0, .ref qz), (1, .int so), (2, .int dg)] := hl
  have hP : va_P D vwCl [(qz, .inr (3, [.int br]))] s.heap := hP
  have hP := hP
  refine lv_aload_n hx hb dX3_seamsEastOf_0 rfl (lv_at hl 0 rfl) ?_
  refine lv_iload_n hx hb dX3_seamsEastOf_1 rfl (lv_at hl 1 rfl) ?_
  refine lv_iload_n hx hb dX3_seamsEastOf_2 rfl (lv_at hl 2 rfl) ?_
  refine lv_iadd hx hb dX3_seamsEastOf_3 ?_
  refine va_calli (va_runV (As := [.int (so + dg)]) (rest := []) ⟨hx, hb, hml, hown, hts⟩ (c_X3_zonesBefore l D cI cZ cJ cD qz br (so + dg) ) (cwV 1 hts gX3_seamsEastOf_X3_zonesBefore rfl rfl rfl (by decide +kernel) ⟨Nat.le_of_ble_eq_true rfl, Nat.le_of_ble_eq_true rfl⟩) ⟨zblind, va_recv hK hP (ci := 3) (q0 := 0) rfl rfl, (fun U hU hW => ⟨rfl, by rw [hU]; exact hP.sub (ws' := [(qz, .inr (3, [.int br]))]) [0] rfl, va_K.moved hW.alike hK⟩)⟩ rfl rfl hl.1 rfl (lv_room (Nat.le_of_ble_eq_true rfl)) dX3_seamsEastOf_4 ⟨Nat.le_of_ble_eq_true rfl, Nat.le_of_ble_eq_true rfl⟩) hS (fun q _ h => h.elim) (fun q h => h.elim) (fun r3 u t H locs ht hvm hw hB hz1 hk1 hS => ?_)
  rw [hw]
  have hP := zk hP hk1
  refine lv_aload_n hx hb dX3_seamsEastOf_7 rfl (lv_at hl 0 rfl) ?_
  refine lv_iload_n hx hb dX3_seamsEastOf_8 rfl (lv_at hl 1 rfl) ?_
  refine va_calli (va_runV (As := [.int so]) (rest := [.int (s_X3_zonesBefore br (so + dg))]) ⟨hx, hb, hml, hown, hts⟩ (c_X3_zonesBefore l D cI cZ cJ cD qz br so ) (cwV 1 hts gX3_seamsEastOf_X3_zonesBefore rfl rfl rfl (by decide +kernel) ⟨Nat.le_of_ble_eq_true rfl, Nat.le_of_ble_eq_true rfl⟩) ⟨zblind, va_recv hK hP (ci := 3) (q0 := 0) rfl rfl, (fun U hU hW => ⟨rfl, by rw [hU]; exact hP.sub (ws' := [(qz, .inr (3, [.int br]))]) [0] rfl, va_K.moved hW.alike hK⟩)⟩ rfl rfl hl.1 rfl (lv_room (Nat.le_of_ble_eq_true rfl)) dX3_seamsEastOf_9 ⟨Nat.le_of_ble_eq_true rfl, Nat.le_of_ble_eq_true rfl⟩) hS (fun q _ h => h.elim) (fun q h => h.elim) (fun r4 u t H locs ht hvm hw hB hz1 hk1 hS => ?_)
  rw [hw]
  have hP := zk hP hk1
  refine lv_isub hx hb dX3_seamsEastOf_12 ?_
  have e5 : s_X3_seamsEastOf br so dg = (s_X3_zonesBefore br (so + dg)) - (s_X3_zonesBefore br so) := rfl
  exact W.iret (v := ((s_X3_zonesBefore br (so + dg)) - (s_X3_zonesBefore br so))) hx hb hr (fun t ht hW => ⟨⟨_, (), rfl, e5.symm, trivial⟩, hS.F ht⟩) hS.2.2 dX3_seamsEastOf_13
def s_X4_degreesEast (o1 : Int32) (o2 : Int32) : Int32 := (if 0 ≤ (o2 - o1) then o2 - o1 else (o2 - o1) + 360)
abbrev rm_X4_degreesEast : Room := { frames := 0, cells := 0, slots := 0, locals := 0 }
abbrev Qc_X4_degreesEast (D : va_G) (cI cZ cJ cD : ClassId) (o1 : Int32) (o2 : Int32) : Array Value → State → Outcome → State → Prop := va_Qi (fun (r : Int32) (_ : Unit) => r = s_X4_degreesEast o1 o2) (fun _ _ => True) (fun _ : Nat => False)
set_option maxHeartbeats 4000000 in
set_option maxRecDepth 100000 in
theorem c_X4_degreesEast (l : Launch) (D : va_G) (cI cZ cJ cD : ClassId) (o1 : Int32) (o2 : Int32)  : Met l yX4_degreesEast wsX4_degreesEast rm_X4_degreesEast (va_Pc [.int o1, .int o2] (zPre D cI cZ cJ cD [])) (Qc_X4_degreesEast D cI cZ cJ cD o1 o2 ) 0 0 (fun _ : Nat => False) := by
  refine Met.ofW (cc := cX4_degreesEast) (maxL := 3) (ret := (some .int)) (by decide) rfl ?_
  intro p e s m args below meth c s₁ B hml hv
  obtain ⟨rfl, hP, hK⟩ := hv
  have hx := B.exec
  have hb := B.bytes
  have hr := B.returns
  have hts := atoms_spec (ws := wsX4_degreesEast) B.pre
  have hown : s.vm.findClass RX4 = some m.cls := findClass_of_methodNamed B.named
  have hlocks := B.notSynchronized
  have hS : va_S (fun _ : Nat => False) s.heap s.heap [] := va_S.rf
  have hl := lv_entry ([.int o1, .int o2]) (n := 3) (Nat.le_of_ble_eq_true rfl)
  rw [lg_entry_eq]
  generalize (lg_sl ([.int o1, .int o2]) ++ List.replicate (3 - (lg_sl ([.int o1, .int o2])).length) Slot.unset).toArray = ls at hl ⊢
  have hl : lv_has ls 3 [(0, .int o1), (1, .int o2)] := hl
  have hP : va_P D vwCl [] s.heap := hP
  have hP := hP
  refine lv_iload_n hx hb dX4_degreesEast_0 rfl (lv_at hl 1 rfl) ?_
  refine lv_iload_n hx hb dX4_degreesEast_1 rfl (lv_at hl 0 rfl) ?_
  refine lv_isub hx hb dX4_degreesEast_2 ?_
  refine lv_istore_n (lv' := [(2, .int (o2 - o1)), (0, .int o1), (1, .int o2)]) hx hb dX4_degreesEast_3 rfl hl (by decide) rfl (fun ls hl => ?_)
  refine lv_iload_n hx hb dX4_degreesEast_4 rfl (lv_at hl 0 rfl) ?_
  have K5 : ∀ v5_0 : Int32, v5_0 = (if 0 ≤ (o2 - o1) then o2 - o1 else (o2 - o1) + 360) → ∀ (H : Heap) (locs : List Loc), va_P D vwCl [] H → va_S (fun _ : Nat => False) s.heap H locs → ∀ (ls : Array Slot), lv_has ls 3 [(2, .int (o2 - o1)), (0, .int o1), (1, .int o2)] → W p l e (headSpec wsX4_degreesEast rm_X4_degreesEast).room s m ([.int o1, .int o2]).toArray below meth c H locs 0 0 (MQ below (Qc_X4_degreesEast D cI cZ cJ cD o1 o2) ([.int o1, .int o2]).toArray s 0 0 (fun _ : Nat => False)) (F0 m 17 ls [.int v5_0]) := by
    intro v5_0 hv5_0 H locs hP hS ls hl
    subst hv5_0
    have e6 : s_X4_degreesEast o1 o2 = (if 0 ≤ (o2 - o1) then o2 - o1 else (o2 - o1) + 360) := rfl
    exact W.iret (v := (if 0 ≤ (o2 - o1) then o2 - o1 else (o2 - o1) + 360)) hx hb hr (fun t ht hW => ⟨⟨_, (), rfl, e6.symm, trivial⟩, hS.F ht⟩) hS.2.2 dX4_degreesEast_17
  refine lv_if_ge (tgt := 16) hx hb dX4_degreesEast_5 (by decide) (fun c7 => ?_) (fun c7 => ?_)
  · refine lv_iload_n hx hb dX4_degreesEast_16 rfl (lv_at hl 0 rfl) ?_
    exact K5 _ (if_pos c7).symm _ _ hP hS _ (lv_sub hl [0, 1, 2] rfl)
  · refine lv_iload_n hx hb dX4_degreesEast_8 rfl (lv_at hl 0 rfl) ?_
    refine lv_sipush (v := 360) hx hb dX4_degreesEast_9 (by decide) ?_
    refine lv_iadd hx hb dX4_degreesEast_12 ?_
    refine lv_goto (tgt := 17) hx hb dX4_degreesEast_13 (by decide) ?_
    exact K5 _ (if_neg c7).symm _ _ hP hS _ (lv_sub hl [0, 1, 2] rfl)
def s_X4_goesEast (o1 : Int32) (o2 : Int32) : Int32 := (if 180 < (s_X4_degreesEast o1 o2) then 0 else 1)
abbrev rm_X4_goesEast : Room := { frames := 1, cells := 0, slots := 0, locals := 22 }
abbrev Qc_X4_goesEast (D : va_G) (cI cZ cJ cD : ClassId) (o1 : Int32) (o2 : Int32) : Array Value → State → Outcome → State → Prop := va_Qi (fun (r : Int32) (_ : Unit) => r = s_X4_goesEast o1 o2) (fun _ _ => True) (fun _ : Nat => False)
set_option maxHeartbeats 4000000 in
set_option maxRecDepth 100000 in
theorem c_X4_goesEast (l : Launch) (D : va_G) (cI cZ cJ cD : ClassId) (o1 : Int32) (o2 : Int32)  : Met l yX4_goesEast wsX4_goesEast rm_X4_goesEast (va_Pc [.int o1, .int o2] (zPre D cI cZ cJ cD [])) (Qc_X4_goesEast D cI cZ cJ cD o1 o2 ) 0 0 (fun _ : Nat => False) := by
  refine Met.ofW (cc := cX4_goesEast) (maxL := 2) (ret := (some .boolean)) (by decide) rfl ?_
  intro p e s m args below meth c s₁ B hml hv
  obtain ⟨rfl, hP, hK⟩ := hv
  have hx := B.exec
  have hb := B.bytes
  have hr := B.returns
  have hts := atoms_spec (ws := wsX4_goesEast) B.pre
  have hown : s.vm.findClass RX4 = some m.cls := findClass_of_methodNamed B.named
  have hlocks := B.notSynchronized
  have hS : va_S (fun _ : Nat => False) s.heap s.heap [] := va_S.rf
  have hl := lv_entry ([.int o1, .int o2]) (n := 2) (Nat.le_of_ble_eq_true rfl)
  rw [lg_entry_eq]
  generalize (lg_sl ([.int o1, .int o2]) ++ List.replicate (2 - (lg_sl ([.int o1, .int o2])).length) Slot.unset).toArray = ls at hl ⊢
  have hl : lv_has ls 2 [(0, .int o1), (1, .int o2)] := hl
  have hP : va_P D vwCl [] s.heap := hP
  have hP := hP
  refine lv_iload_n hx hb dX4_goesEast_0 rfl (lv_at hl 0 rfl) ?_
  refine lv_iload_n hx hb dX4_goesEast_1 rfl (lv_at hl 1 rfl) ?_
  refine va_calli (va_runS (As := [.int o1, .int o2]) (rest := []) ⟨hx, hb, hml, hown, hts⟩ (c_X4_degreesEast l D cI cZ cJ cD o1 o2 ) (va_cwS 2 hts gX4_goesEast_X4_degreesEast rfl rfl rfl (by decide +kernel) ⟨Nat.le_of_ble_eq_true rfl, Nat.le_of_ble_eq_true rfl⟩) ⟨zblind, (fun U hU hW => ⟨rfl, by rw [hU]; exact hP.sub (ws' := []) [] rfl, va_K.moved hW.alike hK⟩)⟩ rfl rfl hl.1 rfl (lv_room (Nat.le_of_ble_eq_true rfl)) dX4_goesEast_2 ⟨Nat.le_of_ble_eq_true rfl, Nat.le_of_ble_eq_true rfl⟩) hS (fun q _ h => h.elim) (fun q h => h.elim) (fun r5 u t H locs ht hvm hw hB hz1 hk1 hS => ?_)
  rw [hw]
  have hP := zk hP hk1
  refine lv_sipush (v := 180) hx hb dX4_goesEast_5 (by decide) ?_
  have K7 : ∀ v7_0 : Int32, v7_0 = (if 180 < (s_X4_degreesEast o1 o2) then 0 else 1) → ∀ (H : Heap) (locs : List Loc), va_P D vwCl [] H → va_S (fun _ : Nat => False) s.heap H locs → ∀ (ls : Array Slot), lv_has ls 2 [(0, .int o1), (1, .int o2)] → W p l e (headSpec wsX4_goesEast rm_X4_goesEast).room s m ([.int o1, .int o2]).toArray below meth c H locs 0 0 (MQ below (Qc_X4_goesEast D cI cZ cJ cD o1 o2) ([.int o1, .int o2]).toArray s 0 0 (fun _ : Nat => False)) (F0 m 16 ls [.int v7_0]) := by
    intro v7_0 hv7_0 H locs hP hS ls hl
    subst hv7_0
    have e8 : s_X4_goesEast o1 o2 = (if 180 < (s_X4_degreesEast o1 o2) then 0 else 1) := rfl
    exact W.zret (v := (if 180 < (s_X4_degreesEast o1 o2) then 0 else 1)) hx hb hr (z_b (by (repeat' split) <;> simp)) (fun t ht hW => ⟨⟨_, (), rfl, e8.symm, trivial⟩, hS.F ht⟩) hS.2.2 dX4_goesEast_16
  refine lv_icmp_gt (tgt := 15) hx hb dX4_goesEast_8 (by decide) (fun c9 => ?_) (fun c9 => ?_)
  · refine lv_iconst (v := 0) hx hb dX4_goesEast_15 (by decide) ?_
    exact K7 _ (if_pos c9).symm _ _ hP hS _ (lv_sub hl [0, 1] rfl)
  · refine lv_iconst (v := 1) hx hb dX4_goesEast_11 (by decide) ?_
    refine lv_goto (tgt := 16) hx hb dX4_goesEast_12 (by decide) ?_
    exact K7 _ (if_neg c9).symm _ _ hP hS _ (lv_sub hl [0, 1] rfl)
def s_X4_shorterWay (o1 : Int32) (o2 : Int32) : Int32 := (if (360 - (s_X4_degreesEast o1 o2)) < (s_X4_degreesEast o1 o2) then (360 - (s_X4_degreesEast o1 o2)) else (s_X4_degreesEast o1 o2))
abbrev rm_X4_shorterWay : Room := { frames := 1, cells := 0, slots := 0, locals := 22 }
abbrev Qc_X4_shorterWay (D : va_G) (cI cZ cJ cD : ClassId) (o1 : Int32) (o2 : Int32) : Array Value → State → Outcome → State → Prop := va_Qi (fun (r : Int32) (_ : Unit) => r = s_X4_shorterWay o1 o2) (fun _ _ => True) (fun _ : Nat => False)
set_option maxHeartbeats 4000000 in
set_option maxRecDepth 100000 in
theorem c_X4_shorterWay (l : Launch) (D : va_G) (cI cZ cJ cD : ClassId) (o1 : Int32) (o2 : Int32)  : Met l yX4_shorterWay wsX4_shorterWay rm_X4_shorterWay (va_Pc [.int o1, .int o2] (zPre D cI cZ cJ cD [])) (Qc_X4_shorterWay D cI cZ cJ cD o1 o2 ) 0 0 (fun _ : Nat => False) := by
  refine Met.ofW (cc := cX4_shorterWay) (maxL := 3) (ret := (some .int)) (by decide) rfl ?_
  intro p e s m args below meth c s₁ B hml hv
  obtain ⟨rfl, hP, hK⟩ := hv
  have hx := B.exec
  have hb := B.bytes
  have hr := B.returns
  have hts := atoms_spec (ws := wsX4_shorterWay) B.pre
  have hown : s.vm.findClass RX4 = some m.cls := findClass_of_methodNamed B.named
  have hlocks := B.notSynchronized
  have hS : va_S (fun _ : Nat => False) s.heap s.heap [] := va_S.rf
  have hl := lv_entry ([.int o1, .int o2]) (n := 3) (Nat.le_of_ble_eq_true rfl)
  rw [lg_entry_eq]
  generalize (lg_sl ([.int o1, .int o2]) ++ List.replicate (3 - (lg_sl ([.int o1, .int o2])).length) Slot.unset).toArray = ls at hl ⊢
  have hl : lv_has ls 3 [(0, .int o1), (1, .int o2)] := hl
  have hP : va_P D vwCl [] s.heap := hP
  have hP := hP
  refine lv_iload_n hx hb dX4_shorterWay_0 rfl (lv_at hl 0 rfl) ?_
  refine lv_iload_n hx hb dX4_shorterWay_1 rfl (lv_at hl 1 rfl) ?_
  refine va_calli (va_runS (As := [.int o1, .int o2]) (rest := []) ⟨hx, hb, hml, hown, hts⟩ (c_X4_degreesEast l D cI cZ cJ cD o1 o2 ) (va_cwS 2 hts gX4_shorterWay_X4_degreesEast rfl rfl rfl (by decide +kernel) ⟨Nat.le_of_ble_eq_true rfl, Nat.le_of_ble_eq_true rfl⟩) ⟨zblind, (fun U hU hW => ⟨rfl, by rw [hU]; exact hP.sub (ws' := []) [] rfl, va_K.moved hW.alike hK⟩)⟩ rfl rfl hl.1 rfl (lv_room (Nat.le_of_ble_eq_true rfl)) dX4_shorterWay_2 ⟨Nat.le_of_ble_eq_true rfl, Nat.le_of_ble_eq_true rfl⟩) hS (fun q _ h => h.elim) (fun q h => h.elim) (fun r2 u t H locs ht hvm hw hB hz1 hk1 hS => ?_)
  rw [hw]
  have hP := zk hP hk1
  refine lv_istore_n (lv' := [(2, .int (s_X4_degreesEast o1 o2)), (0, .int o1), (1, .int o2)]) hx hb dX4_shorterWay_5 rfl hl (by decide) rfl (fun ls hl => ?_)
  refine lv_iload_n hx hb dX4_shorterWay_6 rfl (lv_at hl 0 rfl) ?_
  refine lv_sipush (v := 360) hx hb dX4_shorterWay_7 (by decide) ?_
  refine lv_iload_n hx hb dX4_shorterWay_10 rfl (lv_at hl 0 rfl) ?_
  refine lv_isub hx hb dX4_shorterWay_11 ?_
  refine va_mmin hx hb (hml.trans hl.1.symm) hown (hts (.methodLink RX4 198 Lib.Math.min.name) (List.mem_cons_of_mem _ (List.mem_of_getElem? (i := 0) rfl))) (hts (.static Lib.Math.min.name) (List.mem_cons_of_mem _ (List.mem_of_getElem? (i := 1) rfl))) (hts (.initialized "java/lang/Math") (List.mem_cons_of_mem _ (List.mem_of_getElem? (i := 2) rfl))) (hts (.code Lib.Math.min.name Lib.Math.min.code 2 (some .int)) (List.mem_cons_of_mem _ (List.mem_of_getElem? (i := 3) rfl))) (Nat.le_of_ble_eq_true rfl) (Nat.le_of_ble_eq_true rfl) (Nat.le_of_ble_eq_true rfl) (Nat.le_of_ble_eq_true rfl) dX4_shorterWay_12 ?_
  have e3 : s_X4_shorterWay o1 o2 = (if (360 - (s_X4_degreesEast o1 o2)) < (s_X4_degreesEast o1 o2) then (360 - (s_X4_degreesEast o1 o2)) else (s_X4_degreesEast o1 o2)) := rfl
  exact W.iret (v := (if (360 - (s_X4_degreesEast o1 o2)) < (s_X4_degreesEast o1 o2) then (360 - (s_X4_degreesEast o1 o2)) else (s_X4_degreesEast o1 o2))) hx hb hr (fun t ht hW => ⟨⟨_, (), rfl, e3.symm, trivial⟩, hS.F ht⟩) hS.2.2 dX4_shorterWay_15
def k_X4_requireLatitude (lat : Int32) : Nat := (if lat < (-90) then 2 else (if lat ≤ 90 then 0 else 2))
abbrev rm_X4_requireLatitude : Room := { frames := 6, cells := 1, slots := 6, locals := 90 }
abbrev Qc_X4_requireLatitude (D : va_G) (cI cZ cJ cD : ClassId) (lat : Int32) : Array Value → State → Outcome → State → Prop := va_Qv (fun _ : Unit => k_X4_requireLatitude lat = 0) (fun _ _ => True) (fun _ : Nat => False)
abbrev Xc_X4_requireLatitude (D : va_G) (cI cZ cJ cD : ClassId) (lat : Int32) : String → State → State → Prop := vx_X (fun _ : Unit => True) (fun E _ _ => zX E (k_X4_requireLatitude lat)) (fun _ : Nat => False)
set_option maxHeartbeats 4000000 in
set_option maxRecDepth 100000 in
theorem c_X4_requireLatitude (l : Launch) (hnt : l.stackTraces = false) (D : va_G) (cI cZ cJ cD : ClassId) (lat : Int32)  : vx_Met l yX4_requireLatitude wsX4_requireLatitude rm_X4_requireLatitude (va_Pc [.int lat] (zPreE D cI cZ cJ cD [])) (Qc_X4_requireLatitude D cI cZ cJ cD lat ) (Xc_X4_requireLatitude D cI cZ cJ cD lat ) 1 6 (fun _ : Nat => False) := by
  refine vx_ofW (cc := cX4_requireLatitude) (maxL := 1) (ret := none) (by decide) rfl ?_
  intro p e s m args below meth c s₁ B hml ht0 hv
  obtain ⟨rfl, hP, hK, hE⟩ := hv
  have hx := B.exec
  have hb := B.bytes
  have hr := B.returns
  have hts := atoms_spec (ws := wsX4_requireLatitude) B.pre
  have hown : s.vm.findClass RX4 = some m.cls := findClass_of_methodNamed B.named
  have hlocks := B.notSynchronized
  have hS : va_S (fun _ : Nat => False) s.heap s.heap [] := va_S.rf
  have hl := lv_entry ([.int lat]) (n := 1) (Nat.le_of_ble_eq_true rfl)
  rw [lg_entry_eq]
  generalize (lg_sl ([.int lat]) ++ List.replicate (1 - (lg_sl ([.int lat])).length) Slot.unset).toArray = ls at hl ⊢
  have hl : lv_has ls 1 [(0, .int lat)] := hl
  have hP : va_P D vwCl [] s.heap := hP
  have hP := hP
  refine lv_iload_n hx hb dX4_requireLatitude_0 rfl (lv_at hl 0 rfl) ?_
  refine lv_bipush (v := (-90)) hx hb dX4_requireLatitude_1 (by decide) ?_
  refine lv_icmp_lt (tgt := 12) hx hb dX4_requireLatitude_3 (by decide) (fun c3 => ?_) (fun c3 => ?_)
  · have e4 : k_X4_requireLatitude lat = 2 := by
      unfold k_X4_requireLatitude
      exact (if_pos c3)
    obtain ⟨sa, hstr⟩ := hE.str 182 "there is no such latitude" (by decide)
    have hat : ∀ w ∈ vx_atS RX4 48 "java/lang/IllegalArgumentException" ["java/lang/RuntimeException", "java/lang/Exception"], w.before _ s = true := vx_hat (fun w h => hts w (List.mem_cons_of_mem _ (List.mem_append_right _ h))) (B := zBad2) (by decide +kernel) (hE.bad2 _)
    exact vx_throwS (text := "there is no such latitude") (names := ["java/lang/RuntimeException", "java/lang/Exception"]) (A := (fun _ : Nat => False)) hx hb hnt hown (by decide) (by decide) (hts (.classLink RX4 44 "java/lang/IllegalArgumentException") (List.mem_cons_of_mem _ (List.mem_append_left _ (List.mem_of_getElem? (i := 0) rfl)))) (hts (.initialized "java/lang/IllegalArgumentException") (List.mem_cons_of_mem _ (List.mem_append_left _ (List.mem_of_getElem? (i := 1) rfl)))) hstr hat (by decide +kernel) hE.1 hE.2.1 hS (hl.1.trans hml.symm) dX4_requireLatitude_12 dX4_requireLatitude_15 dX4_requireLatitude_16 dX4_requireLatitude_18 dX4_requireLatitude_21 (fun x hx => (ht0 x hx).elim) (by decide) (by decide) (by decide) (by decide) hlocks (fun t hal9 hz9 hk9 => ⟨(), trivial, zX2 e4, zF hS hz9 hk9⟩) hS.2.2 (by decide) (by decide)
  · refine lv_iload_n hx hb dX4_requireLatitude_6 rfl (lv_at hl 0 rfl) ?_
    refine lv_bipush (v := 90) hx hb dX4_requireLatitude_7 (by decide) ?_
    refine lv_icmp_le (tgt := 22) hx hb dX4_requireLatitude_9 (by decide) (fun c5 => ?_) (fun c5 => ?_)
    · refine W.widen (k := 1) (n := 6) (by decide) (by decide) ?_
      have e6 : k_X4_requireLatitude lat = 0 := by
        unfold k_X4_requireLatitude
        exact ((if_neg c3).trans (if_pos c5))
      refine vx_ret ?_
      exact W.vret hx hb hr (fun t ht hW => ⟨⟨(), rfl, e6, trivial⟩, hS.F ht⟩) hS.2.2 dX4_requireLatitude_22
    · have e7 : k_X4_requireLatitude lat = 2 := by
        unfold k_X4_requireLatitude
        exact ((if_neg c3).trans (if_neg c5))
      obtain ⟨sa, hstr⟩ := hE.str 182 "there is no such latitude" (by decide)
      have hat : ∀ w ∈ vx_atS RX4 48 "java/lang/IllegalArgumentException" ["java/lang/RuntimeException", "java/lang/Exception"], w.before _ s = true := vx_hat (fun w h => hts w (List.mem_cons_of_mem _ (List.mem_append_right _ h))) (B := zBad2) (by decide +kernel) (hE.bad2 _)
      exact vx_throwS (text := "there is no such latitude") (names := ["java/lang/RuntimeException", "java/lang/Exception"]) (A := (fun _ : Nat => False)) hx hb hnt hown (by decide) (by decide) (hts (.classLink RX4 44 "java/lang/IllegalArgumentException") (List.mem_cons_of_mem _ (List.mem_append_left _ (List.mem_of_getElem? (i := 0) rfl)))) (hts (.initialized "java/lang/IllegalArgumentException") (List.mem_cons_of_mem _ (List.mem_append_left _ (List.mem_of_getElem? (i := 1) rfl)))) hstr hat (by decide +kernel) hE.1 hE.2.1 hS (hl.1.trans hml.symm) dX4_requireLatitude_12 dX4_requireLatitude_15 dX4_requireLatitude_16 dX4_requireLatitude_18 dX4_requireLatitude_21 (fun x hx => (ht0 x hx).elim) (by decide) (by decide) (by decide) (by decide) hlocks (fun t hal9 hz9 hk9 => ⟨(), trivial, zX2 e7, zF hS hz9 hk9⟩) hS.2.2 (by decide) (by decide)
def k_X4_requireLongitude (lon : Int32) : Nat := (if lon < (-180) then 2 else (if lon ≤ 179 then 0 else 2))
abbrev rm_X4_requireLongitude : Room := { frames := 6, cells := 1, slots := 6, locals := 90 }
abbrev Qc_X4_requireLongitude (D : va_G) (cI cZ cJ cD : ClassId) (lon : Int32) : Array Value → State → Outcome → State → Prop := va_Qv (fun _ : Unit => k_X4_requireLongitude lon = 0) (fun _ _ => True) (fun _ : Nat => False)
abbrev Xc_X4_requireLongitude (D : va_G) (cI cZ cJ cD : ClassId) (lon : Int32) : String → State → State → Prop := vx_X (fun _ : Unit => True) (fun E _ _ => zX E (k_X4_requireLongitude lon)) (fun _ : Nat => False)
set_option maxHeartbeats 4000000 in
set_option maxRecDepth 100000 in
theorem c_X4_requireLongitude (l : Launch) (hnt : l.stackTraces = false) (D : va_G) (cI cZ cJ cD : ClassId) (lon : Int32)  : vx_Met l yX4_requireLongitude wsX4_requireLongitude rm_X4_requireLongitude (va_Pc [.int lon] (zPreE D cI cZ cJ cD [])) (Qc_X4_requireLongitude D cI cZ cJ cD lon ) (Xc_X4_requireLongitude D cI cZ cJ cD lon ) 1 6 (fun _ : Nat => False) := by
  refine vx_ofW (cc := cX4_requireLongitude) (maxL := 1) (ret := none) (by decide) rfl ?_
  intro p e s m args below meth c s₁ B hml ht0 hv
  obtain ⟨rfl, hP, hK, hE⟩ := hv
  have hx := B.exec
  have hb := B.bytes
  have hr := B.returns
  have hts := atoms_spec (ws := wsX4_requireLongitude) B.pre
  have hown : s.vm.findClass RX4 = some m.cls := findClass_of_methodNamed B.named
  have hlocks := B.notSynchronized
  have hS : va_S (fun _ : Nat => False) s.heap s.heap [] := va_S.rf
  have hl := lv_entry ([.int lon]) (n := 1) (Nat.le_of_ble_eq_true rfl)
  rw [lg_entry_eq]
  generalize (lg_sl ([.int lon]) ++ List.replicate (1 - (lg_sl ([.int lon])).length) Slot.unset).toArray = ls at hl ⊢
  have hl : lv_has ls 1 [(0, .int lon)] := hl
  have hP : va_P D vwCl [] s.heap := hP
  have hP := hP
  refine lv_iload_n hx hb dX4_requireLongitude_0 rfl (lv_at hl 0 rfl) ?_
  refine lv_sipush (v := (-180)) hx hb dX4_requireLongitude_1 (by decide) ?_
  refine lv_icmp_lt (tgt := 14) hx hb dX4_requireLongitude_4 (by decide) (fun c3 => ?_) (fun c3 => ?_)
  · have e4 : k_X4_requireLongitude lon = 2 := by
      unfold k_X4_requireLongitude
      exact (if_pos c3)
    obtain ⟨sa, hstr⟩ := hE.str 184 "there is no such longitude" (by decide)
    have hat : ∀ w ∈ vx_atS RX4 48 "java/lang/IllegalArgumentException" ["java/lang/RuntimeException", "java/lang/Exception"], w.before _ s = true := vx_hat (fun w h => hts w (List.mem_cons_of_mem _ (List.mem_append_right _ h))) (B := zBad2) (by decide +kernel) (hE.bad2 _)
    exact vx_throwS (text := "there is no such longitude") (names := ["java/lang/RuntimeException", "java/lang/Exception"]) (A := (fun _ : Nat => False)) hx hb hnt hown (by decide) (by decide) (hts (.classLink RX4 44 "java/lang/IllegalArgumentException") (List.mem_cons_of_mem _ (List.mem_append_left _ (List.mem_of_getElem? (i := 0) rfl)))) (hts (.initialized "java/lang/IllegalArgumentException") (List.mem_cons_of_mem _ (List.mem_append_left _ (List.mem_of_getElem? (i := 1) rfl)))) hstr hat (by decide +kernel) hE.1 hE.2.1 hS (hl.1.trans hml.symm) dX4_requireLongitude_14 dX4_requireLongitude_17 dX4_requireLongitude_18 dX4_requireLongitude_20 dX4_requireLongitude_23 (fun x hx => (ht0 x hx).elim) (by decide) (by decide) (by decide) (by decide) hlocks (fun t hal9 hz9 hk9 => ⟨(), trivial, zX2 e4, zF hS hz9 hk9⟩) hS.2.2 (by decide) (by decide)
  · refine lv_iload_n hx hb dX4_requireLongitude_7 rfl (lv_at hl 0 rfl) ?_
    refine lv_sipush (v := 179) hx hb dX4_requireLongitude_8 (by decide) ?_
    refine lv_icmp_le (tgt := 24) hx hb dX4_requireLongitude_11 (by decide) (fun c5 => ?_) (fun c5 => ?_)
    · refine W.widen (k := 1) (n := 6) (by decide) (by decide) ?_
      have e6 : k_X4_requireLongitude lon = 0 := by
        unfold k_X4_requireLongitude
        exact ((if_neg c3).trans (if_pos c5))
      refine vx_ret ?_
      exact W.vret hx hb hr (fun t ht hW => ⟨⟨(), rfl, e6, trivial⟩, hS.F ht⟩) hS.2.2 dX4_requireLongitude_24
    · have e7 : k_X4_requireLongitude lon = 2 := by
        unfold k_X4_requireLongitude
        exact ((if_neg c3).trans (if_neg c5))
      obtain ⟨sa, hstr⟩ := hE.str 184 "there is no such longitude" (by decide)
      have hat : ∀ w ∈ vx_atS RX4 48 "java/lang/IllegalArgumentException" ["java/lang/RuntimeException", "java/lang/Exception"], w.before _ s = true := vx_hat (fun w h => hts w (List.mem_cons_of_mem _ (List.mem_append_right _ h))) (B := zBad2) (by decide +kernel) (hE.bad2 _)
      exact vx_throwS (text := "there is no such longitude") (names := ["java/lang/RuntimeException", "java/lang/Exception"]) (A := (fun _ : Nat => False)) hx hb hnt hown (by decide) (by decide) (hts (.classLink RX4 44 "java/lang/IllegalArgumentException") (List.mem_cons_of_mem _ (List.mem_append_left _ (List.mem_of_getElem? (i := 0) rfl)))) (hts (.initialized "java/lang/IllegalArgumentException") (List.mem_cons_of_mem _ (List.mem_append_left _ (List.mem_of_getElem? (i := 1) rfl)))) hstr hat (by decide +kernel) hE.1 hE.2.1 hS (hl.1.trans hml.symm) dX4_requireLongitude_14 dX4_requireLongitude_17 dX4_requireLongitude_18 dX4_requireLongitude_20 dX4_requireLongitude_23 (fun x hx => (ht0 x hx).elim) (by decide) (by decide) (by decide) (by decide) hlocks (fun t hal9 hz9 hk9 => ⟨(), trivial, zX2 e7, zF hS hz9 hk9⟩) hS.2.2 (by decide) (by decide)
def k_X4_requireBand (bd : Int32) : Nat := (if bd < 0 then 1 else (if bd < 9 then 0 else 1))
abbrev rm_X4_requireBand : Room := { frames := 6, cells := 1, slots := 6, locals := 90 }
abbrev Qc_X4_requireBand (D : va_G) (cI cZ cJ cD : ClassId) (bd : Int32) : Array Value → State → Outcome → State → Prop := va_Qv (fun _ : Unit => k_X4_requireBand bd = 0) (fun _ _ => True) (fun _ : Nat => False)
abbrev Xc_X4_requireBand (D : va_G) (cI cZ cJ cD : ClassId) (bd : Int32) : String → State → State → Prop := vx_X (fun _ : Unit => True) (fun E _ _ => zX E (k_X4_requireBand bd)) (fun _ : Nat => False)
set_option maxHeartbeats 4000000 in
set_option maxRecDepth 100000 in
theorem c_X4_requireBand (l : Launch) (hnt : l.stackTraces = false) (D : va_G) (cI cZ cJ cD : ClassId) (bd : Int32)  : vx_Met l yX4_requireBand wsX4_requireBand rm_X4_requireBand (va_Pc [.int bd] (zPreE D cI cZ cJ cD [])) (Qc_X4_requireBand D cI cZ cJ cD bd ) (Xc_X4_requireBand D cI cZ cJ cD bd ) 1 6 (fun _ : Nat => False) := by
  refine vx_ofW (cc := cX4_requireBand) (maxL := 1) (ret := none) (by decide) rfl ?_
  intro p e s m args below meth c s₁ B hml ht0 hv
  obtain ⟨rfl, hP, hK, hE⟩ := hv
  have hx := B.exec
  have hb := B.bytes
  have hr := B.returns
  have hts := atoms_spec (ws := wsX4_requireBand) B.pre
  have hown : s.vm.findClass RX4 = some m.cls := findClass_of_methodNamed B.named
  have hlocks := B.notSynchronized
  have hS : va_S (fun _ : Nat => False) s.heap s.heap [] := va_S.rf
  have hl := lv_entry ([.int bd]) (n := 1) (Nat.le_of_ble_eq_true rfl)
  rw [lg_entry_eq]
  generalize (lg_sl ([.int bd]) ++ List.replicate (1 - (lg_sl ([.int bd])).length) Slot.unset).toArray = ls at hl ⊢
  have hl : lv_has ls 1 [(0, .int bd)] := hl
  have hP : va_P D vwCl [] s.heap := hP
  have hP := hP
  refine lv_iload_n hx hb dX4_requireBand_0 rfl (lv_at hl 0 rfl) ?_
  refine lv_if_lt (tgt := 10) hx hb dX4_requireBand_1 (by decide) (fun c3 => ?_) (fun c3 => ?_)
  · have e4 : k_X4_requireBand bd = 1 := by
      unfold k_X4_requireBand
      exact (if_pos c3)
    obtain ⟨sa, hstr⟩ := hE.str 186 "there is no such band" (by decide)
    have hat : ∀ w ∈ vx_atS RX4 41 "java/lang/IndexOutOfBoundsException" ["java/lang/RuntimeException", "java/lang/Exception"], w.before _ s = true := vx_hat (fun w h => hts w (List.mem_cons_of_mem _ (List.mem_append_right _ h))) (B := zBad1) (by decide +kernel) (hE.bad1 _)
    exact vx_throwS (text := "there is no such band") (names := ["java/lang/RuntimeException", "java/lang/Exception"]) (A := (fun _ : Nat => False)) hx hb hnt hown (by decide) (by decide) (hts (.classLink RX4 37 "java/lang/IndexOutOfBoundsException") (List.mem_cons_of_mem _ (List.mem_append_left _ (List.mem_of_getElem? (i := 0) rfl)))) (hts (.initialized "java/lang/IndexOutOfBoundsException") (List.mem_cons_of_mem _ (List.mem_append_left _ (List.mem_of_getElem? (i := 1) rfl)))) hstr hat (by decide +kernel) hE.1 hE.2.1 hS (hl.1.trans hml.symm) dX4_requireBand_10 dX4_requireBand_13 dX4_requireBand_14 dX4_requireBand_16 dX4_requireBand_19 (fun x hx => (ht0 x hx).elim) (by decide) (by decide) (by decide) (by decide) hlocks (fun t hal9 hz9 hk9 => ⟨(), trivial, zX1 e4, zF hS hz9 hk9⟩) hS.2.2 (by decide) (by decide)
  · refine lv_iload_n hx hb dX4_requireBand_4 rfl (lv_at hl 0 rfl) ?_
    refine lv_bipush (v := 9) hx hb dX4_requireBand_5 (by decide) ?_
    refine lv_icmp_lt (tgt := 20) hx hb dX4_requireBand_7 (by decide) (fun c5 => ?_) (fun c5 => ?_)
    · refine W.widen (k := 1) (n := 6) (by decide) (by decide) ?_
      have e6 : k_X4_requireBand bd = 0 := by
        unfold k_X4_requireBand
        exact ((if_neg c3).trans (if_pos c5))
      refine vx_ret ?_
      exact W.vret hx hb hr (fun t ht hW => ⟨⟨(), rfl, e6, trivial⟩, hS.F ht⟩) hS.2.2 dX4_requireBand_20
    · have e7 : k_X4_requireBand bd = 1 := by
        unfold k_X4_requireBand
        exact ((if_neg c3).trans (if_neg c5))
      obtain ⟨sa, hstr⟩ := hE.str 186 "there is no such band" (by decide)
      have hat : ∀ w ∈ vx_atS RX4 41 "java/lang/IndexOutOfBoundsException" ["java/lang/RuntimeException", "java/lang/Exception"], w.before _ s = true := vx_hat (fun w h => hts w (List.mem_cons_of_mem _ (List.mem_append_right _ h))) (B := zBad1) (by decide +kernel) (hE.bad1 _)
      exact vx_throwS (text := "there is no such band") (names := ["java/lang/RuntimeException", "java/lang/Exception"]) (A := (fun _ : Nat => False)) hx hb hnt hown (by decide) (by decide) (hts (.classLink RX4 37 "java/lang/IndexOutOfBoundsException") (List.mem_cons_of_mem _ (List.mem_append_left _ (List.mem_of_getElem? (i := 0) rfl)))) (hts (.initialized "java/lang/IndexOutOfBoundsException") (List.mem_cons_of_mem _ (List.mem_append_left _ (List.mem_of_getElem? (i := 1) rfl)))) hstr hat (by decide +kernel) hE.1 hE.2.1 hS (hl.1.trans hml.symm) dX4_requireBand_10 dX4_requireBand_13 dX4_requireBand_14 dX4_requireBand_16 dX4_requireBand_19 (fun x hx => (ht0 x hx).elim) (by decide) (by decide) (by decide) (by decide) hlocks (fun t hal9 hz9 hk9 => ⟨(), trivial, zX1 e7, zF hS hz9 hk9⟩) hS.2.2 (by decide) (by decide)
def s_X4_someTurned (tn : Int32) : Int32 := (if tn = 0 then 0 else tn)
def k_X4_someTurned (tn : Int32) : Nat := (if tn = 0 then 3 else 0)
abbrev rm_X4_someTurned : Room := { frames := 6, cells := 1, slots := 6, locals := 90 }
abbrev Qc_X4_someTurned (D : va_G) (cI cZ cJ cD : ClassId) (tn : Int32) : Array Value → State → Outcome → State → Prop := va_Qi (fun (r : Int32) (_ : Unit) => k_X4_someTurned tn = 0 ∧ r = s_X4_someTurned tn) (fun _ _ => True) (fun _ : Nat => False)
abbrev Xc_X4_someTurned (D : va_G) (cI cZ cJ cD : ClassId) (tn : Int32) : String → State → State → Prop := vx_X (fun _ : Unit => True) (fun E _ _ => zX E (k_X4_someTurned tn)) (fun _ : Nat => False)
set_option maxHeartbeats 4000000 in
set_option maxRecDepth 100000 in
theorem c_X4_someTurned (l : Launch) (hnt : l.stackTraces = false) (D : va_G) (cI cZ cJ cD : ClassId) (tn : Int32)  : vx_Met l yX4_someTurned wsX4_someTurned rm_X4_someTurned (va_Pc [.int tn] (zPreE D cI cZ cJ cD [])) (Qc_X4_someTurned D cI cZ cJ cD tn ) (Xc_X4_someTurned D cI cZ cJ cD tn ) 1 6 (fun _ : Nat => False) := by
  refine vx_ofW (cc := cX4_someTurned) (maxL := 1) (ret := (some .int)) (by decide) rfl ?_
  intro p e s m args below meth c s₁ B hml ht0 hv
  obtain ⟨rfl, hP, hK, hE⟩ := hv
  have hx := B.exec
  have hb := B.bytes
  have hr := B.returns
  have hts := atoms_spec (ws := wsX4_someTurned) B.pre
  have hown : s.vm.findClass RX4 = some m.cls := findClass_of_methodNamed B.named
  have hlocks := B.notSynchronized
  have hS : va_S (fun _ : Nat => False) s.heap s.heap [] := va_S.rf
  have hl := lv_entry ([.int tn]) (n := 1) (Nat.le_of_ble_eq_true rfl)
  rw [lg_entry_eq]
  generalize (lg_sl ([.int tn]) ++ List.replicate (1 - (lg_sl ([.int tn])).length) Slot.unset).toArray = ls at hl ⊢
  have hl : lv_has ls 1 [(0, .int tn)] := hl
  have hP : va_P D vwCl [] s.heap := hP
  have hP := hP
  refine lv_iload_n hx hb dX4_someTurned_0 rfl (lv_at hl 0 rfl) ?_
  refine lv_if_ne (tgt := 14) hx hb dX4_someTurned_1 (by decide) (fun c2 => ?_) (fun c2 => ?_)
  · refine lv_iload_n hx hb dX4_someTurned_14 rfl (lv_at hl 0 rfl) ?_
    refine W.widen (k := 1) (n := 6) (by decide) (by decide) ?_
    have e3 : s_X4_someTurned tn = tn := by
      unfold s_X4_someTurned
      exact (if_neg c2)
    have e4 : k_X4_someTurned tn = 0 := by
      unfold k_X4_someTurned
      exact (if_neg c2)
    refine vx_ret ?_
    exact W.iret (v := tn) hx hb hr (fun t ht hW => ⟨⟨_, (), rfl, ⟨e4, e3.symm⟩, trivial⟩, hS.F ht⟩) hS.2.2 dX4_someTurned_15
  · have e5 : k_X4_someTurned tn = 3 := by
      unfold k_X4_someTurned
      exact (if_pos c2)
    obtain ⟨sa, hstr⟩ := hE.str 193 "there are no panels on one side of the line" (by decide)
    have hat : ∀ w ∈ vx_atS RX4 57 "java/lang/IllegalStateException" ["java/lang/RuntimeException", "java/lang/Exception"], w.before _ s = true := vx_hat (fun w h => hts w (List.mem_cons_of_mem _ (List.mem_append_right _ h))) (B := zBad3) (by decide +kernel) (hE.bad3 _)
    exact vx_throwS (text := "there are no panels on one side of the line") (names := ["java/lang/RuntimeException", "java/lang/Exception"]) (A := (fun _ : Nat => False)) hx hb hnt hown (by decide) (by decide) (hts (.classLink RX4 53 "java/lang/IllegalStateException") (List.mem_cons_of_mem _ (List.mem_append_left _ (List.mem_of_getElem? (i := 0) rfl)))) (hts (.initialized "java/lang/IllegalStateException") (List.mem_cons_of_mem _ (List.mem_append_left _ (List.mem_of_getElem? (i := 1) rfl)))) hstr hat (by decide +kernel) hE.1 hE.2.1 hS (hl.1.trans hml.symm) dX4_someTurned_4 dX4_someTurned_7 dX4_someTurned_8 dX4_someTurned_10 dX4_someTurned_13 (fun x hx => (ht0 x hx).elim) (by decide) (by decide) (by decide) (by decide) hlocks (fun t hal9 hz9 hk9 => ⟨(), trivial, zX3 e5, zF hS hz9 hk9⟩) hS.2.2 (by decide) (by decide)
