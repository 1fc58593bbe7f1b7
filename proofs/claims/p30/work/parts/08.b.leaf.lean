def lp_X0_greatest_4 (ft : Nat → Int32) (fw : Nat → Int32) (fh : Nat → Int32) : Nat → Int32
  | 0 => 0
  | k + 1 => (if (s_X0_compareBands ft fw fh (nI (k + 1)) (lp_X0_greatest_4 ft fw fh k)) ≤ 0 then lp_X0_greatest_4 ft fw fh k else nI (k + 1))
def s_X0_greatest (ft : Nat → Int32) (fw : Nat → Int32) (fh : Nat → Int32) : Int32 := lp_X0_greatest_4 ft fw fh 8
abbrev rm_X0_greatest : Room := { frames := 3, cells := 0, slots := 0, locals := 69 }
abbrev Qc_X0_greatest (D : va_G) (cI cZ cJ cD : ClassId) (qb : Nat) (qt : Nat) (ft : Nat → Int32) (qm : Nat) (qw : Nat) (qh : Nat) (fw : Nat → Int32) (fh : Nat → Int32) : Array Value → State → Outcome → State → Prop := va_Qi (fun (r : Int32) (_ : Unit) => r = s_X0_greatest ft fw fh) (fun _ _ => True) (fun _ : Nat => False)
set_option maxHeartbeats 4000000 in
set_option maxRecDepth 100000 in
theorem c_X0_greatest (l : Launch) (D : va_G) (cI cZ cJ cD : ClassId) (qb : Nat) (qt : Nat) (ft : Nat → Int32) (qm : Nat) (qw : Nat) (qh : Nat) (fw : Nat → Int32) (fh : Nat → Int32)  : Met l yX0_greatest wsX0_greatest rm_X0_greatest (va_Pc [.ref qb, .ref qm] (zPre D cI cZ cJ cD [(qb, .inr (0, [.ref qt])), (qt, .inl (cI, 9, .inl ft)), (qm, .inr (2, [.ref qw, .ref qh])), (qw, .inl (cI, 10, .inl fw)), (qh, .inl (cI, 10, .inl fh))])) (Qc_X0_greatest D cI cZ cJ cD qb qt ft qm qw qh fw fh ) 0 0 (fun _ : Nat => False) := by
  refine Met.ofW (cc := cX0_greatest) (maxL := 4) (ret := (some .int)) (by decide) rfl ?_
  intro p e s m args below meth c s₁ B hml hv
  obtain ⟨rfl, hP, hK⟩ := hv
  have hx := B.exec
  have hb := B.bytes
  have hr := B.returns
  have hts := atoms_spec (ws := wsX0_greatest) B.pre
  have hown : s.vm.findClass RX0 = some m.cls := findClass_of_methodNamed B.named
  have hlocks := B.notSynchronized
  have hS : va_S (fun _ : Nat => False) s.heap s.heap [] := va_S.rf
  have hl := lv_entry ([.ref qb, .ref qm]) (n := 4) (Nat.le_of_ble_eq_true rfl)
  rw [lg_entry_eq]
  generalize (lg_sl ([.ref qb, .ref qm]) ++ List.replicate (4 - (lg_sl ([.ref qb, .ref qm])).length) Slot.unset).toArray = ls at hl ⊢
  have hl : lv_has ls 4 [(0, .ref qb), (1, .ref qm)] := hl
  have hP : va_P D vwCl [(qb, .inr (0, [.ref qt])), (qt, .inl (cI, 9, .inl ft)), (qm, .inr (2, [.ref qw, .ref qh])), (qw, .inl (cI, 10, .inl fw)), (qh, .inl (cI, 10, .inl fh))] s.heap := hP
  have hP := hP
  refine lv_iconst (v := 0) hx hb dX0_greatest_0 (by decide) ?_
  refine lv_istore_n (lv' := [(2, .int 0), (0, .ref qb), (1, .ref qm)]) hx hb dX0_greatest_1 rfl hl (by decide) rfl (fun ls hl => ?_)
  refine lv_iconst (v := 1) hx hb dX0_greatest_2 (by decide) ?_
  refine lv_istore_n (lv' := [(3, .int 1), (2, .int 0), (0, .ref qb), (1, .ref qm)]) hx hb dX0_greatest_3 rfl hl (by decide) rfl (fun ls hl => ?_)
  have X1 : ∀ (H : Heap) (locs : List Loc), va_P D vwCl [(qb, .inr (0, [.ref qt])), (qt, .inl (cI, 9, .inl ft)), (qm, .inr (2, [.ref qw, .ref qh])), (qw, .inl (cI, 10, .inl fw)), (qh, .inl (cI, 10, .inl fh))] H → va_S (fun _ : Nat => False) s.heap H locs → ∀ (ls : Array Slot), lv_has ls 4 [(0, .ref qb), (1, .ref qm), (2, .int (lp_X0_greatest_4 ft fw fh 8))] → W p l e (headSpec wsX0_greatest rm_X0_greatest).room s m ([.ref qb, .ref qm]).toArray below meth c H locs 0 0 (MQ below (Qc_X0_greatest D cI cZ cJ cD qb qt ft qm qw qh fw fh) ([.ref qb, .ref qm]).toArray s 0 0 (fun _ : Nat => False)) (F0 m 28 ls []) := by
    intro H locs hP hS ls hl
    refine lv_iload_n hx hb dX0_greatest_28 rfl (lv_at hl 2 rfl) ?_
    have e2 : s_X0_greatest ft fw fh = lp_X0_greatest_4 ft fw fh 8 := rfl
    exact W.iret (v := (lp_X0_greatest_4 ft fw fh 8)) hx hb hr (fun t ht hW => ⟨⟨_, (), rfl, e2.symm, trivial⟩, hS.F ht⟩) hS.2.2 dX0_greatest_29
  have L1 : ∀ (n k : Nat) (acc : Int32), k ≤ 8 → 8 < k + n → acc = lp_X0_greatest_4 ft fw fh k → ∀ (H : Heap) (locs : List Loc), va_P D vwCl [(qb, .inr (0, [.ref qt])), (qt, .inl (cI, 9, .inl ft)), (qm, .inr (2, [.ref qw, .ref qh])), (qw, .inl (cI, 10, .inl fw)), (qh, .inl (cI, 10, .inl fh))] H → va_S (fun _ : Nat => False) s.heap H locs → ∀ (ls : Array Slot), lv_has ls 4 [(0, .ref qb), (1, .ref qm), (3, .int (nI (k + 1))), (2, .int acc)] → W p l e (headSpec wsX0_greatest rm_X0_greatest).room s m ([.ref qb, .ref qm]).toArray below meth c H locs 0 0 (MQ below (Qc_X0_greatest D cI cZ cJ cD qb qt ft qm qw qh fw fh) ([.ref qb, .ref qm]).toArray s 0 0 (fun _ : Nat => False)) (F0 m 4 ls []) := by
    intro n
    induction n with
    | zero =>
      intro k acc hk hf
      exact absurd hf (by omega)
    | succ n ih =>
      intro k acc hk hf hacc H locs hP hS ls hl
      subst hacc
      refine lv_iload_n hx hb dX0_greatest_4 rfl (lv_at hl 2 rfl) ?_
      refine lv_bipush (v := 9) hx hb dX0_greatest_5 (by decide) ?_
      refine lv_icmp_ge (tgt := 28) hx hb dX0_greatest_7 (by decide) (fun c3 => ?_) (fun c3 => ?_)
      · have hge : 8 ≤ k := (by have := (nI_leI (a := 9) (b := k + 1) (by omega) (by omega)).mp c3; omega)
        have ek : k = 8 := by omega
        subst ek
        exact X1 _ _ hP hS _ (lv_sub hl [0, 1, 3] rfl)
      · refine lv_aload_n hx hb dX0_greatest_10 rfl (lv_at hl 0 rfl) ?_
        refine lv_aload_n hx hb dX0_greatest_11 rfl (lv_at hl 1 rfl) ?_
        refine lv_iload_n hx hb dX0_greatest_12 rfl (lv_at hl 2 rfl) ?_
        refine lv_iload_n hx hb dX0_greatest_13 rfl (lv_at hl 3 rfl) ?_
        refine va_calli (va_runV (As := [.ref qm, .int (nI (k + 1)), .int (lp_X0_greatest_4 ft fw fh k)]) (rest := []) ⟨hx, hb, hml, hown, hts⟩ (c_X0_compareBands l D cI cZ cJ cD qb qt ft qm qw qh fw fh (nI (k + 1)) (lp_X0_greatest_4 ft fw fh k) ) (cwV 3 hts gX0_greatest_X0_compareBands rfl rfl rfl (by decide +kernel) ⟨Nat.le_of_ble_eq_true rfl, Nat.le_of_ble_eq_true rfl⟩) ⟨zblind, va_recv hK hP (ci := 0) (q0 := 0) rfl rfl, (fun U hU hW => ⟨rfl, by rw [hU]; exact hP.sub (ws' := [(qb, .inr (0, [.ref qt])), (qt, .inl (cI, 9, .inl ft)), (qm, .inr (2, [.ref qw, .ref qh])), (qw, .inl (cI, 10, .inl fw)), (qh, .inl (cI, 10, .inl fh))]) [0, 1, 2, 3, 4] rfl, va_K.moved hW.alike hK⟩)⟩ rfl rfl hl.1 rfl (lv_room (Nat.le_of_ble_eq_true rfl)) dX0_greatest_14 ⟨Nat.le_of_ble_eq_true rfl, Nat.le_of_ble_eq_true rfl⟩) hS (fun q _ h => h.elim) (fun q h => h.elim) (fun r4 u t H locs ht hvm hw hB hz1 hk1 hS => ?_)
        rw [hw]
        have hP := zk hP hk1
        refine lv_if_le (tgt := 22) hx hb dX0_greatest_17 (by decide) (fun c5 => ?_) (fun c5 => ?_)
        · refine lv_iinc (v := nI (k + 1 + 1)) (lv' := [(3, .int (nI (k + 1 + 1))), (0, .ref qb), (1, .ref qm), (2, .int (lp_X0_greatest_4 ft fw fh k))]) hx hb dX0_greatest_22 hl (k := 2) rfl (nI_succ (k + 1)).symm (by decide) rfl (fun ls hl => ?_)
          refine lv_goto (tgt := 4) hx hb dX0_greatest_25 (by decide) ?_
          have hlt : k < 8 := ((Nat.lt_or_ge (k + 1) 9).elim (fun q => by omega) (fun q => absurd (nI_le (a := 9) (b := k + 1) q (by omega)) c3))
          exact ih (k + 1) _ (by omega) (by omega) ((if_pos c5)).symm _ _ hP hS _ (lv_sub hl [1, 2, 0, 3] rfl)
        · refine lv_iload_n hx hb dX0_greatest_20 rfl (lv_at hl 2 rfl) ?_
          refine lv_istore_n (lv' := [(2, .int (nI (k + 1))), (0, .ref qb), (1, .ref qm), (3, .int (nI (k + 1)))]) hx hb dX0_greatest_21 rfl hl (by decide) rfl (fun ls hl => ?_)
          refine lv_iinc (v := nI (k + 1 + 1)) (lv' := [(3, .int (nI (k + 1 + 1))), (2, .int (nI (k + 1))), (0, .ref qb), (1, .ref qm)]) hx hb dX0_greatest_22 hl (k := 3) rfl (nI_succ (k + 1)).symm (by decide) rfl (fun ls hl => ?_)
          refine lv_goto (tgt := 4) hx hb dX0_greatest_25 (by decide) ?_
          have hlt : k < 8 := ((Nat.lt_or_ge (k + 1) 9).elim (fun q => by omega) (fun q => absurd (nI_le (a := 9) (b := k + 1) q (by omega)) c3))
          exact ih (k + 1) _ (by omega) (by omega) ((if_neg c5)).symm _ _ hP hS _ (lv_sub hl [2, 3, 0, 1] rfl)
  exact L1 (8 + 1) 0 _ (Nat.zero_le _) (by omega) rfl _ _ hP hS _ (lv_sub hl [2, 3, 0, 1] rfl)
def s_X0_areaByTruth (ft : Nat → Int32) (fw : Nat → Int32) (fh : Nat → Int32) (bd : Int32) : UInt32 := FP.fdiv (FP.l2f (s_X2_bandArea fw fh bd)) (FP.i2f (s_X0_truthOf ft bd))
abbrev rm_X0_areaByTruth : Room := { frames := 2, cells := 0, slots := 0, locals := 46 }
abbrev Qc_X0_areaByTruth (D : va_G) (cI cZ cJ cD : ClassId) (qb : Nat) (qt : Nat) (ft : Nat → Int32) (qm : Nat) (qw : Nat) (qh : Nat) (fw : Nat → Int32) (fh : Nat → Int32) (bd : Int32) : Array Value → State → Outcome → State → Prop := va_Qf (fun (r : UInt32) (_ : Unit) => r = s_X0_areaByTruth ft fw fh bd) (fun _ _ => True) (fun _ : Nat => False)
set_option maxHeartbeats 4000000 in
set_option maxRecDepth 100000 in
theorem c_X0_areaByTruth (l : Launch) (D : va_G) (cI cZ cJ cD : ClassId) (qb : Nat) (qt : Nat) (ft : Nat → Int32) (qm : Nat) (qw : Nat) (qh : Nat) (fw : Nat → Int32) (fh : Nat → Int32) (bd : Int32) (htr : ¬ s_X0_truthOf ft bd = 0) : Met l yX0_areaByTruth wsX0_areaByTruth rm_X0_areaByTruth (va_Pc [.ref qb, .ref qm, .int bd] (zPre D cI cZ cJ cD [(qb, .inr (0, [.ref qt])), (qt, .inl (cI, 9, .inl ft)), (qm, .inr (2, [.ref qw, .ref qh])), (qw, .inl (cI, 10, .inl fw)), (qh, .inl (cI, 10, .inl fh))])) (Qc_X0_areaByTruth D cI cZ cJ cD qb qt ft qm qw qh fw fh bd ) 0 0 (fun _ : Nat => False) := by
  refine Met.ofW (cc := cX0_areaByTruth) (maxL := 3) (ret := (some .float)) (by decide) rfl ?_
  intro p e s m args below meth c s₁ B hml hv
  obtain ⟨rfl, hP, hK⟩ := hv
  have hx := B.exec
  have hb := B.bytes
  have hr := B.returns
  have hts := atoms_spec (ws := wsX0_areaByTruth) B.pre
  have hown : s.vm.findClass RX0 = some m.cls := findClass_of_methodNamed B.named
  have hlocks := B.notSynchronized
  have hS : va_S (fun _ : Nat => False) s.heap s.heap [] := va_S.rf
  have hl := lv_entry ([.ref qb, .ref qm, .int bd]) (n := 3) (Nat.le_of_ble_eq_true rfl)
  rw [lg_entry_eq]
  generalize (lg_sl ([.ref qb, .ref qm, .int bd]) ++ List.replicate (3 - (lg_sl ([.ref qb, .ref qm, .int bd])).length) Slot.unset).toArray = ls at hl ⊢
  have hl : lv_has ls 3 [(0, .ref qb), (1, .ref qm), (2, .int bd)] := hl
  have hP : va_P D vwCl [(qb, .inr (0, [.ref qt])), (qt, .inl (cI, 9, .inl ft)), (qm, .inr (2, [.ref qw, .ref qh])), (qw, .inl (cI, 10, .inl fw)), (qh, .inl (cI, 10, .inl fh))] s.heap := hP
  have hP := hP
  refine lv_aload_n hx hb dX0_areaByTruth_0 rfl (lv_at hl 1 rfl) ?_
  refine lv_iload_n hx hb dX0_areaByTruth_1 rfl (lv_at hl 2 rfl) ?_
  refine va_calll (va_runV (As := [.int bd]) (rest := []) ⟨hx, hb, hml, hown, hts⟩ (c_X2_bandArea l D cI cZ cJ cD qm qw qh fw fh bd ) (cwV 1 hts gX0_areaByTruth_X2_bandArea rfl rfl rfl (by decide +kernel) ⟨Nat.le_of_ble_eq_true rfl, Nat.le_of_ble_eq_true rfl⟩) ⟨zblind, va_recv hK hP (ci := 2) (q0 := 2) rfl rfl, (fun U hU hW => ⟨rfl, by rw [hU]; exact hP.sub (ws' := [(qm, .inr (2, [.ref qw, .ref qh])), (qw, .inl (cI, 10, .inl fw)), (qh, .inl (cI, 10, .inl fh))]) [2, 3, 4] rfl, va_K.moved hW.alike hK⟩)⟩ rfl rfl hl.1 rfl (lv_room (Nat.le_of_ble_eq_true rfl)) dX0_areaByTruth_2 ⟨Nat.le_of_ble_eq_true rfl, Nat.le_of_ble_eq_true rfl⟩) hS (fun q _ h => h.elim) (fun q h => h.elim) (fun r3 u t H locs ht hvm hw hB hz1 hk1 hS => ?_)
  rw [hw]
  have hP := zk hP hk1
  refine lv_l2f hx hb dX0_areaByTruth_5 ?_
  refine lv_aload_n hx hb dX0_areaByTruth_6 rfl (lv_at hl 0 rfl) ?_
  refine lv_iload_n hx hb dX0_areaByTruth_7 rfl (lv_at hl 2 rfl) ?_
  refine va_calli (va_runV (As := [.int bd]) (rest := [.float (FP.l2f (s_X2_bandArea fw fh bd))]) ⟨hx, hb, hml, hown, hts⟩ (c_X0_truthOf l D cI cZ cJ cD qb qt ft bd ) (cwV 1 hts gX0_areaByTruth_X0_truthOf rfl rfl rfl (by decide +kernel) ⟨Nat.le_of_ble_eq_true rfl, Nat.le_of_ble_eq_true rfl⟩) ⟨zblind, va_recv hK hP (ci := 0) (q0 := 0) rfl rfl, (fun U hU hW => ⟨rfl, by rw [hU]; exact hP.sub (ws' := [(qb, .inr (0, [.ref qt])), (qt, .inl (cI, 9, .inl ft))]) [0, 1] rfl, va_K.moved hW.alike hK⟩)⟩ rfl rfl hl.1 rfl (lv_room (Nat.le_of_ble_eq_true rfl)) dX0_areaByTruth_8 ⟨Nat.le_of_ble_eq_true rfl, Nat.le_of_ble_eq_true rfl⟩) hS (fun q _ h => h.elim) (fun q h => h.elim) (fun r4 u t H locs ht hvm hw hB hz1 hk1 hS => ?_)
  rw [hw]
  have hP := zk hP hk1
  refine lv_i2f hx hb dX0_areaByTruth_11 ?_
  refine lv_fdiv hx hb dX0_areaByTruth_12 (z_fdiv _ _ htr) ?_
  have e5 : s_X0_areaByTruth ft fw fh bd = FP.fdiv (FP.l2f (s_X2_bandArea fw fh bd)) (FP.i2f (s_X0_truthOf ft bd)) := rfl
  exact W.fret (v := (FP.fdiv (FP.l2f (s_X2_bandArea fw fh bd)) (FP.i2f (s_X0_truthOf ft bd)))) hx hb hr (fun t ht hW => ⟨⟨_, (), rfl, e5.symm, trivial⟩, hS.F ht⟩) hS.2.2 dX0_areaByTruth_13
def s_X1_panels (nC : Nat) (nR : Nat) (nf : Int32) : Int32 := (nI nC) * (nI nR)
abbrev rm_X1_panels : Room := { frames := 0, cells := 0, slots := 0, locals := 0 }
abbrev Qc_X1_panels (D : va_G) (cI cZ cJ cD : ClassId) (qf : Nat) (qx : Nat) (qy : Nat) (qz : Nat) (qu : Nat) (nC : Nat) (nR : Nat) (nf : Int32) : Array Value → State → Outcome → State → Prop := va_Qi (fun (r : Int32) (_ : Unit) => r = s_X1_panels nC nR nf) (fun _ _ => True) (fun _ : Nat => False)
set_option maxHeartbeats 4000000 in
set_option maxRecDepth 100000 in
theorem c_X1_panels (l : Launch) (D : va_G) (cI cZ cJ cD : ClassId) (qf : Nat) (qx : Nat) (qy : Nat) (qz : Nat) (qu : Nat) (nC : Nat) (nR : Nat) (nf : Int32)  : Met l yX1_panels wsX1_panels rm_X1_panels (va_Pc [.ref qf] (zPre D cI cZ cJ cD [(qf, .inr (1, [.ref qx, .ref qy, .ref qz, .ref qu, .int (nI nC), .int (nI nR), .int nf]))])) (Qc_X1_panels D cI cZ cJ cD qf qx qy qz qu nC nR nf ) 0 0 (fun _ : Nat => False) := by
  refine Met.ofW (cc := cX1_panels) (maxL := 1) (ret := (some .int)) (by decide) rfl ?_
  intro p e s m args below meth c s₁ B hml hv
  obtain ⟨rfl, hP, hK⟩ := hv
  have hx := B.exec
  have hb := B.bytes
  have hr := B.returns
  have hts := atoms_spec (ws := wsX1_panels) B.pre
  have hown : s.vm.findClass RX1 = some m.cls := findClass_of_methodNamed B.named
  have hlocks := B.notSynchronized
  have hS : va_S (fun _ : Nat => False) s.heap s.heap [] := va_S.rf
  have hl := lv_entry ([.ref qf]) (n := 1) (Nat.le_of_ble_eq_true rfl)
  rw [lg_entry_eq]
  generalize (lg_sl ([.ref qf]) ++ List.replicate (1 - (lg_sl ([.ref qf])).length) Slot.unset).toArray = ls at hl ⊢
  have hl : lv_has ls 1 [(0, .ref qf)] := hl
  have hP : va_P D vwCl [(qf, .inr (1, [.ref qx, .ref qy, .ref qz, .ref qu, .int (nI nC), .int (nI nR), .int nf]))] s.heap := hP
  have hP := hP
  refine lv_aload_n hx hb dX1_panels_0 rfl (lv_at hl 0 rfl) ?_
  refine va_get (D := D) (ci := 1) (v := .int (nI nC)) (C := RX1) (T := TX1) (N := 7) hx hb hts (fun w h => List.mem_cons_of_mem _ (List.mem_append_right _ h)) hown hK hP 0 rfl rfl 4 (by decide) (hts (.fieldLink RX1 29 "AtlasFolder$FoldedSheet" "columns" "I") (List.mem_cons_of_mem _ (List.mem_append_left _ (List.mem_of_getElem? (i := 0) rfl)))) (fun _ h9 => h9) rfl dX1_panels_1 ?_
  refine lv_aload_n hx hb dX1_panels_4 rfl (lv_at hl 0 rfl) ?_
  refine va_get (D := D) (ci := 1) (v := .int (nI nR)) (C := RX1) (T := TX1) (N := 7) hx hb hts (fun w h => List.mem_cons_of_mem _ (List.mem_append_right _ h)) hown hK hP 0 rfl rfl 5 (by decide) (hts (.fieldLink RX1 33 "AtlasFolder$FoldedSheet" "rows" "I") (List.mem_cons_of_mem _ (List.mem_append_left _ (List.mem_of_getElem? (i := 1) rfl)))) (fun _ h9 => h9) rfl dX1_panels_5 ?_
  refine lv_imul hx hb dX1_panels_8 ?_
  have e1 : s_X1_panels nC nR nf = (nI nC) * (nI nR) := rfl
  exact W.iret (v := ((nI nC) * (nI nR))) hx hb hr (fun t ht hW => ⟨⟨_, (), rfl, e1.symm, trivial⟩, hS.F ht⟩) hS.2.2 dX1_panels_9
theorem z_pan (nC nR : Nat) (nf : Int32) : s_X1_panels nC nR nf = nI (nC * nR) := pk_mul nC nR
theorem z_pge {nC nR k : Nat} {nf : Int32} (hN : nC * nR ≤ 36) (hk : k ≤ nC * nR) (h : s_X1_panels nC nR nf ≤ nI k) : nC * nR ≤ k := by
  rw [z_pan] at h
  exact (nI_leI (by omega) (by omega)).mp h
theorem z_plt {nC nR k : Nat} {nf : Int32} (hN : nC * nR ≤ 36) (hk : k ≤ nC * nR) (h : ¬ s_X1_panels nC nR nf ≤ nI k) : k < nC * nR := by
  rw [z_pan] at h
  rcases Nat.lt_or_ge k (nC * nR) with q | q
  · exact q
  · exact absurd (nI_le q (by omega)) h
theorem z_pin {nC nR k : Nat} {nf : Int32} (hN : nC * nR ≤ 36) (hk : k ≤ nC * nR) (h : ¬ s_X1_panels nC nR nf ≤ nI k) : vp_in (nI k) 36 := vp_in_nI (Nat.lt_of_lt_of_le (z_plt hN hk h) hN) (by omega)
def s_X1_number (nC : Nat) (nR : Nat) (nf : Int32) (co : Int32) (ro : Int32) : Int32 := (co * (nI nR)) + ro
abbrev rm_X1_number : Room := { frames := 0, cells := 0, slots := 0, locals := 0 }
abbrev Qc_X1_number (D : va_G) (cI cZ cJ cD : ClassId) (qf : Nat) (qx : Nat) (qy : Nat) (qz : Nat) (qu : Nat) (nC : Nat) (nR : Nat) (nf : Int32) (co : Int32) (ro : Int32) : Array Value → State → Outcome → State → Prop := va_Qi (fun (r : Int32) (_ : Unit) => r = s_X1_number nC nR nf co ro) (fun _ _ => True) (fun _ : Nat => False)
set_option maxHeartbeats 4000000 in
set_option maxRecDepth 100000 in
theorem c_X1_number (l : Launch) (D : va_G) (cI cZ cJ cD : ClassId) (qf : Nat) (qx : Nat) (qy : Nat) (qz : Nat) (qu : Nat) (nC : Nat) (nR : Nat) (nf : Int32) (co : Int32) (ro : Int32)  : Met l yX1_number wsX1_number rm_X1_number (va_Pc [.ref qf, .int co, .int ro] (zPre D cI cZ cJ cD [(qf, .inr (1, [.ref qx, .ref qy, .ref qz, .ref qu, .int (nI nC), .int (nI nR), .int nf]))])) (Qc_X1_number D cI cZ cJ cD qf qx qy qz qu nC nR nf co ro ) 0 0 (fun _ : Nat => False) := by
  refine Met.ofW (cc := cX1_number) (maxL := 3) (ret := (some .int)) (by decide) rfl ?_
  intro p e s m args below meth c s₁ B hml hv
  obtain ⟨rfl, hP, hK⟩ := hv
  have hx := B.exec
  have hb := B.bytes
  have hr := B.returns
  have hts := atoms_spec (ws := wsX1_number) B.pre
  have hown : s.vm.findClass RX1 = some m.cls := findClass_of_methodNamed B.named
  have hlocks := B.notSynchronized
  have hS : va_S (fun _ : Nat => False) s.heap s.heap [] := va_S.rf
  have hl := lv_entry ([.ref qf, .int co, .int ro]) (n := 3) (Nat.le_of_ble_eq_true rfl)
  rw [lg_entry_eq]
  generalize (lg_sl ([.ref qf, .int co, .int ro]) ++ List.replicate (3 - (lg_sl ([.ref qf, .int co, .int ro])).length) Slot.unset).toArray = ls at hl ⊢
  have hl : lv_has ls 3 [(0, .ref qf), (1, .int co), (2, .int ro)] := hl
  have hP : va_P D vwCl [(qf, .inr (1, [.ref qx, .ref qy, .ref qz, .ref qu, .int (nI nC), .int (nI nR), .int nf]))] s.heap := hP
  have hP := hP
  refine lv_iload_n hx hb dX1_number_0 rfl (lv_at hl 1 rfl) ?_
  refine lv_aload_n hx hb dX1_number_1 rfl (lv_at hl 0 rfl) ?_
  refine va_get (D := D) (ci := 1) (v := .int (nI nR)) (C := RX1) (T := TX1) (N := 7) hx hb hts (fun w h => List.mem_cons_of_mem _ (List.mem_append_right _ h)) hown hK hP 0 rfl rfl 5 (by decide) (hts (.fieldLink RX1 33 "AtlasFolder$FoldedSheet" "rows" "I") (List.mem_cons_of_mem _ (List.mem_append_left _ (List.mem_of_getElem? (i := 0) rfl)))) (fun _ h9 => h9) rfl dX1_number_2 ?_
  refine lv_imul hx hb dX1_number_5 ?_
  refine lv_iload_n hx hb dX1_number_6 rfl (lv_at hl 2 rfl) ?_
  refine lv_iadd hx hb dX1_number_7 ?_
  have e1 : s_X1_number nC nR nf co ro = (co * (nI nR)) + ro := rfl
  exact W.iret (v := ((co * (nI nR)) + ro)) hx hb hr (fun t ht hW => ⟨⟨_, (), rfl, e1.symm, trivial⟩, hS.F ht⟩) hS.2.2 dX1_number_8
def s_X1_hasPanel (nC : Nat) (nR : Nat) (nf : Int32) (co : Int32) (ro : Int32) : Int32 := (if co < 0 then 0 else (if (nI nC) ≤ co then 0 else (if ro < 0 then 0 else (if (nI nR) ≤ ro then 0 else 1))))
abbrev rm_X1_hasPanel : Room := { frames := 0, cells := 0, slots := 0, locals := 0 }
abbrev Qc_X1_hasPanel (D : va_G) (cI cZ cJ cD : ClassId) (qf : Nat) (qx : Nat) (qy : Nat) (qz : Nat) (qu : Nat) (nC : Nat) (nR : Nat) (nf : Int32) (co : Int32) (ro : Int32) : Array Value → State → Outcome → State → Prop := va_Qi (fun (r : Int32) (_ : Unit) => r = s_X1_hasPanel nC nR nf co ro) (fun _ _ => True) (fun _ : Nat => False)
set_option maxHeartbeats 4000000 in
set_option maxRecDepth 100000 in
theorem c_X1_hasPanel (l : Launch) (D : va_G) (cI cZ cJ cD : ClassId) (qf : Nat) (qx : Nat) (qy : Nat) (qz : Nat) (qu : Nat) (nC : Nat) (nR : Nat) (nf : Int32) (co : Int32) (ro : Int32)  : Met l yX1_hasPanel wsX1_hasPanel rm_X1_hasPanel (va_Pc [.ref qf, .int co, .int ro] (zPre D cI cZ cJ cD [(qf, .inr (1, [.ref qx, .ref qy, .ref qz, .ref qu, .int (nI nC), .int (nI nR), .int nf]))])) (Qc_X1_hasPanel D cI cZ cJ cD qf qx qy qz qu nC nR nf co ro ) 0 0 (fun _ : Nat => False) := by
  refine Met.ofW (cc := cX1_hasPanel) (maxL := 3) (ret := (some .boolean)) (by decide) rfl ?_
  intro p e s m args below meth c s₁ B hml hv
  obtain ⟨rfl, hP, hK⟩ := hv
  have hx := B.exec
  have hb := B.bytes
  have hr := B.returns
  have hts := atoms_spec (ws := wsX1_hasPanel) B.pre
  have hown : s.vm.findClass RX1 = some m.cls := findClass_of_methodNamed B.named
  have hlocks := B.notSynchronized
  have hS : va_S (fun _ : Nat => False) s.heap s.heap [] := va_S.rf
  have hl := lv_entry ([.ref qf, .int co, .int ro]) (n := 3) (Nat.le_of_ble_eq_true rfl)
  rw [lg_entry_eq]
  generalize (lg_sl ([.ref qf, .int co, .int ro]) ++ List.replicate (3 - (lg_sl ([.ref qf, .int co, .int ro])).length) Slot.unset).toArray = ls at hl ⊢
  have hl : lv_has ls 3 [(0, .ref qf), (1, .int co), (2, .int ro)] := hl
  have hP : va_P D vwCl [(qf, .inr (1, [.ref qx, .ref qy, .ref qz, .ref qu, .int (nI nC), .int (nI nR), .int nf]))] s.heap := hP
  have hP := hP
  refine lv_iload_n hx hb dX1_hasPanel_0 rfl (lv_at hl 1 rfl) ?_
  have K8 : ∀ v8_0 : Int32, v8_0 = (if co < 0 then 0 else (if (nI nC) ≤ co then 0 else (if ro < 0 then 0 else (if (nI nR) ≤ ro then 0 else 1)))) → ∀ (H : Heap) (locs : List Loc), va_P D vwCl [(qf, .inr (1, [.ref qx, .ref qy, .ref qz, .ref qu, .int (nI nC), .int (nI nR), .int nf]))] H → va_S (fun _ : Nat => False) s.heap H locs → ∀ (ls : Array Slot), lv_has ls 3 [(0, .ref qf), (1, .int co), (2, .int ro)] → W p l e (headSpec wsX1_hasPanel rm_X1_hasPanel).room s m ([.ref qf, .int co, .int ro]).toArray below meth c H locs 0 0 (MQ below (Qc_X1_hasPanel D cI cZ cJ cD qf qx qy qz qu nC nR nf co ro) ([.ref qf, .int co, .int ro]).toArray s 0 0 (fun _ : Nat => False)) (F0 m 29 ls [.int v8_0]) := by
    intro v8_0 hv8_0 H locs hP hS ls hl
    subst hv8_0
    have e9 : s_X1_hasPanel nC nR nf co ro = (if co < 0 then 0 else (if (nI nC) ≤ co then 0 else (if ro < 0 then 0 else (if (nI nR) ≤ ro then 0 else 1)))) := rfl
    exact W.zret (v := (if co < 0 then 0 else (if (nI nC) ≤ co then 0 else (if ro < 0 then 0 else (if (nI nR) ≤ ro then 0 else 1))))) hx hb hr (z_b (by (repeat' split) <;> simp)) (fun t ht hW => ⟨⟨_, (), rfl, e9.symm, trivial⟩, hS.F ht⟩) hS.2.2 dX1_hasPanel_29
  refine lv_if_lt (tgt := 28) hx hb dX1_hasPanel_1 (by decide) (fun c10 => ?_) (fun c10 => ?_)
  · refine lv_iconst (v := 0) hx hb dX1_hasPanel_28 (by decide) ?_
    exact K8 _ (if_pos c10).symm _ _ hP hS _ (lv_sub hl [0, 1, 2] rfl)
  · refine lv_iload_n hx hb dX1_hasPanel_4 rfl (lv_at hl 1 rfl) ?_
    refine lv_aload_n hx hb dX1_hasPanel_5 rfl (lv_at hl 0 rfl) ?_
    refine va_get (D := D) (ci := 1) (v := .int (nI nC)) (C := RX1) (T := TX1) (N := 7) hx hb hts (fun w h => List.mem_cons_of_mem _ (List.mem_append_right _ h)) hown hK hP 0 rfl rfl 4 (by decide) (hts (.fieldLink RX1 29 "AtlasFolder$FoldedSheet" "columns" "I") (List.mem_cons_of_mem _ (List.mem_append_left _ (List.mem_of_getElem? (i := 0) rfl)))) (fun _ h9 => h9) rfl dX1_hasPanel_6 ?_
    refine lv_icmp_ge (tgt := 28) hx hb dX1_hasPanel_9 (by decide) (fun c11 => ?_) (fun c11 => ?_)
    · refine lv_iconst (v := 0) hx hb dX1_hasPanel_28 (by decide) ?_
      exact K8 _ ((if_neg c10).trans (if_pos c11)).symm _ _ hP hS _ (lv_sub hl [0, 1, 2] rfl)
    · refine lv_iload_n hx hb dX1_hasPanel_12 rfl (lv_at hl 2 rfl) ?_
      refine lv_if_lt (tgt := 28) hx hb dX1_hasPanel_13 (by decide) (fun c12 => ?_) (fun c12 => ?_)
      · refine lv_iconst (v := 0) hx hb dX1_hasPanel_28 (by decide) ?_
        exact K8 _ ((if_neg c10).trans ((if_neg c11).trans (if_pos c12))).symm _ _ hP hS _ (lv_sub hl [0, 1, 2] rfl)
      · refine lv_iload_n hx hb dX1_hasPanel_16 rfl (lv_at hl 2 rfl) ?_
        refine lv_aload_n hx hb dX1_hasPanel_17 rfl (lv_at hl 0 rfl) ?_
        refine va_get (D := D) (ci := 1) (v := .int (nI nR)) (C := RX1) (T := TX1) (N := 7) hx hb hts (fun w h => List.mem_cons_of_mem _ (List.mem_append_right _ h)) hown hK hP 0 rfl rfl 5 (by decide) (hts (.fieldLink RX1 33 "AtlasFolder$FoldedSheet" "rows" "I") (List.mem_cons_of_mem _ (List.mem_append_left _ (List.mem_of_getElem? (i := 1) rfl)))) (fun _ h9 => h9) rfl dX1_hasPanel_18 ?_
        refine lv_icmp_ge (tgt := 28) hx hb dX1_hasPanel_21 (by decide) (fun c13 => ?_) (fun c13 => ?_)
        · refine lv_iconst (v := 0) hx hb dX1_hasPanel_28 (by decide) ?_
          exact K8 _ ((if_neg c10).trans ((if_neg c11).trans ((if_neg c12).trans (if_pos c13)))).symm _ _ hP hS _ (lv_sub hl [0, 1, 2] rfl)
        · refine lv_iconst (v := 1) hx hb dX1_hasPanel_24 (by decide) ?_
          refine lv_goto (tgt := 29) hx hb dX1_hasPanel_25 (by decide) ?_
          exact K8 _ ((if_neg c10).trans ((if_neg c11).trans ((if_neg c12).trans (if_neg c13)))).symm _ _ hP hS _ (lv_sub hl [0, 1, 2] rfl)
def s_X1_columnOf (nC : Nat) (nR : Nat) (nf : Int32) (lon : Int32) : Int32 := ((lon - (-180)) * (nI nC)) / 360
abbrev rm_X1_columnOf : Room := { frames := 0, cells := 0, slots := 0, locals := 0 }
abbrev Qc_X1_columnOf (D : va_G) (cI cZ cJ cD : ClassId) (qf : Nat) (qx : Nat) (qy : Nat) (qz : Nat) (qu : Nat) (nC : Nat) (nR : Nat) (nf : Int32) (lon : Int32) : Array Value → State → Outcome → State → Prop := va_Qi (fun (r : Int32) (_ : Unit) => r = s_X1_columnOf nC nR nf lon) (fun _ _ => True) (fun _ : Nat => False)
set_option maxHeartbeats 4000000 in
set_option maxRecDepth 100000 in
theorem c_X1_columnOf (l : Launch) (D : va_G) (cI cZ cJ cD : ClassId) (qf : Nat) (qx : Nat) (qy : Nat) (qz : Nat) (qu : Nat) (nC : Nat) (nR : Nat) (nf : Int32) (lon : Int32)  : Met l yX1_columnOf wsX1_columnOf rm_X1_columnOf (va_Pc [.ref qf, .int lon] (zPre D cI cZ cJ cD [(qf, .inr (1, [.ref qx, .ref qy, .ref qz, .ref qu, .int (nI nC), .int (nI nR), .int nf]))])) (Qc_X1_columnOf D cI cZ cJ cD qf qx qy qz qu nC nR nf lon ) 0 0 (fun _ : Nat => False) := by
  refine Met.ofW (cc := cX1_columnOf) (maxL := 2) (ret := (some .int)) (by decide) rfl ?_
  intro p e s m args below meth c s₁ B hml hv
  obtain ⟨rfl, hP, hK⟩ := hv
  have hx := B.exec
  have hb := B.bytes
  have hr := B.returns
  have hts := atoms_spec (ws := wsX1_columnOf) B.pre
  have hown : s.vm.findClass RX1 = some m.cls := findClass_of_methodNamed B.named
  have hlocks := B.notSynchronized
  have hS : va_S (fun _ : Nat => False) s.heap s.heap [] := va_S.rf
  have hl := lv_entry ([.ref qf, .int lon]) (n := 2) (Nat.le_of_ble_eq_true rfl)
  rw [lg_entry_eq]
  generalize (lg_sl ([.ref qf, .int lon]) ++ List.replicate (2 - (lg_sl ([.ref qf, .int lon])).length) Slot.unset).toArray = ls at hl ⊢
  have hl : lv_has ls 2 [(0, .ref qf), (1, .int lon)] := hl
  have hP : va_P D vwCl [(qf, .inr (1, [.ref qx, .ref qy, .ref qz, .ref qu, .int (nI nC), .int (nI nR), .int nf]))] s.heap := hP
  have hP := hP
  refine lv_iload_n hx hb dX1_columnOf_0 rfl (lv_at hl 1 rfl) ?_
  refine lv_sipush (v := (-180)) hx hb dX1_columnOf_1 (by decide) ?_
  refine lv_isub hx hb dX1_columnOf_4 ?_
  refine lv_aload_n hx hb dX1_columnOf_5 rfl (lv_at hl 0 rfl) ?_
  refine va_get (D := D) (ci := 1) (v := .int (nI nC)) (C := RX1) (T := TX1) (N := 7) hx hb hts (fun w h => List.mem_cons_of_mem _ (List.mem_append_right _ h)) hown hK hP 0 rfl rfl 4 (by decide) (hts (.fieldLink RX1 29 "AtlasFolder$FoldedSheet" "columns" "I") (List.mem_cons_of_mem _ (List.mem_append_left _ (List.mem_of_getElem? (i := 0) rfl)))) (fun _ h9 => h9) rfl dX1_columnOf_6 ?_
  refine lv_imul hx hb dX1_columnOf_9 ?_
  refine lv_sipush (v := 360) hx hb dX1_columnOf_10 (by decide) ?_
  refine lv_idiv hx hb dX1_columnOf_13 (by decide) ?_
  have e1 : s_X1_columnOf nC nR nf lon = ((lon - (-180)) * (nI nC)) / 360 := rfl
  exact W.iret (v := (((lon - (-180)) * (nI nC)) / 360)) hx hb hr (fun t ht hW => ⟨⟨_, (), rfl, e1.symm, trivial⟩, hS.F ht⟩) hS.2.2 dX1_columnOf_14
def s_X1_rowOf (nC : Nat) (nR : Nat) (nf : Int32) (lat : Int32) : Int32 := (if ((nI nR) - 1) < (((90 - lat) * (nI nR)) / 180) then ((nI nR) - 1) else (((90 - lat) * (nI nR)) / 180))
abbrev rm_X1_rowOf : Room := { frames := 1, cells := 0, slots := 0, locals := 21 }
abbrev Qc_X1_rowOf (D : va_G) (cI cZ cJ cD : ClassId) (qf : Nat) (qx : Nat) (qy : Nat) (qz : Nat) (qu : Nat) (nC : Nat) (nR : Nat) (nf : Int32) (lat : Int32) : Array Value → State → Outcome → State → Prop := va_Qi (fun (r : Int32) (_ : Unit) => r = s_X1_rowOf nC nR nf lat) (fun _ _ => True) (fun _ : Nat => False)
set_option maxHeartbeats 4000000 in
set_option maxRecDepth 100000 in
theorem c_X1_rowOf (l : Launch) (D : va_G) (cI cZ cJ cD : ClassId) (qf : Nat) (qx : Nat) (qy : Nat) (qz : Nat) (qu : Nat) (nC : Nat) (nR : Nat) (nf : Int32) (lat : Int32)  : Met l yX1_rowOf wsX1_rowOf rm_X1_rowOf (va_Pc [.ref qf, .int lat] (zPre D cI cZ cJ cD [(qf, .inr (1, [.ref qx, .ref qy, .ref qz, .ref qu, .int (nI nC), .int (nI nR), .int nf]))])) (Qc_X1_rowOf D cI cZ cJ cD qf qx qy qz qu nC nR nf lat ) 0 0 (fun _ : Nat => False) := by
  refine Met.ofW (cc := cX1_rowOf) (maxL := 2) (ret := (some .int)) (by decide) rfl ?_
  intro p e s m args below meth c s₁ B hml hv
  obtain ⟨rfl, hP, hK⟩ := hv
  have hx := B.exec
  have hb := B.bytes
  have hr := B.returns
  have hts := atoms_spec (ws := wsX1_rowOf) B.pre
  have hown : s.vm.findClass RX1 = some m.cls := findClass_of_methodNamed B.named
  have hlocks := B.notSynchronized
  have hS : va_S (fun _ : Nat => False) s.heap s.heap [] := va_S.rf
  have hl := lv_entry ([.ref qf, .int lat]) (n := 2) (Nat.le_of_ble_eq_true rfl)
  rw [lg_entry_eq]
  generalize (lg_sl ([.ref qf, .int lat]) ++ List.replicate (2 - (lg_sl ([.ref qf, .int lat])).length) Slot.unset).toArray = ls at hl ⊢
  have hl : lv_has ls 2 [(0, .ref qf), (1, .int lat)] := hl
  have hP : va_P D vwCl [(qf, .inr (1, [.ref qx, .ref qy, .ref qz, .ref qu, .int (nI nC), .int (nI nR), .int nf]))] s.heap := hP
  have hP := hP
  refine lv_bipush (v := 90) hx hb dX1_rowOf_0 (by decide) ?_
  refine lv_iload_n hx hb dX1_rowOf_2 rfl (lv_at hl 1 rfl) ?_
  refine lv_isub hx hb dX1_rowOf_3 ?_
  refine lv_aload_n hx hb dX1_rowOf_4 rfl (lv_at hl 0 rfl) ?_
  refine va_get (D := D) (ci := 1) (v := .int (nI nR)) (C := RX1) (T := TX1) (N := 7) hx hb hts (fun w h => List.mem_cons_of_mem _ (List.mem_append_right _ h)) hown hK hP 0 rfl rfl 5 (by decide) (hts (.fieldLink RX1 33 "AtlasFolder$FoldedSheet" "rows" "I") (List.mem_cons_of_mem _ (List.mem_append_left _ (List.mem_of_getElem? (i := 0) rfl)))) (fun _ h9 => h9) rfl dX1_rowOf_5 ?_
  refine lv_imul hx hb dX1_rowOf_8 ?_
  refine lv_sipush (v := 180) hx hb dX1_rowOf_9 (by decide) ?_
  refine lv_idiv hx hb dX1_rowOf_12 (by decide) ?_
  refine lv_aload_n hx hb dX1_rowOf_13 rfl (lv_at hl 0 rfl) ?_
  refine va_get (D := D) (ci := 1) (v := .int (nI nR)) (C := RX1) (T := TX1) (N := 7) hx hb hts (fun w h => List.mem_cons_of_mem _ (List.mem_append_right _ h)) hown hK hP 0 rfl rfl 5 (by decide) (hts (.fieldLink RX1 33 "AtlasFolder$FoldedSheet" "rows" "I") (List.mem_cons_of_mem _ (List.mem_append_left _ (List.mem_of_getElem? (i := 0) rfl)))) (fun _ h9 => h9) rfl dX1_rowOf_14 ?_
  refine lv_iconst (v := 1) hx hb dX1_rowOf_17 (by decide) ?_
  refine lv_isub hx hb dX1_rowOf_18 ?_
  refine va_mmin hx hb (hml.trans hl.1.symm) hown (hts (.methodLink RX1 47 Lib.Math.min.name) (List.mem_cons_of_mem _ (List.mem_append_left _ (List.mem_of_getElem? (i := 1) rfl)))) (hts (.static Lib.Math.min.name) (List.mem_cons_of_mem _ (List.mem_append_left _ (List.mem_of_getElem? (i := 2) rfl)))) (hts (.initialized "java/lang/Math") (List.mem_cons_of_mem _ (List.mem_append_left _ (List.mem_of_getElem? (i := 3) rfl)))) (hts (.code Lib.Math.min.name Lib.Math.min.code 2 (some .int)) (List.mem_cons_of_mem _ (List.mem_append_left _ (List.mem_of_getElem? (i := 4) rfl)))) (Nat.le_of_ble_eq_true rfl) (Nat.le_of_ble_eq_true rfl) (Nat.le_of_ble_eq_true rfl) (Nat.le_of_ble_eq_true rfl) dX1_rowOf_19 ?_
  have e1 : s_X1_rowOf nC nR nf lat = (if ((nI nR) - 1) < (((90 - lat) * (nI nR)) / 180) then ((nI nR) - 1) else (((90 - lat) * (nI nR)) / 180)) := rfl
  exact W.iret (v := (if ((nI nR) - 1) < (((90 - lat) * (nI nR)) / 180) then ((nI nR) - 1) else (((90 - lat) * (nI nR)) / 180))) hx hb hr (fun t ht hW => ⟨⟨_, (), rfl, e1.symm, trivial⟩, hS.F ht⟩) hS.2.2 dX1_rowOf_22
def lp_X1_placesBelow_5 (nC : Nat) (nR : Nat) (nf : Int32) (f : Nat → Int32) (b : Int32) : Nat → Int32
  | 0 => 0
  | k + 1 => (if b ≤ (f (nI k).toNatClampNeg) then lp_X1_placesBelow_5 nC nR nf f b k else (lp_X1_placesBelow_5 nC nR nf f b k) + 1)
def s_X1_placesBelow (nC : Nat) (nR : Nat) (nf : Int32) (f : Nat → Int32) (b : Int32) : Int32 := lp_X1_placesBelow_5 nC nR nf f b (nC * nR)
abbrev rm_X1_placesBelow : Room := { frames := 1, cells := 0, slots := 0, locals := 20 }
abbrev Qc_X1_placesBelow (D : va_G) (cI cZ cJ cD : ClassId) (qf : Nat) (qx : Nat) (qy : Nat) (qz : Nat) (qu : Nat) (nC : Nat) (nR : Nat) (nf : Int32) (qa : Nat) (f : Nat → Int32) (b : Int32) : Array Value → State → Outcome → State → Prop := va_Qi (fun (r : Int32) (_ : Unit) => r = s_X1_placesBelow nC nR nf f b) (fun _ _ => True) (fun _ : Nat => False)
set_option maxHeartbeats 4000000 in
set_option maxRecDepth 100000 in
theorem c_X1_placesBelow (l : Launch) (D : va_G) (cI cZ cJ cD : ClassId) (qf : Nat) (qx : Nat) (qy : Nat) (qz : Nat) (qu : Nat) (nC : Nat) (nR : Nat) (nf : Int32) (qa : Nat) (f : Nat → Int32) (b : Int32) (hN : nC * nR ≤ 36) : Met l yX1_placesBelow wsX1_placesBelow rm_X1_placesBelow (va_Pc [.ref qf, .ref qa, .int b] (zPre D cI cZ cJ cD [(qf, .inr (1, [.ref qx, .ref qy, .ref qz, .ref qu, .int (nI nC), .int (nI nR), .int nf])), (qa, .inl (cI, 36, .inl f))])) (Qc_X1_placesBelow D cI cZ cJ cD qf qx qy qz qu nC nR nf qa f b ) 0 0 (fun _ : Nat => False) := by
  refine Met.ofW (cc := cX1_placesBelow) (maxL := 5) (ret := (some .int)) (by decide) rfl ?_
  intro p e s m args below meth c s₁ B hml hv
  obtain ⟨rfl, hP, hK⟩ := hv
  have hx := B.exec
  have hb := B.bytes
  have hr := B.returns
  have hts := atoms_spec (ws := wsX1_placesBelow) B.pre
  have hown : s.vm.findClass RX1 = some m.cls := findClass_of_methodNamed B.named
  have hlocks := B.notSynchronized
  have hS : va_S (fun _ : Nat => False) s.heap s.heap [] := va_S.rf
  have hl := lv_entry ([.ref qf, .ref qa, .int b]) (n := 5) (Nat.le_of_ble_eq_true rfl)
  rw [lg_entry_eq]
  generalize (lg_sl ([.ref qf, .ref qa, .int b]) ++ List.replicate (5 - (lg_sl ([.ref qf, .ref qa, .int b])).length) Slot.unset).toArray = ls at hl ⊢
  have hl : lv_has ls 5 [(0, .ref qf), (1, .ref qa), (2, .int b)] := hl
  have hP : va_P D vwCl [(qf, .inr (1, [.ref qx, .ref qy, .ref qz, .ref qu, .int (nI nC), .int (nI nR), .int nf])), (qa, .inl (cI, 36, .inl f))] s.heap := hP
  have hP := hP
  refine lv_iconst (v := 0) hx hb dX1_placesBelow_0 (by decide) ?_
  refine lv_istore_n (lv' := [(3, .int 0), (0, .ref qf), (1, .ref qa), (2, .int b)]) hx hb dX1_placesBelow_1 rfl hl (by decide) rfl (fun ls hl => ?_)
  refine lv_iconst (v := 0) hx hb dX1_placesBelow_2 (by decide) ?_
  refine lv_istore (lv' := [(4, .int 0), (3, .int 0), (0, .ref qf), (1, .ref qa), (2, .int b)]) hx hb dX1_placesBelow_3 hl (by decide) rfl (fun ls hl => ?_)
  have X1 : ∀ (H : Heap) (locs : List Loc), va_P D vwCl [(qf, .inr (1, [.ref qx, .ref qy, .ref qz, .ref qu, .int (nI nC), .int (nI nR), .int nf])), (qa, .inl (cI, 36, .inl f))] H → va_S (fun _ : Nat => False) s.heap H locs → ∀ (ls : Array Slot), lv_has ls 5 [(0, .ref qf), (1, .ref qa), (2, .int b), (3, .int (lp_X1_placesBelow_5 nC nR nf f b (nC * nR)))] → W p l e (headSpec wsX1_placesBelow rm_X1_placesBelow).room s m ([.ref qf, .ref qa, .int b]).toArray below meth c H locs 0 0 (MQ below (Qc_X1_placesBelow D cI cZ cJ cD qf qx qy qz qu nC nR nf qa f b) ([.ref qf, .ref qa, .int b]).toArray s 0 0 (fun _ : Nat => False)) (F0 m 31 ls []) := by
    intro H locs hP hS ls hl
    refine lv_iload_n hx hb dX1_placesBelow_31 rfl (lv_at hl 3 rfl) ?_
    have e2 : s_X1_placesBelow nC nR nf f b = lp_X1_placesBelow_5 nC nR nf f b (nC * nR) := rfl
    exact W.iret (v := (lp_X1_placesBelow_5 nC nR nf f b (nC * nR))) hx hb hr (fun t ht hW => ⟨⟨_, (), rfl, e2.symm, trivial⟩, hS.F ht⟩) hS.2.2 dX1_placesBelow_32
  have L1 : ∀ (n k : Nat) (acc : Int32), k ≤ nC * nR → nC * nR < k + n → acc = lp_X1_placesBelow_5 nC nR nf f b k → ∀ (H : Heap) (locs : List Loc), va_P D vwCl [(qf, .inr (1, [.ref qx, .ref qy, .ref qz, .ref qu, .int (nI nC), .int (nI nR), .int nf])), (qa, .inl (cI, 36, .inl f))] H → va_S (fun _ : Nat => False) s.heap H locs → ∀ (ls : Array Slot), lv_has ls 5 [(0, .ref qf), (1, .ref qa), (2, .int b), (4, .int (nI k)), (3, .int acc)] → W p l e (headSpec wsX1_placesBelow rm_X1_placesBelow).room s m ([.ref qf, .ref qa, .int b]).toArray below meth c H locs 0 0 (MQ below (Qc_X1_placesBelow D cI cZ cJ cD qf qx qy qz qu nC nR nf qa f b) ([.ref qf, .ref qa, .int b]).toArray s 0 0 (fun _ : Nat => False)) (F0 m 5 ls []) := by
    intro n
    induction n with
    | zero =>
      intro k acc hk hf
      exact absurd hf (by omega)
    | succ n ih =>
      intro k acc hk hf hacc H locs hP hS ls hl
      subst hacc
      refine lv_iload hx hb dX1_placesBelow_5 (lv_at hl 3 rfl) ?_
      refine lv_aload_n hx hb dX1_placesBelow_7 rfl (lv_at hl 0 rfl) ?_
      refine va_calli (va_runV (As := []) (rest := [.int (nI k)]) ⟨hx, hb, hml, hown, hts⟩ (c_X1_panels l D cI cZ cJ cD qf qx qy qz qu nC nR nf ) (cwV 0 hts gX1_placesBelow_X1_panels rfl rfl rfl (by decide +kernel) ⟨Nat.le_of_ble_eq_true rfl, Nat.le_of_ble_eq_true rfl⟩) ⟨zblind, va_recv hK hP (ci := 1) (q0 := 0) rfl rfl, (fun U hU hW => ⟨rfl, by rw [hU]; exact hP.sub (ws' := [(qf, .inr (1, [.ref qx, .ref qy, .ref qz, .ref qu, .int (nI nC), .int (nI nR), .int nf]))]) [0] rfl, va_K.moved hW.alike hK⟩)⟩ rfl rfl hl.1 rfl (lv_room (Nat.le_of_ble_eq_true rfl)) dX1_placesBelow_8 ⟨Nat.le_of_ble_eq_true rfl, Nat.le_of_ble_eq_true rfl⟩) hS (fun q _ h => h.elim) (fun q h => h.elim) (fun r3 u t H locs ht hvm hw hB hz1 hk1 hS => ?_)
      rw [hw]
      have hP := zk hP hk1
      refine lv_icmp_ge (tgt := 31) hx hb dX1_placesBelow_11 (by decide) (fun c4 => ?_) (fun c4 => ?_)
      · have hge : nC * nR ≤ k := (z_pge hN hk c4)
        have ek : k = nC * nR := by omega
        subst ek
        exact X1 _ _ hP hS _ (lv_sub hl [0, 1, 2, 4] rfl)
      · refine lv_aload_n hx hb dX1_placesBelow_14 rfl (lv_at hl 1 rfl) ?_
        refine lv_iload hx hb dX1_placesBelow_15 (lv_at hl 3 rfl) ?_
        refine va_iald hx hb hK hP 1 0 rfl rfl (z_pin hN hk c4) dX1_placesBelow_17 ?_
        refine lv_iload_n hx hb dX1_placesBelow_18 rfl (lv_at hl 2 rfl) ?_
        refine lv_icmp_ge (tgt := 25) hx hb dX1_placesBelow_19 (by decide) (fun c5 => ?_) (fun c5 => ?_)
        · refine lv_iinc (v := nI (k + 1)) (lv' := [(4, .int (nI (k + 1))), (0, .ref qf), (1, .ref qa), (2, .int b), (3, .int (lp_X1_placesBelow_5 nC nR nf f b k))]) hx hb dX1_placesBelow_25 hl (k := 3) rfl (nI_succ k).symm (by decide) rfl (fun ls hl => ?_)
          refine lv_goto (tgt := 5) hx hb dX1_placesBelow_28 (by decide) ?_
          have hlt : k < nC * nR := (z_plt hN hk c4)
          exact ih (k + 1) _ (by omega) (by omega) ((if_pos c5)).symm _ _ hP hS _ (lv_sub hl [1, 2, 3, 0, 4] rfl)
        · refine lv_iinc (v := (lp_X1_placesBelow_5 nC nR nf f b k) + 1) (lv' := [(3, .int ((lp_X1_placesBelow_5 nC nR nf f b k) + 1)), (0, .ref qf), (1, .ref qa), (2, .int b), (4, .int (nI k))]) hx hb dX1_placesBelow_22 hl (k := 4) rfl rfl (by decide) rfl (fun ls hl => ?_)
          refine lv_iinc (v := nI (k + 1)) (lv' := [(4, .int (nI (k + 1))), (3, .int ((lp_X1_placesBelow_5 nC nR nf f b k) + 1)), (0, .ref qf), (1, .ref qa), (2, .int b)]) hx hb dX1_placesBelow_25 hl (k := 4) rfl (nI_succ k).symm (by decide) rfl (fun ls hl => ?_)
          refine lv_goto (tgt := 5) hx hb dX1_placesBelow_28 (by decide) ?_
          have hlt : k < nC * nR := (z_plt hN hk c4)
          exact ih (k + 1) _ (by omega) (by omega) ((if_neg c5)).symm _ _ hP hS _ (lv_sub hl [2, 3, 4, 0, 1] rfl)
  exact L1 (nC * nR + 1) 0 _ (Nat.zero_le _) (by omega) rfl _ _ hP hS _ (lv_sub hl [2, 3, 4, 0, 1] rfl)
def lp_X1_highestLayer_4 (nC : Nat) (nR : Nat) (nf : Int32) (fz : Nat → Int32) : Nat → Int32
  | 0 => 0
  | k + 1 => (if (lp_X1_highestLayer_4 nC nR nf fz k) < (fz (nI k).toNatClampNeg) then (fz (nI k).toNatClampNeg) else (lp_X1_highestLayer_4 nC nR nf fz k))
def s_X1_highestLayer (nC : Nat) (nR : Nat) (nf : Int32) (fz : Nat → Int32) : Int32 := lp_X1_highestLayer_4 nC nR nf fz (nC * nR)
abbrev rm_X1_highestLayer : Room := { frames := 1, cells := 0, slots := 0, locals := 21 }
abbrev Qc_X1_highestLayer (D : va_G) (cI cZ cJ cD : ClassId) (qf : Nat) (qx : Nat) (qy : Nat) (qz : Nat) (qu : Nat) (nC : Nat) (nR : Nat) (nf : Int32) (fz : Nat → Int32) : Array Value → State → Outcome → State → Prop := va_Qi (fun (r : Int32) (_ : Unit) => r = s_X1_highestLayer nC nR nf fz) (fun _ _ => True) (fun _ : Nat => False)
set_option maxHeartbeats 4000000 in
set_option maxRecDepth 100000 in
theorem c_X1_highestLayer (l : Launch) (D : va_G) (cI cZ cJ cD : ClassId) (qf : Nat) (qx : Nat) (qy : Nat) (qz : Nat) (qu : Nat) (nC : Nat) (nR : Nat) (nf : Int32) (fz : Nat → Int32) (hN : nC * nR ≤ 36) : Met l yX1_highestLayer wsX1_highestLayer rm_X1_highestLayer (va_Pc [.ref qf] (zPre D cI cZ cJ cD [(qf, .inr (1, [.ref qx, .ref qy, .ref qz, .ref qu, .int (nI nC), .int (nI nR), .int nf])), (qz, .inl (cI, 36, .inl fz))])) (Qc_X1_highestLayer D cI cZ cJ cD qf qx qy qz qu nC nR nf fz ) 0 0 (fun _ : Nat => False) := by
  refine Met.ofW (cc := cX1_highestLayer) (maxL := 3) (ret := (some .int)) (by decide) rfl ?_
  intro p e s m args below meth c s₁ B hml hv
  obtain ⟨rfl, hP, hK⟩ := hv
  have hx := B.exec
  have hb := B.bytes
  have hr := B.returns
  have hts := atoms_spec (ws := wsX1_highestLayer) B.pre
  have hown : s.vm.findClass RX1 = some m.cls := findClass_of_methodNamed B.named
  have hlocks := B.notSynchronized
  have hS : va_S (fun _ : Nat => False) s.heap s.heap [] := va_S.rf
  have hl := lv_entry ([.ref qf]) (n := 3) (Nat.le_of_ble_eq_true rfl)
  rw [lg_entry_eq]
  generalize (lg_sl ([.ref qf]) ++ List.replicate (3 - (lg_sl ([.ref qf])).length) Slot.unset).toArray = ls at hl ⊢
  have hl : lv_has ls 3 [(0, .ref qf)] := hl
  have hP : va_P D vwCl [(qf, .inr (1, [.ref qx, .ref qy, .ref qz, .ref qu, .int (nI nC), .int (nI nR), .int nf])), (qz, .inl (cI, 36, .inl fz))] s.heap := hP
  have hP := hP
  refine lv_iconst (v := 0) hx hb dX1_highestLayer_0 (by decide) ?_
  refine lv_istore_n (lv' := [(1, .int 0), (0, .ref qf)]) hx hb dX1_highestLayer_1 rfl hl (by decide) rfl (fun ls hl => ?_)
  refine lv_iconst (v := 0) hx hb dX1_highestLayer_2 (by decide) ?_
  refine lv_istore_n (lv' := [(2, .int 0), (1, .int 0), (0, .ref qf)]) hx hb dX1_highestLayer_3 rfl hl (by decide) rfl (fun ls hl => ?_)
  have X1 : ∀ (H : Heap) (locs : List Loc), va_P D vwCl [(qf, .inr (1, [.ref qx, .ref qy, .ref qz, .ref qu, .int (nI nC), .int (nI nR), .int nf])), (qz, .inl (cI, 36, .inl fz))] H → va_S (fun _ : Nat => False) s.heap H locs → ∀ (ls : Array Slot), lv_has ls 3 [(0, .ref qf), (1, .int (lp_X1_highestLayer_4 nC nR nf fz (nC * nR)))] → W p l e (headSpec wsX1_highestLayer rm_X1_highestLayer).room s m ([.ref qf]).toArray below meth c H locs 0 0 (MQ below (Qc_X1_highestLayer D cI cZ cJ cD qf qx qy qz qu nC nR nf fz) ([.ref qf]).toArray s 0 0 (fun _ : Nat => False)) (F0 m 29 ls []) := by
    intro H locs hP hS ls hl
    refine lv_iload_n hx hb dX1_highestLayer_29 rfl (lv_at hl 1 rfl) ?_
    have e2 : s_X1_highestLayer nC nR nf fz = lp_X1_highestLayer_4 nC nR nf fz (nC * nR) := rfl
    exact W.iret (v := (lp_X1_highestLayer_4 nC nR nf fz (nC * nR))) hx hb hr (fun t ht hW => ⟨⟨_, (), rfl, e2.symm, trivial⟩, hS.F ht⟩) hS.2.2 dX1_highestLayer_30
  have L1 : ∀ (n k : Nat) (acc : Int32), k ≤ nC * nR → nC * nR < k + n → acc = lp_X1_highestLayer_4 nC nR nf fz k → ∀ (H : Heap) (locs : List Loc), va_P D vwCl [(qf, .inr (1, [.ref qx, .ref qy, .ref qz, .ref qu, .int (nI nC), .int (nI nR), .int nf])), (qz, .inl (cI, 36, .inl fz))] H → va_S (fun _ : Nat => False) s.heap H locs → ∀ (ls : Array Slot), lv_has ls 3 [(0, .ref qf), (2, .int (nI k)), (1, .int acc)] → W p l e (headSpec wsX1_highestLayer rm_X1_highestLayer).room s m ([.ref qf]).toArray below meth c H locs 0 0 (MQ below (Qc_X1_highestLayer D cI cZ cJ cD qf qx qy qz qu nC nR nf fz) ([.ref qf]).toArray s 0 0 (fun _ : Nat => False)) (F0 m 4 ls []) := by
    intro n
    induction n with
    | zero =>
      intro k acc hk hf
      exact absurd hf (by omega)
    | succ n ih =>
      intro k acc hk hf hacc H locs hP hS ls hl
      subst hacc
      refine lv_iload_n hx hb dX1_highestLayer_4 rfl (lv_at hl 1 rfl) ?_
      refine lv_aload_n hx hb dX1_highestLayer_5 rfl (lv_at hl 0 rfl) ?_
      refine va_calli (va_runV (As := []) (rest := [.int (nI k)]) ⟨hx, hb, hml, hown, hts⟩ (c_X1_panels l D cI cZ cJ cD qf qx qy qz qu nC nR nf ) (cwV 0 hts gX1_highestLayer_X1_panels rfl rfl rfl (by decide +kernel) ⟨Nat.le_of_ble_eq_true rfl, Nat.le_of_ble_eq_true rfl⟩) ⟨zblind, va_recv hK hP (ci := 1) (q0 := 0) rfl rfl, (fun U hU hW => ⟨rfl, by rw [hU]; exact hP.sub (ws' := [(qf, .inr (1, [.ref qx, .ref qy, .ref qz, .ref qu, .int (nI nC), .int (nI nR), .int nf]))]) [0] rfl, va_K.moved hW.alike hK⟩)⟩ rfl rfl hl.1 rfl (lv_room (Nat.le_of_ble_eq_true rfl)) dX1_highestLayer_6 ⟨Nat.le_of_ble_eq_true rfl, Nat.le_of_ble_eq_true rfl⟩) hS (fun q _ h => h.elim) (fun q h => h.elim) (fun r3 u t H locs ht hvm hw hB hz1 hk1 hS => ?_)
      rw [hw]
      have hP := zk hP hk1
      refine lv_icmp_ge (tgt := 29) hx hb dX1_highestLayer_9 (by decide) (fun c4 => ?_) (fun c4 => ?_)
      · have hge : nC * nR ≤ k := (z_pge hN hk c4)
        have ek : k = nC * nR := by omega
        subst ek
        exact X1 _ _ hP hS _ (lv_sub hl [0, 2] rfl)
      · refine lv_iload_n hx hb dX1_highestLayer_12 rfl (lv_at hl 2 rfl) ?_
        refine lv_aload_n hx hb dX1_highestLayer_13 rfl (lv_at hl 0 rfl) ?_
        refine va_get (D := D) (ci := 1) (v := .ref qz) (C := RX1) (T := TX1) (N := 7) hx hb hts (fun w h => List.mem_cons_of_mem _ (List.mem_append_right _ h)) hown hK hP 0 rfl rfl 2 (by decide) (hts (.fieldLink RX1 18 "AtlasFolder$FoldedSheet" "layers" "[I") (List.mem_cons_of_mem _ (List.mem_append_left _ (List.mem_of_getElem? (i := 0) rfl)))) (fun _ h9 => h9) rfl dX1_highestLayer_14 ?_
        refine lv_iload_n hx hb dX1_highestLayer_17 rfl (lv_at hl 1 rfl) ?_
        refine va_iald hx hb hK hP 1 0 rfl rfl (z_pin hN hk c4) dX1_highestLayer_18 ?_
        refine va_mmax hx hb (hml.trans hl.1.symm) hown (hts (.methodLink RX1 67 Lib.Math.max.name) (List.mem_cons_of_mem _ (List.mem_append_left _ (List.mem_of_getElem? (i := 1) rfl)))) (hts (.static Lib.Math.max.name) (List.mem_cons_of_mem _ (List.mem_append_left _ (List.mem_of_getElem? (i := 2) rfl)))) (hts (.initialized "java/lang/Math") (List.mem_cons_of_mem _ (List.mem_append_left _ (List.mem_of_getElem? (i := 3) rfl)))) (hts (.code Lib.Math.max.name Lib.Math.max.code 2 (some .int)) (List.mem_cons_of_mem _ (List.mem_append_left _ (List.mem_of_getElem? (i := 4) rfl)))) (Nat.le_of_ble_eq_true rfl) (Nat.le_of_ble_eq_true rfl) (Nat.le_of_ble_eq_true rfl) (Nat.le_of_ble_eq_true rfl) dX1_highestLayer_19 ?_
        refine lv_istore_n (lv' := [(1, .int (if (lp_X1_highestLayer_4 nC nR nf fz k) < (fz (nI k).toNatClampNeg) then (fz (nI k).toNatClampNeg) else (lp_X1_highestLayer_4 nC nR nf fz k))), (0, .ref qf), (2, .int (nI k))]) hx hb dX1_highestLayer_22 rfl hl (by decide) rfl (fun ls hl => ?_)
        refine lv_iinc (v := nI (k + 1)) (lv' := [(2, .int (nI (k + 1))), (1, .int (if (lp_X1_highestLayer_4 nC nR nf fz k) < (fz (nI k).toNatClampNeg) then (fz (nI k).toNatClampNeg) else (lp_X1_highestLayer_4 nC nR nf fz k))), (0, .ref qf)]) hx hb dX1_highestLayer_23 hl (k := 2) rfl (nI_succ k).symm (by decide) rfl (fun ls hl => ?_)
        refine lv_goto (tgt := 4) hx hb dX1_highestLayer_26 (by decide) ?_
        have hlt : k < nC * nR := (z_plt hN hk c4)
        exact ih (k + 1) _ (by omega) (by omega) rfl _ _ hP hS _ (lv_sub hl [2, 0, 1] rfl)
  exact L1 (nC * nR + 1) 0 _ (Nat.zero_le _) (by omega) rfl _ _ hP hS _ (lv_sub hl [2, 0, 1] rfl)
def lp_X1_higherThan_4 (nC : Nat) (nR : Nat) (nf : Int32) (fx : Nat → Int32) (fy : Nat → Int32) (fz : Nat → Int32) (pn : Int32) : Nat → Int32
  | 0 => 0
  | k + 1 => (if (fx (nI k).toNatClampNeg) = (fx pn.toNatClampNeg) then (if (fy (nI k).toNatClampNeg) = (fy pn.toNatClampNeg) then (if (fz (nI k).toNatClampNeg) ≤ (fz pn.toNatClampNeg) then lp_X1_higherThan_4 nC nR nf fx fy fz pn k else (lp_X1_higherThan_4 nC nR nf fx fy fz pn k) + 1) else lp_X1_higherThan_4 nC nR nf fx fy fz pn k) else lp_X1_higherThan_4 nC nR nf fx fy fz pn k)
def s_X1_higherThan (nC : Nat) (nR : Nat) (nf : Int32) (fx : Nat → Int32) (fy : Nat → Int32) (fz : Nat → Int32) (pn : Int32) : Int32 := lp_X1_higherThan_4 nC nR nf fx fy fz pn (nC * nR)
abbrev rm_X1_higherThan : Room := { frames := 1, cells := 0, slots := 0, locals := 20 }
abbrev Qc_X1_higherThan (D : va_G) (cI cZ cJ cD : ClassId) (qf : Nat) (qx : Nat) (qy : Nat) (qz : Nat) (qu : Nat) (nC : Nat) (nR : Nat) (nf : Int32) (fx : Nat → Int32) (fy : Nat → Int32) (fz : Nat → Int32) (pn : Int32) : Array Value → State → Outcome → State → Prop := va_Qi (fun (r : Int32) (_ : Unit) => r = s_X1_higherThan nC nR nf fx fy fz pn) (fun _ _ => True) (fun _ : Nat => False)
set_option maxHeartbeats 4000000 in
set_option maxRecDepth 100000 in
theorem c_X1_higherThan (l : Launch) (D : va_G) (cI cZ cJ cD : ClassId) (qf : Nat) (qx : Nat) (qy : Nat) (qz : Nat) (qu : Nat) (nC : Nat) (nR : Nat) (nf : Int32) (fx : Nat → Int32) (fy : Nat → Int32) (fz : Nat → Int32) (pn : Int32) (hN : nC * nR ≤ 36) (hp : vp_in pn 36) : Met l yX1_higherThan wsX1_higherThan rm_X1_higherThan (va_Pc [.ref qf, .int pn] (zPre D cI cZ cJ cD [(qf, .inr (1, [.ref qx, .ref qy, .ref qz, .ref qu, .int (nI nC), .int (nI nR), .int nf])), (qx, .inl (cI, 36, .inl fx)), (qy, .inl (cI, 36, .inl fy)), (qz, .inl (cI, 36, .inl fz))])) (Qc_X1_higherThan D cI cZ cJ cD qf qx qy qz qu nC nR nf fx fy fz pn ) 0 0 (fun _ : Nat => False) := by
  refine Met.ofW (cc := cX1_higherThan) (maxL := 4) (ret := (some .int)) (by decide) rfl ?_
  intro p e s m args below meth c s₁ B hml hv
  obtain ⟨rfl, hP, hK⟩ := hv
  have hx := B.exec
  have hb := B.bytes
  have hr := B.returns
  have hts := atoms_spec (ws := wsX1_higherThan) B.pre
  have hown : s.vm.findClass RX1 = some m.cls := findClass_of_methodNamed B.named
  have hlocks := B.notSynchronized
  have hS : va_S (fun _ : Nat => False) s.heap s.heap [] := va_S.rf
  have hl := lv_entry ([.ref qf, .int pn]) (n := 4) (Nat.le_of_ble_eq_true rfl)
  rw [lg_entry_eq]
  generalize (lg_sl ([.ref qf, .int pn]) ++ List.replicate (4 - (lg_sl ([.ref qf, .int pn])).length) Slot.unset).toArray = ls at hl ⊢
  have hl : lv_has ls 4 [(0, .ref qf), (1, .int pn)] := hl
  have hP : va_P D vwCl [(qf, .inr (1, [.ref qx, .ref qy, .ref qz, .ref qu, .int (nI nC), .int (nI nR), .int nf])), (qx, .inl (cI, 36, .inl fx)), (qy, .inl (cI, 36, .inl fy)), (qz, .inl (cI, 36, .inl fz))] s.heap := hP
  have hP := hP
  refine lv_iconst (v := 0) hx hb dX1_higherThan_0 (by decide) ?_
  refine lv_istore_n (lv' := [(2, .int 0), (0, .ref qf), (1, .int pn)]) hx hb dX1_higherThan_1 rfl hl (by decide) rfl (fun ls hl => ?_)
  refine lv_iconst (v := 0) hx hb dX1_higherThan_2 (by decide) ?_
  refine lv_istore_n (lv' := [(3, .int 0), (2, .int 0), (0, .ref qf), (1, .int pn)]) hx hb dX1_higherThan_3 rfl hl (by decide) rfl (fun ls hl => ?_)
  have X1 : ∀ (H : Heap) (locs : List Loc), va_P D vwCl [(qf, .inr (1, [.ref qx, .ref qy, .ref qz, .ref qu, .int (nI nC), .int (nI nR), .int nf])), (qx, .inl (cI, 36, .inl fx)), (qy, .inl (cI, 36, .inl fy)), (qz, .inl (cI, 36, .inl fz))] H → va_S (fun _ : Nat => False) s.heap H locs → ∀ (ls : Array Slot), lv_has ls 4 [(0, .ref qf), (1, .int pn), (2, .int (lp_X1_higherThan_4 nC nR nf fx fy fz pn (nC * nR)))] → W p l e (headSpec wsX1_higherThan rm_X1_higherThan).room s m ([.ref qf, .int pn]).toArray below meth c H locs 0 0 (MQ below (Qc_X1_higherThan D cI cZ cJ cD qf qx qy qz qu nC nR nf fx fy fz pn) ([.ref qf, .int pn]).toArray s 0 0 (fun _ : Nat => False)) (F0 m 66 ls []) := by
    intro H locs hP hS ls hl
    refine lv_iload_n hx hb dX1_higherThan_66 rfl (lv_at hl 2 rfl) ?_
    have e2 : s_X1_higherThan nC nR nf fx fy fz pn = lp_X1_higherThan_4 nC nR nf fx fy fz pn (nC * nR) := rfl
    exact W.iret (v := (lp_X1_higherThan_4 nC nR nf fx fy fz pn (nC * nR))) hx hb hr (fun t ht hW => ⟨⟨_, (), rfl, e2.symm, trivial⟩, hS.F ht⟩) hS.2.2 dX1_higherThan_67
  have L1 : ∀ (n k : Nat) (acc : Int32), k ≤ nC * nR → nC * nR < k + n → acc = lp_X1_higherThan_4 nC nR nf fx fy fz pn k → ∀ (H : Heap) (locs : List Loc), va_P D vwCl [(qf, .inr (1, [.ref qx, .ref qy, .ref qz, .ref qu, .int (nI nC), .int (nI nR), .int nf])), (qx, .inl (cI, 36, .inl fx)), (qy, .inl (cI, 36, .inl fy)), (qz, .inl (cI, 36, .inl fz))] H → va_S (fun _ : Nat => False) s.heap H locs → ∀ (ls : Array Slot), lv_has ls 4 [(0, .ref qf), (1, .int pn), (3, .int (nI k)), (2, .int acc)] → W p l e (headSpec wsX1_higherThan rm_X1_higherThan).room s m ([.ref qf, .int pn]).toArray below meth c H locs 0 0 (MQ below (Qc_X1_higherThan D cI cZ cJ cD qf qx qy qz qu nC nR nf fx fy fz pn) ([.ref qf, .int pn]).toArray s 0 0 (fun _ : Nat => False)) (F0 m 4 ls []) := by
    intro n
    induction n with
    | zero =>
      intro k acc hk hf
      exact absurd hf (by omega)
    | succ n ih =>
      intro k acc hk hf hacc H locs hP hS ls hl
      subst hacc
      refine lv_iload_n hx hb dX1_higherThan_4 rfl (lv_at hl 2 rfl) ?_
      refine lv_aload_n hx hb dX1_higherThan_5 rfl (lv_at hl 0 rfl) ?_
      refine va_calli (va_runV (As := []) (rest := [.int (nI k)]) ⟨hx, hb, hml, hown, hts⟩ (c_X1_panels l D cI cZ cJ cD qf qx qy qz qu nC nR nf ) (cwV 0 hts gX1_higherThan_X1_panels rfl rfl rfl (by decide +kernel) ⟨Nat.le_of_ble_eq_true rfl, Nat.le_of_ble_eq_true rfl⟩) ⟨zblind, va_recv hK hP (ci := 1) (q0 := 0) rfl rfl, (fun U hU hW => ⟨rfl, by rw [hU]; exact hP.sub (ws' := [(qf, .inr (1, [.ref qx, .ref qy, .ref qz, .ref qu, .int (nI nC), .int (nI nR), .int nf]))]) [0] rfl, va_K.moved hW.alike hK⟩)⟩ rfl rfl hl.1 rfl (lv_room (Nat.le_of_ble_eq_true rfl)) dX1_higherThan_6 ⟨Nat.le_of_ble_eq_true rfl, Nat.le_of_ble_eq_true rfl⟩) hS (fun q _ h => h.elim) (fun q h => h.elim) (fun r3 u t H locs ht hvm hw hB hz1 hk1 hS => ?_)
      rw [hw]
      have hP := zk hP hk1
      refine lv_icmp_ge (tgt := 66) hx hb dX1_higherThan_9 (by decide) (fun c4 => ?_) (fun c4 => ?_)
      · have hge : nC * nR ≤ k := (z_pge hN hk c4)
        have ek : k = nC * nR := by omega
        subst ek
        exact X1 _ _ hP hS _ (lv_sub hl [0, 1, 3] rfl)
      · refine lv_aload_n hx hb dX1_higherThan_12 rfl (lv_at hl 0 rfl) ?_
        refine va_get (D := D) (ci := 1) (v := .ref qx) (C := RX1) (T := TX1) (N := 7) hx hb hts (fun w h => List.mem_cons_of_mem _ (List.mem_append_right _ h)) hown hK hP 0 rfl rfl 0 (by decide) (hts (.fieldLink RX1 9 "AtlasFolder$FoldedSheet" "columnPlaces" "[I") (List.mem_cons_of_mem _ (List.mem_append_left _ (List.mem_of_getElem? (i := 0) rfl)))) (fun _ h9 => h9) rfl dX1_higherThan_13 ?_
        refine lv_iload_n hx hb dX1_higherThan_16 rfl (lv_at hl 2 rfl) ?_
        refine va_iald hx hb hK hP 1 0 rfl rfl (z_pin hN hk c4) dX1_higherThan_17 ?_
        refine lv_aload_n hx hb dX1_higherThan_18 rfl (lv_at hl 0 rfl) ?_
        refine va_get (D := D) (ci := 1) (v := .ref qx) (C := RX1) (T := TX1) (N := 7) hx hb hts (fun w h => List.mem_cons_of_mem _ (List.mem_append_right _ h)) hown hK hP 0 rfl rfl 0 (by decide) (hts (.fieldLink RX1 9 "AtlasFolder$FoldedSheet" "columnPlaces" "[I") (List.mem_cons_of_mem _ (List.mem_append_left _ (List.mem_of_getElem? (i := 0) rfl)))) (fun _ h9 => h9) rfl dX1_higherThan_19 ?_
        refine lv_iload_n hx hb dX1_higherThan_22 rfl (lv_at hl 1 rfl) ?_
        refine va_iald hx hb hK hP 1 0 rfl rfl hp dX1_higherThan_23 ?_
        refine lv_icmp_ne (tgt := 60) hx hb dX1_higherThan_24 (by decide) (fun c5 => ?_) (fun c5 => ?_)
        · refine lv_iinc (v := nI (k + 1)) (lv' := [(3, .int (nI (k + 1))), (0, .ref qf), (1, .int pn), (2, .int (lp_X1_higherThan_4 nC nR nf fx fy fz pn k))]) hx hb dX1_higherThan_60 hl (k := 2) rfl (nI_succ k).symm (by decide) rfl (fun ls hl => ?_)
          refine lv_goto (tgt := 4) hx hb dX1_higherThan_63 (by decide) ?_
          have hlt : k < nC * nR := (z_plt hN hk c4)
          exact ih (k + 1) _ (by omega) (by omega) ((if_neg c5)).symm _ _ hP hS _ (lv_sub hl [1, 2, 0, 3] rfl)
        · refine lv_aload_n hx hb dX1_higherThan_27 rfl (lv_at hl 0 rfl) ?_
          refine va_get (D := D) (ci := 1) (v := .ref qy) (C := RX1) (T := TX1) (N := 7) hx hb hts (fun w h => List.mem_cons_of_mem _ (List.mem_append_right _ h)) hown hK hP 0 rfl rfl 1 (by decide) (hts (.fieldLink RX1 15 "AtlasFolder$FoldedSheet" "rowPlaces" "[I") (List.mem_cons_of_mem _ (List.mem_append_left _ (List.mem_of_getElem? (i := 1) rfl)))) (fun _ h9 => h9) rfl dX1_higherThan_28 ?_
          refine lv_iload_n hx hb dX1_higherThan_31 rfl (lv_at hl 2 rfl) ?_
          refine va_iald hx hb hK hP 2 0 rfl rfl (z_pin hN hk c4) dX1_higherThan_32 ?_
          refine lv_aload_n hx hb dX1_higherThan_33 rfl (lv_at hl 0 rfl) ?_
          refine va_get (D := D) (ci := 1) (v := .ref qy) (C := RX1) (T := TX1) (N := 7) hx hb hts (fun w h => List.mem_cons_of_mem _ (List.mem_append_right _ h)) hown hK hP 0 rfl rfl 1 (by decide) (hts (.fieldLink RX1 15 "AtlasFolder$FoldedSheet" "rowPlaces" "[I") (List.mem_cons_of_mem _ (List.mem_append_left _ (List.mem_of_getElem? (i := 1) rfl)))) (fun _ h9 => h9) rfl dX1_higherThan_34 ?_
          refine lv_iload_n hx hb dX1_higherThan_37 rfl (lv_at hl 1 rfl) ?_
          refine va_iald hx hb hK hP 2 0 rfl rfl hp dX1_higherThan_38 ?_
          refine lv_icmp_ne (tgt := 60) hx hb dX1_higherThan_39 (by decide) (fun c6 => ?_) (fun c6 => ?_)
          · refine lv_iinc (v := nI (k + 1)) (lv' := [(3, .int (nI (k + 1))), (0, .ref qf), (1, .int pn), (2, .int (lp_X1_higherThan_4 nC nR nf fx fy fz pn k))]) hx hb dX1_higherThan_60 hl (k := 2) rfl (nI_succ k).symm (by decide) rfl (fun ls hl => ?_)
            refine lv_goto (tgt := 4) hx hb dX1_higherThan_63 (by decide) ?_
            have hlt : k < nC * nR := (z_plt hN hk c4)
            exact ih (k + 1) _ (by omega) (by omega) (((if_pos c5).trans (if_neg c6))).symm _ _ hP hS _ (lv_sub hl [1, 2, 0, 3] rfl)
          · refine lv_aload_n hx hb dX1_higherThan_42 rfl (lv_at hl 0 rfl) ?_
            refine va_get (D := D) (ci := 1) (v := .ref qz) (C := RX1) (T := TX1) (N := 7) hx hb hts (fun w h => List.mem_cons_of_mem _ (List.mem_append_right _ h)) hown hK hP 0 rfl rfl 2 (by decide) (hts (.fieldLink RX1 18 "AtlasFolder$FoldedSheet" "layers" "[I") (List.mem_cons_of_mem _ (List.mem_append_left _ (List.mem_of_getElem? (i := 2) rfl)))) (fun _ h9 => h9) rfl dX1_higherThan_43 ?_
            refine lv_iload_n hx hb dX1_higherThan_46 rfl (lv_at hl 2 rfl) ?_
            refine va_iald hx hb hK hP 3 0 rfl rfl (z_pin hN hk c4) dX1_higherThan_47 ?_
            refine lv_aload_n hx hb dX1_higherThan_48 rfl (lv_at hl 0 rfl) ?_
            refine va_get (D := D) (ci := 1) (v := .ref qz) (C := RX1) (T := TX1) (N := 7) hx hb hts (fun w h => List.mem_cons_of_mem _ (List.mem_append_right _ h)) hown hK hP 0 rfl rfl 2 (by decide) (hts (.fieldLink RX1 18 "AtlasFolder$FoldedSheet" "layers" "[I") (List.mem_cons_of_mem _ (List.mem_append_left _ (List.mem_of_getElem? (i := 2) rfl)))) (fun _ h9 => h9) rfl dX1_higherThan_49 ?_
            refine lv_iload_n hx hb dX1_higherThan_52 rfl (lv_at hl 1 rfl) ?_
            refine va_iald hx hb hK hP 3 0 rfl rfl hp dX1_higherThan_53 ?_
            refine lv_icmp_le (tgt := 60) hx hb dX1_higherThan_54 (by decide) (fun c7 => ?_) (fun c7 => ?_)
            · refine lv_iinc (v := nI (k + 1)) (lv' := [(3, .int (nI (k + 1))), (0, .ref qf), (1, .int pn), (2, .int (lp_X1_higherThan_4 nC nR nf fx fy fz pn k))]) hx hb dX1_higherThan_60 hl (k := 2) rfl (nI_succ k).symm (by decide) rfl (fun ls hl => ?_)
              refine lv_goto (tgt := 4) hx hb dX1_higherThan_63 (by decide) ?_
              have hlt : k < nC * nR := (z_plt hN hk c4)
              exact ih (k + 1) _ (by omega) (by omega) (((if_pos c5).trans ((if_pos c6).trans (if_pos c7)))).symm _ _ hP hS _ (lv_sub hl [1, 2, 0, 3] rfl)
            · refine lv_iinc (v := (lp_X1_higherThan_4 nC nR nf fx fy fz pn k) + 1) (lv' := [(2, .int ((lp_X1_higherThan_4 nC nR nf fx fy fz pn k) + 1)), (0, .ref qf), (1, .int pn), (3, .int (nI k))]) hx hb dX1_higherThan_57 hl (k := 3) rfl rfl (by decide) rfl (fun ls hl => ?_)
              refine lv_iinc (v := nI (k + 1)) (lv' := [(3, .int (nI (k + 1))), (2, .int ((lp_X1_higherThan_4 nC nR nf fx fy fz pn k) + 1)), (0, .ref qf), (1, .int pn)]) hx hb dX1_higherThan_60 hl (k := 3) rfl (nI_succ k).symm (by decide) rfl (fun ls hl => ?_)
              refine lv_goto (tgt := 4) hx hb dX1_higherThan_63 (by decide) ?_
              have hlt : k < nC * nR := (z_plt hN hk c4)
              exact ih (k + 1) _ (by omega) (by omega) (((if_pos c5).trans ((if_pos c6).trans (if_neg c7)))).symm _ _ hP hS _ (lv_sub hl [2, 3, 0, 1] rfl)
  exact L1 (nC * nR + 1) 0 _ (Nat.zero_le _) (by omega) rfl _ _ hP hS _ (lv_sub hl [2, 3, 0, 1] rfl)
def lp_X1_mostPanels_4 (nC : Nat) (nR : Nat) (nf : Int32) (fx : Nat → Int32) (fy : Nat → Int32) (fz : Nat → Int32) : Nat → Int32
  | 0 => 0
  | k + 1 => (if (lp_X1_mostPanels_4 nC nR nf fx fy fz k) < ((s_X1_higherThan nC nR nf fx fy fz (nI k)) + 1) then ((s_X1_higherThan nC nR nf fx fy fz (nI k)) + 1) else (lp_X1_mostPanels_4 nC nR nf fx fy fz k))
def s_X1_mostPanels (nC : Nat) (nR : Nat) (nf : Int32) (fx : Nat → Int32) (fy : Nat → Int32) (fz : Nat → Int32) : Int32 := lp_X1_mostPanels_4 nC nR nf fx fy fz (nC * nR)
abbrev rm_X1_mostPanels : Room := { frames := 2, cells := 0, slots := 0, locals := 43 }
abbrev Qc_X1_mostPanels (D : va_G) (cI cZ cJ cD : ClassId) (qf : Nat) (qx : Nat) (qy : Nat) (qz : Nat) (qu : Nat) (nC : Nat) (nR : Nat) (nf : Int32) (fx : Nat → Int32) (fy : Nat → Int32) (fz : Nat → Int32) : Array Value → State → Outcome → State → Prop := va_Qi (fun (r : Int32) (_ : Unit) => r = s_X1_mostPanels nC nR nf fx fy fz) (fun _ _ => True) (fun _ : Nat => False)
set_option maxHeartbeats 4000000 in
set_option maxRecDepth 100000 in
theorem c_X1_mostPanels (l : Launch) (D : va_G) (cI cZ cJ cD : ClassId) (qf : Nat) (qx : Nat) (qy : Nat) (qz : Nat) (qu : Nat) (nC : Nat) (nR : Nat) (nf : Int32) (fx : Nat → Int32) (fy : Nat → Int32) (fz : Nat → Int32) (hN : nC * nR ≤ 36) : Met l yX1_mostPanels wsX1_mostPanels rm_X1_mostPanels (va_Pc [.ref qf] (zPre D cI cZ cJ cD [(qf, .inr (1, [.ref qx, .ref qy, .ref qz, .ref qu, .int (nI nC), .int (nI nR), .int nf])), (qx, .inl (cI, 36, .inl fx)), (qy, .inl (cI, 36, .inl fy)), (qz, .inl (cI, 36, .inl fz))])) (Qc_X1_mostPanels D cI cZ cJ cD qf qx qy qz qu nC nR nf fx fy fz ) 0 0 (fun _ : Nat => False) := by
  refine Met.ofW (cc := cX1_mostPanels) (maxL := 3) (ret := (some .int)) (by decide) rfl ?_
  intro p e s m args below meth c s₁ B hml hv
  obtain ⟨rfl, hP, hK⟩ := hv
  have hx := B.exec
  have hb := B.bytes
  have hr := B.returns
  have hts := atoms_spec (ws := wsX1_mostPanels) B.pre
  have hown : s.vm.findClass RX1 = some m.cls := findClass_of_methodNamed B.named
  have hlocks := B.notSynchronized
  have hS : va_S (fun _ : Nat => False) s.heap s.heap [] := va_S.rf
  have hl := lv_entry ([.ref qf]) (n := 3) (Nat.le_of_ble_eq_true rfl)
  rw [lg_entry_eq]
  generalize (lg_sl ([.ref qf]) ++ List.replicate (3 - (lg_sl ([.ref qf])).length) Slot.unset).toArray = ls at hl ⊢
  have hl : lv_has ls 3 [(0, .ref qf)] := hl
  have hP : va_P D vwCl [(qf, .inr (1, [.ref qx, .ref qy, .ref qz, .ref qu, .int (nI nC), .int (nI nR), .int nf])), (qx, .inl (cI, 36, .inl fx)), (qy, .inl (cI, 36, .inl fy)), (qz, .inl (cI, 36, .inl fz))] s.heap := hP
  have hP := hP
  refine lv_iconst (v := 0) hx hb dX1_mostPanels_0 (by decide) ?_
  refine lv_istore_n (lv' := [(1, .int 0), (0, .ref qf)]) hx hb dX1_mostPanels_1 rfl hl (by decide) rfl (fun ls hl => ?_)
  refine lv_iconst (v := 0) hx hb dX1_mostPanels_2 (by decide) ?_
  refine lv_istore_n (lv' := [(2, .int 0), (1, .int 0), (0, .ref qf)]) hx hb dX1_mostPanels_3 rfl hl (by decide) rfl (fun ls hl => ?_)
  have X1 : ∀ (H : Heap) (locs : List Loc), va_P D vwCl [(qf, .inr (1, [.ref qx, .ref qy, .ref qz, .ref qu, .int (nI nC), .int (nI nR), .int nf])), (qx, .inl (cI, 36, .inl fx)), (qy, .inl (cI, 36, .inl fy)), (qz, .inl (cI, 36, .inl fz))] H → va_S (fun _ : Nat => False) s.heap H locs → ∀ (ls : Array Slot), lv_has ls 3 [(0, .ref qf), (1, .int (lp_X1_mostPanels_4 nC nR nf fx fy fz (nC * nR)))] → W p l e (headSpec wsX1_mostPanels rm_X1_mostPanels).room s m ([.ref qf]).toArray below meth c H locs 0 0 (MQ below (Qc_X1_mostPanels D cI cZ cJ cD qf qx qy qz qu nC nR nf fx fy fz) ([.ref qf]).toArray s 0 0 (fun _ : Nat => False)) (F0 m 30 ls []) := by
    intro H locs hP hS ls hl
    refine lv_iload_n hx hb dX1_mostPanels_30 rfl (lv_at hl 1 rfl) ?_
    have e2 : s_X1_mostPanels nC nR nf fx fy fz = lp_X1_mostPanels_4 nC nR nf fx fy fz (nC * nR) := rfl
    exact W.iret (v := (lp_X1_mostPanels_4 nC nR nf fx fy fz (nC * nR))) hx hb hr (fun t ht hW => ⟨⟨_, (), rfl, e2.symm, trivial⟩, hS.F ht⟩) hS.2.2 dX1_mostPanels_31
  have L1 : ∀ (n k : Nat) (acc : Int32), k ≤ nC * nR → nC * nR < k + n → acc = lp_X1_mostPanels_4 nC nR nf fx fy fz k → ∀ (H : Heap) (locs : List Loc), va_P D vwCl [(qf, .inr (1, [.ref qx, .ref qy, .ref qz, .ref qu, .int (nI nC), .int (nI nR), .int nf])), (qx, .inl (cI, 36, .inl fx)), (qy, .inl (cI, 36, .inl fy)), (qz, .inl (cI, 36, .inl fz))] H → va_S (fun _ : Nat => False) s.heap H locs → ∀ (ls : Array Slot), lv_has ls 3 [(0, .ref qf), (2, .int (nI k)), (1, .int acc)] → W p l e (headSpec wsX1_mostPanels rm_X1_mostPanels).room s m ([.ref qf]).toArray below meth c H locs 0 0 (MQ below (Qc_X1_mostPanels D cI cZ cJ cD qf qx qy qz qu nC nR nf fx fy fz) ([.ref qf]).toArray s 0 0 (fun _ : Nat => False)) (F0 m 4 ls []) := by
    intro n
    induction n with
    | zero =>
      intro k acc hk hf
      exact absurd hf (by omega)
    | succ n ih =>
      intro k acc hk hf hacc H locs hP hS ls hl
      subst hacc
      refine lv_iload_n hx hb dX1_mostPanels_4 rfl (lv_at hl 1 rfl) ?_
      refine lv_aload_n hx hb dX1_mostPanels_5 rfl (lv_at hl 0 rfl) ?_
      refine va_calli (va_runV (As := []) (rest := [.int (nI k)]) ⟨hx, hb, hml, hown, hts⟩ (c_X1_panels l D cI cZ cJ cD qf qx qy qz qu nC nR nf ) (cwV 0 hts gX1_mostPanels_X1_panels rfl rfl rfl (by decide +kernel) ⟨Nat.le_of_ble_eq_true rfl, Nat.le_of_ble_eq_true rfl⟩) ⟨zblind, va_recv hK hP (ci := 1) (q0 := 0) rfl rfl, (fun U hU hW => ⟨rfl, by rw [hU]; exact hP.sub (ws' := [(qf, .inr (1, [.ref qx, .ref qy, .ref qz, .ref qu, .int (nI nC), .int (nI nR), .int nf]))]) [0] rfl, va_K.moved hW.alike hK⟩)⟩ rfl rfl hl.1 rfl (lv_room (Nat.le_of_ble_eq_true rfl)) dX1_mostPanels_6 ⟨Nat.le_of_ble_eq_true rfl, Nat.le_of_ble_eq_true rfl⟩) hS (fun q _ h => h.elim) (fun q h => h.elim) (fun r3 u t H locs ht hvm hw hB hz1 hk1 hS => ?_)
      rw [hw]
      have hP := zk hP hk1
      refine lv_icmp_ge (tgt := 30) hx hb dX1_mostPanels_9 (by decide) (fun c4 => ?_) (fun c4 => ?_)
      · have hge : nC * nR ≤ k := (z_pge hN hk c4)
        have ek : k = nC * nR := by omega
        subst ek
        exact X1 _ _ hP hS _ (lv_sub hl [0, 2] rfl)
      · refine lv_iload_n hx hb dX1_mostPanels_12 rfl (lv_at hl 2 rfl) ?_
        refine lv_aload_n hx hb dX1_mostPanels_13 rfl (lv_at hl 0 rfl) ?_
        refine lv_iload_n hx hb dX1_mostPanels_14 rfl (lv_at hl 1 rfl) ?_
        refine va_calli (va_runV (As := [.int (nI k)]) (rest := [.int (lp_X1_mostPanels_4 nC nR nf fx fy fz k)]) ⟨hx, hb, hml, hown, hts⟩ (c_X1_higherThan l D cI cZ cJ cD qf qx qy qz qu nC nR nf fx fy fz (nI k) hN (z_pin hN hk c4)) (cwV 1 hts gX1_mostPanels_X1_higherThan rfl rfl rfl (by decide +kernel) ⟨Nat.le_of_ble_eq_true rfl, Nat.le_of_ble_eq_true rfl⟩) ⟨zblind, va_recv hK hP (ci := 1) (q0 := 0) rfl rfl, (fun U hU hW => ⟨rfl, by rw [hU]; exact hP.sub (ws' := [(qf, .inr (1, [.ref qx, .ref qy, .ref qz, .ref qu, .int (nI nC), .int (nI nR), .int nf])), (qx, .inl (cI, 36, .inl fx)), (qy, .inl (cI, 36, .inl fy)), (qz, .inl (cI, 36, .inl fz))]) [0, 1, 2, 3] rfl, va_K.moved hW.alike hK⟩)⟩ rfl rfl hl.1 rfl (lv_room (Nat.le_of_ble_eq_true rfl)) dX1_mostPanels_15 ⟨Nat.le_of_ble_eq_true rfl, Nat.le_of_ble_eq_true rfl⟩) hS (fun q _ h => h.elim) (fun q h => h.elim) (fun r5 u t H locs ht hvm hw hB hz1 hk1 hS => ?_)
        rw [hw]
        have hP := zk hP hk1
        refine lv_iconst (v := 1) hx hb dX1_mostPanels_18 (by decide) ?_
        refine lv_iadd hx hb dX1_mostPanels_19 ?_
        refine va_mmax hx hb (hml.trans hl.1.symm) hown (hts (.methodLink RX1 67 Lib.Math.max.name) (List.mem_cons_of_mem _ (List.mem_append_left _ (List.mem_of_getElem? (i := 0) rfl)))) (hts (.static Lib.Math.max.name) (List.mem_cons_of_mem _ (List.mem_append_left _ (List.mem_of_getElem? (i := 1) rfl)))) (hts (.initialized "java/lang/Math") (List.mem_cons_of_mem _ (List.mem_append_left _ (List.mem_of_getElem? (i := 2) rfl)))) (hts (.code Lib.Math.max.name Lib.Math.max.code 2 (some .int)) (List.mem_cons_of_mem _ (List.mem_append_left _ (List.mem_of_getElem? (i := 3) rfl)))) (Nat.le_of_ble_eq_true rfl) (Nat.le_of_ble_eq_true rfl) (Nat.le_of_ble_eq_true rfl) (Nat.le_of_ble_eq_true rfl) dX1_mostPanels_20 ?_
        refine lv_istore_n (lv' := [(1, .int (if (lp_X1_mostPanels_4 nC nR nf fx fy fz k) < ((s_X1_higherThan nC nR nf fx fy fz (nI k)) + 1) then ((s_X1_higherThan nC nR nf fx fy fz (nI k)) + 1) else (lp_X1_mostPanels_4 nC nR nf fx fy fz k))), (0, .ref qf), (2, .int (nI k))]) hx hb dX1_mostPanels_23 rfl hl (by decide) rfl (fun ls hl => ?_)
        refine lv_iinc (v := nI (k + 1)) (lv' := [(2, .int (nI (k + 1))), (1, .int (if (lp_X1_mostPanels_4 nC nR nf fx fy fz k) < ((s_X1_higherThan nC nR nf fx fy fz (nI k)) + 1) then ((s_X1_higherThan nC nR nf fx fy fz (nI k)) + 1) else (lp_X1_mostPanels_4 nC nR nf fx fy fz k))), (0, .ref qf)]) hx hb dX1_mostPanels_24 hl (k := 2) rfl (nI_succ k).symm (by decide) rfl (fun ls hl => ?_)
        refine lv_goto (tgt := 4) hx hb dX1_mostPanels_27 (by decide) ?_
        have hlt : k < nC * nR := (z_plt hN hk c4)
        exact ih (k + 1) _ (by omega) (by omega) rfl _ _ hP hS _ (lv_sub hl [2, 0, 1] rfl)
  exact L1 (nC * nR + 1) 0 _ (Nat.zero_le _) (by omega) rfl _ _ hP hS _ (lv_sub hl [2, 0, 1] rfl)
def lp_X1_readablePanels_4 (nC : Nat) (nR : Nat) (nf : Int32) (fx : Nat → Int32) (fy : Nat → Int32) (fz : Nat → Int32) (fu : Nat → Int32) : Nat → Int32
  | 0 => 0
  | k + 1 => (if (fu (nI k).toNatClampNeg) = 0 then lp_X1_readablePanels_4 nC nR nf fx fy fz fu k else (if (s_X1_higherThan nC nR nf fx fy fz (nI k)) = 0 then (lp_X1_readablePanels_4 nC nR nf fx fy fz fu k) + 1 else lp_X1_readablePanels_4 nC nR nf fx fy fz fu k))
def s_X1_readablePanels (nC : Nat) (nR : Nat) (nf : Int32) (fx : Nat → Int32) (fy : Nat → Int32) (fz : Nat → Int32) (fu : Nat → Int32) : Int32 := lp_X1_readablePanels_4 nC nR nf fx fy fz fu (nC * nR)
abbrev rm_X1_readablePanels : Room := { frames := 2, cells := 0, slots := 0, locals := 43 }
abbrev Qc_X1_readablePanels (D : va_G) (cI cZ cJ cD : ClassId) (qf : Nat) (qx : Nat) (qy : Nat) (qz : Nat) (qu : Nat) (nC : Nat) (nR : Nat) (nf : Int32) (fx : Nat → Int32) (fy : Nat → Int32) (fz : Nat → Int32) (fu : Nat → Int32) : Array Value → State → Outcome → State → Prop := va_Qi (fun (r : Int32) (_ : Unit) => r = s_X1_readablePanels nC nR nf fx fy fz fu) (fun _ _ => True) (fun _ : Nat => False)
set_option maxHeartbeats 4000000 in
set_option maxRecDepth 100000 in
theorem c_X1_readablePanels (l : Launch) (D : va_G) (cI cZ cJ cD : ClassId) (qf : Nat) (qx : Nat) (qy : Nat) (qz : Nat) (qu : Nat) (nC : Nat) (nR : Nat) (nf : Int32) (fx : Nat → Int32) (fy : Nat → Int32) (fz : Nat → Int32) (fu : Nat → Int32) (hN : nC * nR ≤ 36) : Met l yX1_readablePanels wsX1_readablePanels rm_X1_readablePanels (va_Pc [.ref qf] (zPre D cI cZ cJ cD [(qf, .inr (1, [.ref qx, .ref qy, .ref qz, .ref qu, .int (nI nC), .int (nI nR), .int nf])), (qx, .inl (cI, 36, .inl fx)), (qy, .inl (cI, 36, .inl fy)), (qz, .inl (cI, 36, .inl fz)), (qu, .inl (cZ, 36, .inl fu))])) (Qc_X1_readablePanels D cI cZ cJ cD qf qx qy qz qu nC nR nf fx fy fz fu ) 0 0 (fun _ : Nat => False) := by
  refine Met.ofW (cc := cX1_readablePanels) (maxL := 3) (ret := (some .int)) (by decide) rfl ?_
  intro p e s m args below meth c s₁ B hml hv
  obtain ⟨rfl, hP, hK⟩ := hv
  have hx := B.exec
  have hb := B.bytes
  have hr := B.returns
  have hts := atoms_spec (ws := wsX1_readablePanels) B.pre
  have hown : s.vm.findClass RX1 = some m.cls := findClass_of_methodNamed B.named
  have hlocks := B.notSynchronized
  have hS : va_S (fun _ : Nat => False) s.heap s.heap [] := va_S.rf
  have hl := lv_entry ([.ref qf]) (n := 3) (Nat.le_of_ble_eq_true rfl)
  rw [lg_entry_eq]
  generalize (lg_sl ([.ref qf]) ++ List.replicate (3 - (lg_sl ([.ref qf])).length) Slot.unset).toArray = ls at hl ⊢
  have hl : lv_has ls 3 [(0, .ref qf)] := hl
  have hP : va_P D vwCl [(qf, .inr (1, [.ref qx, .ref qy, .ref qz, .ref qu, .int (nI nC), .int (nI nR), .int nf])), (qx, .inl (cI, 36, .inl fx)), (qy, .inl (cI, 36, .inl fy)), (qz, .inl (cI, 36, .inl fz)), (qu, .inl (cZ, 36, .inl fu))] s.heap := hP
  have hP := hP
  refine lv_iconst (v := 0) hx hb dX1_readablePanels_0 (by decide) ?_
  refine lv_istore_n (lv' := [(1, .int 0), (0, .ref qf)]) hx hb dX1_readablePanels_1 rfl hl (by decide) rfl (fun ls hl => ?_)
  refine lv_iconst (v := 0) hx hb dX1_readablePanels_2 (by decide) ?_
  refine lv_istore_n (lv' := [(2, .int 0), (1, .int 0), (0, .ref qf)]) hx hb dX1_readablePanels_3 rfl hl (by decide) rfl (fun ls hl => ?_)
  have X1 : ∀ (H : Heap) (locs : List Loc), va_P D vwCl [(qf, .inr (1, [.ref qx, .ref qy, .ref qz, .ref qu, .int (nI nC), .int (nI nR), .int nf])), (qx, .inl (cI, 36, .inl fx)), (qy, .inl (cI, 36, .inl fy)), (qz, .inl (cI, 36, .inl fz)), (qu, .inl (cZ, 36, .inl fu))] H → va_S (fun _ : Nat => False) s.heap H locs → ∀ (ls : Array Slot), lv_has ls 3 [(0, .ref qf), (1, .int (lp_X1_readablePanels_4 nC nR nf fx fy fz fu (nC * nR)))] → W p l e (headSpec wsX1_readablePanels rm_X1_readablePanels).room s m ([.ref qf]).toArray below meth c H locs 0 0 (MQ below (Qc_X1_readablePanels D cI cZ cJ cD qf qx qy qz qu nC nR nf fx fy fz fu) ([.ref qf]).toArray s 0 0 (fun _ : Nat => False)) (F0 m 38 ls []) := by
    intro H locs hP hS ls hl
    refine lv_iload_n hx hb dX1_readablePanels_38 rfl (lv_at hl 1 rfl) ?_
    have e2 : s_X1_readablePanels nC nR nf fx fy fz fu = lp_X1_readablePanels_4 nC nR nf fx fy fz fu (nC * nR) := rfl
    exact W.iret (v := (lp_X1_readablePanels_4 nC nR nf fx fy fz fu (nC * nR))) hx hb hr (fun t ht hW => ⟨⟨_, (), rfl, e2.symm, trivial⟩, hS.F ht⟩) hS.2.2 dX1_readablePanels_39
  have L1 : ∀ (n k : Nat) (acc : Int32), k ≤ nC * nR → nC * nR < k + n → acc = lp_X1_readablePanels_4 nC nR nf fx fy fz fu k → ∀ (H : Heap) (locs : List Loc), va_P D vwCl [(qf, .inr (1, [.ref qx, .ref qy, .ref qz, .ref qu, .int (nI nC), .int (nI nR), .int nf])), (qx, .inl (cI, 36, .inl fx)), (qy, .inl (cI, 36, .inl fy)), (qz, .inl (cI, 36, .inl fz)), (qu, .inl (cZ, 36, .inl fu))] H → va_S (fun _ : Nat => False) s.heap H locs → ∀ (ls : Array Slot), lv_has ls 3 [(0, .ref qf), (2, .int (nI k)), (1, .int acc)] → W p l e (headSpec wsX1_readablePanels rm_X1_readablePanels).room s m ([.ref qf]).toArray below meth c H locs 0 0 (MQ below (Qc_X1_readablePanels D cI cZ cJ cD qf qx qy qz qu nC nR nf fx fy fz fu) ([.ref qf]).toArray s 0 0 (fun _ : Nat => False)) (F0 m 4 ls []) := by
    intro n
    induction n with
    | zero =>
      intro k acc hk hf
      exact absurd hf (by omega)
    | succ n ih =>
      intro k acc hk hf hacc H locs hP hS ls hl
      subst hacc
      refine lv_iload_n hx hb dX1_readablePanels_4 rfl (lv_at hl 1 rfl) ?_
      refine lv_aload_n hx hb dX1_readablePanels_5 rfl (lv_at hl 0 rfl) ?_
      refine va_calli (va_runV (As := []) (rest := [.int (nI k)]) ⟨hx, hb, hml, hown, hts⟩ (c_X1_panels l D cI cZ cJ cD qf qx qy qz qu nC nR nf ) (cwV 0 hts gX1_readablePanels_X1_panels rfl rfl rfl (by decide +kernel) ⟨Nat.le_of_ble_eq_true rfl, Nat.le_of_ble_eq_true rfl⟩) ⟨zblind, va_recv hK hP (ci := 1) (q0 := 0) rfl rfl, (fun U hU hW => ⟨rfl, by rw [hU]; exact hP.sub (ws' := [(qf, .inr (1, [.ref qx, .ref qy, .ref qz, .ref qu, .int (nI nC), .int (nI nR), .int nf]))]) [0] rfl, va_K.moved hW.alike hK⟩)⟩ rfl rfl hl.1 rfl (lv_room (Nat.le_of_ble_eq_true rfl)) dX1_readablePanels_6 ⟨Nat.le_of_ble_eq_true rfl, Nat.le_of_ble_eq_true rfl⟩) hS (fun q _ h => h.elim) (fun q h => h.elim) (fun r3 u t H locs ht hvm hw hB hz1 hk1 hS => ?_)
      rw [hw]
      have hP := zk hP hk1
      refine lv_icmp_ge (tgt := 38) hx hb dX1_readablePanels_9 (by decide) (fun c4 => ?_) (fun c4 => ?_)
      · have hge : nC * nR ≤ k := (z_pge hN hk c4)
        have ek : k = nC * nR := by omega
        subst ek
        exact X1 _ _ hP hS _ (lv_sub hl [0, 2] rfl)
      · refine lv_aload_n hx hb dX1_readablePanels_12 rfl (lv_at hl 0 rfl) ?_
        refine va_get (D := D) (ci := 1) (v := .ref qu) (C := RX1) (T := TX1) (N := 7) hx hb hts (fun w h => List.mem_cons_of_mem _ (List.mem_append_right _ h)) hown hK hP 0 rfl rfl 3 (by decide) (hts (.fieldLink RX1 21 "AtlasFolder$FoldedSheet" "faceUp" "[Z") (List.mem_cons_of_mem _ (List.mem_append_left _ (List.mem_of_getElem? (i := 0) rfl)))) (fun _ h9 => h9) rfl dX1_readablePanels_13 ?_
        refine lv_iload_n hx hb dX1_readablePanels_16 rfl (lv_at hl 1 rfl) ?_
        refine va_zald hx hb hK hP 4 1 rfl rfl (z_pin hN hk c4) dX1_readablePanels_17 ?_
        refine lv_if_eq (tgt := 32) hx hb dX1_readablePanels_18 (by decide) (fun c5 => ?_) (fun c5 => ?_)
        · refine lv_iinc (v := nI (k + 1)) (lv' := [(2, .int (nI (k + 1))), (0, .ref qf), (1, .int (lp_X1_readablePanels_4 nC nR nf fx fy fz fu k))]) hx hb dX1_readablePanels_32 hl (k := 1) rfl (nI_succ k).symm (by decide) rfl (fun ls hl => ?_)
          refine lv_goto (tgt := 4) hx hb dX1_readablePanels_35 (by decide) ?_
          have hlt : k < nC * nR := (z_plt hN hk c4)
          exact ih (k + 1) _ (by omega) (by omega) ((if_pos c5)).symm _ _ hP hS _ (lv_sub hl [1, 0, 2] rfl)
        · refine lv_aload_n hx hb dX1_readablePanels_21 rfl (lv_at hl 0 rfl) ?_
          refine lv_iload_n hx hb dX1_readablePanels_22 rfl (lv_at hl 1 rfl) ?_
          refine va_calli (va_runV (As := [.int (nI k)]) (rest := []) ⟨hx, hb, hml, hown, hts⟩ (c_X1_higherThan l D cI cZ cJ cD qf qx qy qz qu nC nR nf fx fy fz (nI k) hN (z_pin hN hk c4)) (cwV 1 hts gX1_readablePanels_X1_higherThan rfl rfl rfl (by decide +kernel) ⟨Nat.le_of_ble_eq_true rfl, Nat.le_of_ble_eq_true rfl⟩) ⟨zblind, va_recv hK hP (ci := 1) (q0 := 0) rfl rfl, (fun U hU hW => ⟨rfl, by rw [hU]; exact hP.sub (ws' := [(qf, .inr (1, [.ref qx, .ref qy, .ref qz, .ref qu, .int (nI nC), .int (nI nR), .int nf])), (qx, .inl (cI, 36, .inl fx)), (qy, .inl (cI, 36, .inl fy)), (qz, .inl (cI, 36, .inl fz))]) [0, 1, 2, 3] rfl, va_K.moved hW.alike hK⟩)⟩ rfl rfl hl.1 rfl (lv_room (Nat.le_of_ble_eq_true rfl)) dX1_readablePanels_23 ⟨Nat.le_of_ble_eq_true rfl, Nat.le_of_ble_eq_true rfl⟩) hS (fun q _ h => h.elim) (fun q h => h.elim) (fun r6 u t H locs ht hvm hw hB hz1 hk1 hS => ?_)
          rw [hw]
          have hP := zk hP hk1
          refine lv_if_ne (tgt := 32) hx hb dX1_readablePanels_26 (by decide) (fun c7 => ?_) (fun c7 => ?_)
          · refine lv_iinc (v := nI (k + 1)) (lv' := [(2, .int (nI (k + 1))), (0, .ref qf), (1, .int (lp_X1_readablePanels_4 nC nR nf fx fy fz fu k))]) hx hb dX1_readablePanels_32 hl (k := 1) rfl (nI_succ k).symm (by decide) rfl (fun ls hl => ?_)
            refine lv_goto (tgt := 4) hx hb dX1_readablePanels_35 (by decide) ?_
            have hlt : k < nC * nR := (z_plt hN hk c4)
            exact ih (k + 1) _ (by omega) (by omega) (((if_neg c5).trans (if_neg c7))).symm _ _ hP hS _ (lv_sub hl [1, 0, 2] rfl)
          · refine lv_iinc (v := (lp_X1_readablePanels_4 nC nR nf fx fy fz fu k) + 1) (lv' := [(1, .int ((lp_X1_readablePanels_4 nC nR nf fx fy fz fu k) + 1)), (0, .ref qf), (2, .int (nI k))]) hx hb dX1_readablePanels_29 hl (k := 2) rfl rfl (by decide) rfl (fun ls hl => ?_)
            refine lv_iinc (v := nI (k + 1)) (lv' := [(2, .int (nI (k + 1))), (1, .int ((lp_X1_readablePanels_4 nC nR nf fx fy fz fu k) + 1)), (0, .ref qf)]) hx hb dX1_readablePanels_32 hl (k := 2) rfl (nI_succ k).symm (by decide) rfl (fun ls hl => ?_)
            refine lv_goto (tgt := 4) hx hb dX1_readablePanels_35 (by decide) ?_
            have hlt : k < nC * nR := (z_plt hN hk c4)
            exact ih (k + 1) _ (by omega) (by omega) (((if_neg c5).trans (if_pos c7))).symm _ _ hP hS _ (lv_sub hl [2, 0, 1] rfl)
  exact L1 (nC * nR + 1) 0 _ (Nat.zero_le _) (by omega) rfl _ _ hP hS _ (lv_sub hl [2, 0, 1] rfl)
