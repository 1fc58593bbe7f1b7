theorem zlv {ls : Array Slot} {nL : Nat} {l l' : List (Nat × Value)} (h : lv_has ls nL l) (e : l = l') : lv_has ls nL l' := e ▸ h
theorem z_add0 (x : Int32) : x + nI 0 = x := by rw [nI_0]; exact Int32.add_zero x
theorem z_adds (x : Int32) (k : Nat) : x + nI k + Int32.ofInt 1 = x + nI (k + 1) := by rw [nI_succ, Int32.add_assoc]; rfl
theorem z_toI {k : Nat} (h : k < 2 ^ 31) : (nI k).toInt = (k : Int) := nI_toInt h
theorem z_bm {x : Int} (h1 : -2147483648 ≤ x) (h2 : x < 2147483648) : x.bmod (2 ^ 32) = x := by
  rw [Int.bmod_def]
  omega
theorem z_addI {x y : Int32} (h1 : -2147483648 ≤ x.toInt + y.toInt) (h2 : x.toInt + y.toInt < 2147483648) : (x + y).toInt = x.toInt + y.toInt := by rw [Int32.toInt_add]; exact z_bm h1 h2
theorem z_subI {x y : Int32} (h1 : -2147483648 ≤ x.toInt - y.toInt) (h2 : x.toInt - y.toInt < 2147483648) : (x - y).toInt = x.toInt - y.toInt := by rw [Int32.toInt_sub]; exact z_bm h1 h2
theorem z_mulI {x y : Int32} (h1 : -2147483648 ≤ x.toInt * y.toInt) (h2 : x.toInt * y.toInt < 2147483648) : (x * y).toInt = x.toInt * y.toInt := by rw [Int32.toInt_mul]; exact z_bm h1 h2
theorem z_fadd {so : Int32} {k : Nat} (h1 : -90 ≤ so.toInt) (h2 : so.toInt + k ≤ 90) : (so + nI k).toInt = so.toInt + k := by
  have e := nI_toInt (n := k) (by omega)
  rw [z_addI (by rw [e]; omega) (by rw [e]; omega), e]
theorem z_fge {so no : Int32} {k : Nat} (h1 : -90 ≤ so.toInt) (h2 : so.toInt ≤ no.toInt) (h3 : no.toInt ≤ 90) (hk : k ≤ (no.toInt - so.toInt).toNat) (h : no ≤ so + nI k) : (no.toInt - so.toInt).toNat ≤ k := by
  rw [Int32.le_iff_toInt_le, z_fadd h1 (by omega)] at h
  omega
theorem z_flt {so no : Int32} {k : Nat} (h1 : -90 ≤ so.toInt) (h2 : so.toInt ≤ no.toInt) (h3 : no.toInt ≤ 90) (hk : k ≤ (no.toInt - so.toInt).toNat) (h : ¬ no ≤ so + nI k) : k < (no.toInt - so.toInt).toNat := by
  rw [Int32.le_iff_toInt_le, z_fadd h1 (by omega)] at h
  omega
theorem z_s90 {k : Nat} (h : k ≤ 181) : (90 - nI k).toInt = 90 - (k : Int) := by
  have e := nI_toInt (n := k) (by omega)
  have e2 : (90 : Int32).toInt = 90 := rfl
  rw [z_subI (by rw [e, e2]; omega) (by rw [e, e2]; omega), e, e2]
theorem z_dec (k : Nat) : 90 - nI k + Int32.ofInt (-1) = 90 - nI (k + 1) := by
  rw [nI_succ, Int32.sub_eq_add_neg, Int32.sub_eq_add_neg, Int32.neg_add, Int32.add_assoc, Int32.sub_eq_add_neg]
  rfl
def lp_X2_fieldArea_6 (fw : Nat → Int32) (fh : Nat → Int32) (so : Int32) (no : Int32) (dw : Int32) : Nat → Int64
  | 0 => 0
  | k + 1 => (lp_X2_fieldArea_6 fw fh so no dw k) + (dw.toInt64 * (s_X2_cellArea fw fh (so + nI k)))
def s_X2_fieldArea (fw : Nat → Int32) (fh : Nat → Int32) (so : Int32) (no : Int32) (dw : Int32) : Int64 := lp_X2_fieldArea_6 fw fh so no dw ((no.toInt - so.toInt).toNat)
abbrev rm_X2_fieldArea : Room := { frames := 4, cells := 0, slots := 0, locals := 89 }
abbrev Qc_X2_fieldArea (D : va_G) (cI cZ cJ cD : ClassId) (qm : Nat) (qw : Nat) (qh : Nat) (fw : Nat → Int32) (fh : Nat → Int32) (so : Int32) (no : Int32) (dw : Int32) : Array Value → State → Outcome → State → Prop := va_Ql (fun (r : Int64) (_ : Unit) => r = s_X2_fieldArea fw fh so no dw) (fun _ _ => True) (fun _ : Nat => False)
set_option maxHeartbeats 4000000 in
set_option maxRecDepth 100000 in
theorem c_X2_fieldArea (l : Launch) (D : va_G) (cI cZ cJ cD : ClassId) (qm : Nat) (qw : Nat) (qh : Nat) (fw : Nat → Int32) (fh : Nat → Int32) (so : Int32) (no : Int32) (dw : Int32) (h1 : -90 ≤ so.toInt) (h2 : so.toInt ≤ no.toInt) (h3 : no.toInt ≤ 90) : Met l yX2_fieldArea wsX2_fieldArea rm_X2_fieldArea (va_Pc [.ref qm, .int so, .int no, .int dw] (zPre D cI cZ cJ cD [(qm, .inr (2, [.ref qw, .ref qh])), (qw, .inl (cI, 10, .inl fw)), (qh, .inl (cI, 10, .inl fh))])) (Qc_X2_fieldArea D cI cZ cJ cD qm qw qh fw fh so no dw ) 0 0 (fun _ : Nat => False) := by
  refine Met.ofW (cc := cX2_fieldArea) (maxL := 7) (ret := (some .long)) (by decide) rfl ?_
  intro p e s m args below meth c s₁ B hml hv
  obtain ⟨rfl, hP, hK⟩ := hv
  have hx := B.exec
  have hb := B.bytes
  have hr := B.returns
  have hts := atoms_spec (ws := wsX2_fieldArea) B.pre
  have hown : s.vm.findClass RX2 = some m.cls := findClass_of_methodNamed B.named
  have hlocks := B.notSynchronized
  have hS : va_S (fun _ : Nat => False) s.heap s.heap [] := va_S.rf
  have hl := lv_entry ([.ref qm, .int so, .int no, .int dw]) (n := 7) (Nat.le_of_ble_eq_true rfl)
  rw [lg_entry_eq]
  generalize (lg_sl ([.ref qm, .int so, .int no, .int dw]) ++ List.replicate (7 - (lg_sl ([.ref qm, .int so, .int no, .int dw])).length) Slot.unset).toArray = ls at hl ⊢
  have hl : lv_has ls 7 [(0, .ref qm), (1, .int so), (2, .int no), (3, .int dw)] := hl
  have hP : va_P D vwCl [(qm, .inr (2, [.ref qw, .ref qh])), (qw, .inl (cI, 10, .inl fw)), (qh, .inl (cI, 10, .inl fh))] s.heap := hP
  have hP := hP
  refine lv_lconst (v := 0) hx hb dX2_fieldArea_0 (by decide) ?_
  refine lv_lstore (lv' := [(4, .long 0), (0, .ref qm), (1, .int so), (2, .int no), (3, .int dw)]) hx hb dX2_fieldArea_1 hl (by decide) rfl (fun ls hl => ?_)
  refine lv_iload_n hx hb dX2_fieldArea_3 rfl (lv_at hl 2 rfl) ?_
  refine lv_istore (lv' := [(6, .int so), (4, .long 0), (0, .ref qm), (1, .int so), (2, .int no), (3, .int dw)]) hx hb dX2_fieldArea_4 hl (by decide) rfl (fun ls hl => ?_)
  have X1 : ∀ (H : Heap) (locs : List Loc), va_P D vwCl [(qm, .inr (2, [.ref qw, .ref qh])), (qw, .inl (cI, 10, .inl fw)), (qh, .inl (cI, 10, .inl fh))] H → va_S (fun _ : Nat => False) s.heap H locs → ∀ (ls : Array Slot), lv_has ls 7 [(0, .ref qm), (1, .int so), (2, .int no), (3, .int dw), (4, .long (lp_X2_fieldArea_6 fw fh so no dw ((no.toInt - so.toInt).toNat)))] → W p l e (headSpec wsX2_fieldArea rm_X2_fieldArea).room s m ([.ref qm, .int so, .int no, .int dw]).toArray below meth c H locs 0 0 (MQ below (Qc_X2_fieldArea D cI cZ cJ cD qm qw qh fw fh so no dw) ([.ref qm, .int so, .int no, .int dw]).toArray s 0 0 (fun _ : Nat => False)) (F0 m 32 ls []) := by
    intro H locs hP hS ls hl
    refine lv_lload hx hb dX2_fieldArea_32 (lv_at hl 4 rfl) ?_
    have e2 : s_X2_fieldArea fw fh so no dw = lp_X2_fieldArea_6 fw fh so no dw ((no.toInt - so.toInt).toNat) := rfl
    exact W.lret (v := (lp_X2_fieldArea_6 fw fh so no dw ((no.toInt - so.toInt).toNat))) hx hb hr (fun t ht hW => ⟨⟨_, (), rfl, e2.symm, trivial⟩, hS.F ht⟩) hS.2.2 dX2_fieldArea_34
  have L1 : ∀ (n k : Nat) (acc : Int64), k ≤ (no.toInt - so.toInt).toNat → (no.toInt - so.toInt).toNat < k + n → acc = lp_X2_fieldArea_6 fw fh so no dw k → ∀ (H : Heap) (locs : List Loc), va_P D vwCl [(qm, .inr (2, [.ref qw, .ref qh])), (qw, .inl (cI, 10, .inl fw)), (qh, .inl (cI, 10, .inl fh))] H → va_S (fun _ : Nat => False) s.heap H locs → ∀ (ls : Array Slot), lv_has ls 7 [(0, .ref qm), (1, .int so), (2, .int no), (3, .int dw), (6, .int (so + nI k)), (4, .long acc)] → W p l e (headSpec wsX2_fieldArea rm_X2_fieldArea).room s m ([.ref qm, .int so, .int no, .int dw]).toArray below meth c H locs 0 0 (MQ below (Qc_X2_fieldArea D cI cZ cJ cD qm qw qh fw fh so no dw) ([.ref qm, .int so, .int no, .int dw]).toArray s 0 0 (fun _ : Nat => False)) (F0 m 6 ls []) := by
    intro n
    induction n with
    | zero =>
      intro k acc hk hf
      exact absurd hf (by omega)
    | succ n ih =>
      intro k acc hk hf hacc H locs hP hS ls hl
      subst hacc
      refine lv_iload hx hb dX2_fieldArea_6 (lv_at hl 4 rfl) ?_
      refine lv_iload_n hx hb dX2_fieldArea_8 rfl (lv_at hl 2 rfl) ?_
      refine lv_icmp_ge (tgt := 32) hx hb dX2_fieldArea_9 (by decide) (fun c3 => ?_) (fun c3 => ?_)
      · have hge : (no.toInt - so.toInt).toNat ≤ k := z_fge h1 h2 h3 hk c3
        have ek : k = (no.toInt - so.toInt).toNat := by omega
        subst ek
        exact X1 _ _ hP hS _ (lv_sub hl [0, 1, 2, 3, 5] rfl)
      · refine lv_lload hx hb dX2_fieldArea_12 (lv_at hl 5 rfl) ?_
        refine lv_iload_n hx hb dX2_fieldArea_14 rfl (lv_at hl 3 rfl) ?_
        refine lv_i2l hx hb dX2_fieldArea_15 rfl ?_
        refine lv_aload_n hx hb dX2_fieldArea_16 rfl (lv_at hl 0 rfl) ?_
        refine lv_iload hx hb dX2_fieldArea_17 (lv_at hl 4 rfl) ?_
        refine va_calll (va_runV (As := [.int (so + nI k)]) (rest := [.long dw.toInt64, .long (lp_X2_fieldArea_6 fw fh so no dw k)]) ⟨hx, hb, hml, hown, hts⟩ (c_X2_cellArea l D cI cZ cJ cD qm qw qh fw fh (so + nI k) ) (cwV 1 hts gX2_fieldArea_X2_cellArea rfl rfl rfl (by decide +kernel) ⟨Nat.le_of_ble_eq_true rfl, Nat.le_of_ble_eq_true rfl⟩) ⟨zblind, va_recv hK hP (ci := 2) (q0 := 0) rfl rfl, (fun U hU hW => ⟨rfl, by rw [hU]; exact hP.sub (ws' := [(qm, .inr (2, [.ref qw, .ref qh])), (qw, .inl (cI, 10, .inl fw)), (qh, .inl (cI, 10, .inl fh))]) [0, 1, 2] rfl, va_K.moved hW.alike hK⟩)⟩ rfl rfl hl.1 rfl (lv_room (Nat.le_of_ble_eq_true rfl)) dX2_fieldArea_19 ⟨Nat.le_of_ble_eq_true rfl, Nat.le_of_ble_eq_true rfl⟩) hS (fun q _ h => h.elim) (fun q h => h.elim) (fun r4 u t H locs ht hvm hw hB hz1 hk1 hS => ?_)
        rw [hw]
        have hP := zk hP hk1
        refine lv_lmul hx hb dX2_fieldArea_22 ?_
        refine lv_ladd hx hb dX2_fieldArea_23 ?_
        refine lv_lstore (lv' := [(4, .long ((lp_X2_fieldArea_6 fw fh so no dw k) + (dw.toInt64 * (s_X2_cellArea fw fh (so + nI k))))), (0, .ref qm), (1, .int so), (2, .int no), (3, .int dw), (6, .int (so + nI k))]) hx hb dX2_fieldArea_24 hl (by decide) rfl (fun ls hl => ?_)
        refine lv_iinc (v := so + nI (k + 1)) (lv' := [(6, .int (so + nI (k + 1))), (4, .long ((lp_X2_fieldArea_6 fw fh so no dw k) + (dw.toInt64 * (s_X2_cellArea fw fh (so + nI k))))), (0, .ref qm), (1, .int so), (2, .int no), (3, .int dw)]) hx hb dX2_fieldArea_26 hl (k := 5) rfl (z_adds so k) (by decide) rfl (fun ls hl => ?_)
        refine lv_goto (tgt := 6) hx hb dX2_fieldArea_29 (by decide) ?_
        have hlt : k < (no.toInt - so.toInt).toNat := z_flt h1 h2 h3 hk c3
        exact ih (k + 1) _ (by omega) (by omega) rfl _ _ hP hS _ (lv_sub hl [2, 3, 4, 5, 0, 1] rfl)
  exact L1 ((no.toInt - so.toInt).toNat + 1) 0 _ (Nat.zero_le _) (by omega) rfl _ _ hP hS _ (zlv (lv_sub (l' := [(0, .ref qm), (1, .int so), (2, .int no), (3, .int dw), (6, .int so), (4, .long 0)]) hl [2, 3, 4, 5, 0, 1] rfl) (by rw [z_add0]; first | done | rfl))
def lp_gna (fw fh : Nat → Int32) (h : Int32) : Nat → Nat → Int32
  | 0, k => 90 - nI k
  | n + 1, k => if s_X2_tenHeights fw fh (90 - nI k) ≤ h then 90 - nI k else lp_gna fw fh h n (k + 1)
theorem z_gna0 {fw fh : Nat → Int32} {h : Int32} {k : Nat} (hk : k ≤ 181) (c : 90 - nI k < -90) (hr : lp_gna fw fh h (181 - k) k = lp_gna fw fh h 181 0) : 90 - nI k = lp_gna fw fh h 181 0 := by
  rw [Int32.lt_iff_toInt_lt, z_s90 hk] at c
  have e2 : (-90 : Int32).toInt = -90 := rfl
  have ek : k = 181 := by omega
  subst ek
  exact hr
theorem z_gnal {k : Nat} (hk : k ≤ 181) (c : ¬ 90 - nI k < -90) : k ≤ 180 := by
  rw [Int32.lt_iff_toInt_lt, z_s90 hk] at c
  have e2 : (-90 : Int32).toInt = -90 := rfl
  omega
theorem z_gna1 {fw fh : Nat → Int32} {h : Int32} {k : Nat} (hk : k ≤ 180) (c : s_X2_tenHeights fw fh (90 - nI k) ≤ h) (hr : lp_gna fw fh h (181 - k) k = lp_gna fw fh h 181 0) : 90 - nI k = lp_gna fw fh h 181 0 := by
  rw [show 181 - k = (180 - k) + 1 by omega] at hr
  exact (if_pos c).symm.trans hr
theorem z_gna2 {fw fh : Nat → Int32} {h : Int32} {k : Nat} (hk : k ≤ 180) (c : ¬ s_X2_tenHeights fw fh (90 - nI k) ≤ h) (hr : lp_gna fw fh h (181 - k) k = lp_gna fw fh h 181 0) : lp_gna fw fh h (181 - (k + 1)) (k + 1) = lp_gna fw fh h 181 0 := by
  rw [show 181 - k = (180 - k) + 1 by omega] at hr
  rw [show 181 - (k + 1) = 180 - k by omega]
  exact (if_neg c).symm.trans hr
def s_X2_greatestNotAbove (fw : Nat → Int32) (fh : Nat → Int32) (hgt : Int32) : Int32 := lp_gna fw fh hgt 181 0
abbrev rm_X2_greatestNotAbove : Room := { frames := 3, cells := 0, slots := 0, locals := 66 }
abbrev Qc_X2_greatestNotAbove (D : va_G) (cI cZ cJ cD : ClassId) (qm : Nat) (qw : Nat) (qh : Nat) (fw : Nat → Int32) (fh : Nat → Int32) (hgt : Int32) : Array Value → State → Outcome → State → Prop := va_Qi (fun (r : Int32) (_ : Unit) => r = s_X2_greatestNotAbove fw fh hgt) (fun _ _ => True) (fun _ : Nat => False)
set_option maxHeartbeats 4000000 in
set_option maxRecDepth 100000 in
theorem c_X2_greatestNotAbove (l : Launch) (D : va_G) (cI cZ cJ cD : ClassId) (qm : Nat) (qw : Nat) (qh : Nat) (fw : Nat → Int32) (fh : Nat → Int32) (hgt : Int32)  : Met l yX2_greatestNotAbove wsX2_greatestNotAbove rm_X2_greatestNotAbove (va_Pc [.ref qm, .int hgt] (zPre D cI cZ cJ cD [(qm, .inr (2, [.ref qw, .ref qh])), (qw, .inl (cI, 10, .inl fw)), (qh, .inl (cI, 10, .inl fh))])) (Qc_X2_greatestNotAbove D cI cZ cJ cD qm qw qh fw fh hgt ) 0 0 (fun _ : Nat => False) := by
  refine Met.ofW (cc := cX2_greatestNotAbove) (maxL := 3) (ret := (some .int)) (by decide) rfl ?_
  intro p e s m args below meth c s₁ B hml hv
  obtain ⟨rfl, hP, hK⟩ := hv
  have hx := B.exec
  have hb := B.bytes
  have hr := B.returns
  have hts := atoms_spec (ws := wsX2_greatestNotAbove) B.pre
  have hown : s.vm.findClass RX2 = some m.cls := findClass_of_methodNamed B.named
  have hlocks := B.notSynchronized
  have hS : va_S (fun _ : Nat => False) s.heap s.heap [] := va_S.rf
  have hl := lv_entry ([.ref qm, .int hgt]) (n := 3) (Nat.le_of_ble_eq_true rfl)
  rw [lg_entry_eq]
  generalize (lg_sl ([.ref qm, .int hgt]) ++ List.replicate (3 - (lg_sl ([.ref qm, .int hgt])).length) Slot.unset).toArray = ls at hl ⊢
  have hl : lv_has ls 3 [(0, .ref qm), (1, .int hgt)] := hl
  have hP : va_P D vwCl [(qm, .inr (2, [.ref qw, .ref qh])), (qw, .inl (cI, 10, .inl fw)), (qh, .inl (cI, 10, .inl fh))] s.heap := hP
  have hP := hP
  refine lv_bipush (v := 90) hx hb dX2_greatestNotAbove_0 (by decide) ?_
  refine lv_istore_n (lv' := [(2, .int 90), (0, .ref qm), (1, .int hgt)]) hx hb dX2_greatestNotAbove_2 rfl hl (by decide) rfl (fun ls hl => ?_)
  have X1 : ∀ (H : Heap) (locs : List Loc), va_P D vwCl [(qm, .inr (2, [.ref qw, .ref qh])), (qw, .inl (cI, 10, .inl fw)), (qh, .inl (cI, 10, .inl fh))] H → va_S (fun _ : Nat => False) s.heap H locs → ∀ (ls : Array Slot), lv_has ls 3 [(2, .int (lp_gna fw fh hgt 181 0)), (0, .ref qm), (1, .int hgt)] → W p l e (headSpec wsX2_greatestNotAbove rm_X2_greatestNotAbove).room s m ([.ref qm, .int hgt]).toArray below meth c H locs 0 0 (MQ below (Qc_X2_greatestNotAbove D cI cZ cJ cD qm qw qh fw fh hgt) ([.ref qm, .int hgt]).toArray s 0 0 (fun _ : Nat => False)) (F0 m 24 ls []) := by
    intro  H locs hP hS ls hl
    refine lv_iload_n hx hb dX2_greatestNotAbove_24 rfl (lv_at hl 0 rfl) ?_
    have e2 : s_X2_greatestNotAbove fw fh hgt = lp_gna fw fh hgt 181 0 := rfl
    exact W.iret (v := (lp_gna fw fh hgt 181 0)) hx hb hr (fun t ht hW => ⟨⟨_, (), rfl, e2.symm, trivial⟩, hS.F ht⟩) hS.2.2 dX2_greatestNotAbove_25
  have L1 : ∀ (n1 : Nat) (k : Nat), (k ≤ 181) → (lp_gna fw fh hgt (181 - k) k = lp_gna fw fh hgt 181 0) → (181 < k + n1) → ∀ (H : Heap) (locs : List Loc), va_P D vwCl [(qm, .inr (2, [.ref qw, .ref qh])), (qw, .inl (cI, 10, .inl fw)), (qh, .inl (cI, 10, .inl fh))] H → va_S (fun _ : Nat => False) s.heap H locs → ∀ (ls : Array Slot), lv_has ls 3 [(2, .int (90 - nI k)), (0, .ref qm), (1, .int hgt)] → W p l e (headSpec wsX2_greatestNotAbove rm_X2_greatestNotAbove).room s m ([.ref qm, .int hgt]).toArray below meth c H locs 0 0 (MQ below (Qc_X2_greatestNotAbove D cI cZ cJ cD qm qw qh fw fh hgt) ([.ref qm, .int hgt]).toArray s 0 0 (fun _ : Nat => False)) (F0 m 3 ls []) := by
    intro n1
    induction n1 with
    | zero =>
      intro k hk hr hf1
      exact absurd hf1 (by omega)
    | succ n1 ih1 =>
      intro k hk hr hf1 H locs hP hS ls hl
      refine lv_iload_n hx hb dX2_greatestNotAbove_3 rfl (lv_at hl 0 rfl) ?_
      refine lv_bipush (v := (-90)) hx hb dX2_greatestNotAbove_4 (by decide) ?_
      refine lv_icmp_lt (tgt := 24) hx hb dX2_greatestNotAbove_6 (by decide) (fun c3 => ?_) (fun c3 => ?_)
      · have eg := z_gna0 hk c3 hr
        exact X1  _ _ hP hS _ (zlv (lv_sub (l' := [(2, .int (90 - nI k)), (0, .ref qm), (1, .int hgt)]) hl [0, 1, 2] rfl) (by rw [eg]))
      · refine lv_aload_n hx hb dX2_greatestNotAbove_9 rfl (lv_at hl 1 rfl) ?_
        refine lv_iload_n hx hb dX2_greatestNotAbove_10 rfl (lv_at hl 0 rfl) ?_
        refine va_calli (va_runV (As := [.int (90 - nI k)]) (rest := []) ⟨hx, hb, hml, hown, hts⟩ (c_X2_tenHeights l D cI cZ cJ cD qm qw qh fw fh (90 - nI k) ) (cwV 1 hts gX2_greatestNotAbove_X2_tenHeights rfl rfl rfl (by decide +kernel) ⟨Nat.le_of_ble_eq_true rfl, Nat.le_of_ble_eq_true rfl⟩) ⟨zblind, va_recv hK hP (ci := 2) (q0 := 0) rfl rfl, (fun U hU hW => ⟨rfl, by rw [hU]; exact hP.sub (ws' := [(qm, .inr (2, [.ref qw, .ref qh])), (qw, .inl (cI, 10, .inl fw)), (qh, .inl (cI, 10, .inl fh))]) [0, 1, 2] rfl, va_K.moved hW.alike hK⟩)⟩ rfl rfl hl.1 rfl (lv_room (Nat.le_of_ble_eq_true rfl)) dX2_greatestNotAbove_11 ⟨Nat.le_of_ble_eq_true rfl, Nat.le_of_ble_eq_true rfl⟩) hS (fun q _ h => h.elim) (fun q h => h.elim) (fun r4 u t H locs ht hvm hw hB hz1 hk1 hS => ?_)
        rw [hw]
        have hP := zk hP hk1
        refine lv_iload_n hx hb dX2_greatestNotAbove_14 rfl (lv_at hl 2 rfl) ?_
        refine lv_icmp_le (tgt := 24) hx hb dX2_greatestNotAbove_15 (by decide) (fun c5 => ?_) (fun c5 => ?_)
        · have eg := z_gna1 (z_gnal hk c3) c5 hr
          exact X1  _ _ hP hS _ (zlv (lv_sub (l' := [(2, .int (90 - nI k)), (0, .ref qm), (1, .int hgt)]) hl [0, 1, 2] rfl) (by rw [eg]))
        · refine lv_iinc (v := 90 - nI (k + 1)) (lv' := [(2, .int (90 - nI (k + 1))), (0, .ref qm), (1, .int hgt)]) hx hb dX2_greatestNotAbove_18 hl (k := 0) rfl (z_dec k) (by decide) rfl (fun ls hl => ?_)
          refine lv_goto (tgt := 3) hx hb dX2_greatestNotAbove_21 (by decide) ?_
          have hk8 := z_gnal hk c3
          exact ih1 (k + 1) (by omega) (z_gna2 hk8 c5 hr) (by omega) _ _ hP hS _ (lv_sub hl [0, 1, 2] rfl)
  exact L1 182 0 (by omega) rfl (by omega) _ _ hP hS _ (zlv (lv_sub (l' := [(2, .int 90), (0, .ref qm), (1, .int hgt)]) hl [0, 1, 2] rfl) (by rfl))
def s_X0_areAllAlike (ft : Nat → Int32) (fw : Nat → Int32) (fh : Nat → Int32) : Int32 := (if (∀ j : Nat, j < 8 → s_X0_compareBands ft fw fh (nI (j + 1)) 0 = 0) then 1 else 0)
abbrev rm_X0_areAllAlike : Room := { frames := 3, cells := 0, slots := 0, locals := 69 }
abbrev Qc_X0_areAllAlike (D : va_G) (cI cZ cJ cD : ClassId) (qb : Nat) (qt : Nat) (ft : Nat → Int32) (qm : Nat) (qw : Nat) (qh : Nat) (fw : Nat → Int32) (fh : Nat → Int32) : Array Value → State → Outcome → State → Prop := va_Qi (fun (r : Int32) (_ : Unit) => r = s_X0_areAllAlike ft fw fh) (fun _ _ => True) (fun _ : Nat => False)
set_option maxHeartbeats 4000000 in
set_option maxRecDepth 100000 in
theorem c_X0_areAllAlike (l : Launch) (D : va_G) (cI cZ cJ cD : ClassId) (qb : Nat) (qt : Nat) (ft : Nat → Int32) (qm : Nat) (qw : Nat) (qh : Nat) (fw : Nat → Int32) (fh : Nat → Int32)  : Met l yX0_areAllAlike wsX0_areAllAlike rm_X0_areAllAlike (va_Pc [.ref qb, .ref qm] (zPre D cI cZ cJ cD [(qb, .inr (0, [.ref qt])), (qt, .inl (cI, 9, .inl ft)), (qm, .inr (2, [.ref qw, .ref qh])), (qw, .inl (cI, 10, .inl fw)), (qh, .inl (cI, 10, .inl fh))])) (Qc_X0_areAllAlike D cI cZ cJ cD qb qt ft qm qw qh fw fh ) 0 0 (fun _ : Nat => False) := by
  refine Met.ofW (cc := cX0_areAllAlike) (maxL := 3) (ret := (some .boolean)) (by decide) rfl ?_
  intro p e s m args below meth c s₁ B hml hv
  obtain ⟨rfl, hP, hK⟩ := hv
  have hx := B.exec
  have hb := B.bytes
  have hr := B.returns
  have hts := atoms_spec (ws := wsX0_areAllAlike) B.pre
  have hown : s.vm.findClass RX0 = some m.cls := findClass_of_methodNamed B.named
  have hlocks := B.notSynchronized
  have hS : va_S (fun _ : Nat => False) s.heap s.heap [] := va_S.rf
  have hl := lv_entry ([.ref qb, .ref qm]) (n := 3) (Nat.le_of_ble_eq_true rfl)
  rw [lg_entry_eq]
  generalize (lg_sl ([.ref qb, .ref qm]) ++ List.replicate (3 - (lg_sl ([.ref qb, .ref qm])).length) Slot.unset).toArray = ls at hl ⊢
  have hl : lv_has ls 3 [(0, .ref qb), (1, .ref qm)] := hl
  have hP : va_P D vwCl [(qb, .inr (0, [.ref qt])), (qt, .inl (cI, 9, .inl ft)), (qm, .inr (2, [.ref qw, .ref qh])), (qw, .inl (cI, 10, .inl fw)), (qh, .inl (cI, 10, .inl fh))] s.heap := hP
  have hP := hP
  refine lv_iconst (v := 1) hx hb dX0_areAllAlike_0 (by decide) ?_
  refine lv_istore_n (lv' := [(2, .int 1), (0, .ref qb), (1, .ref qm)]) hx hb dX0_areAllAlike_1 rfl hl (by decide) rfl (fun ls hl => ?_)
  have X1 : (∀ j : Nat, j < 8 → s_X0_compareBands ft fw fh (nI (j + 1)) 0 = 0) → ∀ (H : Heap) (locs : List Loc), va_P D vwCl [(qb, .inr (0, [.ref qt])), (qt, .inl (cI, 9, .inl ft)), (qm, .inr (2, [.ref qw, .ref qh])), (qw, .inl (cI, 10, .inl fw)), (qh, .inl (cI, 10, .inl fh))] H → va_S (fun _ : Nat => False) s.heap H locs → ∀ (ls : Array Slot), lv_has ls 3 [(0, .ref qb), (1, .ref qm)] → W p l e (headSpec wsX0_areAllAlike rm_X0_areAllAlike).room s m ([.ref qb, .ref qm]).toArray below meth c H locs 0 0 (MQ below (Qc_X0_areAllAlike D cI cZ cJ cD qb qt ft qm qw qh fw fh) ([.ref qb, .ref qm]).toArray s 0 0 (fun _ : Nat => False)) (F0 m 26 ls []) := by
    intro hal8 H locs hP hS ls hl
    refine lv_iconst (v := 1) hx hb dX0_areAllAlike_26 (by decide) ?_
    exact W.zret (v := 1) hx hb hr (z_b (by (repeat' split) <;> simp)) (fun t ht hW => ⟨⟨_, (), rfl, (if_pos hal8).symm, trivial⟩, hS.F ht⟩) hS.2.2 dX0_areAllAlike_27
  have L1 : ∀ (n1 : Nat) (k : Nat), (k ≤ 8) → (∀ j : Nat, j < k → s_X0_compareBands ft fw fh (nI (j + 1)) 0 = 0) → (8 < k + n1) → ∀ (H : Heap) (locs : List Loc), va_P D vwCl [(qb, .inr (0, [.ref qt])), (qt, .inl (cI, 9, .inl ft)), (qm, .inr (2, [.ref qw, .ref qh])), (qw, .inl (cI, 10, .inl fw)), (qh, .inl (cI, 10, .inl fh))] H → va_S (fun _ : Nat => False) s.heap H locs → ∀ (ls : Array Slot), lv_has ls 3 [(2, .int (nI (k + 1))), (0, .ref qb), (1, .ref qm)] → W p l e (headSpec wsX0_areAllAlike rm_X0_areAllAlike).room s m ([.ref qb, .ref qm]).toArray below meth c H locs 0 0 (MQ below (Qc_X0_areAllAlike D cI cZ cJ cD qb qt ft qm qw qh fw fh) ([.ref qb, .ref qm]).toArray s 0 0 (fun _ : Nat => False)) (F0 m 2 ls []) := by
    intro n1
    induction n1 with
    | zero =>
      intro k hk hall hf1
      exact absurd hf1 (by omega)
    | succ n1 ih1 =>
      intro k hk hall hf1 H locs hP hS ls hl
      refine lv_iload_n hx hb dX0_areAllAlike_2 rfl (lv_at hl 0 rfl) ?_
      refine lv_bipush (v := 9) hx hb dX0_areAllAlike_3 (by decide) ?_
      refine lv_icmp_ge (tgt := 26) hx hb dX0_areAllAlike_5 (by decide) (fun c2 => ?_) (fun c2 => ?_)
      · have hge0 : 8 ≤ k := (by have := (nI_leI (a := 9) (b := k + 1) (by omega) (by omega)).mp c2; omega)
        exact X1 (fun j hj => hall j (by omega)) _ _ hP hS _ (lv_sub hl [1, 2] rfl)
      · refine lv_aload_n hx hb dX0_areAllAlike_8 rfl (lv_at hl 1 rfl) ?_
        refine lv_aload_n hx hb dX0_areAllAlike_9 rfl (lv_at hl 2 rfl) ?_
        refine lv_iload_n hx hb dX0_areAllAlike_10 rfl (lv_at hl 0 rfl) ?_
        refine lv_iconst (v := 0) hx hb dX0_areAllAlike_11 (by decide) ?_
        refine va_calli (va_runV (As := [.ref qm, .int (nI (k + 1)), .int 0]) (rest := []) ⟨hx, hb, hml, hown, hts⟩ (c_X0_compareBands l D cI cZ cJ cD qb qt ft qm qw qh fw fh (nI (k + 1)) 0 ) (cwV 3 hts gX0_areAllAlike_X0_compareBands rfl rfl rfl (by decide +kernel) ⟨Nat.le_of_ble_eq_true rfl, Nat.le_of_ble_eq_true rfl⟩) ⟨zblind, va_recv hK hP (ci := 0) (q0 := 0) rfl rfl, (fun U hU hW => ⟨rfl, by rw [hU]; exact hP.sub (ws' := [(qb, .inr (0, [.ref qt])), (qt, .inl (cI, 9, .inl ft)), (qm, .inr (2, [.ref qw, .ref qh])), (qw, .inl (cI, 10, .inl fw)), (qh, .inl (cI, 10, .inl fh))]) [0, 1, 2, 3, 4] rfl, va_K.moved hW.alike hK⟩)⟩ rfl rfl hl.1 rfl (lv_room (Nat.le_of_ble_eq_true rfl)) dX0_areAllAlike_12 ⟨Nat.le_of_ble_eq_true rfl, Nat.le_of_ble_eq_true rfl⟩) hS (fun q _ h => h.elim) (fun q h => h.elim) (fun r3 u t H locs ht hvm hw hB hz1 hk1 hS => ?_)
        rw [hw]
        have hP := zk hP hk1
        refine lv_if_eq (tgt := 20) hx hb dX0_areAllAlike_15 (by decide) (fun c4 => ?_) (fun c4 => ?_)
        · refine lv_iinc (v := nI (k + 1 + 1)) (lv' := [(2, .int (nI (k + 1 + 1))), (0, .ref qb), (1, .ref qm)]) hx hb dX0_areAllAlike_20 hl (k := 0) rfl (nI_succ (k + 1)).symm (by decide) rfl (fun ls hl => ?_)
          refine lv_goto (tgt := 2) hx hb dX0_areAllAlike_23 (by decide) ?_
          have hlt0 : k + 1 ≤ 8 := ((Nat.lt_or_ge (k + 1) 9).elim (fun q => by omega) (fun q => absurd (nI_le (a := 9) (b := k + 1) q (by omega)) c2))
          exact ih1 (k + 1) hlt0 (fun j hj => (Nat.lt_succ_iff_lt_or_eq.mp hj).elim (hall j) (fun e => e ▸ c4)) (by omega) _ _ hP hS _ (lv_sub hl [0, 1, 2] rfl)
        · refine lv_iconst (v := 0) hx hb dX0_areAllAlike_18 (by decide) ?_
          exact W.zret (v := 0) hx hb hr (z_b (by (repeat' split) <;> simp)) (fun t ht hW => ⟨⟨_, (), rfl, (if_neg (fun hh => c4 (hh k (((Nat.lt_or_ge (k + 1) 9).elim (fun q => by omega) (fun q => absurd (nI_le (a := 9) (b := k + 1) q (by omega)) c2)))))).symm, trivial⟩, hS.F ht⟩) hS.2.2 dX0_areAllAlike_19
  exact L1 9 0 (by omega) (fun j hj => absurd hj (by omega)) (by omega) _ _ hP hS _ (zlv (lv_sub (l' := [(2, .int 1), (0, .ref qb), (1, .ref qm)]) hl [0, 1, 2] rfl) (by rfl))
theorem z_num {nC nR : Nat} {nf co ro : Int32} (hN : nC * nR ≤ 36) (hC : nC ≤ 36) (hR : nR ≤ 36) (h : ¬ s_X1_hasPanel nC nR nf co ro = 0) : ∃ c r : Nat, c < nC ∧ r < nR ∧ co = nI c ∧ ro = nI r ∧ c * nR + r < nC * nR ∧ s_X1_number nC nR nf co ro = nI (c * nR + r) := by
  unfold s_X1_hasPanel at h
  by_cases c1 : co < 0
  · exact absurd (if_pos c1) h
  rw [if_neg c1] at h
  by_cases c2 : nI nC ≤ co
  · exact absurd (if_pos c2) h
  rw [if_neg c2] at h
  by_cases c3 : ro < 0
  · exact absurd (if_pos c3) h
  rw [if_neg c3] at h
  by_cases c4 : nI nR ≤ ro
  · exact absurd (if_pos c4) h
  obtain ⟨c, hc, ec⟩ := vp_in_of (z_in (nI_toInt (by omega)) c1 c2) (by omega)
  obtain ⟨r, hr, er⟩ := vp_in_of (z_in (nI_toInt (by omega)) c3 c4) (by omega)
  refine ⟨c, r, hc, hr, ec, er, ?_, ?_⟩
  · have : (c + 1) * nR ≤ nC * nR := Nat.mul_le_mul_right nR hc
    rw [Nat.succ_mul] at this
    omega
  · unfold s_X1_number
    rw [ec, er, pk_mul, nI_add]
theorem z_numin {nC nR : Nat} {nf co ro : Int32} (hN : nC * nR ≤ 36) (hC : nC ≤ 36) (hR : nR ≤ 36) (h : ¬ s_X1_hasPanel nC nR nf co ro = 0) : vp_in (s_X1_number nC nR nf co ro) 36 := by
  obtain ⟨c, r, -, -, -, -, h1, h2⟩ := z_num hN hC hR h
  rw [h2]
  exact vp_in_nI (by omega) (by omega)
def s_X1_columnPlace (nC : Nat) (nR : Nat) (nf : Int32) (fx : Nat → Int32) (co : Int32) (ro : Int32) : Int32 := (if (s_X1_hasPanel nC nR nf co ro) = 0 then 0 else fx (s_X1_number nC nR nf co ro).toNatClampNeg)
abbrev rm_X1_columnPlace : Room := { frames := 1, cells := 0, slots := 0, locals := 22 }
abbrev Qc_X1_columnPlace (D : va_G) (cI cZ cJ cD : ClassId) (qf : Nat) (qx : Nat) (qy : Nat) (qz : Nat) (qu : Nat) (nC : Nat) (nR : Nat) (nf : Int32) (fx : Nat → Int32) (co : Int32) (ro : Int32) : Array Value → State → Outcome → State → Prop := va_Qi (fun (r : Int32) (_ : Unit) => r = s_X1_columnPlace nC nR nf fx co ro) (fun _ _ => True) (fun _ : Nat => False)
set_option maxHeartbeats 4000000 in
set_option maxRecDepth 100000 in
theorem c_X1_columnPlace (l : Launch) (D : va_G) (cI cZ cJ cD : ClassId) (qf : Nat) (qx : Nat) (qy : Nat) (qz : Nat) (qu : Nat) (nC : Nat) (nR : Nat) (nf : Int32) (fx : Nat → Int32) (co : Int32) (ro : Int32) (hN : nC * nR ≤ 36) (hC : nC ≤ 36) (hR : nR ≤ 36) : Met l yX1_columnPlace wsX1_columnPlace rm_X1_columnPlace (va_Pc [.ref qf, .int co, .int ro] (zPre D cI cZ cJ cD [(qf, .inr (1, [.ref qx, .ref qy, .ref qz, .ref qu, .int (nI nC), .int (nI nR), .int nf])), (qx, .inl (cI, 36, .inl fx))])) (Qc_X1_columnPlace D cI cZ cJ cD qf qx qy qz qu nC nR nf fx co ro ) 0 0 (fun _ : Nat => False) := by
  refine Met.ofW (cc := cX1_columnPlace) (maxL := 3) (ret := (some .int)) (by decide) rfl ?_
  intro p e s m args below meth c s₁ B hml hv
  obtain ⟨rfl, hP, hK⟩ := hv
  have hx := B.exec
  have hb := B.bytes
  have hr := B.returns
  have hts := atoms_spec (ws := wsX1_columnPlace) B.pre
  have hown : s.vm.findClass RX1 = some m.cls := findClass_of_methodNamed B.named
  have hlocks := B.notSynchronized
  have hS : va_S (fun _ : Nat => False) s.heap s.heap [] := va_S.rf
  have hl := lv_entry ([.ref qf, .int co, .int ro]) (n := 3) (Nat.le_of_ble_eq_true rfl)
  rw [lg_entry_eq]
  generalize (lg_sl ([.ref qf, .int co, .int ro]) ++ List.replicate (3 - (lg_sl ([.ref qf, .int co, .int ro])).length) Slot.unset).toArray = ls at hl ⊢
  have hl : lv_has ls 3 [(0, .ref qf), (1, .int co), (2, .int ro)] := hl
  have hP : va_P D vwCl [(qf, .inr (1, [.ref qx, .ref qy, .ref qz, .ref qu, .int (nI nC), .int (nI nR), .int nf])), (qx, .inl (cI, 36, .inl fx))] s.heap := hP
  have hP := hP
  refine lv_aload_n hx hb dX1_columnPlace_0 rfl (lv_at hl 0 rfl) ?_
  refine lv_iload_n hx hb dX1_columnPlace_1 rfl (lv_at hl 1 rfl) ?_
  refine lv_iload_n hx hb dX1_columnPlace_2 rfl (lv_at hl 2 rfl) ?_
  refine va_calli (va_runV (As := [.int co, .int ro]) (rest := []) ⟨hx, hb, hml, hown, hts⟩ (c_X1_hasPanel l D cI cZ cJ cD qf qx qy qz qu nC nR nf co ro ) (cwV 2 hts gX1_columnPlace_X1_hasPanel rfl rfl rfl (by decide +kernel) ⟨Nat.le_of_ble_eq_true rfl, Nat.le_of_ble_eq_true rfl⟩) ⟨zblind, va_recv hK hP (ci := 1) (q0 := 0) rfl rfl, (fun U hU hW => ⟨rfl, by rw [hU]; exact hP.sub (ws' := [(qf, .inr (1, [.ref qx, .ref qy, .ref qz, .ref qu, .int (nI nC), .int (nI nR), .int nf]))]) [0] rfl, va_K.moved hW.alike hK⟩)⟩ rfl rfl hl.1 rfl (lv_room (Nat.le_of_ble_eq_true rfl)) dX1_columnPlace_3 ⟨Nat.le_of_ble_eq_true rfl, Nat.le_of_ble_eq_true rfl⟩) hS (fun q _ h => h.elim) (fun q h => h.elim) (fun r6 u t H locs ht hvm hw hB hz1 hk1 hS => ?_)
  rw [hw]
  have hP := zk hP hk1
  have K8 : ∀ v8_0 : Int32, v8_0 = (if (s_X1_hasPanel nC nR nf co ro) = 0 then 0 else fx (s_X1_number nC nR nf co ro).toNatClampNeg) → ∀ (H : Heap) (locs : List Loc), va_P D vwCl [(qf, .inr (1, [.ref qx, .ref qy, .ref qz, .ref qu, .int (nI nC), .int (nI nR), .int nf])), (qx, .inl (cI, 36, .inl fx))] H → va_S (fun _ : Nat => False) s.heap H locs → ∀ (ls : Array Slot), lv_has ls 3 [(0, .ref qf), (1, .int co), (2, .int ro)] → W p l e (headSpec wsX1_columnPlace rm_X1_columnPlace).room s m ([.ref qf, .int co, .int ro]).toArray below meth c H locs 0 0 (MQ below (Qc_X1_columnPlace D cI cZ cJ cD qf qx qy qz qu nC nR nf fx co ro) ([.ref qf, .int co, .int ro]).toArray s 0 0 (fun _ : Nat => False)) (F0 m 24 ls [.int v8_0]) := by
    intro v8_0 hv8_0 H locs hP hS ls hl
    subst hv8_0
    have e9 : s_X1_columnPlace nC nR nf fx co ro = (if (s_X1_hasPanel nC nR nf co ro) = 0 then 0 else fx (s_X1_number nC nR nf co ro).toNatClampNeg) := rfl
    exact W.iret (v := (if (s_X1_hasPanel nC nR nf co ro) = 0 then 0 else fx (s_X1_number nC nR nf co ro).toNatClampNeg)) hx hb hr (fun t ht hW => ⟨⟨_, (), rfl, e9.symm, trivial⟩, hS.F ht⟩) hS.2.2 dX1_columnPlace_24
  refine lv_if_eq (tgt := 23) hx hb dX1_columnPlace_6 (by decide) (fun c10 => ?_) (fun c10 => ?_)
  · refine lv_iconst (v := 0) hx hb dX1_columnPlace_23 (by decide) ?_
    exact K8 _ (if_pos c10).symm _ _ hP hS _ (lv_sub hl [0, 1, 2] rfl)
  · refine lv_aload_n hx hb dX1_columnPlace_9 rfl (lv_at hl 0 rfl) ?_
    refine va_get (D := D) (ci := 1) (v := .ref qx) (C := RX1) (T := TX1) (N := 7) hx hb hts (fun w h => List.mem_cons_of_mem _ (List.mem_append_right _ h)) hown hK hP 0 rfl rfl 0 (by decide) (hts (.fieldLink RX1 9 "AtlasFolder$FoldedSheet" "columnPlaces" "[I") (List.mem_cons_of_mem _ (List.mem_append_left _ (List.mem_of_getElem? (i := 0) rfl)))) (fun _ h9 => h9) rfl dX1_columnPlace_10 ?_
    refine lv_aload_n hx hb dX1_columnPlace_13 rfl (lv_at hl 0 rfl) ?_
    refine lv_iload_n hx hb dX1_columnPlace_14 rfl (lv_at hl 1 rfl) ?_
    refine lv_iload_n hx hb dX1_columnPlace_15 rfl (lv_at hl 2 rfl) ?_
    refine va_calli (va_runV (As := [.int co, .int ro]) (rest := [.ref qx]) ⟨hx, hb, hml, hown, hts⟩ (c_X1_number l D cI cZ cJ cD qf qx qy qz qu nC nR nf co ro ) (cwV 2 hts gX1_columnPlace_X1_number rfl rfl rfl (by decide +kernel) ⟨Nat.le_of_ble_eq_true rfl, Nat.le_of_ble_eq_true rfl⟩) ⟨zblind, va_recv hK hP (ci := 1) (q0 := 0) rfl rfl, (fun U hU hW => ⟨rfl, by rw [hU]; exact hP.sub (ws' := [(qf, .inr (1, [.ref qx, .ref qy, .ref qz, .ref qu, .int (nI nC), .int (nI nR), .int nf]))]) [0] rfl, va_K.moved hW.alike hK⟩)⟩ rfl rfl hl.1 rfl (lv_room (Nat.le_of_ble_eq_true rfl)) dX1_columnPlace_16 ⟨Nat.le_of_ble_eq_true rfl, Nat.le_of_ble_eq_true rfl⟩) hS (fun q _ h => h.elim) (fun q h => h.elim) (fun r11 u t H locs ht hvm hw hB hz1 hk1 hS => ?_)
    rw [hw]
    have hP := zk hP hk1
    refine va_iald hx hb hK hP 1 0 rfl rfl (z_numin hN hC hR c10) dX1_columnPlace_19 ?_
    refine lv_goto (tgt := 24) hx hb dX1_columnPlace_20 (by decide) ?_
    exact K8 _ (if_neg c10).symm _ _ hP hS _ (lv_sub hl [0, 1, 2] rfl)
def s_X1_rowPlace (nC : Nat) (nR : Nat) (nf : Int32) (fy : Nat → Int32) (co : Int32) (ro : Int32) : Int32 := (if (s_X1_hasPanel nC nR nf co ro) = 0 then 0 else fy (s_X1_number nC nR nf co ro).toNatClampNeg)
abbrev rm_X1_rowPlace : Room := { frames := 1, cells := 0, slots := 0, locals := 22 }
abbrev Qc_X1_rowPlace (D : va_G) (cI cZ cJ cD : ClassId) (qf : Nat) (qx : Nat) (qy : Nat) (qz : Nat) (qu : Nat) (nC : Nat) (nR : Nat) (nf : Int32) (fy : Nat → Int32) (co : Int32) (ro : Int32) : Array Value → State → Outcome → State → Prop := va_Qi (fun (r : Int32) (_ : Unit) => r = s_X1_rowPlace nC nR nf fy co ro) (fun _ _ => True) (fun _ : Nat => False)
set_option maxHeartbeats 4000000 in
set_option maxRecDepth 100000 in
theorem c_X1_rowPlace (l : Launch) (D : va_G) (cI cZ cJ cD : ClassId) (qf : Nat) (qx : Nat) (qy : Nat) (qz : Nat) (qu : Nat) (nC : Nat) (nR : Nat) (nf : Int32) (fy : Nat → Int32) (co : Int32) (ro : Int32) (hN : nC * nR ≤ 36) (hC : nC ≤ 36) (hR : nR ≤ 36) : Met l yX1_rowPlace wsX1_rowPlace rm_X1_rowPlace (va_Pc [.ref qf, .int co, .int ro] (zPre D cI cZ cJ cD [(qf, .inr (1, [.ref qx, .ref qy, .ref qz, .ref qu, .int (nI nC), .int (nI nR), .int nf])), (qy, .inl (cI, 36, .inl fy))])) (Qc_X1_rowPlace D cI cZ cJ cD qf qx qy qz qu nC nR nf fy co ro ) 0 0 (fun _ : Nat => False) := by
  refine Met.ofW (cc := cX1_rowPlace) (maxL := 3) (ret := (some .int)) (by decide) rfl ?_
  intro p e s m args below meth c s₁ B hml hv
  obtain ⟨rfl, hP, hK⟩ := hv
  have hx := B.exec
  have hb := B.bytes
  have hr := B.returns
  have hts := atoms_spec (ws := wsX1_rowPlace) B.pre
  have hown : s.vm.findClass RX1 = some m.cls := findClass_of_methodNamed B.named
  have hlocks := B.notSynchronized
  have hS : va_S (fun _ : Nat => False) s.heap s.heap [] := va_S.rf
  have hl := lv_entry ([.ref qf, .int co, .int ro]) (n := 3) (Nat.le_of_ble_eq_true rfl)
  rw [lg_entry_eq]
  generalize (lg_sl ([.ref qf, .int co, .int ro]) ++ List.replicate (3 - (lg_sl ([.ref qf, .int co, .int ro])).length) Slot.unset).toArray = ls at hl ⊢
  have hl : lv_has ls 3 [(0, .ref qf), (1, .int co), (2, .int ro)] := hl
  have hP : va_P D vwCl [(qf, .inr (1, [.ref qx, .ref qy, .ref qz, .ref qu, .int (nI nC), .int (nI nR), .int nf])), (qy, .inl (cI, 36, .inl fy))] s.heap := hP
  have hP := hP
  refine lv_aload_n hx hb dX1_rowPlace_0 rfl (lv_at hl 0 rfl) ?_
  refine lv_iload_n hx hb dX1_rowPlace_1 rfl (lv_at hl 1 rfl) ?_
  refine lv_iload_n hx hb dX1_rowPlace_2 rfl (lv_at hl 2 rfl) ?_
  refine va_calli (va_runV (As := [.int co, .int ro]) (rest := []) ⟨hx, hb, hml, hown, hts⟩ (c_X1_hasPanel l D cI cZ cJ cD qf qx qy qz qu nC nR nf co ro ) (cwV 2 hts gX1_rowPlace_X1_hasPanel rfl rfl rfl (by decide +kernel) ⟨Nat.le_of_ble_eq_true rfl, Nat.le_of_ble_eq_true rfl⟩) ⟨zblind, va_recv hK hP (ci := 1) (q0 := 0) rfl rfl, (fun U hU hW => ⟨rfl, by rw [hU]; exact hP.sub (ws' := [(qf, .inr (1, [.ref qx, .ref qy, .ref qz, .ref qu, .int (nI nC), .int (nI nR), .int nf]))]) [0] rfl, va_K.moved hW.alike hK⟩)⟩ rfl rfl hl.1 rfl (lv_room (Nat.le_of_ble_eq_true rfl)) dX1_rowPlace_3 ⟨Nat.le_of_ble_eq_true rfl, Nat.le_of_ble_eq_true rfl⟩) hS (fun q _ h => h.elim) (fun q h => h.elim) (fun r6 u t H locs ht hvm hw hB hz1 hk1 hS => ?_)
  rw [hw]
  have hP := zk hP hk1
  have K8 : ∀ v8_0 : Int32, v8_0 = (if (s_X1_hasPanel nC nR nf co ro) = 0 then 0 else fy (s_X1_number nC nR nf co ro).toNatClampNeg) → ∀ (H : Heap) (locs : List Loc), va_P D vwCl [(qf, .inr (1, [.ref qx, .ref qy, .ref qz, .ref qu, .int (nI nC), .int (nI nR), .int nf])), (qy, .inl (cI, 36, .inl fy))] H → va_S (fun _ : Nat => False) s.heap H locs → ∀ (ls : Array Slot), lv_has ls 3 [(0, .ref qf), (1, .int co), (2, .int ro)] → W p l e (headSpec wsX1_rowPlace rm_X1_rowPlace).room s m ([.ref qf, .int co, .int ro]).toArray below meth c H locs 0 0 (MQ below (Qc_X1_rowPlace D cI cZ cJ cD qf qx qy qz qu nC nR nf fy co ro) ([.ref qf, .int co, .int ro]).toArray s 0 0 (fun _ : Nat => False)) (F0 m 24 ls [.int v8_0]) := by
    intro v8_0 hv8_0 H locs hP hS ls hl
    subst hv8_0
    have e9 : s_X1_rowPlace nC nR nf fy co ro = (if (s_X1_hasPanel nC nR nf co ro) = 0 then 0 else fy (s_X1_number nC nR nf co ro).toNatClampNeg) := rfl
    exact W.iret (v := (if (s_X1_hasPanel nC nR nf co ro) = 0 then 0 else fy (s_X1_number nC nR nf co ro).toNatClampNeg)) hx hb hr (fun t ht hW => ⟨⟨_, (), rfl, e9.symm, trivial⟩, hS.F ht⟩) hS.2.2 dX1_rowPlace_24
  refine lv_if_eq (tgt := 23) hx hb dX1_rowPlace_6 (by decide) (fun c10 => ?_) (fun c10 => ?_)
  · refine lv_iconst (v := 0) hx hb dX1_rowPlace_23 (by decide) ?_
    exact K8 _ (if_pos c10).symm _ _ hP hS _ (lv_sub hl [0, 1, 2] rfl)
  · refine lv_aload_n hx hb dX1_rowPlace_9 rfl (lv_at hl 0 rfl) ?_
    refine va_get (D := D) (ci := 1) (v := .ref qy) (C := RX1) (T := TX1) (N := 7) hx hb hts (fun w h => List.mem_cons_of_mem _ (List.mem_append_right _ h)) hown hK hP 0 rfl rfl 1 (by decide) (hts (.fieldLink RX1 15 "AtlasFolder$FoldedSheet" "rowPlaces" "[I") (List.mem_cons_of_mem _ (List.mem_append_left _ (List.mem_of_getElem? (i := 0) rfl)))) (fun _ h9 => h9) rfl dX1_rowPlace_10 ?_
    refine lv_aload_n hx hb dX1_rowPlace_13 rfl (lv_at hl 0 rfl) ?_
    refine lv_iload_n hx hb dX1_rowPlace_14 rfl (lv_at hl 1 rfl) ?_
    refine lv_iload_n hx hb dX1_rowPlace_15 rfl (lv_at hl 2 rfl) ?_
    refine va_calli (va_runV (As := [.int co, .int ro]) (rest := [.ref qy]) ⟨hx, hb, hml, hown, hts⟩ (c_X1_number l D cI cZ cJ cD qf qx qy qz qu nC nR nf co ro ) (cwV 2 hts gX1_rowPlace_X1_number rfl rfl rfl (by decide +kernel) ⟨Nat.le_of_ble_eq_true rfl, Nat.le_of_ble_eq_true rfl⟩) ⟨zblind, va_recv hK hP (ci := 1) (q0 := 0) rfl rfl, (fun U hU hW => ⟨rfl, by rw [hU]; exact hP.sub (ws' := [(qf, .inr (1, [.ref qx, .ref qy, .ref qz, .ref qu, .int (nI nC), .int (nI nR), .int nf]))]) [0] rfl, va_K.moved hW.alike hK⟩)⟩ rfl rfl hl.1 rfl (lv_room (Nat.le_of_ble_eq_true rfl)) dX1_rowPlace_16 ⟨Nat.le_of_ble_eq_true rfl, Nat.le_of_ble_eq_true rfl⟩) hS (fun q _ h => h.elim) (fun q h => h.elim) (fun r11 u t H locs ht hvm hw hB hz1 hk1 hS => ?_)
    rw [hw]
    have hP := zk hP hk1
    refine va_iald hx hb hK hP 1 0 rfl rfl (z_numin hN hC hR c10) dX1_rowPlace_19 ?_
    refine lv_goto (tgt := 24) hx hb dX1_rowPlace_20 (by decide) ?_
    exact K8 _ (if_neg c10).symm _ _ hP hS _ (lv_sub hl [0, 1, 2] rfl)
def s_X1_panelsAbove (nC : Nat) (nR : Nat) (nf : Int32) (fx : Nat → Int32) (fy : Nat → Int32) (fz : Nat → Int32) (co : Int32) (ro : Int32) : Int32 := (if (s_X1_hasPanel nC nR nf co ro) = 0 then 0 else s_X1_higherThan nC nR nf fx fy fz (s_X1_number nC nR nf co ro))
abbrev rm_X1_panelsAbove : Room := { frames := 2, cells := 0, slots := 0, locals := 43 }
abbrev Qc_X1_panelsAbove (D : va_G) (cI cZ cJ cD : ClassId) (qf : Nat) (qx : Nat) (qy : Nat) (qz : Nat) (qu : Nat) (nC : Nat) (nR : Nat) (nf : Int32) (fx : Nat → Int32) (fy : Nat → Int32) (fz : Nat → Int32) (co : Int32) (ro : Int32) : Array Value → State → Outcome → State → Prop := va_Qi (fun (r : Int32) (_ : Unit) => r = s_X1_panelsAbove nC nR nf fx fy fz co ro) (fun _ _ => True) (fun _ : Nat => False)
set_option maxHeartbeats 4000000 in
set_option maxRecDepth 100000 in
theorem c_X1_panelsAbove (l : Launch) (D : va_G) (cI cZ cJ cD : ClassId) (qf : Nat) (qx : Nat) (qy : Nat) (qz : Nat) (qu : Nat) (nC : Nat) (nR : Nat) (nf : Int32) (fx : Nat → Int32) (fy : Nat → Int32) (fz : Nat → Int32) (co : Int32) (ro : Int32) (hN : nC * nR ≤ 36) (hC : nC ≤ 36) (hR : nR ≤ 36) : Met l yX1_panelsAbove wsX1_panelsAbove rm_X1_panelsAbove (va_Pc [.ref qf, .int co, .int ro] (zPre D cI cZ cJ cD [(qf, .inr (1, [.ref qx, .ref qy, .ref qz, .ref qu, .int (nI nC), .int (nI nR), .int nf])), (qx, .inl (cI, 36, .inl fx)), (qy, .inl (cI, 36, .inl fy)), (qz, .inl (cI, 36, .inl fz))])) (Qc_X1_panelsAbove D cI cZ cJ cD qf qx qy qz qu nC nR nf fx fy fz co ro ) 0 0 (fun _ : Nat => False) := by
  refine Met.ofW (cc := cX1_panelsAbove) (maxL := 3) (ret := (some .int)) (by decide) rfl ?_
  intro p e s m args below meth c s₁ B hml hv
  obtain ⟨rfl, hP, hK⟩ := hv
  have hx := B.exec
  have hb := B.bytes
  have hr := B.returns
  have hts := atoms_spec (ws := wsX1_panelsAbove) B.pre
  have hown : s.vm.findClass RX1 = some m.cls := findClass_of_methodNamed B.named
  have hlocks := B.notSynchronized
  have hS : va_S (fun _ : Nat => False) s.heap s.heap [] := va_S.rf
  have hl := lv_entry ([.ref qf, .int co, .int ro]) (n := 3) (Nat.le_of_ble_eq_true rfl)
  rw [lg_entry_eq]
  generalize (lg_sl ([.ref qf, .int co, .int ro]) ++ List.replicate (3 - (lg_sl ([.ref qf, .int co, .int ro])).length) Slot.unset).toArray = ls at hl ⊢
  have hl : lv_has ls 3 [(0, .ref qf), (1, .int co), (2, .int ro)] := hl
  have hP : va_P D vwCl [(qf, .inr (1, [.ref qx, .ref qy, .ref qz, .ref qu, .int (nI nC), .int (nI nR), .int nf])), (qx, .inl (cI, 36, .inl fx)), (qy, .inl (cI, 36, .inl fy)), (qz, .inl (cI, 36, .inl fz))] s.heap := hP
  have hP := hP
  refine lv_aload_n hx hb dX1_panelsAbove_0 rfl (lv_at hl 0 rfl) ?_
  refine lv_iload_n hx hb dX1_panelsAbove_1 rfl (lv_at hl 1 rfl) ?_
  refine lv_iload_n hx hb dX1_panelsAbove_2 rfl (lv_at hl 2 rfl) ?_
  refine va_calli (va_runV (As := [.int co, .int ro]) (rest := []) ⟨hx, hb, hml, hown, hts⟩ (c_X1_hasPanel l D cI cZ cJ cD qf qx qy qz qu nC nR nf co ro ) (cwV 2 hts gX1_panelsAbove_X1_hasPanel rfl rfl rfl (by decide +kernel) ⟨Nat.le_of_ble_eq_true rfl, Nat.le_of_ble_eq_true rfl⟩) ⟨zblind, va_recv hK hP (ci := 1) (q0 := 0) rfl rfl, (fun U hU hW => ⟨rfl, by rw [hU]; exact hP.sub (ws' := [(qf, .inr (1, [.ref qx, .ref qy, .ref qz, .ref qu, .int (nI nC), .int (nI nR), .int nf]))]) [0] rfl, va_K.moved hW.alike hK⟩)⟩ rfl rfl hl.1 rfl (lv_room (Nat.le_of_ble_eq_true rfl)) dX1_panelsAbove_3 ⟨Nat.le_of_ble_eq_true rfl, Nat.le_of_ble_eq_true rfl⟩) hS (fun q _ h => h.elim) (fun q h => h.elim) (fun r7 u t H locs ht hvm hw hB hz1 hk1 hS => ?_)
  rw [hw]
  have hP := zk hP hk1
  have K9 : ∀ v9_0 : Int32, v9_0 = (if (s_X1_hasPanel nC nR nf co ro) = 0 then 0 else s_X1_higherThan nC nR nf fx fy fz (s_X1_number nC nR nf co ro)) → ∀ (H : Heap) (locs : List Loc), va_P D vwCl [(qf, .inr (1, [.ref qx, .ref qy, .ref qz, .ref qu, .int (nI nC), .int (nI nR), .int nf])), (qx, .inl (cI, 36, .inl fx)), (qy, .inl (cI, 36, .inl fy)), (qz, .inl (cI, 36, .inl fz))] H → va_S (fun _ : Nat => False) s.heap H locs → ∀ (ls : Array Slot), lv_has ls 3 [(0, .ref qf), (1, .int co), (2, .int ro)] → W p l e (headSpec wsX1_panelsAbove rm_X1_panelsAbove).room s m ([.ref qf, .int co, .int ro]).toArray below meth c H locs 0 0 (MQ below (Qc_X1_panelsAbove D cI cZ cJ cD qf qx qy qz qu nC nR nf fx fy fz co ro) ([.ref qf, .int co, .int ro]).toArray s 0 0 (fun _ : Nat => False)) (F0 m 23 ls [.int v9_0]) := by
    intro v9_0 hv9_0 H locs hP hS ls hl
    subst hv9_0
    have e10 : s_X1_panelsAbove nC nR nf fx fy fz co ro = (if (s_X1_hasPanel nC nR nf co ro) = 0 then 0 else s_X1_higherThan nC nR nf fx fy fz (s_X1_number nC nR nf co ro)) := rfl
    exact W.iret (v := (if (s_X1_hasPanel nC nR nf co ro) = 0 then 0 else s_X1_higherThan nC nR nf fx fy fz (s_X1_number nC nR nf co ro))) hx hb hr (fun t ht hW => ⟨⟨_, (), rfl, e10.symm, trivial⟩, hS.F ht⟩) hS.2.2 dX1_panelsAbove_23
  refine lv_if_eq (tgt := 22) hx hb dX1_panelsAbove_6 (by decide) (fun c11 => ?_) (fun c11 => ?_)
  · refine lv_iconst (v := 0) hx hb dX1_panelsAbove_22 (by decide) ?_
    exact K9 _ (if_pos c11).symm _ _ hP hS _ (lv_sub hl [0, 1, 2] rfl)
  · refine lv_aload_n hx hb dX1_panelsAbove_9 rfl (lv_at hl 0 rfl) ?_
    refine lv_aload_n hx hb dX1_panelsAbove_10 rfl (lv_at hl 0 rfl) ?_
    refine lv_iload_n hx hb dX1_panelsAbove_11 rfl (lv_at hl 1 rfl) ?_
    refine lv_iload_n hx hb dX1_panelsAbove_12 rfl (lv_at hl 2 rfl) ?_
    refine va_calli (va_runV (As := [.int co, .int ro]) (rest := [.ref qf]) ⟨hx, hb, hml, hown, hts⟩ (c_X1_number l D cI cZ cJ cD qf qx qy qz qu nC nR nf co ro ) (cwV 2 hts gX1_panelsAbove_X1_number rfl rfl rfl (by decide +kernel) ⟨Nat.le_of_ble_eq_true rfl, Nat.le_of_ble_eq_true rfl⟩) ⟨zblind, va_recv hK hP (ci := 1) (q0 := 0) rfl rfl, (fun U hU hW => ⟨rfl, by rw [hU]; exact hP.sub (ws' := [(qf, .inr (1, [.ref qx, .ref qy, .ref qz, .ref qu, .int (nI nC), .int (nI nR), .int nf]))]) [0] rfl, va_K.moved hW.alike hK⟩)⟩ rfl rfl hl.1 rfl (lv_room (Nat.le_of_ble_eq_true rfl)) dX1_panelsAbove_13 ⟨Nat.le_of_ble_eq_true rfl, Nat.le_of_ble_eq_true rfl⟩) hS (fun q _ h => h.elim) (fun q h => h.elim) (fun r12 u t H locs ht hvm hw hB hz1 hk1 hS => ?_)
    rw [hw]
    have hP := zk hP hk1
    refine va_calli (va_runV (As := [.int (s_X1_number nC nR nf co ro)]) (rest := []) ⟨hx, hb, hml, hown, hts⟩ (c_X1_higherThan l D cI cZ cJ cD qf qx qy qz qu nC nR nf fx fy fz (s_X1_number nC nR nf co ro) hN (z_numin hN hC hR c11)) (cwV 1 hts gX1_panelsAbove_X1_higherThan rfl rfl rfl (by decide +kernel) ⟨Nat.le_of_ble_eq_true rfl, Nat.le_of_ble_eq_true rfl⟩) ⟨zblind, va_recv hK hP (ci := 1) (q0 := 0) rfl rfl, (fun U hU hW => ⟨rfl, by rw [hU]; exact hP.sub (ws' := [(qf, .inr (1, [.ref qx, .ref qy, .ref qz, .ref qu, .int (nI nC), .int (nI nR), .int nf])), (qx, .inl (cI, 36, .inl fx)), (qy, .inl (cI, 36, .inl fy)), (qz, .inl (cI, 36, .inl fz))]) [0, 1, 2, 3] rfl, va_K.moved hW.alike hK⟩)⟩ rfl rfl hl.1 rfl (lv_room (Nat.le_of_ble_eq_true rfl)) dX1_panelsAbove_16 ⟨Nat.le_of_ble_eq_true rfl, Nat.le_of_ble_eq_true rfl⟩) hS (fun q _ h => h.elim) (fun q h => h.elim) (fun r13 u t H locs ht hvm hw hB hz1 hk1 hS => ?_)
    rw [hw]
    have hP := zk hP hk1
    refine lv_goto (tgt := 23) hx hb dX1_panelsAbove_19 (by decide) ?_
    exact K9 _ (if_neg c11).symm _ _ hP hS _ (lv_sub hl [0, 1, 2] rfl)
def s_X1_liesFaceUp (nC : Nat) (nR : Nat) (nf : Int32) (fu : Nat → Int32) (co : Int32) (ro : Int32) : Int32 := (if (s_X1_hasPanel nC nR nf co ro) = 0 then 0 else (if (fu (s_X1_number nC nR nf co ro).toNatClampNeg) = 0 then 0 else 1))
abbrev rm_X1_liesFaceUp : Room := { frames := 1, cells := 0, slots := 0, locals := 22 }
abbrev Qc_X1_liesFaceUp (D : va_G) (cI cZ cJ cD : ClassId) (qf : Nat) (qx : Nat) (qy : Nat) (qz : Nat) (qu : Nat) (nC : Nat) (nR : Nat) (nf : Int32) (fu : Nat → Int32) (co : Int32) (ro : Int32) : Array Value → State → Outcome → State → Prop := va_Qi (fun (r : Int32) (_ : Unit) => r = s_X1_liesFaceUp nC nR nf fu co ro) (fun _ _ => True) (fun _ : Nat => False)
set_option maxHeartbeats 4000000 in
set_option maxRecDepth 100000 in
theorem c_X1_liesFaceUp (l : Launch) (D : va_G) (cI cZ cJ cD : ClassId) (qf : Nat) (qx : Nat) (qy : Nat) (qz : Nat) (qu : Nat) (nC : Nat) (nR : Nat) (nf : Int32) (fu : Nat → Int32) (co : Int32) (ro : Int32) (hN : nC * nR ≤ 36) (hC : nC ≤ 36) (hR : nR ≤ 36) : Met l yX1_liesFaceUp wsX1_liesFaceUp rm_X1_liesFaceUp (va_Pc [.ref qf, .int co, .int ro] (zPre D cI cZ cJ cD [(qf, .inr (1, [.ref qx, .ref qy, .ref qz, .ref qu, .int (nI nC), .int (nI nR), .int nf])), (qu, .inl (cZ, 36, .inl fu))])) (Qc_X1_liesFaceUp D cI cZ cJ cD qf qx qy qz qu nC nR nf fu co ro ) 0 0 (fun _ : Nat => False) := by
  refine Met.ofW (cc := cX1_liesFaceUp) (maxL := 3) (ret := (some .boolean)) (by decide) rfl ?_
  intro p e s m args below meth c s₁ B hml hv
  obtain ⟨rfl, hP, hK⟩ := hv
  have hx := B.exec
  have hb := B.bytes
  have hr := B.returns
  have hts := atoms_spec (ws := wsX1_liesFaceUp) B.pre
  have hown : s.vm.findClass RX1 = some m.cls := findClass_of_methodNamed B.named
  have hlocks := B.notSynchronized
  have hS : va_S (fun _ : Nat => False) s.heap s.heap [] := va_S.rf
  have hl := lv_entry ([.ref qf, .int co, .int ro]) (n := 3) (Nat.le_of_ble_eq_true rfl)
  rw [lg_entry_eq]
  generalize (lg_sl ([.ref qf, .int co, .int ro]) ++ List.replicate (3 - (lg_sl ([.ref qf, .int co, .int ro])).length) Slot.unset).toArray = ls at hl ⊢
  have hl : lv_has ls 3 [(0, .ref qf), (1, .int co), (2, .int ro)] := hl
  have hP : va_P D vwCl [(qf, .inr (1, [.ref qx, .ref qy, .ref qz, .ref qu, .int (nI nC), .int (nI nR), .int nf])), (qu, .inl (cZ, 36, .inl fu))] s.heap := hP
  have hP := hP
  refine lv_aload_n hx hb dX1_liesFaceUp_0 rfl (lv_at hl 0 rfl) ?_
  refine lv_iload_n hx hb dX1_liesFaceUp_1 rfl (lv_at hl 1 rfl) ?_
  refine lv_iload_n hx hb dX1_liesFaceUp_2 rfl (lv_at hl 2 rfl) ?_
  refine va_calli (va_runV (As := [.int co, .int ro]) (rest := []) ⟨hx, hb, hml, hown, hts⟩ (c_X1_hasPanel l D cI cZ cJ cD qf qx qy qz qu nC nR nf co ro ) (cwV 2 hts gX1_liesFaceUp_X1_hasPanel rfl rfl rfl (by decide +kernel) ⟨Nat.le_of_ble_eq_true rfl, Nat.le_of_ble_eq_true rfl⟩) ⟨zblind, va_recv hK hP (ci := 1) (q0 := 0) rfl rfl, (fun U hU hW => ⟨rfl, by rw [hU]; exact hP.sub (ws' := [(qf, .inr (1, [.ref qx, .ref qy, .ref qz, .ref qu, .int (nI nC), .int (nI nR), .int nf]))]) [0] rfl, va_K.moved hW.alike hK⟩)⟩ rfl rfl hl.1 rfl (lv_room (Nat.le_of_ble_eq_true rfl)) dX1_liesFaceUp_3 ⟨Nat.le_of_ble_eq_true rfl, Nat.le_of_ble_eq_true rfl⟩) hS (fun q _ h => h.elim) (fun q h => h.elim) (fun r7 u t H locs ht hvm hw hB hz1 hk1 hS => ?_)
  rw [hw]
  have hP := zk hP hk1
  have K9 : ∀ v9_0 : Int32, v9_0 = (if (s_X1_hasPanel nC nR nf co ro) = 0 then 0 else (if (fu (s_X1_number nC nR nf co ro).toNatClampNeg) = 0 then 0 else 1)) → ∀ (H : Heap) (locs : List Loc), va_P D vwCl [(qf, .inr (1, [.ref qx, .ref qy, .ref qz, .ref qu, .int (nI nC), .int (nI nR), .int nf])), (qu, .inl (cZ, 36, .inl fu))] H → va_S (fun _ : Nat => False) s.heap H locs → ∀ (ls : Array Slot), lv_has ls 3 [(0, .ref qf), (1, .int co), (2, .int ro)] → W p l e (headSpec wsX1_liesFaceUp rm_X1_liesFaceUp).room s m ([.ref qf, .int co, .int ro]).toArray below meth c H locs 0 0 (MQ below (Qc_X1_liesFaceUp D cI cZ cJ cD qf qx qy qz qu nC nR nf fu co ro) ([.ref qf, .int co, .int ro]).toArray s 0 0 (fun _ : Nat => False)) (F0 m 28 ls [.int v9_0]) := by
    intro v9_0 hv9_0 H locs hP hS ls hl
    subst hv9_0
    have e10 : s_X1_liesFaceUp nC nR nf fu co ro = (if (s_X1_hasPanel nC nR nf co ro) = 0 then 0 else (if (fu (s_X1_number nC nR nf co ro).toNatClampNeg) = 0 then 0 else 1)) := rfl
    exact W.zret (v := (if (s_X1_hasPanel nC nR nf co ro) = 0 then 0 else (if (fu (s_X1_number nC nR nf co ro).toNatClampNeg) = 0 then 0 else 1))) hx hb hr (z_b (by (repeat' split) <;> simp)) (fun t ht hW => ⟨⟨_, (), rfl, e10.symm, trivial⟩, hS.F ht⟩) hS.2.2 dX1_liesFaceUp_28
  refine lv_if_eq (tgt := 27) hx hb dX1_liesFaceUp_6 (by decide) (fun c11 => ?_) (fun c11 => ?_)
  · refine lv_iconst (v := 0) hx hb dX1_liesFaceUp_27 (by decide) ?_
    exact K9 _ (if_pos c11).symm _ _ hP hS _ (lv_sub hl [0, 1, 2] rfl)
  · refine lv_aload_n hx hb dX1_liesFaceUp_9 rfl (lv_at hl 0 rfl) ?_
    refine va_get (D := D) (ci := 1) (v := .ref qu) (C := RX1) (T := TX1) (N := 7) hx hb hts (fun w h => List.mem_cons_of_mem _ (List.mem_append_right _ h)) hown hK hP 0 rfl rfl 3 (by decide) (hts (.fieldLink RX1 21 "AtlasFolder$FoldedSheet" "faceUp" "[Z") (List.mem_cons_of_mem _ (List.mem_append_left _ (List.mem_of_getElem? (i := 0) rfl)))) (fun _ h9 => h9) rfl dX1_liesFaceUp_10 ?_
    refine lv_aload_n hx hb dX1_liesFaceUp_13 rfl (lv_at hl 0 rfl) ?_
    refine lv_iload_n hx hb dX1_liesFaceUp_14 rfl (lv_at hl 1 rfl) ?_
    refine lv_iload_n hx hb dX1_liesFaceUp_15 rfl (lv_at hl 2 rfl) ?_
    refine va_calli (va_runV (As := [.int co, .int ro]) (rest := [.ref qu]) ⟨hx, hb, hml, hown, hts⟩ (c_X1_number l D cI cZ cJ cD qf qx qy qz qu nC nR nf co ro ) (cwV 2 hts gX1_liesFaceUp_X1_number rfl rfl rfl (by decide +kernel) ⟨Nat.le_of_ble_eq_true rfl, Nat.le_of_ble_eq_true rfl⟩) ⟨zblind, va_recv hK hP (ci := 1) (q0 := 0) rfl rfl, (fun U hU hW => ⟨rfl, by rw [hU]; exact hP.sub (ws' := [(qf, .inr (1, [.ref qx, .ref qy, .ref qz, .ref qu, .int (nI nC), .int (nI nR), .int nf]))]) [0] rfl, va_K.moved hW.alike hK⟩)⟩ rfl rfl hl.1 rfl (lv_room (Nat.le_of_ble_eq_true rfl)) dX1_liesFaceUp_16 ⟨Nat.le_of_ble_eq_true rfl, Nat.le_of_ble_eq_true rfl⟩) hS (fun q _ h => h.elim) (fun q h => h.elim) (fun r12 u t H locs ht hvm hw hB hz1 hk1 hS => ?_)
    rw [hw]
    have hP := zk hP hk1
    refine va_zald hx hb hK hP 1 1 rfl rfl (z_numin hN hC hR c11) dX1_liesFaceUp_19 ?_
    refine lv_if_eq (tgt := 27) hx hb dX1_liesFaceUp_20 (by decide) (fun c13 => ?_) (fun c13 => ?_)
    · refine lv_iconst (v := 0) hx hb dX1_liesFaceUp_27 (by decide) ?_
      exact K9 _ ((if_neg c11).trans (if_pos c13)).symm _ _ hP hS _ (lv_sub hl [0, 1, 2] rfl)
    · refine lv_iconst (v := 1) hx hb dX1_liesFaceUp_23 (by decide) ?_
      refine lv_goto (tgt := 28) hx hb dX1_liesFaceUp_24 (by decide) ?_
      exact K9 _ ((if_neg c11).trans (if_neg c13)).symm _ _ hP hS _ (lv_sub hl [0, 1, 2] rfl)
