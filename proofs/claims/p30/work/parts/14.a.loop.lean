theorem zblindX {av : List Value} {b L : Nat} {xs : Nat → Int32} : FrameBlind (va_Pc av (fun U => va_X b L xs U U.heap ∧ b < U.heap.size)) := fun a U g mk h => ⟨h.1, va_X.moved (u := U) (U := U.calling g mk a) (Vm.Alike.refl U.vm) h.2.1, h.2.2⟩
set_option maxHeartbeats 4000000 in
set_option maxRecDepth 100000 in
theorem c_L_cellX (l : Launch) (D : va_G) (cI cZ cJ cD : ClassId) (qs : Nat) (L : Nat) (xs : Nat → Int32) (k : Int32) (hL : L < 2 ^ 31) (hk : ¬ k < 0) : Met l yL_cell wsL_cell rm_L_cell (va_Pc [.ref qs, .int k] (fun U => va_X qs L xs U U.heap ∧ qs < U.heap.size)) (Qc_L_cell D cI cZ cJ cD qs L xs k ) 0 0 (fun _ : Nat => False) := by
  refine Met.ofW (cc := cL_cell) (maxL := 2) (ret := (some .int)) (by decide) rfl ?_
  intro p e s m args below meth c s₁ B hml hv
  obtain ⟨rfl, hX, hbl⟩ := hv
  have hx := B.exec
  have hb := B.bytes
  have hr := B.returns
  have hts := atoms_spec (ws := wsL_cell) B.pre
  have hown : s.vm.findClass RL = some m.cls := findClass_of_methodNamed B.named
  have hlocks := B.notSynchronized
  have hS : va_S (fun _ : Nat => False) s.heap s.heap [] := va_S.rf
  have hl := lv_entry ([.ref qs, .int k]) (n := 2) (Nat.le_of_ble_eq_true rfl)
  rw [lg_entry_eq]
  generalize (lg_sl ([.ref qs, .int k]) ++ List.replicate (2 - (lg_sl ([.ref qs, .int k])).length) Slot.unset).toArray = ls at hl ⊢
  have hl : lv_has ls 2 [(0, .ref qs), (1, .int k)] := hl
  have hP : True := trivial
  have hP := hP
  refine lv_iload_n hx hb dL_cell_0 rfl (lv_at hl 1 rfl) ?_
  refine lv_aload_n hx hb dL_cell_1 rfl (lv_at hl 0 rfl) ?_
  refine va_slen hx hb hX hbl (fun h => h) hS dL_cell_2 ?_
  have K5 : ∀ v5_0 : Int32, v5_0 = (if (Int32.ofNat L) ≤ k then ((zul (2147483659 * ((k + 15).toInt64)) 4).toInt32) ^^^ (k * 40503) else xs k.toNatClampNeg) → ∀ (H : Heap) (locs : List Loc), True → va_S (fun _ : Nat => False) s.heap H locs → ∀ (ls : Array Slot), lv_has ls 2 [(0, .ref qs), (1, .int k)] → W p l e (headSpec wsL_cell rm_L_cell).room s m ([.ref qs, .int k]).toArray below meth c H locs 0 0 (MQ below (Qc_L_cell D cI cZ cJ cD qs L xs k) ([.ref qs, .int k]).toArray s 0 0 (fun _ : Nat => False)) (F0 m 29 ls [.int v5_0]) := by
    intro v5_0 hv5_0 H locs hP hS ls hl
    subst hv5_0
    have e6 : s_L_cell L xs k = (if (Int32.ofNat L) ≤ k then ((zul (2147483659 * ((k + 15).toInt64)) 4).toInt32) ^^^ (k * 40503) else xs k.toNatClampNeg) := rfl
    exact W.iret (v := (if (Int32.ofNat L) ≤ k then ((zul (2147483659 * ((k + 15).toInt64)) 4).toInt32) ^^^ (k * 40503) else xs k.toNatClampNeg)) hx hb hr (fun t ht hW => ⟨⟨_, (), rfl, e6.symm, trivial⟩, hS.F ht⟩) hS.2.2 dL_cell_29
  refine lv_icmp_ge (tgt := 12) hx hb dL_cell_3 (by decide) (fun c7 => ?_) (fun c7 => ?_)
  · refine lv_ldc2 (v := 2147483659) hx hb hown (hts (.constantLong RL 7 (2147483659)) (List.mem_cons_of_mem _ (List.mem_of_getElem? (i := 0) rfl))) dL_cell_12 ?_
    refine lv_iload_n hx hb dL_cell_15 rfl (lv_at hl 1 rfl) ?_
    refine lv_bipush (v := 15) hx hb dL_cell_16 (by decide) ?_
    refine lv_iadd hx hb dL_cell_18 ?_
    refine lv_i2l hx hb dL_cell_19 rfl ?_
    refine lv_lmul hx hb dL_cell_20 ?_
    refine lv_iconst (v := 4) hx hb dL_cell_21 (by decide) ?_
    refine lv_lushr (v := zul (2147483659 * ((k + 15).toInt64)) 4) hx hb dL_cell_22 rfl ?_
    refine lv_l2i hx hb dL_cell_23 rfl ?_
    refine lv_iload_n hx hb dL_cell_24 rfl (lv_at hl 1 rfl) ?_
    refine lv_ldc (v := 40503) hx hb hown (hts (.constant RL 9 (40503)) (List.mem_cons_of_mem _ (List.mem_of_getElem? (i := 1) rfl))) dL_cell_25 ?_
    refine lv_imul hx hb dL_cell_27 ?_
    refine lv_ixor hx hb dL_cell_28 ?_
    exact K5 _ (if_pos c7).symm _ _ hP hS _ (lv_sub hl [0, 1] rfl)
  · refine lv_aload_n hx hb dL_cell_6 rfl (lv_at hl 0 rfl) ?_
    refine lv_iload_n hx hb dL_cell_7 rfl (lv_at hl 1 rfl) ?_
    refine va_sld hx hb hX hbl (fun h => h) hS (z_in (nI_toInt hL) hk c7) dL_cell_8 ?_
    refine lv_goto (tgt := 29) hx hb dL_cell_9 (by decide) ?_
    exact K5 _ (if_neg c7).symm _ _ hP hS _ (lv_sub hl [0, 1] rfl)
set_option maxHeartbeats 4000000 in
set_option maxRecDepth 100000 in
theorem law_loop {p : Program} {l : Launch} {e : Env} {s : State} {m : MethodId} {below : List Frame} {meth : Method} {c : Code} (hnt : l.stackTraces = false) {D : va_G} {cI cZ cJ cD : ClassId} {A : Nat → Prop} {b L : Nat} {xs : Nat → Int32} (hL : L ≤ 260) (C0 : lw_At p s m meth c b L xs) (hA : ∀ q : Nat, s.heap.size ≤ q → A q) (hbA : ¬ A b) (hE : zEnv A s s.heap) (hK : va_K D vwCl (zT cI cZ cJ cD) s) (hAs : ∀ q : Nat, A q → s.heap.size ≤ q) (qo : Nat) (qm : Nat) (qw : Nat) (qh : Nat) (qb : Nat) (qt : Nat) (qr : Nat) (qf : Nat) (qx : Nat) (qy : Nat) (qz : Nat) (qu : Nat) (qT : Nat) (qP : Nat) (qQ : Nat) (qZ : Nat) (qU : Nat) : ∀ n i : Nat, i ≤ 60 → 60 < i + n → ∀ (fw : Nat → Int32) (fh : Nat → Int32) (ft : Nat → Int32) (br : Int32) (nC : Nat) (nR : Nat) (nf : Int32) (fx : Nat → Int32) (fy : Nat → Int32) (fz : Nat → Int32) (fu : Nat → Int32) (gt : Nat → Int32) (gp : Nat → Int32) (gq : Nat → Int32) (gz : Nat → Int32) (gu : Nat → Int32) (nc ns : Nat), zLI fw fh ft br nC nR nf fx fy fz fu gt gp gq gz gu → nc ≤ 20 + 900 * i → ns ≤ 400 + 5400 * i → ∀ (H : Heap) (locs : List Loc), va_P D vwCl [(qo, .inr (4, [.ref qm, .ref qb, .ref qr, .ref qf])), (qm, .inr (2, [.ref qw, .ref qh])), (qw, .inl (cI, 10, .inl fw)), (qh, .inl (cI, 10, .inl fh)), (qb, .inr (0, [.ref qt])), (qt, .inl (cI, 9, .inl ft)), (qr, .inr (3, [.int br])), (qf, .inr (1, [.ref qx, .ref qy, .ref qz, .ref qu, .int (nI nC), .int (nI nR), .int nf])), (qx, .inl (cI, 36, .inl fx)), (qy, .inl (cI, 36, .inl fy)), (qz, .inl (cI, 36, .inl fz)), (qu, .inl (cZ, 36, .inl fu)), (qT, .inl (cI, 33, .inl gt)), (qP, .inl (cI, 36, .inl gp)), (qQ, .inl (cI, 36, .inl gq)), (qZ, .inl (cI, 36, .inl gz)), (qU, .inl (cI, 36, .inl gu))] H → va_D A [(qo, .inr (4, [.ref qm, .ref qb, .ref qr, .ref qf])), (qm, .inr (2, [.ref qw, .ref qh])), (qw, .inl (cI, 10, .inl fw)), (qh, .inl (cI, 10, .inl fh)), (qb, .inr (0, [.ref qt])), (qt, .inl (cI, 9, .inl ft)), (qr, .inr (3, [.int br])), (qf, .inr (1, [.ref qx, .ref qy, .ref qz, .ref qu, .int (nI nC), .int (nI nR), .int nf])), (qx, .inl (cI, 36, .inl fx)), (qy, .inl (cI, 36, .inl fy)), (qz, .inl (cI, 36, .inl fz)), (qu, .inl (cZ, 36, .inl fu)), (qT, .inl (cI, 33, .inl gt)), (qP, .inl (cI, 36, .inl gp)), (qQ, .inl (cI, 36, .inl gq)), (qZ, .inl (cI, 36, .inl gz)), (qU, .inl (cI, 36, .inl gu))] → va_S A s.heap H locs → ∀ (ls : Array Slot), lv_has ls 13 [(7, .int (nI i)), (0, .ref b), (1, .ref qo), (2, .ref qT), (3, .ref qP), (4, .ref qQ), (5, .ref qZ), (6, .ref qU)] → W p l e room_1 s m #[Value.ref b] below meth c H locs nc ns (lw_Z below #[Value.ref b] s) (F0 m 134 ls []) := by
  obtain ⟨hx, hb, hr, hml, hown, hts0, hX, hbl, hlocks, hgv⟩ := id C0
  have hts := fun w h => hts0 w (wsL_law_in w h)
  intro n
  induction n with
  | zero =>
    intro i h1 h2
    exact absurd h2 (by omega)
  | succ n ih =>
    intro i hi hin fw fh ft br nC nR nf fx fy fz fu gt gp gq gz gu nc ns hI hnc hns H locs hP hD hS ls hl
    refine lv_iload hx hb dL_law_134 (lv_at hl 0 rfl) ?_
    refine lv_bipush (v := 60) hx hb dL_law_136 (by decide) ?_
    refine lv_icmp_ge (tgt := 293) hx hb dL_law_138 (by decide) (fun c1 => ?_) (fun c1 => ?_)
    · refine lv_iconst (v := 1) hx hb dL_law_293 (by decide) ?_
      refine va_forget (fun q hq => hAs _ (hS.2.2 q hq)) ?_
      refine W.widen (k := 666688) (n := 7101560) (by omega) (by omega) ?_
      refine W.base ?_
      exact lw_ret (Drawn.sameBut.refl s.drawn lw_cs) hx hb hr hlocks dL_law_294
    · have hi1 : i + 1 ≤ 60 := z_ctl (n := 60) rfl (by omega) c1
      obtain ⟨⟨hN, hC, hR, h30, h31, hN1⟩, h29, h32, hPB, hT, hWB, hTb, hG, htr, hbr, hSh, hUr, hZn, hFo⟩ := li_pre hI
      refine lv_aload_n hx hb dL_law_141 rfl (lv_at hl 1 rfl) ?_
      refine lv_iload hx hb dL_law_142 (lv_at hl 0 rfl) ?_
      refine va_calli (va_runS (As := [.ref b, .int (nI i)]) (rest := []) ⟨hx, hb, hml, hown, hts⟩ (c_L_cellX l D cI cZ cJ cD b L xs (nI i) (by omega) (nI_pos (by omega))) (va_cwS 2 hts gL_law_L_cell rfl rfl rfl (by decide +kernel) ⟨Nat.le_of_ble_eq_true rfl, Nat.le_of_ble_eq_true rfl⟩) ⟨zblindX, (fun U hU hW => ⟨rfl, by rw [hU]; exact va_X.moved hW.alike (hX.kept (hS.2.1 b hbl hbA)), by rw [hU]; exact Nat.lt_of_lt_of_le hbl hS.1⟩)⟩ rfl rfl hl.1 rfl (lv_room (Nat.le_of_ble_eq_true rfl)) dL_law_144 ⟨(z_rc (by omega)), (z_rs (by omega))⟩) hS (fun q _ h => h.elim) (fun q h => h.elim) (fun r1 u t H locs ht hvm hw hB hz1 hk1 hS => ?_)
      obtain ⟨v, hv⟩ : ∃ v : Int32, v = s_L_cell L xs (nI i) := ⟨_, rfl⟩
      rw [hw, ← hv]
      have hP := zk hP hk1
      refine lv_istore (lv' := [(8, .int v), (7, .int (nI i)), (0, .ref b), (1, .ref qo), (2, .ref qT), (3, .ref qP), (4, .ref qQ), (5, .ref qZ), (6, .ref qU)]) hx hb dL_law_147 hl (by decide) rfl (fun ls hl => ?_)
      refine lv_iload hx hb dL_law_149 (lv_at hl 0 rfl) ?_
      refine lv_iconst (v := 4) hx hb dL_law_151 (by decide) ?_
      refine lv_ishr hx hb dL_law_152 ?_
      refine lv_istore (lv' := [(9, .int (v >>> ((4 : Int32) &&& 31))), (8, .int v), (7, .int (nI i)), (0, .ref b), (1, .ref qo), (2, .ref qT), (3, .ref qP), (4, .ref qQ), (5, .ref qZ), (6, .ref qU)]) hx hb dL_law_153 hl (by decide) rfl (fun ls hl => ?_)
      refine lv_iload hx hb dL_law_155 (lv_at hl 1 rfl) ?_
      refine lv_bipush (v := 16) hx hb dL_law_157 (by decide) ?_
      refine va_calli (va_runS (As := [.int v, .int 16]) (rest := []) ⟨hx, hb, hml, hown, hts⟩ (c_L_some l D cI cZ cJ cD v 16 (by decide)) (va_cwS 2 hts gL_law_L_some rfl rfl rfl (by decide +kernel) ⟨Nat.le_of_ble_eq_true rfl, Nat.le_of_ble_eq_true rfl⟩) ⟨zblind, (fun U hU hW => ⟨rfl, by rw [hU]; exact hP.sub (ws' := []) [] rfl, va_K.moved hW.alike hK⟩)⟩ rfl rfl hl.1 rfl (lv_room (Nat.le_of_ble_eq_true rfl)) dL_law_159 ⟨(z_rc (by omega)), (z_rs (by omega))⟩) hS (fun q _ h => h.elim) (fun q h => h.elim) (fun r2 u t H locs ht hvm hw hB hz1 hk1 hS => ?_)
      rw [hw]
      have hP := zk hP hk1
      refine lv_istore (lv' := [(10, .int (s_L_some v 16)), (9, .int (v >>> ((4 : Int32) &&& 31))), (8, .int v), (7, .int (nI i)), (0, .ref b), (1, .ref qo), (2, .ref qT), (3, .ref qP), (4, .ref qQ), (5, .ref qZ), (6, .ref qU)]) hx hb dL_law_162 hl (by decide) rfl (fun ls hl => ?_)
      refine lv_aload_n hx hb dL_law_164 rfl (lv_at hl 5 rfl) ?_
      refine lv_iload hx hb dL_law_165 (lv_at hl 3 rfl) ?_
      have K4 : ∀ v4_0 : Int32, v4_0 = (if (nI i) = 0 then 5 else s_L_some v 16) → ∀ (H : Heap) (locs : List Loc), va_P D vwCl [(qo, .inr (4, [.ref qm, .ref qb, .ref qr, .ref qf])), (qm, .inr (2, [.ref qw, .ref qh])), (qw, .inl (cI, 10, .inl fw)), (qh, .inl (cI, 10, .inl fh)), (qb, .inr (0, [.ref qt])), (qt, .inl (cI, 9, .inl ft)), (qr, .inr (3, [.int br])), (qf, .inr (1, [.ref qx, .ref qy, .ref qz, .ref qu, .int (nI nC), .int (nI nR), .int nf])), (qx, .inl (cI, 36, .inl fx)), (qy, .inl (cI, 36, .inl fy)), (qz, .inl (cI, 36, .inl fz)), (qu, .inl (cZ, 36, .inl fu)), (qT, .inl (cI, 33, .inl gt)), (qP, .inl (cI, 36, .inl gp)), (qQ, .inl (cI, 36, .inl gq)), (qZ, .inl (cI, 36, .inl gz)), (qU, .inl (cI, 36, .inl gu))] H → va_D A [(qo, .inr (4, [.ref qm, .ref qb, .ref qr, .ref qf])), (qm, .inr (2, [.ref qw, .ref qh])), (qw, .inl (cI, 10, .inl fw)), (qh, .inl (cI, 10, .inl fh)), (qb, .inr (0, [.ref qt])), (qt, .inl (cI, 9, .inl ft)), (qr, .inr (3, [.int br])), (qf, .inr (1, [.ref qx, .ref qy, .ref qz, .ref qu, .int (nI nC), .int (nI nR), .int nf])), (qx, .inl (cI, 36, .inl fx)), (qy, .inl (cI, 36, .inl fy)), (qz, .inl (cI, 36, .inl fz)), (qu, .inl (cZ, 36, .inl fu)), (qT, .inl (cI, 33, .inl gt)), (qP, .inl (cI, 36, .inl gp)), (qQ, .inl (cI, 36, .inl gq)), (qZ, .inl (cI, 36, .inl gz)), (qU, .inl (cI, 36, .inl gu))] → va_S A s.heap H locs → ∀ (ls : Array Slot), lv_has ls 13 [(10, .int (s_L_some v 16)), (9, .int (v >>> ((4 : Int32) &&& 31))), (8, .int v), (7, .int (nI i)), (0, .ref b), (1, .ref qo), (2, .ref qT), (3, .ref qP), (4, .ref qQ), (5, .ref qZ), (6, .ref qU)] → W p l e room_1 s m #[Value.ref b] below meth c H locs nc ns (lw_Z below #[Value.ref b] s) (F0 m 176 ls [.int v4_0, .ref qo]) := by
        intro v4_0 hv4_0 H locs hP hD hS ls hl
        subst hv4_0
        refine lv_iload hx hb dL_law_176 (lv_at hl 1 rfl) ?_
        refine lv_aload_n hx hb dL_law_178 rfl (lv_at hl 6 rfl) ?_
        refine lv_aload_n hx hb dL_law_179 rfl (lv_at hl 7 rfl) ?_
        refine lv_aload hx hb dL_law_180 (lv_at hl 8 rfl) ?_
        refine lv_aload hx hb dL_law_182 (lv_at hl 9 rfl) ?_
        refine lv_aload hx hb dL_law_184 (lv_at hl 10 rfl) ?_
        have hPc := hP.sub (ws' := [(qo, .inr (4, [.ref qm, .ref qb, .ref qr, .ref qf])), (qm, .inr (2, [.ref qw, .ref qh])), (qw, .inl (cI, 10, .inl fw)), (qh, .inl (cI, 10, .inl fh)), (qb, .inr (0, [.ref qt])), (qt, .inl (cI, 9, .inl ft)), (qr, .inr (3, [.int br])), (qf, .inr (1, [.ref qx, .ref qy, .ref qz, .ref qu, .int (nI nC), .int (nI nR), .int nf])), (qx, .inl (cI, 36, .inl fx)), (qy, .inl (cI, 36, .inl fy)), (qz, .inl (cI, 36, .inl fz)), (qu, .inl (cZ, 36, .inl fu)), (qT, .inl (cI, 33, .inl gt)), (qP, .inl (cI, 36, .inl gp)), (qQ, .inl (cI, 36, .inl gq)), (qZ, .inl (cI, 36, .inl gz)), (qU, .inl (cI, 36, .inl gu))]) [0, 1, 2, 3, 4, 5, 6, 7, 8, 9, 10, 11, 12, 13, 14, 15, 16] rfl
        have hDc := hD.sub (ws' := [(qo, .inr (4, [.ref qm, .ref qb, .ref qr, .ref qf])), (qm, .inr (2, [.ref qw, .ref qh])), (qw, .inl (cI, 10, .inl fw)), (qh, .inl (cI, 10, .inl fh)), (qb, .inr (0, [.ref qt])), (qt, .inl (cI, 9, .inl ft)), (qr, .inr (3, [.int br])), (qf, .inr (1, [.ref qx, .ref qy, .ref qz, .ref qu, .int (nI nC), .int (nI nR), .int nf])), (qx, .inl (cI, 36, .inl fx)), (qy, .inl (cI, 36, .inl fy)), (qz, .inl (cI, 36, .inl fz)), (qu, .inl (cZ, 36, .inl fu)), (qT, .inl (cI, 33, .inl gt)), (qP, .inl (cI, 36, .inl gp)), (qQ, .inl (cI, 36, .inl gq)), (qZ, .inl (cI, 36, .inl gz)), (qU, .inl (cI, 36, .inl gu))]) [0, 1, 2, 3, 4, 5, 6, 7, 8, 9, 10, 11, 12, 13, 14, 15, 16] (by decide) rfl
        have hFc := va_free (wc := [(qo, .inr (4, [.ref qm, .ref qb, .ref qr, .ref qf])), (qm, .inr (2, [.ref qw, .ref qh])), (qw, .inl (cI, 10, .inl fw)), (qh, .inl (cI, 10, .inl fh)), (qb, .inr (0, [.ref qt])), (qt, .inl (cI, 9, .inl ft)), (qr, .inr (3, [.int br])), (qf, .inr (1, [.ref qx, .ref qy, .ref qz, .ref qu, .int (nI nC), .int (nI nR), .int nf])), (qx, .inl (cI, 36, .inl fx)), (qy, .inl (cI, 36, .inl fy)), (qz, .inl (cI, 36, .inl fz)), (qu, .inl (cZ, 36, .inl fu)), (qT, .inl (cI, 33, .inl gt)), (qP, .inl (cI, 36, .inl gp)), (qQ, .inl (cI, 36, .inl gq)), (qZ, .inl (cI, 36, .inl gz)), (qU, .inl (cI, 36, .inl gu))]) hD hS hA [0, 1, 2, 3, 4, 5, 6, 7, 8, 9, 10, 11, 12, 13, 14, 15, 16] rfl
        refine va_calli (va_runS (As := [.ref qo, .int (if (nI i) = 0 then 5 else s_L_some v 16), .int (v >>> ((4 : Int32) &&& 31)), .ref qT, .ref qP, .ref qQ, .ref qZ, .ref qU]) (rest := []) ⟨hx, hb, hml, hown, hts⟩ (c_L_acts l hnt D cI cZ cJ cD qo qm qb qr qf qw qh fw fh qt ft br qx qy qz qu nC nR nf fx fy fz fu qT gt qP qQ qZ qU gp gq gz gu (if (nI i) = 0 then 5 else s_L_some v 16) (v >>> ((4 : Int32) &&& 31)) H.size hN hC hR h30 h31 hN1 h29 h32 hPB) (va_cwS 8 hts gL_law_L_acts rfl rfl rfl (by decide +kernel) ⟨Nat.le_of_ble_eq_true rfl, Nat.le_of_ble_eq_true rfl⟩) ⟨zblindWE, (fun U hU hW => ⟨rfl, by rw [hU], by rw [hU]; exact hPc, va_K.moved hW.alike hK, hDc.weaken (fun _ _ _ _ => trivial), zEnv.go hE hS hFc hU hW⟩)⟩ rfl rfl hl.1 rfl (lv_room (Nat.le_of_ble_eq_true rfl)) dL_law_186 ⟨(z_rc (by omega)), (z_rs (by omega))⟩) hS (fun q _ h => hFc q h) hFc (fun r5 u t H locs ht hvm hw hB hz1 hk1 hS => ?_)
        rw [hw]
        obtain ⟨hP1, hK1, hD1⟩ := hB
        rw [ht] at hP1
        obtain ⟨hP, hD⟩ := va_join (wr := []) (w1 := [(qo, .inr (4, [.ref qm, .ref qb, .ref qr, .ref qf])), (qm, .inr (2, [.ref qw, .ref qh])), (qw, .inl (cI, 10, .inl (n_L_acts_qw fw fh gt (if (nI i) = 0 then 5 else s_L_some v 16) (v >>> ((4 : Int32) &&& 31))))), (qh, .inl (cI, 10, .inl (n_L_acts_qh fw fh gt (if (nI i) = 0 then 5 else s_L_some v 16) (v >>> ((4 : Int32) &&& 31))))), (qb, .inr (0, [.ref qt])), (qt, .inl (cI, 9, .inl (n_L_acts_qt ft (if (nI i) = 0 then 5 else s_L_some v 16) (v >>> ((4 : Int32) &&& 31))))), (qr, .inr (3, [.int (n_L_acts_qr_0 br (if (nI i) = 0 then 5 else s_L_some v 16) (v >>> ((4 : Int32) &&& 31)))])), (qf, .inr (1, [.ref qx, .ref qy, .ref qz, .ref qu, .int (n_L_acts_qf_4 nC nR nf fx fy fz fu (if (nI i) = 0 then 5 else s_L_some v 16) (v >>> ((4 : Int32) &&& 31))), .int (n_L_acts_qf_5 nC nR nf fx fy fz fu (if (nI i) = 0 then 5 else s_L_some v 16) (v >>> ((4 : Int32) &&& 31))), .int (n_L_acts_qf_6 nC nR nf fx fy fz fu gp gq gz (if (nI i) = 0 then 5 else s_L_some v 16) (v >>> ((4 : Int32) &&& 31)))])), (qx, .inl (cI, 36, .inl (n_L_acts_qx nC nR nf fx fy fz fu gp gq gz (if (nI i) = 0 then 5 else s_L_some v 16) (v >>> ((4 : Int32) &&& 31))))), (qy, .inl (cI, 36, .inl (n_L_acts_qy nC nR nf fx fy fz fu gp gq gz (if (nI i) = 0 then 5 else s_L_some v 16) (v >>> ((4 : Int32) &&& 31))))), (qz, .inl (cI, 36, .inl (n_L_acts_qz nC nR nf fx fy fz fu gp gq gz (if (nI i) = 0 then 5 else s_L_some v 16) (v >>> ((4 : Int32) &&& 31))))), (qu, .inl (cZ, 36, .inl (n_L_acts_qu nC nR nf fx fy fz fu gp gq gz (if (nI i) = 0 then 5 else s_L_some v 16) (v >>> ((4 : Int32) &&& 31))))), (qT, .inl (cI, 33, .inl (n_L_acts_qT br nC nR nf gt gp gq gz (if (nI i) = 0 then 5 else s_L_some v 16) (v >>> ((4 : Int32) &&& 31))))), (qP, .inl (cI, 36, .inl (n_L_acts_qP nC nR gp gq gz (if (nI i) = 0 then 5 else s_L_some v 16) (v >>> ((4 : Int32) &&& 31))))), (qQ, .inl (cI, 36, .inl (n_L_acts_qQ nC nR gp gq gz (if (nI i) = 0 then 5 else s_L_some v 16) (v >>> ((4 : Int32) &&& 31))))), (qZ, .inl (cI, 36, .inl (n_L_acts_qZ nC nR gp gq gz (if (nI i) = 0 then 5 else s_L_some v 16) (v >>> ((4 : Int32) &&& 31))))), (qU, .inl (cI, 36, .inl (n_L_acts_qU nC nR gp gq gz gu (if (nI i) = 0 then 5 else s_L_some v 16) (v >>> ((4 : Int32) &&& 31)))))]) hP hD [0, 1, 2, 3, 4, 5, 6, 7, 8, 9, 10, 11, 12, 13, 14, 15, 16] [] rfl rfl (by decide) (by decide) hk1 hFc hP1 hD1
        have hP := hP.sub (ws' := [(qo, .inr (4, [.ref qm, .ref qb, .ref qr, .ref qf])), (qm, .inr (2, [.ref qw, .ref qh])), (qw, .inl (cI, 10, .inl (n_L_acts_qw fw fh gt (if (nI i) = 0 then 5 else s_L_some v 16) (v >>> ((4 : Int32) &&& 31))))), (qh, .inl (cI, 10, .inl (n_L_acts_qh fw fh gt (if (nI i) = 0 then 5 else s_L_some v 16) (v >>> ((4 : Int32) &&& 31))))), (qb, .inr (0, [.ref qt])), (qt, .inl (cI, 9, .inl (n_L_acts_qt ft (if (nI i) = 0 then 5 else s_L_some v 16) (v >>> ((4 : Int32) &&& 31))))), (qr, .inr (3, [.int (n_L_acts_qr_0 br (if (nI i) = 0 then 5 else s_L_some v 16) (v >>> ((4 : Int32) &&& 31)))])), (qf, .inr (1, [.ref qx, .ref qy, .ref qz, .ref qu, .int (n_L_acts_qf_4 nC nR nf fx fy fz fu (if (nI i) = 0 then 5 else s_L_some v 16) (v >>> ((4 : Int32) &&& 31))), .int (n_L_acts_qf_5 nC nR nf fx fy fz fu (if (nI i) = 0 then 5 else s_L_some v 16) (v >>> ((4 : Int32) &&& 31))), .int (n_L_acts_qf_6 nC nR nf fx fy fz fu gp gq gz (if (nI i) = 0 then 5 else s_L_some v 16) (v >>> ((4 : Int32) &&& 31)))])), (qx, .inl (cI, 36, .inl (n_L_acts_qx nC nR nf fx fy fz fu gp gq gz (if (nI i) = 0 then 5 else s_L_some v 16) (v >>> ((4 : Int32) &&& 31))))), (qy, .inl (cI, 36, .inl (n_L_acts_qy nC nR nf fx fy fz fu gp gq gz (if (nI i) = 0 then 5 else s_L_some v 16) (v >>> ((4 : Int32) &&& 31))))), (qz, .inl (cI, 36, .inl (n_L_acts_qz nC nR nf fx fy fz fu gp gq gz (if (nI i) = 0 then 5 else s_L_some v 16) (v >>> ((4 : Int32) &&& 31))))), (qu, .inl (cZ, 36, .inl (n_L_acts_qu nC nR nf fx fy fz fu gp gq gz (if (nI i) = 0 then 5 else s_L_some v 16) (v >>> ((4 : Int32) &&& 31))))), (qT, .inl (cI, 33, .inl (n_L_acts_qT br nC nR nf gt gp gq gz (if (nI i) = 0 then 5 else s_L_some v 16) (v >>> ((4 : Int32) &&& 31))))), (qP, .inl (cI, 36, .inl (n_L_acts_qP nC nR gp gq gz (if (nI i) = 0 then 5 else s_L_some v 16) (v >>> ((4 : Int32) &&& 31))))), (qQ, .inl (cI, 36, .inl (n_L_acts_qQ nC nR gp gq gz (if (nI i) = 0 then 5 else s_L_some v 16) (v >>> ((4 : Int32) &&& 31))))), (qZ, .inl (cI, 36, .inl (n_L_acts_qZ nC nR gp gq gz (if (nI i) = 0 then 5 else s_L_some v 16) (v >>> ((4 : Int32) &&& 31))))), (qU, .inl (cI, 36, .inl (n_L_acts_qU nC nR gp gq gz gu (if (nI i) = 0 then 5 else s_L_some v 16) (v >>> ((4 : Int32) &&& 31)))))]) [0, 1, 2, 3, 4, 5, 6, 7, 8, 9, 10, 11, 12, 13, 14, 15, 16] rfl
        have hD := hD.sub (ws' := [(qo, .inr (4, [.ref qm, .ref qb, .ref qr, .ref qf])), (qm, .inr (2, [.ref qw, .ref qh])), (qw, .inl (cI, 10, .inl (n_L_acts_qw fw fh gt (if (nI i) = 0 then 5 else s_L_some v 16) (v >>> ((4 : Int32) &&& 31))))), (qh, .inl (cI, 10, .inl (n_L_acts_qh fw fh gt (if (nI i) = 0 then 5 else s_L_some v 16) (v >>> ((4 : Int32) &&& 31))))), (qb, .inr (0, [.ref qt])), (qt, .inl (cI, 9, .inl (n_L_acts_qt ft (if (nI i) = 0 then 5 else s_L_some v 16) (v >>> ((4 : Int32) &&& 31))))), (qr, .inr (3, [.int (n_L_acts_qr_0 br (if (nI i) = 0 then 5 else s_L_some v 16) (v >>> ((4 : Int32) &&& 31)))])), (qf, .inr (1, [.ref qx, .ref qy, .ref qz, .ref qu, .int (n_L_acts_qf_4 nC nR nf fx fy fz fu (if (nI i) = 0 then 5 else s_L_some v 16) (v >>> ((4 : Int32) &&& 31))), .int (n_L_acts_qf_5 nC nR nf fx fy fz fu (if (nI i) = 0 then 5 else s_L_some v 16) (v >>> ((4 : Int32) &&& 31))), .int (n_L_acts_qf_6 nC nR nf fx fy fz fu gp gq gz (if (nI i) = 0 then 5 else s_L_some v 16) (v >>> ((4 : Int32) &&& 31)))])), (qx, .inl (cI, 36, .inl (n_L_acts_qx nC nR nf fx fy fz fu gp gq gz (if (nI i) = 0 then 5 else s_L_some v 16) (v >>> ((4 : Int32) &&& 31))))), (qy, .inl (cI, 36, .inl (n_L_acts_qy nC nR nf fx fy fz fu gp gq gz (if (nI i) = 0 then 5 else s_L_some v 16) (v >>> ((4 : Int32) &&& 31))))), (qz, .inl (cI, 36, .inl (n_L_acts_qz nC nR nf fx fy fz fu gp gq gz (if (nI i) = 0 then 5 else s_L_some v 16) (v >>> ((4 : Int32) &&& 31))))), (qu, .inl (cZ, 36, .inl (n_L_acts_qu nC nR nf fx fy fz fu gp gq gz (if (nI i) = 0 then 5 else s_L_some v 16) (v >>> ((4 : Int32) &&& 31))))), (qT, .inl (cI, 33, .inl (n_L_acts_qT br nC nR nf gt gp gq gz (if (nI i) = 0 then 5 else s_L_some v 16) (v >>> ((4 : Int32) &&& 31))))), (qP, .inl (cI, 36, .inl (n_L_acts_qP nC nR gp gq gz (if (nI i) = 0 then 5 else s_L_some v 16) (v >>> ((4 : Int32) &&& 31))))), (qQ, .inl (cI, 36, .inl (n_L_acts_qQ nC nR gp gq gz (if (nI i) = 0 then 5 else s_L_some v 16) (v >>> ((4 : Int32) &&& 31))))), (qZ, .inl (cI, 36, .inl (n_L_acts_qZ nC nR gp gq gz (if (nI i) = 0 then 5 else s_L_some v 16) (v >>> ((4 : Int32) &&& 31))))), (qU, .inl (cI, 36, .inl (n_L_acts_qU nC nR gp gq gz gu (if (nI i) = 0 then 5 else s_L_some v 16) (v >>> ((4 : Int32) &&& 31)))))]) [0, 1, 2, 3, 4, 5, 6, 7, 8, 9, 10, 11, 12, 13, 14, 15, 16] (by decide) rfl
        refine W.widen (k := (nc + 22)) (n := (ns + 132)) (by omega) (by omega) ?_
        rw [(acts_ok hI (if nI i = 0 then 5 else s_L_some v 16) (v >>> ((4 : Int32) &&& 31))).1]
        obtain ⟨mC, mR, e4, e5, hI2⟩ := (acts_ok hI (if nI i = 0 then 5 else s_L_some v 16) (v >>> ((4 : Int32) &&& 31))).2
        rw [e4, e5] at hP hD
        obtain ⟨fw2, e_fw⟩ : ∃ z, z = n_L_acts_qw fw fh gt (if (nI i) = 0 then 5 else s_L_some v 16) (v >>> ((4 : Int32) &&& 31)) := ⟨_, rfl⟩
        rw [← e_fw] at hP hD hI2
        obtain ⟨fh2, e_fh⟩ : ∃ z, z = n_L_acts_qh fw fh gt (if (nI i) = 0 then 5 else s_L_some v 16) (v >>> ((4 : Int32) &&& 31)) := ⟨_, rfl⟩
        rw [← e_fh] at hP hD hI2
        obtain ⟨ft2, e_ft⟩ : ∃ z, z = n_L_acts_qt ft (if (nI i) = 0 then 5 else s_L_some v 16) (v >>> ((4 : Int32) &&& 31)) := ⟨_, rfl⟩
        rw [← e_ft] at hP hD hI2
        obtain ⟨br2, e_br⟩ : ∃ z, z = n_L_acts_qr_0 br (if (nI i) = 0 then 5 else s_L_some v 16) (v >>> ((4 : Int32) &&& 31)) := ⟨_, rfl⟩
        rw [← e_br] at hP hD hI2
        obtain ⟨nf2, e_nf⟩ : ∃ z, z = n_L_acts_qf_6 nC nR nf fx fy fz fu gp gq gz (if (nI i) = 0 then 5 else s_L_some v 16) (v >>> ((4 : Int32) &&& 31)) := ⟨_, rfl⟩
        rw [← e_nf] at hP hD hI2
        obtain ⟨fx2, e_fx⟩ : ∃ z, z = n_L_acts_qx nC nR nf fx fy fz fu gp gq gz (if (nI i) = 0 then 5 else s_L_some v 16) (v >>> ((4 : Int32) &&& 31)) := ⟨_, rfl⟩
        rw [← e_fx] at hP hD hI2
        obtain ⟨fy2, e_fy⟩ : ∃ z, z = n_L_acts_qy nC nR nf fx fy fz fu gp gq gz (if (nI i) = 0 then 5 else s_L_some v 16) (v >>> ((4 : Int32) &&& 31)) := ⟨_, rfl⟩
        rw [← e_fy] at hP hD hI2
        obtain ⟨fz2, e_fz⟩ : ∃ z, z = n_L_acts_qz nC nR nf fx fy fz fu gp gq gz (if (nI i) = 0 then 5 else s_L_some v 16) (v >>> ((4 : Int32) &&& 31)) := ⟨_, rfl⟩
        rw [← e_fz] at hP hD hI2
        obtain ⟨fu2, e_fu⟩ : ∃ z, z = n_L_acts_qu nC nR nf fx fy fz fu gp gq gz (if (nI i) = 0 then 5 else s_L_some v 16) (v >>> ((4 : Int32) &&& 31)) := ⟨_, rfl⟩
        rw [← e_fu] at hP hD hI2
        obtain ⟨gt2, e_gt⟩ : ∃ z, z = n_L_acts_qT br nC nR nf gt gp gq gz (if (nI i) = 0 then 5 else s_L_some v 16) (v >>> ((4 : Int32) &&& 31)) := ⟨_, rfl⟩
        rw [← e_gt] at hP hD hI2
        obtain ⟨gp2, e_gp⟩ : ∃ z, z = n_L_acts_qP nC nR gp gq gz (if (nI i) = 0 then 5 else s_L_some v 16) (v >>> ((4 : Int32) &&& 31)) := ⟨_, rfl⟩
        rw [← e_gp] at hP hD hI2
        obtain ⟨gq2, e_gq⟩ : ∃ z, z = n_L_acts_qQ nC nR gp gq gz (if (nI i) = 0 then 5 else s_L_some v 16) (v >>> ((4 : Int32) &&& 31)) := ⟨_, rfl⟩
        rw [← e_gq] at hP hD hI2
        obtain ⟨gz2, e_gz⟩ : ∃ z, z = n_L_acts_qZ nC nR gp gq gz (if (nI i) = 0 then 5 else s_L_some v 16) (v >>> ((4 : Int32) &&& 31)) := ⟨_, rfl⟩
        rw [← e_gz] at hP hD hI2
        obtain ⟨gu2, e_gu⟩ : ∃ z, z = n_L_acts_qU nC nR gp gq gz gu (if (nI i) = 0 then 5 else s_L_some v 16) (v >>> ((4 : Int32) &&& 31)) := ⟨_, rfl⟩
        rw [← e_gu] at hP hD hI2
        have hP : va_P D vwCl [(qo, .inr (4, [.ref qm, .ref qb, .ref qr, .ref qf])), (qm, .inr (2, [.ref qw, .ref qh])), (qw, .inl (cI, 10, .inl fw2)), (qh, .inl (cI, 10, .inl fh2)), (qb, .inr (0, [.ref qt])), (qt, .inl (cI, 9, .inl ft2)), (qr, .inr (3, [.int br2])), (qf, .inr (1, [.ref qx, .ref qy, .ref qz, .ref qu, .int (nI mC), .int (nI mR), .int nf2])), (qx, .inl (cI, 36, .inl fx2)), (qy, .inl (cI, 36, .inl fy2)), (qz, .inl (cI, 36, .inl fz2)), (qu, .inl (cZ, 36, .inl fu2)), (qT, .inl (cI, 33, .inl gt2)), (qP, .inl (cI, 36, .inl gp2)), (qQ, .inl (cI, 36, .inl gq2)), (qZ, .inl (cI, 36, .inl gz2)), (qU, .inl (cI, 36, .inl gu2))] H := hP
        have hD : va_D A [(qo, .inr (4, [.ref qm, .ref qb, .ref qr, .ref qf])), (qm, .inr (2, [.ref qw, .ref qh])), (qw, .inl (cI, 10, .inl fw2)), (qh, .inl (cI, 10, .inl fh2)), (qb, .inr (0, [.ref qt])), (qt, .inl (cI, 9, .inl ft2)), (qr, .inr (3, [.int br2])), (qf, .inr (1, [.ref qx, .ref qy, .ref qz, .ref qu, .int (nI mC), .int (nI mR), .int nf2])), (qx, .inl (cI, 36, .inl fx2)), (qy, .inl (cI, 36, .inl fy2)), (qz, .inl (cI, 36, .inl fz2)), (qu, .inl (cZ, 36, .inl fu2)), (qT, .inl (cI, 33, .inl gt2)), (qP, .inl (cI, 36, .inl gp2)), (qQ, .inl (cI, 36, .inl gq2)), (qZ, .inl (cI, 36, .inl gz2)), (qU, .inl (cI, 36, .inl gu2))] := hD
        obtain ⟨⟨hN, hC, hR, h30, h31, hN1⟩, h29, h32, hPB, hT, hWB, hTb, hG, htr, hbr, hSh, hUr, hZn, hFo⟩ := li_pre hI2
        refine lv_istore (lv' := [(11, .int 1), (10, .int (s_L_some v 16)), (9, .int (v >>> ((4 : Int32) &&& 31))), (8, .int v), (7, .int (nI i)), (0, .ref b), (1, .ref qo), (2, .ref qT), (3, .ref qP), (4, .ref qQ), (5, .ref qZ), (6, .ref qU)]) hx hb dL_law_189 hl (by decide) rfl (fun ls hl => ?_)
        refine lv_iload hx hb dL_law_191 (lv_at hl 4 rfl) ?_
        refine lv_iconst (v := 4) hx hb dL_law_193 (by decide) ?_
        refine lv_irem hx hb dL_law_194 (by decide) ?_
        refine lv_istore (lv' := [(12, .int ((nI i) - (nI i) / 4 * 4)), (11, .int 1), (10, .int (s_L_some v 16)), (9, .int (v >>> ((4 : Int32) &&& 31))), (8, .int v), (7, .int (nI i)), (0, .ref b), (1, .ref qo), (2, .ref qT), (3, .ref qP), (4, .ref qQ), (5, .ref qZ), (6, .ref qU)]) hx hb dL_law_195 hl (by decide) rfl (fun ls hl => ?_)
        refine lv_iload hx hb dL_law_197 (lv_at hl 1 rfl) ?_
        refine lv_if_eq (tgt := 277) hx hb dL_law_199 (by decide) (fun c6 => ?_) (fun c6 => ?_)
        · exact absurd c6 (by decide)
        · refine lv_iload hx hb dL_law_202 (lv_at hl 0 rfl) ?_
          refine lv_if_ne (tgt := 220) hx hb dL_law_204 (by decide) (fun c7 => ?_) (fun c7 => ?_)
          · refine lv_iload hx hb dL_law_220 (lv_at hl 0 rfl) ?_
            refine lv_iconst (v := 1) hx hb dL_law_222 (by decide) ?_
            refine lv_icmp_ne (tgt := 239) hx hb dL_law_223 (by decide) (fun c8 => ?_) (fun c8 => ?_)
            · refine lv_iload hx hb dL_law_239 (lv_at hl 0 rfl) ?_
              refine lv_iconst (v := 2) hx hb dL_law_241 (by decide) ?_
              refine lv_icmp_ne (tgt := 265) hx hb dL_law_242 (by decide) (fun c9 => ?_) (fun c9 => ?_)
              · refine lv_aload_n hx hb dL_law_265 rfl (lv_at hl 7 rfl) ?_
                refine lv_aload_n hx hb dL_law_266 rfl (lv_at hl 8 rfl) ?_
                have hPc := hP.sub (ws' := [(qo, .inr (4, [.ref qm, .ref qb, .ref qr, .ref qf])), (qb, .inr (0, [.ref qt])), (qt, .inl (cI, 9, .inl ft2)), (qm, .inr (2, [.ref qw, .ref qh])), (qw, .inl (cI, 10, .inl fw2)), (qh, .inl (cI, 10, .inl fh2)), (qT, .inl (cI, 33, .inl gt2))]) [0, 4, 5, 1, 2, 3, 12] rfl
                have hDc := hD.sub (ws' := [(qo, .inr (4, [.ref qm, .ref qb, .ref qr, .ref qf])), (qb, .inr (0, [.ref qt])), (qt, .inl (cI, 9, .inl ft2)), (qm, .inr (2, [.ref qw, .ref qh])), (qw, .inl (cI, 10, .inl fw2)), (qh, .inl (cI, 10, .inl fh2)), (qT, .inl (cI, 33, .inl gt2))]) [0, 4, 5, 1, 2, 3, 12] (by decide) rfl
                have hFc := va_free (wc := [(qo, .inr (4, [.ref qm, .ref qb, .ref qr, .ref qf])), (qb, .inr (0, [.ref qt])), (qt, .inl (cI, 9, .inl ft2)), (qm, .inr (2, [.ref qw, .ref qh])), (qw, .inl (cI, 10, .inl fw2)), (qh, .inl (cI, 10, .inl fh2)), (qT, .inl (cI, 33, .inl gt2))]) hD hS hA [0, 4, 5, 1, 2, 3, 12] rfl
                refine va_calli (va_runS (As := [.ref qo, .ref qT]) (rest := []) ⟨hx, hb, hml, hown, hts⟩ (c_L_bands l hnt D cI cZ cJ cD qo qm qb qr qf qt ft2 qw qh fw2 fh2 qT gt2 H.size hT hWB hTb hG htr) (va_cwS 2 hts gL_law_L_bands rfl rfl rfl (by decide +kernel) ⟨Nat.le_of_ble_eq_true rfl, Nat.le_of_ble_eq_true rfl⟩) ⟨zblindWE, (fun U hU hW => ⟨rfl, by rw [hU], by rw [hU]; exact hPc, va_K.moved hW.alike hK, hDc.weaken (fun _ _ _ _ => trivial), zEnv.go hE hS hFc hU hW⟩)⟩ rfl rfl hl.1 rfl (lv_room (Nat.le_of_ble_eq_true rfl)) dL_law_267 ⟨(z_rc (by omega)), (z_rs (by omega))⟩) hS (fun q _ h => hFc q h) hFc (fun r10 u t H locs ht hvm hw hB hz1 hk1 hS => ?_)
                rw [hw]
                obtain ⟨hP1, hK1, hD1⟩ := hB
                rw [ht] at hP1
                obtain ⟨hP, hD⟩ := va_join (wr := [(qr, .inr (3, [.int br2])), (qf, .inr (1, [.ref qx, .ref qy, .ref qz, .ref qu, .int (nI mC), .int (nI mR), .int nf2])), (qx, .inl (cI, 36, .inl fx2)), (qy, .inl (cI, 36, .inl fy2)), (qz, .inl (cI, 36, .inl fz2)), (qu, .inl (cZ, 36, .inl fu2)), (qP, .inl (cI, 36, .inl gp2)), (qQ, .inl (cI, 36, .inl gq2)), (qZ, .inl (cI, 36, .inl gz2)), (qU, .inl (cI, 36, .inl gu2))]) (w1 := [(qo, .inr (4, [.ref qm, .ref qb, .ref qr, .ref qf])), (qb, .inr (0, [.ref qt])), (qt, .inl (cI, 9, .inl ft2)), (qm, .inr (2, [.ref qw, .ref qh])), (qw, .inl (cI, 10, .inl fw2)), (qh, .inl (cI, 10, .inl fh2)), (qT, .inl (cI, 33, .inl gt2))]) hP hD [0, 4, 5, 1, 2, 3, 12] [6, 7, 8, 9, 10, 11, 13, 14, 15, 16] rfl rfl (by decide) (by decide) hk1 hFc hP1 hD1
                have hP := hP.sub (ws' := [(qo, .inr (4, [.ref qm, .ref qb, .ref qr, .ref qf])), (qm, .inr (2, [.ref qw, .ref qh])), (qw, .inl (cI, 10, .inl fw2)), (qh, .inl (cI, 10, .inl fh2)), (qb, .inr (0, [.ref qt])), (qt, .inl (cI, 9, .inl ft2)), (qr, .inr (3, [.int br2])), (qf, .inr (1, [.ref qx, .ref qy, .ref qz, .ref qu, .int (nI mC), .int (nI mR), .int nf2])), (qx, .inl (cI, 36, .inl fx2)), (qy, .inl (cI, 36, .inl fy2)), (qz, .inl (cI, 36, .inl fz2)), (qu, .inl (cZ, 36, .inl fu2)), (qT, .inl (cI, 33, .inl gt2)), (qP, .inl (cI, 36, .inl gp2)), (qQ, .inl (cI, 36, .inl gq2)), (qZ, .inl (cI, 36, .inl gz2)), (qU, .inl (cI, 36, .inl gu2))]) [10, 13, 14, 15, 11, 12, 0, 1, 2, 3, 4, 5, 16, 6, 7, 8, 9] rfl
                have hD := hD.sub (ws' := [(qo, .inr (4, [.ref qm, .ref qb, .ref qr, .ref qf])), (qm, .inr (2, [.ref qw, .ref qh])), (qw, .inl (cI, 10, .inl fw2)), (qh, .inl (cI, 10, .inl fh2)), (qb, .inr (0, [.ref qt])), (qt, .inl (cI, 9, .inl ft2)), (qr, .inr (3, [.int br2])), (qf, .inr (1, [.ref qx, .ref qy, .ref qz, .ref qu, .int (nI mC), .int (nI mR), .int nf2])), (qx, .inl (cI, 36, .inl fx2)), (qy, .inl (cI, 36, .inl fy2)), (qz, .inl (cI, 36, .inl fz2)), (qu, .inl (cZ, 36, .inl fu2)), (qT, .inl (cI, 33, .inl gt2)), (qP, .inl (cI, 36, .inl gp2)), (qQ, .inl (cI, 36, .inl gq2)), (qZ, .inl (cI, 36, .inl gz2)), (qU, .inl (cI, 36, .inl gu2))]) [10, 13, 14, 15, 11, 12, 0, 1, 2, 3, 4, 5, 16, 6, 7, 8, 9] (by decide) rfl
                refine W.widen (k := (nc + 42)) (n := (ns + 252)) (by omega) (by omega) ?_
                rw [(bands_ok hTb hUr)]
                refine lv_if_eq (tgt := 277) hx hb dL_law_270 (by decide) (fun c11 => ?_) (fun c11 => ?_)
                · exact absurd c11 (by decide)
                · refine lv_iconst (v := 1) hx hb dL_law_273 (by decide) ?_
                  refine lv_goto (tgt := 278) hx hb dL_law_274 (by decide) ?_
                  refine lv_istore (lv' := [(11, .int 1), (12, .int ((nI i) - (nI i) / 4 * 4)), (10, .int (s_L_some v 16)), (9, .int (v >>> ((4 : Int32) &&& 31))), (8, .int v), (7, .int (nI i)), (0, .ref b), (1, .ref qo), (2, .ref qT), (3, .ref qP), (4, .ref qQ), (5, .ref qZ), (6, .ref qU)]) hx hb dL_law_278 hl (by decide) rfl (fun ls hl => ?_)
                  refine lv_iload hx hb dL_law_280 (lv_at hl 0 rfl) ?_
                  refine lv_if_ne (tgt := 287) hx hb dL_law_282 (by decide) (fun c12 => ?_) (fun c12 => ?_)
                  · refine lv_iinc (v := nI (i + 1)) (lv' := [(7, .int (nI (i + 1))), (11, .int 1), (12, .int ((nI i) - (nI i) / 4 * 4)), (10, .int (s_L_some v 16)), (9, .int (v >>> ((4 : Int32) &&& 31))), (8, .int v), (0, .ref b), (1, .ref qo), (2, .ref qT), (3, .ref qP), (4, .ref qQ), (5, .ref qZ), (6, .ref qU)]) hx hb dL_law_287 hl (k := 5) rfl (nI_succ i).symm (by decide) rfl (fun ls hl => ?_)
                    refine lv_goto (tgt := 134) hx hb dL_law_290 (by decide) ?_
                    exact ih (i + 1) hi1 (by omega) fw2 fh2 ft2 br2 mC mR nf2 fx2 fy2 fz2 fu2 gt2 gp2 gq2 gz2 gu2 _ _ hI2 (by omega) (by omega) _ _ hP hD hS _ (lv_sub hl [0, 6, 7, 8, 9, 10, 11, 12] rfl)
                  · exact absurd c12 (by decide)
              · refine lv_aload_n hx hb dL_law_245 rfl (lv_at hl 7 rfl) ?_
                refine lv_iload hx hb dL_law_246 (lv_at hl 3 rfl) ?_
                refine lv_aload_n hx hb dL_law_248 rfl (lv_at hl 8 rfl) ?_
                refine lv_aload_n hx hb dL_law_249 rfl (lv_at hl 9 rfl) ?_
                refine lv_aload hx hb dL_law_250 (lv_at hl 10 rfl) ?_
                refine lv_aload hx hb dL_law_252 (lv_at hl 11 rfl) ?_
                refine lv_aload hx hb dL_law_254 (lv_at hl 12 rfl) ?_
                have hPc := hP.sub (ws' := [(qo, .inr (4, [.ref qm, .ref qb, .ref qr, .ref qf])), (qm, .inr (2, [.ref qw, .ref qh])), (qw, .inl (cI, 10, .inl fw2)), (qh, .inl (cI, 10, .inl fh2)), (qr, .inr (3, [.int br2])), (qf, .inr (1, [.ref qx, .ref qy, .ref qz, .ref qu, .int (nI mC), .int (nI mR), .int nf2])), (qx, .inl (cI, 36, .inl fx2)), (qy, .inl (cI, 36, .inl fy2)), (qz, .inl (cI, 36, .inl fz2)), (qu, .inl (cZ, 36, .inl fu2)), (qT, .inl (cI, 33, .inl gt2)), (qP, .inl (cI, 36, .inl gp2)), (qQ, .inl (cI, 36, .inl gq2)), (qZ, .inl (cI, 36, .inl gz2)), (qU, .inl (cI, 36, .inl gu2))]) [0, 1, 2, 3, 6, 7, 8, 9, 10, 11, 12, 13, 14, 15, 16] rfl
                have hDc := hD.sub (ws' := [(qo, .inr (4, [.ref qm, .ref qb, .ref qr, .ref qf])), (qm, .inr (2, [.ref qw, .ref qh])), (qw, .inl (cI, 10, .inl fw2)), (qh, .inl (cI, 10, .inl fh2)), (qr, .inr (3, [.int br2])), (qf, .inr (1, [.ref qx, .ref qy, .ref qz, .ref qu, .int (nI mC), .int (nI mR), .int nf2])), (qx, .inl (cI, 36, .inl fx2)), (qy, .inl (cI, 36, .inl fy2)), (qz, .inl (cI, 36, .inl fz2)), (qu, .inl (cZ, 36, .inl fu2)), (qT, .inl (cI, 33, .inl gt2)), (qP, .inl (cI, 36, .inl gp2)), (qQ, .inl (cI, 36, .inl gq2)), (qZ, .inl (cI, 36, .inl gz2)), (qU, .inl (cI, 36, .inl gu2))]) [0, 1, 2, 3, 6, 7, 8, 9, 10, 11, 12, 13, 14, 15, 16] (by decide) rfl
                have hFc := va_free (wc := [(qo, .inr (4, [.ref qm, .ref qb, .ref qr, .ref qf])), (qm, .inr (2, [.ref qw, .ref qh])), (qw, .inl (cI, 10, .inl fw2)), (qh, .inl (cI, 10, .inl fh2)), (qr, .inr (3, [.int br2])), (qf, .inr (1, [.ref qx, .ref qy, .ref qz, .ref qu, .int (nI mC), .int (nI mR), .int nf2])), (qx, .inl (cI, 36, .inl fx2)), (qy, .inl (cI, 36, .inl fy2)), (qz, .inl (cI, 36, .inl fz2)), (qu, .inl (cZ, 36, .inl fu2)), (qT, .inl (cI, 33, .inl gt2)), (qP, .inl (cI, 36, .inl gp2)), (qQ, .inl (cI, 36, .inl gq2)), (qZ, .inl (cI, 36, .inl gz2)), (qU, .inl (cI, 36, .inl gu2))]) hD hS hA [0, 1, 2, 3, 6, 7, 8, 9, 10, 11, 12, 13, 14, 15, 16] rfl
                refine va_calli (va_runS (As := [.ref qo, .int (v >>> ((4 : Int32) &&& 31)), .ref qT, .ref qP, .ref qQ, .ref qZ, .ref qU]) (rest := []) ⟨hx, hb, hml, hown, hts⟩ (c_L_sheets l hnt D cI cZ cJ cD qo qm qb qr qf qw qh fw2 fh2 br2 qx qy qz qu mC mR nf2 fx2 fy2 fz2 fu2 qT gt2 qP qQ qZ qU gp2 gq2 gz2 gu2 (v >>> ((4 : Int32) &&& 31)) H.size hN hC hR h30 h31 hN1 hSh) (va_cwS 7 hts gL_law_L_sheets rfl rfl rfl (by decide +kernel) ⟨Nat.le_of_ble_eq_true rfl, Nat.le_of_ble_eq_true rfl⟩) ⟨zblindWE, (fun U hU hW => ⟨rfl, by rw [hU], by rw [hU]; exact hPc, va_K.moved hW.alike hK, hDc.weaken (fun _ _ _ _ => trivial), zEnv.go hE hS hFc hU hW⟩)⟩ rfl rfl hl.1 rfl (lv_room (Nat.le_of_ble_eq_true rfl)) dL_law_256 ⟨(z_rc (by omega)), (z_rs (by omega))⟩) hS (fun q _ h => hFc q h) hFc (fun r13 u t H locs ht hvm hw hB hz1 hk1 hS => ?_)
                rw [hw]
                obtain ⟨hP1, hK1, hD1⟩ := hB
                rw [ht] at hP1
                obtain ⟨hP, hD⟩ := va_join (wr := [(qb, .inr (0, [.ref qt])), (qt, .inl (cI, 9, .inl ft2))]) (w1 := [(qo, .inr (4, [.ref qm, .ref qb, .ref qr, .ref qf])), (qm, .inr (2, [.ref qw, .ref qh])), (qw, .inl (cI, 10, .inl fw2)), (qh, .inl (cI, 10, .inl fh2)), (qr, .inr (3, [.int br2])), (qf, .inr (1, [.ref qx, .ref qy, .ref qz, .ref qu, .int (nI mC), .int (nI mR), .int nf2])), (qx, .inl (cI, 36, .inl fx2)), (qy, .inl (cI, 36, .inl fy2)), (qz, .inl (cI, 36, .inl fz2)), (qu, .inl (cZ, 36, .inl fu2)), (qT, .inl (cI, 33, .inl gt2)), (qP, .inl (cI, 36, .inl gp2)), (qQ, .inl (cI, 36, .inl gq2)), (qZ, .inl (cI, 36, .inl gz2)), (qU, .inl (cI, 36, .inl gu2))]) hP hD [0, 1, 2, 3, 6, 7, 8, 9, 10, 11, 12, 13, 14, 15, 16] [4, 5] rfl rfl (by decide) (by decide) hk1 hFc hP1 hD1
                have hP := hP.sub (ws' := [(qo, .inr (4, [.ref qm, .ref qb, .ref qr, .ref qf])), (qm, .inr (2, [.ref qw, .ref qh])), (qw, .inl (cI, 10, .inl fw2)), (qh, .inl (cI, 10, .inl fh2)), (qb, .inr (0, [.ref qt])), (qt, .inl (cI, 9, .inl ft2)), (qr, .inr (3, [.int br2])), (qf, .inr (1, [.ref qx, .ref qy, .ref qz, .ref qu, .int (nI mC), .int (nI mR), .int nf2])), (qx, .inl (cI, 36, .inl fx2)), (qy, .inl (cI, 36, .inl fy2)), (qz, .inl (cI, 36, .inl fz2)), (qu, .inl (cZ, 36, .inl fu2)), (qT, .inl (cI, 33, .inl gt2)), (qP, .inl (cI, 36, .inl gp2)), (qQ, .inl (cI, 36, .inl gq2)), (qZ, .inl (cI, 36, .inl gz2)), (qU, .inl (cI, 36, .inl gu2))]) [2, 3, 4, 5, 0, 1, 6, 7, 8, 9, 10, 11, 12, 13, 14, 15, 16] rfl
                have hD := hD.sub (ws' := [(qo, .inr (4, [.ref qm, .ref qb, .ref qr, .ref qf])), (qm, .inr (2, [.ref qw, .ref qh])), (qw, .inl (cI, 10, .inl fw2)), (qh, .inl (cI, 10, .inl fh2)), (qb, .inr (0, [.ref qt])), (qt, .inl (cI, 9, .inl ft2)), (qr, .inr (3, [.int br2])), (qf, .inr (1, [.ref qx, .ref qy, .ref qz, .ref qu, .int (nI mC), .int (nI mR), .int nf2])), (qx, .inl (cI, 36, .inl fx2)), (qy, .inl (cI, 36, .inl fy2)), (qz, .inl (cI, 36, .inl fz2)), (qu, .inl (cZ, 36, .inl fu2)), (qT, .inl (cI, 33, .inl gt2)), (qP, .inl (cI, 36, .inl gp2)), (qQ, .inl (cI, 36, .inl gq2)), (qZ, .inl (cI, 36, .inl gz2)), (qU, .inl (cI, 36, .inl gu2))]) [2, 3, 4, 5, 0, 1, 6, 7, 8, 9, 10, 11, 12, 13, 14, 15, 16] (by decide) rfl
                refine W.widen (k := (nc + 722)) (n := (ns + 4332)) (by omega) (by omega) ?_
                rw [(sheets_ok fw2 fh2 br2 nf2 (v >>> ((4 : Int32) &&& 31)) hSh hN1 hFo)]
                refine lv_if_eq (tgt := 277) hx hb dL_law_259 (by decide) (fun c14 => ?_) (fun c14 => ?_)
                · exact absurd c14 (by decide)
                · refine lv_goto (tgt := 273) hx hb dL_law_262 (by decide) ?_
                  refine lv_iconst (v := 1) hx hb dL_law_273 (by decide) ?_
                  refine lv_goto (tgt := 278) hx hb dL_law_274 (by decide) ?_
                  refine lv_istore (lv' := [(11, .int 1), (12, .int ((nI i) - (nI i) / 4 * 4)), (10, .int (s_L_some v 16)), (9, .int (v >>> ((4 : Int32) &&& 31))), (8, .int v), (7, .int (nI i)), (0, .ref b), (1, .ref qo), (2, .ref qT), (3, .ref qP), (4, .ref qQ), (5, .ref qZ), (6, .ref qU)]) hx hb dL_law_278 hl (by decide) rfl (fun ls hl => ?_)
                  refine lv_iload hx hb dL_law_280 (lv_at hl 0 rfl) ?_
                  refine lv_if_ne (tgt := 287) hx hb dL_law_282 (by decide) (fun c15 => ?_) (fun c15 => ?_)
                  · refine lv_iinc (v := nI (i + 1)) (lv' := [(7, .int (nI (i + 1))), (11, .int 1), (12, .int ((nI i) - (nI i) / 4 * 4)), (10, .int (s_L_some v 16)), (9, .int (v >>> ((4 : Int32) &&& 31))), (8, .int v), (0, .ref b), (1, .ref qo), (2, .ref qT), (3, .ref qP), (4, .ref qQ), (5, .ref qZ), (6, .ref qU)]) hx hb dL_law_287 hl (k := 5) rfl (nI_succ i).symm (by decide) rfl (fun ls hl => ?_)
                    refine lv_goto (tgt := 134) hx hb dL_law_290 (by decide) ?_
                    exact ih (i + 1) hi1 (by omega) fw2 fh2 ft2 br2 mC mR nf2 fx2 fy2 fz2 fu2 gt2 gp2 gq2 gz2 gu2 _ _ hI2 (by omega) (by omega) _ _ hP hD hS _ (lv_sub hl [0, 6, 7, 8, 9, 10, 11, 12] rfl)
                  · exact absurd c15 (by decide)
            · refine lv_aload_n hx hb dL_law_226 rfl (lv_at hl 7 rfl) ?_
              refine lv_iload hx hb dL_law_227 (lv_at hl 3 rfl) ?_
              refine lv_aload_n hx hb dL_law_229 rfl (lv_at hl 8 rfl) ?_
              have hPc := hP.sub (ws' := [(qo, .inr (4, [.ref qm, .ref qb, .ref qr, .ref qf])), (qm, .inr (2, [.ref qw, .ref qh])), (qw, .inl (cI, 10, .inl fw2)), (qh, .inl (cI, 10, .inl fh2)), (qr, .inr (3, [.int br2])), (qf, .inr (1, [.ref qx, .ref qy, .ref qz, .ref qu, .int (nI mC), .int (nI mR), .int nf2])), (qT, .inl (cI, 33, .inl gt2))]) [0, 1, 2, 3, 6, 7, 12] rfl
              have hDc := hD.sub (ws' := [(qo, .inr (4, [.ref qm, .ref qb, .ref qr, .ref qf])), (qm, .inr (2, [.ref qw, .ref qh])), (qw, .inl (cI, 10, .inl fw2)), (qh, .inl (cI, 10, .inl fh2)), (qr, .inr (3, [.int br2])), (qf, .inr (1, [.ref qx, .ref qy, .ref qz, .ref qu, .int (nI mC), .int (nI mR), .int nf2])), (qT, .inl (cI, 33, .inl gt2))]) [0, 1, 2, 3, 6, 7, 12] (by decide) rfl
              have hFc := va_free (wc := [(qo, .inr (4, [.ref qm, .ref qb, .ref qr, .ref qf])), (qm, .inr (2, [.ref qw, .ref qh])), (qw, .inl (cI, 10, .inl fw2)), (qh, .inl (cI, 10, .inl fh2)), (qr, .inr (3, [.int br2])), (qf, .inr (1, [.ref qx, .ref qy, .ref qz, .ref qu, .int (nI mC), .int (nI mR), .int nf2])), (qT, .inl (cI, 33, .inl gt2))]) hD hS hA [0, 1, 2, 3, 6, 7, 12] rfl
              refine va_calli (va_runS (As := [.ref qo, .int (v >>> ((4 : Int32) &&& 31)), .ref qT]) (rest := []) ⟨hx, hb, hml, hown, hts⟩ (c_L_rings l hnt D cI cZ cJ cD qo qm qb qr qf qw qh fw2 fh2 br2 qx qy qz qu mC mR nf2 qT gt2 (v >>> ((4 : Int32) &&& 31)) H.size hT hWB h29 hbr) (va_cwS 3 hts gL_law_L_rings rfl rfl rfl (by decide +kernel) ⟨Nat.le_of_ble_eq_true rfl, Nat.le_of_ble_eq_true rfl⟩) ⟨zblindWE, (fun U hU hW => ⟨rfl, by rw [hU], by rw [hU]; exact hPc, va_K.moved hW.alike hK, hDc.weaken (fun _ _ _ _ => trivial), zEnv.go hE hS hFc hU hW⟩)⟩ rfl rfl hl.1 rfl (lv_room (Nat.le_of_ble_eq_true rfl)) dL_law_230 ⟨(z_rc (by omega)), (z_rs (by omega))⟩) hS (fun q _ h => hFc q h) hFc (fun r16 u t H locs ht hvm hw hB hz1 hk1 hS => ?_)
              rw [hw]
              obtain ⟨hP1, hK1, hD1⟩ := hB
              rw [ht] at hP1
              obtain ⟨hP, hD⟩ := va_join (wr := [(qb, .inr (0, [.ref qt])), (qt, .inl (cI, 9, .inl ft2)), (qx, .inl (cI, 36, .inl fx2)), (qy, .inl (cI, 36, .inl fy2)), (qz, .inl (cI, 36, .inl fz2)), (qu, .inl (cZ, 36, .inl fu2)), (qP, .inl (cI, 36, .inl gp2)), (qQ, .inl (cI, 36, .inl gq2)), (qZ, .inl (cI, 36, .inl gz2)), (qU, .inl (cI, 36, .inl gu2))]) (w1 := [(qo, .inr (4, [.ref qm, .ref qb, .ref qr, .ref qf])), (qm, .inr (2, [.ref qw, .ref qh])), (qw, .inl (cI, 10, .inl fw2)), (qh, .inl (cI, 10, .inl fh2)), (qr, .inr (3, [.int br2])), (qf, .inr (1, [.ref qx, .ref qy, .ref qz, .ref qu, .int (nI mC), .int (nI mR), .int nf2])), (qT, .inl (cI, 33, .inl gt2))]) hP hD [0, 1, 2, 3, 6, 7, 12] [4, 5, 8, 9, 10, 11, 13, 14, 15, 16] rfl rfl (by decide) (by decide) hk1 hFc hP1 hD1
              have hP := hP.sub (ws' := [(qo, .inr (4, [.ref qm, .ref qb, .ref qr, .ref qf])), (qm, .inr (2, [.ref qw, .ref qh])), (qw, .inl (cI, 10, .inl fw2)), (qh, .inl (cI, 10, .inl fh2)), (qb, .inr (0, [.ref qt])), (qt, .inl (cI, 9, .inl ft2)), (qr, .inr (3, [.int br2])), (qf, .inr (1, [.ref qx, .ref qy, .ref qz, .ref qu, .int (nI mC), .int (nI mR), .int nf2])), (qx, .inl (cI, 36, .inl fx2)), (qy, .inl (cI, 36, .inl fy2)), (qz, .inl (cI, 36, .inl fz2)), (qu, .inl (cZ, 36, .inl fu2)), (qT, .inl (cI, 33, .inl gt2)), (qP, .inl (cI, 36, .inl gp2)), (qQ, .inl (cI, 36, .inl gq2)), (qZ, .inl (cI, 36, .inl gz2)), (qU, .inl (cI, 36, .inl gu2))]) [10, 11, 12, 13, 0, 1, 14, 15, 2, 3, 4, 5, 16, 6, 7, 8, 9] rfl
              have hD := hD.sub (ws' := [(qo, .inr (4, [.ref qm, .ref qb, .ref qr, .ref qf])), (qm, .inr (2, [.ref qw, .ref qh])), (qw, .inl (cI, 10, .inl fw2)), (qh, .inl (cI, 10, .inl fh2)), (qb, .inr (0, [.ref qt])), (qt, .inl (cI, 9, .inl ft2)), (qr, .inr (3, [.int br2])), (qf, .inr (1, [.ref qx, .ref qy, .ref qz, .ref qu, .int (nI mC), .int (nI mR), .int nf2])), (qx, .inl (cI, 36, .inl fx2)), (qy, .inl (cI, 36, .inl fy2)), (qz, .inl (cI, 36, .inl fz2)), (qu, .inl (cZ, 36, .inl fu2)), (qT, .inl (cI, 33, .inl gt2)), (qP, .inl (cI, 36, .inl gp2)), (qQ, .inl (cI, 36, .inl gq2)), (qZ, .inl (cI, 36, .inl gz2)), (qU, .inl (cI, 36, .inl gu2))]) [10, 11, 12, 13, 0, 1, 14, 15, 2, 3, 4, 5, 16, 6, 7, 8, 9] (by decide) rfl
              refine W.widen (k := (nc + 102)) (n := (ns + 612)) (by omega) (by omega) ?_
              rw [(rings_ok fw2 fh2 hZn mC mR nf2 (v >>> ((4 : Int32) &&& 31)))]
              refine lv_if_eq (tgt := 277) hx hb dL_law_233 (by decide) (fun c17 => ?_) (fun c17 => ?_)
              · exact absurd c17 (by decide)
              · refine lv_goto (tgt := 273) hx hb dL_law_236 (by decide) ?_
                refine lv_iconst (v := 1) hx hb dL_law_273 (by decide) ?_
                refine lv_goto (tgt := 278) hx hb dL_law_274 (by decide) ?_
                refine lv_istore (lv' := [(11, .int 1), (12, .int ((nI i) - (nI i) / 4 * 4)), (10, .int (s_L_some v 16)), (9, .int (v >>> ((4 : Int32) &&& 31))), (8, .int v), (7, .int (nI i)), (0, .ref b), (1, .ref qo), (2, .ref qT), (3, .ref qP), (4, .ref qQ), (5, .ref qZ), (6, .ref qU)]) hx hb dL_law_278 hl (by decide) rfl (fun ls hl => ?_)
                refine lv_iload hx hb dL_law_280 (lv_at hl 0 rfl) ?_
                refine lv_if_ne (tgt := 287) hx hb dL_law_282 (by decide) (fun c18 => ?_) (fun c18 => ?_)
                · refine lv_iinc (v := nI (i + 1)) (lv' := [(7, .int (nI (i + 1))), (11, .int 1), (12, .int ((nI i) - (nI i) / 4 * 4)), (10, .int (s_L_some v 16)), (9, .int (v >>> ((4 : Int32) &&& 31))), (8, .int v), (0, .ref b), (1, .ref qo), (2, .ref qT), (3, .ref qP), (4, .ref qQ), (5, .ref qZ), (6, .ref qU)]) hx hb dL_law_287 hl (k := 5) rfl (nI_succ i).symm (by decide) rfl (fun ls hl => ?_)
                  refine lv_goto (tgt := 134) hx hb dL_law_290 (by decide) ?_
                  exact ih (i + 1) hi1 (by omega) fw2 fh2 ft2 br2 mC mR nf2 fx2 fy2 fz2 fu2 gt2 gp2 gq2 gz2 gu2 _ _ hI2 (by omega) (by omega) _ _ hP hD hS _ (lv_sub hl [0, 6, 7, 8, 9, 10, 11, 12] rfl)
                · exact absurd c18 (by decide)
          · refine lv_aload_n hx hb dL_law_207 rfl (lv_at hl 7 rfl) ?_
            refine lv_iload hx hb dL_law_208 (lv_at hl 3 rfl) ?_
            refine lv_aload_n hx hb dL_law_210 rfl (lv_at hl 8 rfl) ?_
            have hPc := hP.sub (ws' := [(qo, .inr (4, [.ref qm, .ref qb, .ref qr, .ref qf])), (qm, .inr (2, [.ref qw, .ref qh])), (qw, .inl (cI, 10, .inl fw2)), (qh, .inl (cI, 10, .inl fh2)), (qr, .inr (3, [.int br2])), (qf, .inr (1, [.ref qx, .ref qy, .ref qz, .ref qu, .int (nI mC), .int (nI mR), .int nf2])), (qT, .inl (cI, 33, .inl gt2))]) [0, 1, 2, 3, 6, 7, 12] rfl
            have hDc := hD.sub (ws' := [(qo, .inr (4, [.ref qm, .ref qb, .ref qr, .ref qf])), (qm, .inr (2, [.ref qw, .ref qh])), (qw, .inl (cI, 10, .inl fw2)), (qh, .inl (cI, 10, .inl fh2)), (qr, .inr (3, [.int br2])), (qf, .inr (1, [.ref qx, .ref qy, .ref qz, .ref qu, .int (nI mC), .int (nI mR), .int nf2])), (qT, .inl (cI, 33, .inl gt2))]) [0, 1, 2, 3, 6, 7, 12] (by decide) rfl
            have hFc := va_free (wc := [(qo, .inr (4, [.ref qm, .ref qb, .ref qr, .ref qf])), (qm, .inr (2, [.ref qw, .ref qh])), (qw, .inl (cI, 10, .inl fw2)), (qh, .inl (cI, 10, .inl fh2)), (qr, .inr (3, [.int br2])), (qf, .inr (1, [.ref qx, .ref qy, .ref qz, .ref qu, .int (nI mC), .int (nI mR), .int nf2])), (qT, .inl (cI, 33, .inl gt2))]) hD hS hA [0, 1, 2, 3, 6, 7, 12] rfl
            refine va_calli (va_runS (As := [.ref qo, .int (v >>> ((4 : Int32) &&& 31)), .ref qT]) (rest := []) ⟨hx, hb, hml, hown, hts⟩ (c_L_maps l hnt D cI cZ cJ cD qo qm qb qr qf qw qh fw2 fh2 br2 qx qy qz qu mC mR nf2 qT gt2 (v >>> ((4 : Int32) &&& 31)) H.size hT hWB) (va_cwS 3 hts gL_law_L_maps rfl rfl rfl (by decide +kernel) ⟨Nat.le_of_ble_eq_true rfl, Nat.le_of_ble_eq_true rfl⟩) ⟨zblindWE, (fun U hU hW => ⟨rfl, by rw [hU], by rw [hU]; exact hPc, va_K.moved hW.alike hK, hDc.weaken (fun _ _ _ _ => trivial), zEnv.go hE hS hFc hU hW⟩)⟩ rfl rfl hl.1 rfl (lv_room (Nat.le_of_ble_eq_true rfl)) dL_law_211 ⟨(z_rc (by omega)), (z_rs (by omega))⟩) hS (fun q _ h => hFc q h) hFc (fun r19 u t H locs ht hvm hw hB hz1 hk1 hS => ?_)
            rw [hw]
            obtain ⟨hP1, hK1, hD1⟩ := hB
            rw [ht] at hP1
            obtain ⟨hP, hD⟩ := va_join (wr := [(qb, .inr (0, [.ref qt])), (qt, .inl (cI, 9, .inl ft2)), (qx, .inl (cI, 36, .inl fx2)), (qy, .inl (cI, 36, .inl fy2)), (qz, .inl (cI, 36, .inl fz2)), (qu, .inl (cZ, 36, .inl fu2)), (qP, .inl (cI, 36, .inl gp2)), (qQ, .inl (cI, 36, .inl gq2)), (qZ, .inl (cI, 36, .inl gz2)), (qU, .inl (cI, 36, .inl gu2))]) (w1 := [(qo, .inr (4, [.ref qm, .ref qb, .ref qr, .ref qf])), (qm, .inr (2, [.ref qw, .ref qh])), (qw, .inl (cI, 10, .inl fw2)), (qh, .inl (cI, 10, .inl fh2)), (qr, .inr (3, [.int br2])), (qf, .inr (1, [.ref qx, .ref qy, .ref qz, .ref qu, .int (nI mC), .int (nI mR), .int nf2])), (qT, .inl (cI, 33, .inl gt2))]) hP hD [0, 1, 2, 3, 6, 7, 12] [4, 5, 8, 9, 10, 11, 13, 14, 15, 16] rfl rfl (by decide) (by decide) hk1 hFc hP1 hD1
            have hP := hP.sub (ws' := [(qo, .inr (4, [.ref qm, .ref qb, .ref qr, .ref qf])), (qm, .inr (2, [.ref qw, .ref qh])), (qw, .inl (cI, 10, .inl fw2)), (qh, .inl (cI, 10, .inl fh2)), (qb, .inr (0, [.ref qt])), (qt, .inl (cI, 9, .inl ft2)), (qr, .inr (3, [.int br2])), (qf, .inr (1, [.ref qx, .ref qy, .ref qz, .ref qu, .int (nI mC), .int (nI mR), .int nf2])), (qx, .inl (cI, 36, .inl fx2)), (qy, .inl (cI, 36, .inl fy2)), (qz, .inl (cI, 36, .inl fz2)), (qu, .inl (cZ, 36, .inl fu2)), (qT, .inl (cI, 33, .inl gt2)), (qP, .inl (cI, 36, .inl gp2)), (qQ, .inl (cI, 36, .inl gq2)), (qZ, .inl (cI, 36, .inl gz2)), (qU, .inl (cI, 36, .inl gu2))]) [10, 11, 12, 13, 0, 1, 14, 15, 2, 3, 4, 5, 16, 6, 7, 8, 9] rfl
            have hD := hD.sub (ws' := [(qo, .inr (4, [.ref qm, .ref qb, .ref qr, .ref qf])), (qm, .inr (2, [.ref qw, .ref qh])), (qw, .inl (cI, 10, .inl fw2)), (qh, .inl (cI, 10, .inl fh2)), (qb, .inr (0, [.ref qt])), (qt, .inl (cI, 9, .inl ft2)), (qr, .inr (3, [.int br2])), (qf, .inr (1, [.ref qx, .ref qy, .ref qz, .ref qu, .int (nI mC), .int (nI mR), .int nf2])), (qx, .inl (cI, 36, .inl fx2)), (qy, .inl (cI, 36, .inl fy2)), (qz, .inl (cI, 36, .inl fz2)), (qu, .inl (cZ, 36, .inl fu2)), (qT, .inl (cI, 33, .inl gt2)), (qP, .inl (cI, 36, .inl gp2)), (qQ, .inl (cI, 36, .inl gq2)), (qZ, .inl (cI, 36, .inl gz2)), (qU, .inl (cI, 36, .inl gu2))]) [10, 11, 12, 13, 0, 1, 14, 15, 2, 3, 4, 5, 16, 6, 7, 8, 9] (by decide) rfl
            refine W.widen (k := (nc + 61)) (n := (ns + 366)) (by omega) (by omega) ?_
            rw [(maps_ok fw2 fh2 br2 mC mR nf2 (v >>> ((4 : Int32) &&& 31)))]
            refine lv_if_eq (tgt := 277) hx hb dL_law_214 (by decide) (fun c20 => ?_) (fun c20 => ?_)
            · exact absurd c20 (by decide)
            · refine lv_goto (tgt := 273) hx hb dL_law_217 (by decide) ?_
              refine lv_iconst (v := 1) hx hb dL_law_273 (by decide) ?_
              refine lv_goto (tgt := 278) hx hb dL_law_274 (by decide) ?_
              refine lv_istore (lv' := [(11, .int 1), (12, .int ((nI i) - (nI i) / 4 * 4)), (10, .int (s_L_some v 16)), (9, .int (v >>> ((4 : Int32) &&& 31))), (8, .int v), (7, .int (nI i)), (0, .ref b), (1, .ref qo), (2, .ref qT), (3, .ref qP), (4, .ref qQ), (5, .ref qZ), (6, .ref qU)]) hx hb dL_law_278 hl (by decide) rfl (fun ls hl => ?_)
              refine lv_iload hx hb dL_law_280 (lv_at hl 0 rfl) ?_
              refine lv_if_ne (tgt := 287) hx hb dL_law_282 (by decide) (fun c21 => ?_) (fun c21 => ?_)
              · refine lv_iinc (v := nI (i + 1)) (lv' := [(7, .int (nI (i + 1))), (11, .int 1), (12, .int ((nI i) - (nI i) / 4 * 4)), (10, .int (s_L_some v 16)), (9, .int (v >>> ((4 : Int32) &&& 31))), (8, .int v), (0, .ref b), (1, .ref qo), (2, .ref qT), (3, .ref qP), (4, .ref qQ), (5, .ref qZ), (6, .ref qU)]) hx hb dL_law_287 hl (k := 5) rfl (nI_succ i).symm (by decide) rfl (fun ls hl => ?_)
                refine lv_goto (tgt := 134) hx hb dL_law_290 (by decide) ?_
                exact ih (i + 1) hi1 (by omega) fw2 fh2 ft2 br2 mC mR nf2 fx2 fy2 fz2 fu2 gt2 gp2 gq2 gz2 gu2 _ _ hI2 (by omega) (by omega) _ _ hP hD hS _ (lv_sub hl [0, 6, 7, 8, 9, 10, 11, 12] rfl)
              · exact absurd c21 (by decide)
      refine lv_if_ne (tgt := 174) hx hb dL_law_167 (by decide) (fun c22 => ?_) (fun c22 => ?_)
      · refine lv_iload hx hb dL_law_174 (lv_at hl 0 rfl) ?_
        exact K4 _ (if_neg c22).symm _ _ hP hD hS _ (lv_sub hl [0, 1, 2, 3, 4, 5, 6, 7, 8, 9, 10] rfl)
      · refine lv_iconst (v := 5) hx hb dL_law_170 (by decide) ?_
        refine lv_goto (tgt := 176) hx hb dL_law_171 (by decide) ?_
        exact K4 _ (if_pos c22).symm _ _ hP hD hS _ (lv_sub hl [0, 1, 2, 3, 4, 5, 6, 7, 8, 9, 10] rfl)
