def n_X5_lay_qg_6  : Int32 := 0
def n_X5_lay_qgx (fx : Nat → Int32) : Nat → Int32 := zg fx (fun p => nI p / 6) 36
def n_X5_lay_qgy (fy : Nat → Int32) : Nat → Int32 := zg fy (fun p => nI p - nI p / 6 * 6) 36
def n_X5_lay_qgz (fz : Nat → Int32) : Nat → Int32 := zg fz (fun _ => 0) 36
def n_X5_lay_qgu (fu : Nat → Int32) : Nat → Int32 := zg fu (fun _ => 1) 36
abbrev rm_X5_lay : Room := { frames := 0, cells := 0, slots := 0, locals := 0 }
abbrev Qc_X5_lay (D : va_G) (cI cZ cJ cD : ClassId) (qg : Nat) (qgw : Nat) (qgh : Nat) (qgt : Nat) (br : Int32) (jC : Int32) (jR : Int32) (nf : Int32) (qgx : Nat) (qgy : Nat) (qgz : Nat) (qgu : Nat) (th : Int32) (fx : Nat → Int32) (fy : Nat → Int32) (fz : Nat → Int32) (fu : Nat → Int32) (A : Nat → Prop) : Array Value → State → Outcome → State → Prop := va_Qv (fun _ : Unit => True) (zPost D cI cZ cJ cD A [(qg, .inr (5, [.ref qgw, .ref qgh, .ref qgt, .int br, .int jC, .int jR, .int n_X5_lay_qg_6, .ref qgx, .ref qgy, .ref qgz, .ref qgu, .int th])), (qgx, .inl (cI, 36, .inl (n_X5_lay_qgx fx))), (qgy, .inl (cI, 36, .inl (n_X5_lay_qgy fy))), (qgz, .inl (cI, 36, .inl (n_X5_lay_qgz fz))), (qgu, .inl (cZ, 36, .inl (n_X5_lay_qgu fu)))]) A
set_option maxHeartbeats 1000000 in
set_option maxRecDepth 100000 in
theorem c_X5_lay (l : Launch) (D : va_G) (cI cZ cJ cD : ClassId) (qg : Nat) (qgw : Nat) (qgh : Nat) (qgt : Nat) (br : Int32) (jC : Int32) (jR : Int32) (nf : Int32) (qgx : Nat) (qgy : Nat) (qgz : Nat) (qgu : Nat) (th : Int32) (fx : Nat → Int32) (fy : Nat → Int32) (fz : Nat → Int32) (fu : Nat → Int32) (sz : Nat)  : Met l yX5_lay wsX5_lay rm_X5_lay (va_Pc [.ref qg] (zPreW D cI cZ cJ cD [(qg, .inr (5, [.ref qgw, .ref qgh, .ref qgt, .int br, .int jC, .int jR, .int nf, .ref qgx, .ref qgy, .ref qgz, .ref qgu, .int th])), (qgx, .inl (cI, 36, .inl fx)), (qgy, .inl (cI, 36, .inl fy)), (qgz, .inl (cI, 36, .inl fz)), (qgu, .inl (cZ, 36, .inl fu))] sz)) (Qc_X5_lay D cI cZ cJ cD qg qgw qgh qgt br jC jR nf qgx qgy qgz qgu th fx fy fz fu (va_A [(qg, .inr (5, [.ref qgw, .ref qgh, .ref qgt, .int br, .int jC, .int jR, .int nf, .ref qgx, .ref qgy, .ref qgz, .ref qgu, .int th])), (qgx, .inl (cI, 36, .inl fx)), (qgy, .inl (cI, 36, .inl fy)), (qgz, .inl (cI, 36, .inl fz)), (qgu, .inl (cZ, 36, .inl fu))] sz)) 0 0 (va_A [(qg, .inr (5, [.ref qgw, .ref qgh, .ref qgt, .int br, .int jC, .int jR, .int nf, .ref qgx, .ref qgy, .ref qgz, .ref qgu, .int th])), (qgx, .inl (cI, 36, .inl fx)), (qgy, .inl (cI, 36, .inl fy)), (qgz, .inl (cI, 36, .inl fz)), (qgu, .inl (cZ, 36, .inl fu))] sz) := by
  refine Met.ofW (cc := cX5_lay) (maxL := 2) (ret := none) (by decide) rfl ?_
  intro p e s m args below meth c s₁ B hml hv
  obtain ⟨rfl, hsz, hP, hK, hD0⟩ := hv
  have hx := B.exec
  have hb := B.bytes
  have hr := B.returns
  have hts := atoms_spec (ws := wsX5_lay) B.pre
  have hown : s.vm.findClass RX5 = some m.cls := findClass_of_methodNamed B.named
  have hlocks := B.notSynchronized
  subst hsz
  have hD := hD0.self (sz := s.heap.size)
  generalize hAe : va_A [(qg, .inr (5, [.ref qgw, .ref qgh, .ref qgt, .int br, .int jC, .int jR, .int nf, .ref qgx, .ref qgy, .ref qgz, .ref qgu, .int th])), (qgx, .inl (cI, 36, .inl fx)), (qgy, .inl (cI, 36, .inl fy)), (qgz, .inl (cI, 36, .inl fz)), (qgu, .inl (cZ, 36, .inl fu))] s.heap.size = A at hD ⊢
  have hA : ∀ q : Nat, s.heap.size ≤ q → A q := fun q h => by rw [← hAe]; exact Or.inr h
  have hS : va_S A s.heap s.heap [] := va_S.rf
  have hl := lv_entry ([.ref qg]) (n := 2) (Nat.le_of_ble_eq_true rfl)
  rw [lg_entry_eq]
  generalize (lg_sl ([.ref qg]) ++ List.replicate (2 - (lg_sl ([.ref qg])).length) Slot.unset).toArray = ls at hl ⊢
  have hl : lv_has ls 2 [(0, .ref qg)] := hl
  have hP : va_P D vwCl [(qg, .inr (5, [.ref qgw, .ref qgh, .ref qgt, .int br, .int jC, .int jR, .int nf, .ref qgx, .ref qgy, .ref qgz, .ref qgu, .int th])), (qgx, .inl (cI, 36, .inl fx)), (qgy, .inl (cI, 36, .inl fy)), (qgz, .inl (cI, 36, .inl fz)), (qgu, .inl (cZ, 36, .inl fu))] s.heap := hP
  have hP := hP
  refine lv_aload_n hx hb dX5_lay_0 rfl (lv_at hl 0 rfl) ?_
  refine lv_iconst (v := 0) hx hb dX5_lay_1 (by decide) ?_
  refine va_put (D := D) (ci := 5) (v := .int 0) (ty := .int) (C := RX5) (T := TX5) (N := 12) hx hb hts (fun w h => List.mem_cons_of_mem _ (List.mem_append_right _ h)) tyX5 tyX5_ok nmX5 hown hK hP hD hS 0 rfl rfl 6 (by decide) (hts (.fieldLink RX5 106 "AtlasFolderModel" "folds" "I") (List.mem_cons_of_mem _ (List.mem_append_left _ (List.mem_of_getElem? (i := 0) rfl)))) (fun _ h9 => h9) rfl (by decide +kernel) rfl rfl (Nat.le_of_ble_eq_true rfl) dX5_lay_2 (fun H locs hP hD hS => ?_)
  have hP : va_P D vwCl [(qg, .inr (5, [.ref qgw, .ref qgh, .ref qgt, .int br, .int jC, .int jR, .int 0, .ref qgx, .ref qgy, .ref qgz, .ref qgu, .int th])), (qgx, .inl (cI, 36, .inl fx)), (qgy, .inl (cI, 36, .inl fy)), (qgz, .inl (cI, 36, .inl fz)), (qgu, .inl (cZ, 36, .inl fu))] H := hP
  have hD : va_D A [(qg, .inr (5, [.ref qgw, .ref qgh, .ref qgt, .int br, .int jC, .int jR, .int 0, .ref qgx, .ref qgy, .ref qgz, .ref qgu, .int th])), (qgx, .inl (cI, 36, .inl fx)), (qgy, .inl (cI, 36, .inl fy)), (qgz, .inl (cI, 36, .inl fz)), (qgu, .inl (cZ, 36, .inl fu))] := hD
  refine lv_iconst (v := 0) hx hb dX5_lay_5 (by decide) ?_
  refine lv_istore_n (lv' := [(1, .int 0), (0, .ref qg)]) hx hb dX5_lay_6 rfl hl (by decide) rfl (fun ls hl => ?_)
  have X1 : ∀ (H : Heap) (locs : List Loc), va_P D vwCl [(qg, .inr (5, [.ref qgw, .ref qgh, .ref qgt, .int br, .int jC, .int jR, .int 0, .ref qgx, .ref qgy, .ref qgz, .ref qgu, .int th])), (qgx, .inl (cI, 36, .inl (zg fx (fun p => nI p / 6) 36))), (qgy, .inl (cI, 36, .inl (zg fy (fun p => nI p - nI p / 6 * 6) 36))), (qgz, .inl (cI, 36, .inl (zg fz (fun _ => 0) 36))), (qgu, .inl (cZ, 36, .inl (zg fu (fun _ => 1) 36)))] H → va_D A [(qg, .inr (5, [.ref qgw, .ref qgh, .ref qgt, .int br, .int jC, .int jR, .int 0, .ref qgx, .ref qgy, .ref qgz, .ref qgu, .int th])), (qgx, .inl (cI, 36, .inl (zg fx (fun p => nI p / 6) 36))), (qgy, .inl (cI, 36, .inl (zg fy (fun p => nI p - nI p / 6 * 6) 36))), (qgz, .inl (cI, 36, .inl (zg fz (fun _ => 0) 36))), (qgu, .inl (cZ, 36, .inl (zg fu (fun _ => 1) 36)))] → va_S A s.heap H locs → ∀ (ls : Array Slot), lv_has ls 2 [(0, .ref qg)] → W p l e (headSpec wsX5_lay rm_X5_lay).room s m ([.ref qg]).toArray below meth c H locs 0 0 (MQ below (Qc_X5_lay D cI cZ cJ cD qg qgw qgh qgt br jC jR nf qgx qgy qgz qgu th fx fy fz fu A) ([.ref qg]).toArray s 0 0 A) (F0 m 53 ls []) := by
    intro  H locs hP hD hS ls hl
    have e2 : n_X5_lay_qg_6 = 0 := rfl
    have e3 : n_X5_lay_qgx fx = zg fx (fun p => nI p / 6) 36 := rfl
    have e4 : n_X5_lay_qgy fy = zg fy (fun p => nI p - nI p / 6 * 6) 36 := rfl
    have e5 : n_X5_lay_qgz fz = zg fz (fun _ => 0) 36 := rfl
    have e6 : n_X5_lay_qgu fu = zg fu (fun _ => 1) 36 := rfl
    exact W.vret hx hb hr (fun t ht hW => ⟨⟨(), rfl, trivial, ⟨(by rw [e2, e3, e4, e5, e6]; rw [ht]; exact hP), va_K.moved hW.alike hK, (by rw [e2, e3, e4, e5, e6]; exact hD)⟩⟩, hS.F ht⟩) hS.2.2 dX5_lay_53
  have L1 : ∀ (n1 : Nat) (k : Nat), (k ≤ 36) → (36 < k + n1) → ∀ (H : Heap) (locs : List Loc), va_P D vwCl [(qg, .inr (5, [.ref qgw, .ref qgh, .ref qgt, .int br, .int jC, .int jR, .int 0, .ref qgx, .ref qgy, .ref qgz, .ref qgu, .int th])), (qgx, .inl (cI, 36, .inl (zg fx (fun p => nI p / 6) k))), (qgy, .inl (cI, 36, .inl (zg fy (fun p => nI p - nI p / 6 * 6) k))), (qgz, .inl (cI, 36, .inl (zg fz (fun _ => 0) k))), (qgu, .inl (cZ, 36, .inl (zg fu (fun _ => 1) k)))] H → va_D A [(qg, .inr (5, [.ref qgw, .ref qgh, .ref qgt, .int br, .int jC, .int jR, .int 0, .ref qgx, .ref qgy, .ref qgz, .ref qgu, .int th])), (qgx, .inl (cI, 36, .inl (zg fx (fun p => nI p / 6) k))), (qgy, .inl (cI, 36, .inl (zg fy (fun p => nI p - nI p / 6 * 6) k))), (qgz, .inl (cI, 36, .inl (zg fz (fun _ => 0) k))), (qgu, .inl (cZ, 36, .inl (zg fu (fun _ => 1) k)))] → va_S A s.heap H locs → ∀ (ls : Array Slot), lv_has ls 2 [(1, .int (nI k)), (0, .ref qg)] → W p l e (headSpec wsX5_lay rm_X5_lay).room s m ([.ref qg]).toArray below meth c H locs 0 0 (MQ below (Qc_X5_lay D cI cZ cJ cD qg qgw qgh qgt br jC jR nf qgx qgy qgz qgu th fx fy fz fu A) ([.ref qg]).toArray s 0 0 A) (F0 m 7 ls []) := by
    intro n1
    induction n1 with
    | zero =>
      intro k hk hf1
      exact absurd hf1 (by omega)
    | succ n1 ih1 =>
      intro k hk hf1 H locs hP hD hS ls hl
      refine lv_iload_n hx hb dX5_lay_7 rfl (lv_at hl 0 rfl) ?_
      refine lv_bipush (v := 36) hx hb dX5_lay_8 (by decide) ?_
      refine lv_icmp_ge (tgt := 53) hx hb dX5_lay_10 (by decide) (fun c7 => ?_) (fun c7 => ?_)
      · have ek9 : k = 36 := z_ctr rfl (by omega) hk c7
        subst ek9
        exact X1  _ _ hP hD hS _ (lv_sub hl [1] rfl)
      · refine lv_aload_n hx hb dX5_lay_13 rfl (lv_at hl 1 rfl) ?_
        refine va_get (D := D) (ci := 5) (v := .ref qgx) (C := RX5) (T := TX5) (N := 12) hx hb hts (fun w h => List.mem_cons_of_mem _ (List.mem_append_right _ h)) hown hK hP 0 rfl rfl 7 (by decide) (hts (.fieldLink RX5 23 "AtlasFolderModel" "atX" "[I") (List.mem_cons_of_mem _ (List.mem_append_left _ (List.mem_of_getElem? (i := 1) rfl)))) (fun _ h9 => h9) rfl dX5_lay_14 ?_
        refine lv_iload_n hx hb dX5_lay_17 rfl (lv_at hl 0 rfl) ?_
        refine lv_iload_n hx hb dX5_lay_18 rfl (lv_at hl 0 rfl) ?_
        refine lv_bipush (v := 6) hx hb dX5_lay_19 (by decide) ?_
        refine lv_idiv hx hb dX5_lay_21 (by decide) ?_
        refine va_iast hx hb hK hP hD hS 1 0 rfl rfl (vp_in_nI (z_ctl (n := 36) rfl (by omega) c7) (by omega)) dX5_lay_22 (fun H locs hP hD hS => ?_)
        have hP : va_P D vwCl [(qg, .inr (5, [.ref qgw, .ref qgh, .ref qgt, .int br, .int jC, .int jR, .int 0, .ref qgx, .ref qgy, .ref qgz, .ref qgu, .int th])), (qgx, .inl (cI, 36, .inl (upd (zg fx (fun p => nI p / 6) k) (nI k).toNatClampNeg ((nI k) / 6)))), (qgy, .inl (cI, 36, .inl (zg fy (fun p => nI p - nI p / 6 * 6) k))), (qgz, .inl (cI, 36, .inl (zg fz (fun _ => 0) k))), (qgu, .inl (cZ, 36, .inl (zg fu (fun _ => 1) k)))] H := hP
        have hD : va_D A [(qg, .inr (5, [.ref qgw, .ref qgh, .ref qgt, .int br, .int jC, .int jR, .int 0, .ref qgx, .ref qgy, .ref qgz, .ref qgu, .int th])), (qgx, .inl (cI, 36, .inl (upd (zg fx (fun p => nI p / 6) k) (nI k).toNatClampNeg ((nI k) / 6)))), (qgy, .inl (cI, 36, .inl (zg fy (fun p => nI p - nI p / 6 * 6) k))), (qgz, .inl (cI, 36, .inl (zg fz (fun _ => 0) k))), (qgu, .inl (cZ, 36, .inl (zg fu (fun _ => 1) k)))] := hD
        refine lv_aload_n hx hb dX5_lay_23 rfl (lv_at hl 1 rfl) ?_
        refine va_get (D := D) (ci := 5) (v := .ref qgy) (C := RX5) (T := TX5) (N := 12) hx hb hts (fun w h => List.mem_cons_of_mem _ (List.mem_append_right _ h)) hown hK hP 0 rfl rfl 8 (by decide) (hts (.fieldLink RX5 26 "AtlasFolderModel" "atY" "[I") (List.mem_cons_of_mem _ (List.mem_append_left _ (List.mem_of_getElem? (i := 2) rfl)))) (fun _ h9 => h9) rfl dX5_lay_24 ?_
        refine lv_iload_n hx hb dX5_lay_27 rfl (lv_at hl 0 rfl) ?_
        refine lv_iload_n hx hb dX5_lay_28 rfl (lv_at hl 0 rfl) ?_
        refine lv_bipush (v := 6) hx hb dX5_lay_29 (by decide) ?_
        refine lv_irem hx hb dX5_lay_31 (by decide) ?_
        refine va_iast hx hb hK hP hD hS 2 0 rfl rfl (vp_in_nI (z_ctl (n := 36) rfl (by omega) c7) (by omega)) dX5_lay_32 (fun H locs hP hD hS => ?_)
        have hP : va_P D vwCl [(qg, .inr (5, [.ref qgw, .ref qgh, .ref qgt, .int br, .int jC, .int jR, .int 0, .ref qgx, .ref qgy, .ref qgz, .ref qgu, .int th])), (qgx, .inl (cI, 36, .inl (upd (zg fx (fun p => nI p / 6) k) (nI k).toNatClampNeg ((nI k) / 6)))), (qgy, .inl (cI, 36, .inl (upd (zg fy (fun p => nI p - nI p / 6 * 6) k) (nI k).toNatClampNeg ((nI k) - (nI k) / 6 * 6)))), (qgz, .inl (cI, 36, .inl (zg fz (fun _ => 0) k))), (qgu, .inl (cZ, 36, .inl (zg fu (fun _ => 1) k)))] H := hP
        have hD : va_D A [(qg, .inr (5, [.ref qgw, .ref qgh, .ref qgt, .int br, .int jC, .int jR, .int 0, .ref qgx, .ref qgy, .ref qgz, .ref qgu, .int th])), (qgx, .inl (cI, 36, .inl (upd (zg fx (fun p => nI p / 6) k) (nI k).toNatClampNeg ((nI k) / 6)))), (qgy, .inl (cI, 36, .inl (upd (zg fy (fun p => nI p - nI p / 6 * 6) k) (nI k).toNatClampNeg ((nI k) - (nI k) / 6 * 6)))), (qgz, .inl (cI, 36, .inl (zg fz (fun _ => 0) k))), (qgu, .inl (cZ, 36, .inl (zg fu (fun _ => 1) k)))] := hD
        refine lv_aload_n hx hb dX5_lay_33 rfl (lv_at hl 1 rfl) ?_
        refine va_get (D := D) (ci := 5) (v := .ref qgz) (C := RX5) (T := TX5) (N := 12) hx hb hts (fun w h => List.mem_cons_of_mem _ (List.mem_append_right _ h)) hown hK hP 0 rfl rfl 9 (by decide) (hts (.fieldLink RX5 29 "AtlasFolderModel" "layer" "[I") (List.mem_cons_of_mem _ (List.mem_append_left _ (List.mem_of_getElem? (i := 3) rfl)))) (fun _ h9 => h9) rfl dX5_lay_34 ?_
        refine lv_iload_n hx hb dX5_lay_37 rfl (lv_at hl 0 rfl) ?_
        refine lv_iconst (v := 0) hx hb dX5_lay_38 (by decide) ?_
        refine va_iast hx hb hK hP hD hS 3 0 rfl rfl (vp_in_nI (z_ctl (n := 36) rfl (by omega) c7) (by omega)) dX5_lay_39 (fun H locs hP hD hS => ?_)
        have hP : va_P D vwCl [(qg, .inr (5, [.ref qgw, .ref qgh, .ref qgt, .int br, .int jC, .int jR, .int 0, .ref qgx, .ref qgy, .ref qgz, .ref qgu, .int th])), (qgx, .inl (cI, 36, .inl (upd (zg fx (fun p => nI p / 6) k) (nI k).toNatClampNeg ((nI k) / 6)))), (qgy, .inl (cI, 36, .inl (upd (zg fy (fun p => nI p - nI p / 6 * 6) k) (nI k).toNatClampNeg ((nI k) - (nI k) / 6 * 6)))), (qgz, .inl (cI, 36, .inl (upd (zg fz (fun _ => 0) k) (nI k).toNatClampNeg 0))), (qgu, .inl (cZ, 36, .inl (zg fu (fun _ => 1) k)))] H := hP
        have hD : va_D A [(qg, .inr (5, [.ref qgw, .ref qgh, .ref qgt, .int br, .int jC, .int jR, .int 0, .ref qgx, .ref qgy, .ref qgz, .ref qgu, .int th])), (qgx, .inl (cI, 36, .inl (upd (zg fx (fun p => nI p / 6) k) (nI k).toNatClampNeg ((nI k) / 6)))), (qgy, .inl (cI, 36, .inl (upd (zg fy (fun p => nI p - nI p / 6 * 6) k) (nI k).toNatClampNeg ((nI k) - (nI k) / 6 * 6)))), (qgz, .inl (cI, 36, .inl (upd (zg fz (fun _ => 0) k) (nI k).toNatClampNeg 0))), (qgu, .inl (cZ, 36, .inl (zg fu (fun _ => 1) k)))] := hD
        refine lv_aload_n hx hb dX5_lay_40 rfl (lv_at hl 1 rfl) ?_
        refine va_get (D := D) (ci := 5) (v := .ref qgu) (C := RX5) (T := TX5) (N := 12) hx hb hts (fun w h => List.mem_cons_of_mem _ (List.mem_append_right _ h)) hown hK hP 0 rfl rfl 10 (by decide) (hts (.fieldLink RX5 32 "AtlasFolderModel" "up" "[Z") (List.mem_cons_of_mem _ (List.mem_append_left _ (List.mem_of_getElem? (i := 4) rfl)))) (fun _ h9 => h9) rfl dX5_lay_41 ?_
        refine lv_iload_n hx hb dX5_lay_44 rfl (lv_at hl 0 rfl) ?_
        refine lv_iconst (v := 1) hx hb dX5_lay_45 (by decide) ?_
        refine va_zast hx hb hK hP hD hS 4 1 rfl rfl (vp_in_nI (z_ctl (n := 36) rfl (by omega) c7) (by omega)) dX5_lay_46 (fun H locs hP hD hS => ?_)
        have hP : va_P D vwCl [(qg, .inr (5, [.ref qgw, .ref qgh, .ref qgt, .int br, .int jC, .int jR, .int 0, .ref qgx, .ref qgy, .ref qgz, .ref qgu, .int th])), (qgx, .inl (cI, 36, .inl (upd (zg fx (fun p => nI p / 6) k) (nI k).toNatClampNeg ((nI k) / 6)))), (qgy, .inl (cI, 36, .inl (upd (zg fy (fun p => nI p - nI p / 6 * 6) k) (nI k).toNatClampNeg ((nI k) - (nI k) / 6 * 6)))), (qgz, .inl (cI, 36, .inl (upd (zg fz (fun _ => 0) k) (nI k).toNatClampNeg 0))), (qgu, .inl (cZ, 36, .inl (upd (zg fu (fun _ => 1) k) (nI k).toNatClampNeg (vp_nar .boolean 1))))] H := hP
        have hD : va_D A [(qg, .inr (5, [.ref qgw, .ref qgh, .ref qgt, .int br, .int jC, .int jR, .int 0, .ref qgx, .ref qgy, .ref qgz, .ref qgu, .int th])), (qgx, .inl (cI, 36, .inl (upd (zg fx (fun p => nI p / 6) k) (nI k).toNatClampNeg ((nI k) / 6)))), (qgy, .inl (cI, 36, .inl (upd (zg fy (fun p => nI p - nI p / 6 * 6) k) (nI k).toNatClampNeg ((nI k) - (nI k) / 6 * 6)))), (qgz, .inl (cI, 36, .inl (upd (zg fz (fun _ => 0) k) (nI k).toNatClampNeg 0))), (qgu, .inl (cZ, 36, .inl (upd (zg fu (fun _ => 1) k) (nI k).toNatClampNeg (vp_nar .boolean 1))))] := hD
        refine lv_iinc (v := nI (k + 1)) (lv' := [(1, .int (nI (k + 1))), (0, .ref qg)]) hx hb dX5_lay_47 hl (k := 0) rfl (nI_succ k).symm (by decide) rfl (fun ls hl => ?_)
        refine lv_goto (tgt := 7) hx hb dX5_lay_50 (by decide) ?_
        have hk8 : k < 36 := z_ctl rfl (by omega) c7
        have hc8 := z_cl36 (k := k) (by omega)
        have e_0 : upd (zg fx (fun p => nI p / 6) k) (nI k).toNatClampNeg ((nI k) / 6) = zg fx (fun p => nI p / 6) (k + 1) := zg_put hc8 rfl
        have e_1 : upd (zg fy (fun p => nI p - nI p / 6 * 6) k) (nI k).toNatClampNeg ((nI k) - (nI k) / 6 * 6) = zg fy (fun p => nI p - nI p / 6 * 6) (k + 1) := zg_put hc8 rfl
        have e_2 : upd (zg fz (fun _ => 0) k) (nI k).toNatClampNeg 0 = zg fz (fun _ => 0) (k + 1) := zg_put hc8 rfl
        have e_3 : upd (zg fu (fun _ => 1) k) (nI k).toNatClampNeg (vp_nar .boolean 1) = zg fu (fun _ => 1) (k + 1) := zg_put hc8 rfl
        rw [e_0, e_1, e_2, e_3] at hP hD
        exact ih1 (k + 1) (by omega) (by omega) _ _ hP hD hS _ (lv_sub hl [0, 1] rfl)
  have e0_0 := zg_0 fx (fun p => nI p / 6)
  have e0_1 := zg_0 fy (fun p => nI p - nI p / 6 * 6)
  have e0_2 := zg_0 fz (fun _ => 0)
  have e0_3 := zg_0 fu (fun _ => 1)
  have hP : va_P D vwCl [(qg, .inr (5, [.ref qgw, .ref qgh, .ref qgt, .int br, .int jC, .int jR, .int 0, .ref qgx, .ref qgy, .ref qgz, .ref qgu, .int th])), (qgx, .inl (cI, 36, .inl (zg fx (fun p => nI p / 6) 0))), (qgy, .inl (cI, 36, .inl (zg fy (fun p => nI p - nI p / 6 * 6) 0))), (qgz, .inl (cI, 36, .inl (zg fz (fun _ => 0) 0))), (qgu, .inl (cZ, 36, .inl (zg fu (fun _ => 1) 0)))] H := by rw [e0_0, e0_1, e0_2, e0_3]; exact hP
  have hD : va_D A [(qg, .inr (5, [.ref qgw, .ref qgh, .ref qgt, .int br, .int jC, .int jR, .int 0, .ref qgx, .ref qgy, .ref qgz, .ref qgu, .int th])), (qgx, .inl (cI, 36, .inl (zg fx (fun p => nI p / 6) 0))), (qgy, .inl (cI, 36, .inl (zg fy (fun p => nI p - nI p / 6 * 6) 0))), (qgz, .inl (cI, 36, .inl (zg fz (fun _ => 0) 0))), (qgu, .inl (cZ, 36, .inl (zg fu (fun _ => 1) 0)))] := by rw [e0_0, e0_1, e0_2, e0_3]; exact hD
  exact L1 (36 + 1) 0 (by omega) (by omega) _ _ hP hD hS _ (zlv (lv_sub (l' := [(1, .int 0), (0, .ref qg)]) hl [0, 1] rfl) (by rfl))
def n_X5_sheet_qg_4 (jC : Int32) (co : Int32) (ro : Int32) : Int32 := (if (s_X5_may (if co < 1 then 0 else (if 6 < co then 0 else (if ro < 1 then 0 else (if 6 < ro then 0 else 1))))) = 0 then jC else co)
def n_X5_sheet_qg_5 (jR : Int32) (co : Int32) (ro : Int32) : Int32 := (if (s_X5_may (if co < 1 then 0 else (if 6 < co then 0 else (if ro < 1 then 0 else (if 6 < ro then 0 else 1))))) = 0 then jR else ro)
def n_X5_sheet_qg_6 (nf : Int32) (co : Int32) (ro : Int32) : Int32 := (if (s_X5_may (if co < 1 then 0 else (if 6 < co then 0 else (if ro < 1 then 0 else (if 6 < ro then 0 else 1))))) = 0 then nf else n_X5_lay_qg_6)
def n_X5_sheet_qg_11 (co : Int32) (ro : Int32) : Int32 := (if (s_X5_may (if co < 1 then 0 else (if 6 < co then 0 else (if ro < 1 then 0 else (if 6 < ro then 0 else 1))))) = 0 then n_X5_may_qg_11 (if co < 1 then 0 else (if 6 < co then 0 else (if ro < 1 then 0 else (if 6 < ro then 0 else 1)))) else (n_X5_may_qg_11 (if co < 1 then 0 else (if 6 < co then 0 else (if ro < 1 then 0 else (if 6 < ro then 0 else 1))))))
def n_X5_sheet_qgx (fx : Nat → Int32) (co : Int32) (ro : Int32) : Nat → Int32 := (if (s_X5_may (if co < 1 then 0 else (if 6 < co then 0 else (if ro < 1 then 0 else (if 6 < ro then 0 else 1))))) = 0 then fx else n_X5_lay_qgx fx)
def n_X5_sheet_qgy (fy : Nat → Int32) (co : Int32) (ro : Int32) : Nat → Int32 := (if (s_X5_may (if co < 1 then 0 else (if 6 < co then 0 else (if ro < 1 then 0 else (if 6 < ro then 0 else 1))))) = 0 then fy else n_X5_lay_qgy fy)
def n_X5_sheet_qgz (fz : Nat → Int32) (co : Int32) (ro : Int32) : Nat → Int32 := (if (s_X5_may (if co < 1 then 0 else (if 6 < co then 0 else (if ro < 1 then 0 else (if 6 < ro then 0 else 1))))) = 0 then fz else n_X5_lay_qgz fz)
def n_X5_sheet_qgu (fu : Nat → Int32) (co : Int32) (ro : Int32) : Nat → Int32 := (if (s_X5_may (if co < 1 then 0 else (if 6 < co then 0 else (if ro < 1 then 0 else (if 6 < ro then 0 else 1))))) = 0 then fu else n_X5_lay_qgu fu)
abbrev rm_X5_sheet : Room := { frames := 1, cells := 0, slots := 0, locals := 21 }
abbrev Qc_X5_sheet (D : va_G) (cI cZ cJ cD : ClassId) (qg : Nat) (qgw : Nat) (qgh : Nat) (qgt : Nat) (br : Int32) (jC : Int32) (jR : Int32) (nf : Int32) (qgx : Nat) (qgy : Nat) (qgz : Nat) (qgu : Nat) (th : Int32) (fx : Nat → Int32) (fy : Nat → Int32) (fz : Nat → Int32) (fu : Nat → Int32) (co : Int32) (ro : Int32) (A : Nat → Prop) : Array Value → State → Outcome → State → Prop := va_Qv (fun _ : Unit => True) (zPost D cI cZ cJ cD A [(qg, .inr (5, [.ref qgw, .ref qgh, .ref qgt, .int br, .int (n_X5_sheet_qg_4 jC co ro), .int (n_X5_sheet_qg_5 jR co ro), .int (n_X5_sheet_qg_6 nf co ro), .ref qgx, .ref qgy, .ref qgz, .ref qgu, .int (n_X5_sheet_qg_11 co ro)])), (qgx, .inl (cI, 36, .inl (n_X5_sheet_qgx fx co ro))), (qgy, .inl (cI, 36, .inl (n_X5_sheet_qgy fy co ro))), (qgz, .inl (cI, 36, .inl (n_X5_sheet_qgz fz co ro))), (qgu, .inl (cZ, 36, .inl (n_X5_sheet_qgu fu co ro)))]) A
set_option maxHeartbeats 1000000 in
set_option maxRecDepth 100000 in
theorem c_X5_sheet (l : Launch) (D : va_G) (cI cZ cJ cD : ClassId) (qg : Nat) (qgw : Nat) (qgh : Nat) (qgt : Nat) (br : Int32) (jC : Int32) (jR : Int32) (nf : Int32) (qgx : Nat) (qgy : Nat) (qgz : Nat) (qgu : Nat) (th : Int32) (fx : Nat → Int32) (fy : Nat → Int32) (fz : Nat → Int32) (fu : Nat → Int32) (co : Int32) (ro : Int32) (sz : Nat)  : Met l yX5_sheet wsX5_sheet rm_X5_sheet (va_Pc [.ref qg, .int co, .int ro] (zPreW D cI cZ cJ cD [(qg, .inr (5, [.ref qgw, .ref qgh, .ref qgt, .int br, .int jC, .int jR, .int nf, .ref qgx, .ref qgy, .ref qgz, .ref qgu, .int th])), (qgx, .inl (cI, 36, .inl fx)), (qgy, .inl (cI, 36, .inl fy)), (qgz, .inl (cI, 36, .inl fz)), (qgu, .inl (cZ, 36, .inl fu))] sz)) (Qc_X5_sheet D cI cZ cJ cD qg qgw qgh qgt br jC jR nf qgx qgy qgz qgu th fx fy fz fu co ro (va_A [(qg, .inr (5, [.ref qgw, .ref qgh, .ref qgt, .int br, .int jC, .int jR, .int nf, .ref qgx, .ref qgy, .ref qgz, .ref qgu, .int th])), (qgx, .inl (cI, 36, .inl fx)), (qgy, .inl (cI, 36, .inl fy)), (qgz, .inl (cI, 36, .inl fz)), (qgu, .inl (cZ, 36, .inl fu))] sz)) 0 0 (va_A [(qg, .inr (5, [.ref qgw, .ref qgh, .ref qgt, .int br, .int jC, .int jR, .int nf, .ref qgx, .ref qgy, .ref qgz, .ref qgu, .int th])), (qgx, .inl (cI, 36, .inl fx)), (qgy, .inl (cI, 36, .inl fy)), (qgz, .inl (cI, 36, .inl fz)), (qgu, .inl (cZ, 36, .inl fu))] sz) := by
  refine Met.ofW (cc := cX5_sheet) (maxL := 3) (ret := none) (by decide) rfl ?_
  intro p e s m args below meth c s₁ B hml hv
  obtain ⟨rfl, hsz, hP, hK, hD0⟩ := hv
  have hx := B.exec
  have hb := B.bytes
  have hr := B.returns
  have hts := atoms_spec (ws := wsX5_sheet) B.pre
  have hown : s.vm.findClass RX5 = some m.cls := findClass_of_methodNamed B.named
  have hlocks := B.notSynchronized
  subst hsz
  have hD := hD0.self (sz := s.heap.size)
  generalize hAe : va_A [(qg, .inr (5, [.ref qgw, .ref qgh, .ref qgt, .int br, .int jC, .int jR, .int nf, .ref qgx, .ref qgy, .ref qgz, .ref qgu, .int th])), (qgx, .inl (cI, 36, .inl fx)), (qgy, .inl (cI, 36, .inl fy)), (qgz, .inl (cI, 36, .inl fz)), (qgu, .inl (cZ, 36, .inl fu))] s.heap.size = A at hD ⊢
  have hA : ∀ q : Nat, s.heap.size ≤ q → A q := fun q h => by rw [← hAe]; exact Or.inr h
  have hS : va_S A s.heap s.heap [] := va_S.rf
  have hl := lv_entry ([.ref qg, .int co, .int ro]) (n := 3) (Nat.le_of_ble_eq_true rfl)
  rw [lg_entry_eq]
  generalize (lg_sl ([.ref qg, .int co, .int ro]) ++ List.replicate (3 - (lg_sl ([.ref qg, .int co, .int ro])).length) Slot.unset).toArray = ls at hl ⊢
  have hl : lv_has ls 3 [(0, .ref qg), (1, .int co), (2, .int ro)] := hl
  have hP : va_P D vwCl [(qg, .inr (5, [.ref qgw, .ref qgh, .ref qgt, .int br, .int jC, .int jR, .int nf, .ref qgx, .ref qgy, .ref qgz, .ref qgu, .int th])), (qgx, .inl (cI, 36, .inl fx)), (qgy, .inl (cI, 36, .inl fy)), (qgz, .inl (cI, 36, .inl fz)), (qgu, .inl (cZ, 36, .inl fu))] s.heap := hP
  have hP := hP
  refine lv_aload_n hx hb dX5_sheet_0 rfl (lv_at hl 0 rfl) ?_
  refine lv_iload_n hx hb dX5_sheet_1 rfl (lv_at hl 1 rfl) ?_
  refine lv_iconst (v := 1) hx hb dX5_sheet_2 (by decide) ?_
  have K11 : ∀ v11_0 : Int32, v11_0 = (if co < 1 then 0 else (if 6 < co then 0 else (if ro < 1 then 0 else (if 6 < ro then 0 else 1)))) → ∀ (H : Heap) (locs : List Loc), va_P D vwCl [(qg, .inr (5, [.ref qgw, .ref qgh, .ref qgt, .int br, .int jC, .int jR, .int nf, .ref qgx, .ref qgy, .ref qgz, .ref qgu, .int th])), (qgx, .inl (cI, 36, .inl fx)), (qgy, .inl (cI, 36, .inl fy)), (qgz, .inl (cI, 36, .inl fz)), (qgu, .inl (cZ, 36, .inl fu))] H → va_D A [(qg, .inr (5, [.ref qgw, .ref qgh, .ref qgt, .int br, .int jC, .int jR, .int nf, .ref qgx, .ref qgy, .ref qgz, .ref qgu, .int th])), (qgx, .inl (cI, 36, .inl fx)), (qgy, .inl (cI, 36, .inl fy)), (qgz, .inl (cI, 36, .inl fz)), (qgu, .inl (cZ, 36, .inl fu))] → va_S A s.heap H locs → ∀ (ls : Array Slot), lv_has ls 3 [(0, .ref qg), (1, .int co), (2, .int ro)] → W p l e (headSpec wsX5_sheet rm_X5_sheet).room s m ([.ref qg, .int co, .int ro]).toArray below meth c H locs 0 0 (MQ below (Qc_X5_sheet D cI cZ cJ cD qg qgw qgh qgt br jC jR nf qgx qgy qgz qgu th fx fy fz fu co ro A) ([.ref qg, .int co, .int ro]).toArray s 0 0 A) (F0 m 28 ls [.int v11_0, .ref qg]) := by
    intro v11_0 hv11_0 H locs hP hD hS ls hl
    subst hv11_0
    have hPc := hP.sub (ws' := [(qg, .inr (5, [.ref qgw, .ref qgh, .ref qgt, .int br, .int jC, .int jR, .int nf, .ref qgx, .ref qgy, .ref qgz, .ref qgu, .int th]))]) [0] rfl
    have hDc := hD.sub (ws' := [(qg, .inr (5, [.ref qgw, .ref qgh, .ref qgt, .int br, .int jC, .int jR, .int nf, .ref qgx, .ref qgy, .ref qgz, .ref qgu, .int th]))]) [0] (by decide) rfl
    have hFc := va_free (wc := [(qg, .inr (5, [.ref qgw, .ref qgh, .ref qgt, .int br, .int jC, .int jR, .int nf, .ref qgx, .ref qgy, .ref qgz, .ref qgu, .int th]))]) hD hS hA [0] rfl
    refine va_calli (va_runV (As := [.int (if co < 1 then 0 else (if 6 < co then 0 else (if ro < 1 then 0 else (if 6 < ro then 0 else 1))))]) (rest := []) ⟨hx, hb, hml, hown, hts⟩ (c_X5_may l D cI cZ cJ cD qg qgw qgh qgt br jC jR nf qgx qgy qgz qgu th (if co < 1 then 0 else (if 6 < co then 0 else (if ro < 1 then 0 else (if 6 < ro then 0 else 1)))) H.size (by (repeat' split) <;> simp)) (cwV 1 hts gX5_sheet_X5_may rfl rfl rfl (by decide +kernel) ⟨Nat.le_of_ble_eq_true rfl, Nat.le_of_ble_eq_true rfl⟩) ⟨zblindW, va_recv hK hP (ci := 5) (q0 := 0) rfl rfl, (fun U hU hW => ⟨rfl, by rw [hU], by rw [hU]; exact hPc, va_K.moved hW.alike hK, hDc.weaken (fun _ _ _ _ => trivial)⟩)⟩ rfl rfl hl.1 rfl (lv_room (Nat.le_of_ble_eq_true rfl)) dX5_sheet_28 ⟨Nat.le_of_ble_eq_true rfl, Nat.le_of_ble_eq_true rfl⟩) hS (fun q _ h => hFc q h) hFc (fun r12 u t H locs ht hvm hw hB hz1 hk1 hS => ?_)
    rw [hw]
    obtain ⟨hP1, hK1, hD1⟩ := hB
    rw [ht] at hP1
    obtain ⟨hP, hD⟩ := va_join (wr := [(qgx, .inl (cI, 36, .inl fx)), (qgy, .inl (cI, 36, .inl fy)), (qgz, .inl (cI, 36, .inl fz)), (qgu, .inl (cZ, 36, .inl fu))]) (w1 := [(qg, .inr (5, [.ref qgw, .ref qgh, .ref qgt, .int br, .int jC, .int jR, .int nf, .ref qgx, .ref qgy, .ref qgz, .ref qgu, .int (n_X5_may_qg_11 (if co < 1 then 0 else (if 6 < co then 0 else (if ro < 1 then 0 else (if 6 < ro then 0 else 1)))))]))]) hP hD [0] [1, 2, 3, 4] rfl rfl (by decide) (by decide) hk1 hFc hP1 hD1
    have hP := hP.sub (ws' := [(qg, .inr (5, [.ref qgw, .ref qgh, .ref qgt, .int br, .int jC, .int jR, .int nf, .ref qgx, .ref qgy, .ref qgz, .ref qgu, .int (n_X5_may_qg_11 (if co < 1 then 0 else (if 6 < co then 0 else (if ro < 1 then 0 else (if 6 < ro then 0 else 1)))))])), (qgx, .inl (cI, 36, .inl fx)), (qgy, .inl (cI, 36, .inl fy)), (qgz, .inl (cI, 36, .inl fz)), (qgu, .inl (cZ, 36, .inl fu))]) [4, 0, 1, 2, 3] rfl
    have hD := hD.sub (ws' := [(qg, .inr (5, [.ref qgw, .ref qgh, .ref qgt, .int br, .int jC, .int jR, .int nf, .ref qgx, .ref qgy, .ref qgz, .ref qgu, .int (n_X5_may_qg_11 (if co < 1 then 0 else (if 6 < co then 0 else (if ro < 1 then 0 else (if 6 < ro then 0 else 1)))))])), (qgx, .inl (cI, 36, .inl fx)), (qgy, .inl (cI, 36, .inl fy)), (qgz, .inl (cI, 36, .inl fz)), (qgu, .inl (cZ, 36, .inl fu))]) [4, 0, 1, 2, 3] (by decide) rfl
    refine lv_if_eq (tgt := 48) hx hb dX5_sheet_31 (by decide) (fun c13 => ?_) (fun c13 => ?_)
    · have e14 : n_X5_sheet_qg_4 jC co ro = jC := by
        unfold n_X5_sheet_qg_4
        exact (if_pos c13)
      have e15 : n_X5_sheet_qg_5 jR co ro = jR := by
        unfold n_X5_sheet_qg_5
        exact (if_pos c13)
      have e16 : n_X5_sheet_qg_6 nf co ro = nf := by
        unfold n_X5_sheet_qg_6
        exact (if_pos c13)
      have e17 : n_X5_sheet_qg_11 co ro = n_X5_may_qg_11 (if co < 1 then 0 else (if 6 < co then 0 else (if ro < 1 then 0 else (if 6 < ro then 0 else 1)))) := by
        unfold n_X5_sheet_qg_11
        exact (if_pos c13)
      have e18 : n_X5_sheet_qgx fx co ro = fx := by
        unfold n_X5_sheet_qgx
        exact (if_pos c13)
      have e19 : n_X5_sheet_qgy fy co ro = fy := by
        unfold n_X5_sheet_qgy
        exact (if_pos c13)
      have e20 : n_X5_sheet_qgz fz co ro = fz := by
        unfold n_X5_sheet_qgz
        exact (if_pos c13)
      have e21 : n_X5_sheet_qgu fu co ro = fu := by
        unfold n_X5_sheet_qgu
        exact (if_pos c13)
      exact W.vret hx hb hr (fun t ht hW => ⟨⟨(), rfl, trivial, ⟨(by rw [e14, e15, e16, e17, e18, e19, e20, e21]; rw [ht]; exact hP), va_K.moved hW.alike hK, (by rw [e14, e15, e16, e17, e18, e19, e20, e21]; exact hD)⟩⟩, hS.F ht⟩) hS.2.2 dX5_sheet_48
    · refine lv_aload_n hx hb dX5_sheet_34 rfl (lv_at hl 0 rfl) ?_
      refine lv_iload_n hx hb dX5_sheet_35 rfl (lv_at hl 1 rfl) ?_
      refine va_put (D := D) (ci := 5) (v := .int co) (ty := .int) (C := RX5) (T := TX5) (N := 12) hx hb hts (fun w h => List.mem_cons_of_mem _ (List.mem_append_right _ h)) tyX5 tyX5_ok nmX5 hown hK hP hD hS 0 rfl rfl 4 (by decide) (hts (.fieldLink RX5 36 "AtlasFolderModel" "columns" "I") (List.mem_cons_of_mem _ (List.mem_append_left _ (List.mem_of_getElem? (i := 0) rfl)))) (fun _ h9 => h9) rfl (by decide +kernel) rfl rfl (Nat.le_of_ble_eq_true rfl) dX5_sheet_36 (fun H locs hP hD hS => ?_)
      have hP : va_P D vwCl [(qg, .inr (5, [.ref qgw, .ref qgh, .ref qgt, .int br, .int co, .int jR, .int nf, .ref qgx, .ref qgy, .ref qgz, .ref qgu, .int (n_X5_may_qg_11 (if co < 1 then 0 else (if 6 < co then 0 else (if ro < 1 then 0 else (if 6 < ro then 0 else 1)))))])), (qgx, .inl (cI, 36, .inl fx)), (qgy, .inl (cI, 36, .inl fy)), (qgz, .inl (cI, 36, .inl fz)), (qgu, .inl (cZ, 36, .inl fu))] H := hP
      have hD : va_D A [(qg, .inr (5, [.ref qgw, .ref qgh, .ref qgt, .int br, .int co, .int jR, .int nf, .ref qgx, .ref qgy, .ref qgz, .ref qgu, .int (n_X5_may_qg_11 (if co < 1 then 0 else (if 6 < co then 0 else (if ro < 1 then 0 else (if 6 < ro then 0 else 1)))))])), (qgx, .inl (cI, 36, .inl fx)), (qgy, .inl (cI, 36, .inl fy)), (qgz, .inl (cI, 36, .inl fz)), (qgu, .inl (cZ, 36, .inl fu))] := hD
      refine lv_aload_n hx hb dX5_sheet_39 rfl (lv_at hl 0 rfl) ?_
      refine lv_iload_n hx hb dX5_sheet_40 rfl (lv_at hl 2 rfl) ?_
      refine va_put (D := D) (ci := 5) (v := .int ro) (ty := .int) (C := RX5) (T := TX5) (N := 12) hx hb hts (fun w h => List.mem_cons_of_mem _ (List.mem_append_right _ h)) tyX5 tyX5_ok nmX5 hown hK hP hD hS 0 rfl rfl 5 (by decide) (hts (.fieldLink RX5 39 "AtlasFolderModel" "rows" "I") (List.mem_cons_of_mem _ (List.mem_append_left _ (List.mem_of_getElem? (i := 1) rfl)))) (fun _ h9 => h9) rfl (by decide +kernel) rfl rfl (Nat.le_of_ble_eq_true rfl) dX5_sheet_41 (fun H locs hP hD hS => ?_)
      have hP : va_P D vwCl [(qg, .inr (5, [.ref qgw, .ref qgh, .ref qgt, .int br, .int co, .int ro, .int nf, .ref qgx, .ref qgy, .ref qgz, .ref qgu, .int (n_X5_may_qg_11 (if co < 1 then 0 else (if 6 < co then 0 else (if ro < 1 then 0 else (if 6 < ro then 0 else 1)))))])), (qgx, .inl (cI, 36, .inl fx)), (qgy, .inl (cI, 36, .inl fy)), (qgz, .inl (cI, 36, .inl fz)), (qgu, .inl (cZ, 36, .inl fu))] H := hP
      have hD : va_D A [(qg, .inr (5, [.ref qgw, .ref qgh, .ref qgt, .int br, .int co, .int ro, .int nf, .ref qgx, .ref qgy, .ref qgz, .ref qgu, .int (n_X5_may_qg_11 (if co < 1 then 0 else (if 6 < co then 0 else (if ro < 1 then 0 else (if 6 < ro then 0 else 1)))))])), (qgx, .inl (cI, 36, .inl fx)), (qgy, .inl (cI, 36, .inl fy)), (qgz, .inl (cI, 36, .inl fz)), (qgu, .inl (cZ, 36, .inl fu))] := hD
      refine lv_aload_n hx hb dX5_sheet_44 rfl (lv_at hl 0 rfl) ?_
      have hPc := hP.sub (ws' := [(qg, .inr (5, [.ref qgw, .ref qgh, .ref qgt, .int br, .int co, .int ro, .int nf, .ref qgx, .ref qgy, .ref qgz, .ref qgu, .int (n_X5_may_qg_11 (if co < 1 then 0 else (if 6 < co then 0 else (if ro < 1 then 0 else (if 6 < ro then 0 else 1)))))])), (qgx, .inl (cI, 36, .inl fx)), (qgy, .inl (cI, 36, .inl fy)), (qgz, .inl (cI, 36, .inl fz)), (qgu, .inl (cZ, 36, .inl fu))]) [0, 1, 2, 3, 4] rfl
      have hDc := hD.sub (ws' := [(qg, .inr (5, [.ref qgw, .ref qgh, .ref qgt, .int br, .int co, .int ro, .int nf, .ref qgx, .ref qgy, .ref qgz, .ref qgu, .int (n_X5_may_qg_11 (if co < 1 then 0 else (if 6 < co then 0 else (if ro < 1 then 0 else (if 6 < ro then 0 else 1)))))])), (qgx, .inl (cI, 36, .inl fx)), (qgy, .inl (cI, 36, .inl fy)), (qgz, .inl (cI, 36, .inl fz)), (qgu, .inl (cZ, 36, .inl fu))]) [0, 1, 2, 3, 4] (by decide) rfl
      have hFc := va_free (wc := [(qg, .inr (5, [.ref qgw, .ref qgh, .ref qgt, .int br, .int co, .int ro, .int nf, .ref qgx, .ref qgy, .ref qgz, .ref qgu, .int (n_X5_may_qg_11 (if co < 1 then 0 else (if 6 < co then 0 else (if ro < 1 then 0 else (if 6 < ro then 0 else 1)))))])), (qgx, .inl (cI, 36, .inl fx)), (qgy, .inl (cI, 36, .inl fy)), (qgz, .inl (cI, 36, .inl fz)), (qgu, .inl (cZ, 36, .inl fu))]) hD hS hA [0, 1, 2, 3, 4] rfl
      refine va_callv (va_runV (As := []) (rest := []) ⟨hx, hb, hml, hown, hts⟩ (c_X5_lay l D cI cZ cJ cD qg qgw qgh qgt br co ro nf qgx qgy qgz qgu (n_X5_may_qg_11 (if co < 1 then 0 else (if 6 < co then 0 else (if ro < 1 then 0 else (if 6 < ro then 0 else 1))))) fx fy fz fu H.size ) (cwV 0 hts gX5_sheet_X5_lay rfl rfl rfl (by decide +kernel) ⟨Nat.le_of_ble_eq_true rfl, Nat.le_of_ble_eq_true rfl⟩) ⟨zblindW, va_recv hK hP (ci := 5) (q0 := 0) rfl rfl, (fun U hU hW => ⟨rfl, by rw [hU], by rw [hU]; exact hPc, va_K.moved hW.alike hK, hDc.weaken (fun _ _ _ _ => trivial)⟩)⟩ rfl rfl hl.1 rfl (lv_room (Nat.le_of_ble_eq_true rfl)) dX5_sheet_45 ⟨Nat.le_of_ble_eq_true rfl, Nat.le_of_ble_eq_true rfl⟩) hS (fun q _ h => hFc q h) hFc (fun u t H locs ht hvm hw hB hz1 hk1 hS => ?_)
      obtain ⟨hP1, hK1, hD1⟩ := hB
      rw [ht] at hP1
      obtain ⟨hP, hD⟩ := va_join (wr := []) (w1 := [(qg, .inr (5, [.ref qgw, .ref qgh, .ref qgt, .int br, .int co, .int ro, .int n_X5_lay_qg_6, .ref qgx, .ref qgy, .ref qgz, .ref qgu, .int (n_X5_may_qg_11 (if co < 1 then 0 else (if 6 < co then 0 else (if ro < 1 then 0 else (if 6 < ro then 0 else 1)))))])), (qgx, .inl (cI, 36, .inl (n_X5_lay_qgx fx))), (qgy, .inl (cI, 36, .inl (n_X5_lay_qgy fy))), (qgz, .inl (cI, 36, .inl (n_X5_lay_qgz fz))), (qgu, .inl (cZ, 36, .inl (n_X5_lay_qgu fu)))]) hP hD [0, 1, 2, 3, 4] [] rfl rfl (by decide) (by decide) hk1 hFc hP1 hD1
      have hP := hP.sub (ws' := [(qg, .inr (5, [.ref qgw, .ref qgh, .ref qgt, .int br, .int co, .int ro, .int n_X5_lay_qg_6, .ref qgx, .ref qgy, .ref qgz, .ref qgu, .int (n_X5_may_qg_11 (if co < 1 then 0 else (if 6 < co then 0 else (if ro < 1 then 0 else (if 6 < ro then 0 else 1)))))])), (qgx, .inl (cI, 36, .inl (n_X5_lay_qgx fx))), (qgy, .inl (cI, 36, .inl (n_X5_lay_qgy fy))), (qgz, .inl (cI, 36, .inl (n_X5_lay_qgz fz))), (qgu, .inl (cZ, 36, .inl (n_X5_lay_qgu fu)))]) [0, 1, 2, 3, 4] rfl
      have hD := hD.sub (ws' := [(qg, .inr (5, [.ref qgw, .ref qgh, .ref qgt, .int br, .int co, .int ro, .int n_X5_lay_qg_6, .ref qgx, .ref qgy, .ref qgz, .ref qgu, .int (n_X5_may_qg_11 (if co < 1 then 0 else (if 6 < co then 0 else (if ro < 1 then 0 else (if 6 < ro then 0 else 1)))))])), (qgx, .inl (cI, 36, .inl (n_X5_lay_qgx fx))), (qgy, .inl (cI, 36, .inl (n_X5_lay_qgy fy))), (qgz, .inl (cI, 36, .inl (n_X5_lay_qgz fz))), (qgu, .inl (cZ, 36, .inl (n_X5_lay_qgu fu)))]) [0, 1, 2, 3, 4] (by decide) rfl
      have e23 : n_X5_sheet_qg_4 jC co ro = co := by
        unfold n_X5_sheet_qg_4
        exact (if_neg c13)
      have e24 : n_X5_sheet_qg_5 jR co ro = ro := by
        unfold n_X5_sheet_qg_5
        exact (if_neg c13)
      have e25 : n_X5_sheet_qg_6 nf co ro = n_X5_lay_qg_6 := by
        unfold n_X5_sheet_qg_6
        exact (if_neg c13)
      have e26 : n_X5_sheet_qg_11 co ro = (n_X5_may_qg_11 (if co < 1 then 0 else (if 6 < co then 0 else (if ro < 1 then 0 else (if 6 < ro then 0 else 1))))) := by
        unfold n_X5_sheet_qg_11
        exact (if_neg c13)
      have e27 : n_X5_sheet_qgx fx co ro = n_X5_lay_qgx fx := by
        unfold n_X5_sheet_qgx
        exact (if_neg c13)
      have e28 : n_X5_sheet_qgy fy co ro = n_X5_lay_qgy fy := by
        unfold n_X5_sheet_qgy
        exact (if_neg c13)
      have e29 : n_X5_sheet_qgz fz co ro = n_X5_lay_qgz fz := by
        unfold n_X5_sheet_qgz
        exact (if_neg c13)
      have e30 : n_X5_sheet_qgu fu co ro = n_X5_lay_qgu fu := by
        unfold n_X5_sheet_qgu
        exact (if_neg c13)
      exact W.vret hx hb hr (fun t ht hW => ⟨⟨(), rfl, trivial, ⟨(by rw [e23, e24, e25, e26, e27, e28, e29, e30]; rw [ht]; exact hP), va_K.moved hW.alike hK, (by rw [e23, e24, e25, e26, e27, e28, e29, e30]; exact hD)⟩⟩, hS.F ht⟩) hS.2.2 dX5_sheet_48
  refine lv_icmp_lt (tgt := 27) hx hb dX5_sheet_3 (by decide) (fun c31 => ?_) (fun c31 => ?_)
  · refine lv_iconst (v := 0) hx hb dX5_sheet_27 (by decide) ?_
    exact K11 _ (if_pos c31).symm _ _ hP hD hS _ (lv_sub hl [0, 1, 2] rfl)
  · refine lv_iload_n hx hb dX5_sheet_6 rfl (lv_at hl 1 rfl) ?_
    refine lv_bipush (v := 6) hx hb dX5_sheet_7 (by decide) ?_
    refine lv_icmp_gt (tgt := 27) hx hb dX5_sheet_9 (by decide) (fun c32 => ?_) (fun c32 => ?_)
    · refine lv_iconst (v := 0) hx hb dX5_sheet_27 (by decide) ?_
      exact K11 _ ((if_neg c31).trans (if_pos c32)).symm _ _ hP hD hS _ (lv_sub hl [0, 1, 2] rfl)
    · refine lv_iload_n hx hb dX5_sheet_12 rfl (lv_at hl 2 rfl) ?_
      refine lv_iconst (v := 1) hx hb dX5_sheet_13 (by decide) ?_
      refine lv_icmp_lt (tgt := 27) hx hb dX5_sheet_14 (by decide) (fun c33 => ?_) (fun c33 => ?_)
      · refine lv_iconst (v := 0) hx hb dX5_sheet_27 (by decide) ?_
        exact K11 _ ((if_neg c31).trans ((if_neg c32).trans (if_pos c33))).symm _ _ hP hD hS _ (lv_sub hl [0, 1, 2] rfl)
      · refine lv_iload_n hx hb dX5_sheet_17 rfl (lv_at hl 2 rfl) ?_
        refine lv_bipush (v := 6) hx hb dX5_sheet_18 (by decide) ?_
        refine lv_icmp_gt (tgt := 27) hx hb dX5_sheet_20 (by decide) (fun c34 => ?_) (fun c34 => ?_)
        · refine lv_iconst (v := 0) hx hb dX5_sheet_27 (by decide) ?_
          exact K11 _ ((if_neg c31).trans ((if_neg c32).trans ((if_neg c33).trans (if_pos c34)))).symm _ _ hP hD hS _ (lv_sub hl [0, 1, 2] rfl)
        · refine lv_iconst (v := 1) hx hb dX5_sheet_23 (by decide) ?_
          refine lv_goto (tgt := 28) hx hb dX5_sheet_24 (by decide) ?_
          exact K11 _ ((if_neg c31).trans ((if_neg c32).trans ((if_neg c33).trans (if_neg c34)))).symm _ _ hP hD hS _ (lv_sub hl [0, 1, 2] rfl)
def lp_X5_ahead_5 (jC : Int32) (jR : Int32) (fx : Nat → Int32) (fy : Nat → Int32) (b : Int32) (bc : Int32) : Nat → Int32
  | 0 => 0
  | k + 1 => (lp_X5_ahead_5 jC jR fx fy b bc k) + (if (s_X5_isPanel jC jR (nI k)) = 0 then 0 else (if b ≤ (if bc = 0 then fy (nI k).toNatClampNeg else fx (nI k).toNatClampNeg) then 0 else 1))
def s_X5_ahead (jC : Int32) (jR : Int32) (fx : Nat → Int32) (fy : Nat → Int32) (b : Int32) (bc : Int32) : Int32 := lp_X5_ahead_5 jC jR fx fy b bc 36
abbrev rm_X5_ahead : Room := { frames := 1, cells := 0, slots := 0, locals := 21 }
abbrev Qc_X5_ahead (D : va_G) (cI cZ cJ cD : ClassId) (qg : Nat) (qgw : Nat) (qgh : Nat) (qgt : Nat) (br : Int32) (jC : Int32) (jR : Int32) (nf : Int32) (qgx : Nat) (qgy : Nat) (qgz : Nat) (qgu : Nat) (th : Int32) (fx : Nat → Int32) (fy : Nat → Int32) (b : Int32) (bc : Int32) : Array Value → State → Outcome → State → Prop := va_Qi (fun (r : Int32) (_ : Unit) => r = s_X5_ahead jC jR fx fy b bc) (fun _ _ => True) (fun _ : Nat => False)
set_option maxHeartbeats 1000000 in
set_option maxRecDepth 100000 in
theorem c_X5_ahead (l : Launch) (D : va_G) (cI cZ cJ cD : ClassId) (qg : Nat) (qgw : Nat) (qgh : Nat) (qgt : Nat) (br : Int32) (jC : Int32) (jR : Int32) (nf : Int32) (qgx : Nat) (qgy : Nat) (qgz : Nat) (qgu : Nat) (th : Int32) (fx : Nat → Int32) (fy : Nat → Int32) (b : Int32) (bc : Int32)  : Met l yX5_ahead wsX5_ahead rm_X5_ahead (va_Pc [.ref qg, .int b, .int bc] (zPre D cI cZ cJ cD [(qg, .inr (5, [.ref qgw, .ref qgh, .ref qgt, .int br, .int jC, .int jR, .int nf, .ref qgx, .ref qgy, .ref qgz, .ref qgu, .int th])), (qgx, .inl (cI, 36, .inl fx)), (qgy, .inl (cI, 36, .inl fy))])) (Qc_X5_ahead D cI cZ cJ cD qg qgw qgh qgt br jC jR nf qgx qgy qgz qgu th fx fy b bc ) 0 0 (fun _ : Nat => False) := by
  refine Met.ofW (cc := cX5_ahead) (maxL := 5) (ret := (some .int)) (by decide) rfl ?_
  intro p e s m args below meth c s₁ B hml hv
  obtain ⟨rfl, hP, hK⟩ := hv
  have hx := B.exec
  have hb := B.bytes
  have hr := B.returns
  have hts := atoms_spec (ws := wsX5_ahead) B.pre
  have hown : s.vm.findClass RX5 = some m.cls := findClass_of_methodNamed B.named
  have hlocks := B.notSynchronized
  have hS : va_S (fun _ : Nat => False) s.heap s.heap [] := va_S.rf
  have hl := lv_entry ([.ref qg, .int b, .int bc]) (n := 5) (Nat.le_of_ble_eq_true rfl)
  rw [lg_entry_eq]
  generalize (lg_sl ([.ref qg, .int b, .int bc]) ++ List.replicate (5 - (lg_sl ([.ref qg, .int b, .int bc])).length) Slot.unset).toArray = ls at hl ⊢
  have hl : lv_has ls 5 [(0, .ref qg), (1, .int b), (2, .int bc)] := hl
  have hP : va_P D vwCl [(qg, .inr (5, [.ref qgw, .ref qgh, .ref qgt, .int br, .int jC, .int jR, .int nf, .ref qgx, .ref qgy, .ref qgz, .ref qgu, .int th])), (qgx, .inl (cI, 36, .inl fx)), (qgy, .inl (cI, 36, .inl fy))] s.heap := hP
  have hP := hP
  refine lv_iconst (v := 0) hx hb dX5_ahead_0 (by decide) ?_
  refine lv_istore_n (lv' := [(3, .int 0), (0, .ref qg), (1, .int b), (2, .int bc)]) hx hb dX5_ahead_1 rfl hl (by decide) rfl (fun ls hl => ?_)
  refine lv_iconst (v := 0) hx hb dX5_ahead_2 (by decide) ?_
  refine lv_istore (lv' := [(4, .int 0), (3, .int 0), (0, .ref qg), (1, .int b), (2, .int bc)]) hx hb dX5_ahead_3 hl (by decide) rfl (fun ls hl => ?_)
  have X1 : ∀ (H : Heap) (locs : List Loc), va_P D vwCl [(qg, .inr (5, [.ref qgw, .ref qgh, .ref qgt, .int br, .int jC, .int jR, .int nf, .ref qgx, .ref qgy, .ref qgz, .ref qgu, .int th])), (qgx, .inl (cI, 36, .inl fx)), (qgy, .inl (cI, 36, .inl fy))] H → va_S (fun _ : Nat => False) s.heap H locs → ∀ (ls : Array Slot), lv_has ls 5 [(0, .ref qg), (1, .int b), (2, .int bc), (3, .int (lp_X5_ahead_5 jC jR fx fy b bc 36))] → W p l e (headSpec wsX5_ahead rm_X5_ahead).room s m ([.ref qg, .int b, .int bc]).toArray below meth c H locs 0 0 (MQ below (Qc_X5_ahead D cI cZ cJ cD qg qgw qgh qgt br jC jR nf qgx qgy qgz qgu th fx fy b bc) ([.ref qg, .int b, .int bc]).toArray s 0 0 (fun _ : Nat => False)) (F0 m 60 ls []) := by
    intro H locs hP hS ls hl
    refine lv_iload_n hx hb dX5_ahead_60 rfl (lv_at hl 3 rfl) ?_
    have e2 : s_X5_ahead jC jR fx fy b bc = lp_X5_ahead_5 jC jR fx fy b bc 36 := rfl
    exact W.iret (v := (lp_X5_ahead_5 jC jR fx fy b bc 36)) hx hb hr (fun t ht hW => ⟨⟨_, (), rfl, e2.symm, trivial⟩, hS.F ht⟩) hS.2.2 dX5_ahead_61
  have L1 : ∀ (n k : Nat) (acc : Int32), k ≤ 36 → 36 < k + n → acc = lp_X5_ahead_5 jC jR fx fy b bc k → ∀ (H : Heap) (locs : List Loc), va_P D vwCl [(qg, .inr (5, [.ref qgw, .ref qgh, .ref qgt, .int br, .int jC, .int jR, .int nf, .ref qgx, .ref qgy, .ref qgz, .ref qgu, .int th])), (qgx, .inl (cI, 36, .inl fx)), (qgy, .inl (cI, 36, .inl fy))] H → va_S (fun _ : Nat => False) s.heap H locs → ∀ (ls : Array Slot), lv_has ls 5 [(0, .ref qg), (1, .int b), (2, .int bc), (4, .int (nI k)), (3, .int acc)] → W p l e (headSpec wsX5_ahead rm_X5_ahead).room s m ([.ref qg, .int b, .int bc]).toArray below meth c H locs 0 0 (MQ below (Qc_X5_ahead D cI cZ cJ cD qg qgw qgh qgt br jC jR nf qgx qgy qgz qgu th fx fy b bc) ([.ref qg, .int b, .int bc]).toArray s 0 0 (fun _ : Nat => False)) (F0 m 5 ls []) := by
    intro n
    induction n with
    | zero =>
      intro k acc hk hf
      exact absurd hf (by omega)
    | succ n ih =>
      intro k acc hk hf hacc H locs hP hS ls hl
      subst hacc
      refine lv_iload hx hb dX5_ahead_5 (lv_at hl 3 rfl) ?_
      refine lv_bipush (v := 36) hx hb dX5_ahead_7 (by decide) ?_
      refine lv_icmp_ge (tgt := 60) hx hb dX5_ahead_9 (by decide) (fun c3 => ?_) (fun c3 => ?_)
      · have hge : 36 ≤ k := (z_36g hk c3)
        have ek : k = 36 := by omega
        subst ek
        exact X1 _ _ hP hS _ (lv_sub hl [0, 1, 2, 4] rfl)
      · refine lv_iload_n hx hb dX5_ahead_12 rfl (lv_at hl 4 rfl) ?_
        refine lv_aload_n hx hb dX5_ahead_13 rfl (lv_at hl 0 rfl) ?_
        refine lv_iload hx hb dX5_ahead_14 (lv_at hl 3 rfl) ?_
        refine va_calli (va_runV (As := [.int (nI k)]) (rest := [.int (lp_X5_ahead_5 jC jR fx fy b bc k)]) ⟨hx, hb, hml, hown, hts⟩ (c_X5_isPanel l D cI cZ cJ cD qg qgw qgh qgt br jC jR nf qgx qgy qgz qgu th (nI k) ) (cwV 1 hts gX5_ahead_X5_isPanel rfl rfl rfl (by decide +kernel) ⟨Nat.le_of_ble_eq_true rfl, Nat.le_of_ble_eq_true rfl⟩) ⟨zblind, va_recv hK hP (ci := 5) (q0 := 0) rfl rfl, (fun U hU hW => ⟨rfl, by rw [hU]; exact hP.sub (ws' := [(qg, .inr (5, [.ref qgw, .ref qgh, .ref qgt, .int br, .int jC, .int jR, .int nf, .ref qgx, .ref qgy, .ref qgz, .ref qgu, .int th]))]) [0] rfl, va_K.moved hW.alike hK⟩)⟩ rfl rfl hl.1 rfl (lv_room (Nat.le_of_ble_eq_true rfl)) dX5_ahead_16 ⟨Nat.le_of_ble_eq_true rfl, Nat.le_of_ble_eq_true rfl⟩) hS (fun q _ h => h.elim) (fun q h => h.elim) (fun r4 u t H locs ht hvm hw hB hz1 hk1 hS => ?_)
        rw [hw]
        have hP := zk hP hk1
        have K6 : ∀ v6_0 : Int32, v6_0 = (if (s_X5_isPanel jC jR (nI k)) = 0 then 0 else (if b ≤ (if bc = 0 then fy (nI k).toNatClampNeg else fx (nI k).toNatClampNeg) then 0 else 1)) → ∀ (H : Heap) (locs : List Loc), va_P D vwCl [(qg, .inr (5, [.ref qgw, .ref qgh, .ref qgt, .int br, .int jC, .int jR, .int nf, .ref qgx, .ref qgy, .ref qgz, .ref qgu, .int th])), (qgx, .inl (cI, 36, .inl fx)), (qgy, .inl (cI, 36, .inl fy))] H → va_S (fun _ : Nat => False) s.heap H locs → ∀ (ls : Array Slot), lv_has ls 5 [(0, .ref qg), (1, .int b), (2, .int bc), (4, .int (nI k)), (3, .int (lp_X5_ahead_5 jC jR fx fy b bc k))] → W p l e (headSpec wsX5_ahead rm_X5_ahead).room s m ([.ref qg, .int b, .int bc]).toArray below meth c H locs 0 0 (MQ below (Qc_X5_ahead D cI cZ cJ cD qg qgw qgh qgt br jC jR nf qgx qgy qgz qgu th fx fy b bc) ([.ref qg, .int b, .int bc]).toArray s 0 0 (fun _ : Nat => False)) (F0 m 52 ls [.int v6_0, .int (lp_X5_ahead_5 jC jR fx fy b bc k)]) := by
          intro v6_0 hv6_0 H locs hP hS ls hl
          subst hv6_0
          refine lv_iadd hx hb dX5_ahead_52 ?_
          refine lv_istore_n (lv' := [(3, .int ((lp_X5_ahead_5 jC jR fx fy b bc k) + (if (s_X5_isPanel jC jR (nI k)) = 0 then 0 else (if b ≤ (if bc = 0 then fy (nI k).toNatClampNeg else fx (nI k).toNatClampNeg) then 0 else 1)))), (0, .ref qg), (1, .int b), (2, .int bc), (4, .int (nI k))]) hx hb dX5_ahead_53 rfl hl (by decide) rfl (fun ls hl => ?_)
          refine lv_iinc (v := nI (k + 1)) (lv' := [(4, .int (nI (k + 1))), (3, .int ((lp_X5_ahead_5 jC jR fx fy b bc k) + (if (s_X5_isPanel jC jR (nI k)) = 0 then 0 else (if b ≤ (if bc = 0 then fy (nI k).toNatClampNeg else fx (nI k).toNatClampNeg) then 0 else 1)))), (0, .ref qg), (1, .int b), (2, .int bc)]) hx hb dX5_ahead_54 hl (k := 4) rfl (nI_succ k).symm (by decide) rfl (fun ls hl => ?_)
          refine lv_goto (tgt := 5) hx hb dX5_ahead_57 (by decide) ?_
          have hlt : k < 36 := (z_36l hk c3)
          exact ih (k + 1) _ (by omega) (by omega) rfl _ _ hP hS _ (lv_sub hl [2, 3, 4, 0, 1] rfl)
        refine lv_if_eq (tgt := 51) hx hb dX5_ahead_19 (by decide) (fun c7 => ?_) (fun c7 => ?_)
        · refine lv_iconst (v := 0) hx hb dX5_ahead_51 (by decide) ?_
          exact K6 _ (if_pos c7).symm _ _ hP hS _ (lv_sub hl [0, 1, 2, 3, 4] rfl)
        · refine lv_iload_n hx hb dX5_ahead_22 rfl (lv_at hl 2 rfl) ?_
          have K9 : ∀ v9_0 : Int32, v9_0 = (if bc = 0 then fy (nI k).toNatClampNeg else fx (nI k).toNatClampNeg) → ∀ (H : Heap) (locs : List Loc), va_P D vwCl [(qg, .inr (5, [.ref qgw, .ref qgh, .ref qgt, .int br, .int jC, .int jR, .int nf, .ref qgx, .ref qgy, .ref qgz, .ref qgu, .int th])), (qgx, .inl (cI, 36, .inl fx)), (qgy, .inl (cI, 36, .inl fy))] H → va_S (fun _ : Nat => False) s.heap H locs → ∀ (ls : Array Slot), lv_has ls 5 [(0, .ref qg), (1, .int b), (2, .int bc), (4, .int (nI k)), (3, .int (lp_X5_ahead_5 jC jR fx fy b bc k))] → W p l e (headSpec wsX5_ahead rm_X5_ahead).room s m ([.ref qg, .int b, .int bc]).toArray below meth c H locs 0 0 (MQ below (Qc_X5_ahead D cI cZ cJ cD qg qgw qgh qgt br jC jR nf qgx qgy qgz qgu th fx fy b bc) ([.ref qg, .int b, .int bc]).toArray s 0 0 (fun _ : Nat => False)) (F0 m 43 ls [.int v9_0, .int (lp_X5_ahead_5 jC jR fx fy b bc k)]) := by
            intro v9_0 hv9_0 H locs hP hS ls hl
            subst hv9_0
            refine lv_iload_n hx hb dX5_ahead_43 rfl (lv_at hl 1 rfl) ?_
            refine lv_icmp_ge (tgt := 51) hx hb dX5_ahead_44 (by decide) (fun c10 => ?_) (fun c10 => ?_)
            · refine lv_iconst (v := 0) hx hb dX5_ahead_51 (by decide) ?_
              exact K6 _ ((if_neg c7).trans (if_pos c10)).symm _ _ hP hS _ (lv_sub hl [0, 1, 2, 3, 4] rfl)
            · refine lv_iconst (v := 1) hx hb dX5_ahead_47 (by decide) ?_
              refine lv_goto (tgt := 52) hx hb dX5_ahead_48 (by decide) ?_
              exact K6 _ ((if_neg c7).trans (if_neg c10)).symm _ _ hP hS _ (lv_sub hl [0, 1, 2, 3, 4] rfl)
          refine lv_if_eq (tgt := 36) hx hb dX5_ahead_23 (by decide) (fun c11 => ?_) (fun c11 => ?_)
          · refine lv_aload_n hx hb dX5_ahead_36 rfl (lv_at hl 0 rfl) ?_
            refine va_get (D := D) (ci := 5) (v := .ref qgy) (C := RX5) (T := TX5) (N := 12) hx hb hts (fun w h => List.mem_cons_of_mem _ (List.mem_append_right _ h)) hown hK hP 0 rfl rfl 8 (by decide) (hts (.fieldLink RX5 26 "AtlasFolderModel" "atY" "[I") (List.mem_cons_of_mem _ (List.mem_append_left _ (List.mem_of_getElem? (i := 1) rfl)))) (fun _ h9 => h9) rfl dX5_ahead_37 ?_
            refine lv_iload hx hb dX5_ahead_40 (lv_at hl 3 rfl) ?_
            refine va_iald hx hb hK hP 2 0 rfl rfl (vp_in_nI (z_36l hk c3) (by omega)) dX5_ahead_42 ?_
            exact K9 _ (if_pos c11).symm _ _ hP hS _ (lv_sub hl [0, 1, 2, 3, 4] rfl)
          · refine lv_aload_n hx hb dX5_ahead_26 rfl (lv_at hl 0 rfl) ?_
            refine va_get (D := D) (ci := 5) (v := .ref qgx) (C := RX5) (T := TX5) (N := 12) hx hb hts (fun w h => List.mem_cons_of_mem _ (List.mem_append_right _ h)) hown hK hP 0 rfl rfl 7 (by decide) (hts (.fieldLink RX5 23 "AtlasFolderModel" "atX" "[I") (List.mem_cons_of_mem _ (List.mem_append_left _ (List.mem_of_getElem? (i := 0) rfl)))) (fun _ h9 => h9) rfl dX5_ahead_27 ?_
            refine lv_iload hx hb dX5_ahead_30 (lv_at hl 3 rfl) ?_
            refine va_iald hx hb hK hP 1 0 rfl rfl (vp_in_nI (z_36l hk c3) (by omega)) dX5_ahead_32 ?_
            refine lv_goto (tgt := 43) hx hb dX5_ahead_33 (by decide) ?_
            exact K9 _ (if_neg c11).symm _ _ hP hS _ (lv_sub hl [0, 1, 2, 3, 4] rfl)
  exact L1 (36 + 1) 0 _ (Nat.zero_le _) (by omega) rfl _ _ hP hS _ (lv_sub hl [2, 3, 4, 0, 1] rfl)
def lp_X5_fold_44 (jC : Int32) (jR : Int32) (fz : Nat → Int32) : Nat → Int32
  | 0 => 0
  | k + 1 => (if (s_X5_isPanel jC jR (nI k)) = 0 then lp_X5_fold_44 jC jR fz k else (if (fz (nI k).toNatClampNeg) ≤ (lp_X5_fold_44 jC jR fz k) then lp_X5_fold_44 jC jR fz k else fz (nI k).toNatClampNeg))
def s_X5_fold (jC : Int32) (jR : Int32) (fx : Nat → Int32) (fy : Nat → Int32) (b : Int32) (bc : Int32) : Int32 := (if (s_X5_may (if (s_X5_ahead jC jR fx fy b bc) ≤ 0 then 0 else (if (jC * jR) ≤ (s_X5_ahead jC jR fx fy b bc) then 0 else 1))) = 0 then 0 else s_X5_ahead jC jR fx fy b bc)
def n_X5_fold_qg_6 (jC : Int32) (jR : Int32) (nf : Int32) (fx : Nat → Int32) (fy : Nat → Int32) (b : Int32) (bc : Int32) : Int32 := (if (s_X5_may (if (s_X5_ahead jC jR fx fy b bc) ≤ 0 then 0 else (if (jC * jR) ≤ (s_X5_ahead jC jR fx fy b bc) then 0 else 1))) = 0 then nf else nf + 1)
def n_X5_fold_qg_11 (jC : Int32) (jR : Int32) (fx : Nat → Int32) (fy : Nat → Int32) (b : Int32) (bc : Int32) : Int32 := n_X5_may_qg_11 (if (s_X5_ahead jC jR fx fy b bc) ≤ 0 then 0 else (if (jC * jR) ≤ (s_X5_ahead jC jR fx fy b bc) then 0 else 1))
def n_X5_fold_qgx (jC : Int32) (jR : Int32) (fx : Nat → Int32) (fy : Nat → Int32) (b : Int32) (bc : Int32) : Nat → Int32 := (if (s_X5_may (if (s_X5_ahead jC jR fx fy b bc) ≤ 0 then 0 else (if (jC * jR) ≤ (s_X5_ahead jC jR fx fy b bc) then 0 else 1))) = 0 then fx else zs (fun p => !decide ((s_X5_isPanel jC jR (nI p)) = 0) && !decide (b ≤ (if bc = 0 then fy p else fx p))) (fun p => if bc = 0 then fx p else 2 * b - 1 - fx p) fx 36)
def n_X5_fold_qgy (jC : Int32) (jR : Int32) (fx : Nat → Int32) (fy : Nat → Int32) (b : Int32) (bc : Int32) : Nat → Int32 := (if (s_X5_may (if (s_X5_ahead jC jR fx fy b bc) ≤ 0 then 0 else (if (jC * jR) ≤ (s_X5_ahead jC jR fx fy b bc) then 0 else 1))) = 0 then fy else zs (fun p => !decide ((s_X5_isPanel jC jR (nI p)) = 0) && !decide (b ≤ (if bc = 0 then fy p else fx p))) (fun p => if bc = 0 then 2 * b - 1 - fy p else fy p) fy 36)
def n_X5_fold_qgz (jC : Int32) (jR : Int32) (fx : Nat → Int32) (fy : Nat → Int32) (fz : Nat → Int32) (b : Int32) (bc : Int32) : Nat → Int32 := (if (s_X5_may (if (s_X5_ahead jC jR fx fy b bc) ≤ 0 then 0 else (if (jC * jR) ≤ (s_X5_ahead jC jR fx fy b bc) then 0 else 1))) = 0 then fz else zs (fun p => !decide ((s_X5_isPanel jC jR (nI p)) = 0) && !decide (b ≤ (if bc = 0 then fy p else fx p))) (fun p => 2 * (lp_X5_fold_44 jC jR fz 36) + 1 - fz p) fz 36)
def n_X5_fold_qgu (jC : Int32) (jR : Int32) (fx : Nat → Int32) (fy : Nat → Int32) (fu : Nat → Int32) (b : Int32) (bc : Int32) : Nat → Int32 := (if (s_X5_may (if (s_X5_ahead jC jR fx fy b bc) ≤ 0 then 0 else (if (jC * jR) ≤ (s_X5_ahead jC jR fx fy b bc) then 0 else 1))) = 0 then fu else zs (fun p => !decide ((s_X5_isPanel jC jR (nI p)) = 0) && !decide (b ≤ (if bc = 0 then fy p else fx p))) (fun p => if fu p = 0 then 1 else 0) fu 36)
abbrev rm_X5_fold : Room := { frames := 2, cells := 0, slots := 0, locals := 45 }
abbrev Qc_X5_fold (D : va_G) (cI cZ cJ cD : ClassId) (qg : Nat) (qgw : Nat) (qgh : Nat) (qgt : Nat) (br : Int32) (jC : Int32) (jR : Int32) (nf : Int32) (qgx : Nat) (qgy : Nat) (qgz : Nat) (qgu : Nat) (th : Int32) (fx : Nat → Int32) (fy : Nat → Int32) (fz : Nat → Int32) (fu : Nat → Int32) (b : Int32) (bc : Int32) (A : Nat → Prop) : Array Value → State → Outcome → State → Prop := va_Qi (fun (r : Int32) (_ : Unit) => r = s_X5_fold jC jR fx fy b bc) (zPost D cI cZ cJ cD A [(qg, .inr (5, [.ref qgw, .ref qgh, .ref qgt, .int br, .int jC, .int jR, .int (n_X5_fold_qg_6 jC jR nf fx fy b bc), .ref qgx, .ref qgy, .ref qgz, .ref qgu, .int (n_X5_fold_qg_11 jC jR fx fy b bc)])), (qgx, .inl (cI, 36, .inl (n_X5_fold_qgx jC jR fx fy b bc))), (qgy, .inl (cI, 36, .inl (n_X5_fold_qgy jC jR fx fy b bc))), (qgz, .inl (cI, 36, .inl (n_X5_fold_qgz jC jR fx fy fz b bc))), (qgu, .inl (cZ, 36, .inl (n_X5_fold_qgu jC jR fx fy fu b bc)))]) A
set_option maxHeartbeats 1000000 in
set_option maxRecDepth 100000 in
theorem c_X5_fold (l : Launch) (D : va_G) (cI cZ cJ cD : ClassId) (qg : Nat) (qgw : Nat) (qgh : Nat) (qgt : Nat) (br : Int32) (jC : Int32) (jR : Int32) (nf : Int32) (qgx : Nat) (qgy : Nat) (qgz : Nat) (qgu : Nat) (th : Int32) (fx : Nat → Int32) (fy : Nat → Int32) (fz : Nat → Int32) (fu : Nat → Int32) (b : Int32) (bc : Int32) (sz : Nat)  : Met l yX5_fold wsX5_fold rm_X5_fold (va_Pc [.ref qg, .int b, .int bc] (zPreW D cI cZ cJ cD [(qg, .inr (5, [.ref qgw, .ref qgh, .ref qgt, .int br, .int jC, .int jR, .int nf, .ref qgx, .ref qgy, .ref qgz, .ref qgu, .int th])), (qgx, .inl (cI, 36, .inl fx)), (qgy, .inl (cI, 36, .inl fy)), (qgz, .inl (cI, 36, .inl fz)), (qgu, .inl (cZ, 36, .inl fu))] sz)) (Qc_X5_fold D cI cZ cJ cD qg qgw qgh qgt br jC jR nf qgx qgy qgz qgu th fx fy fz fu b bc (va_A [(qg, .inr (5, [.ref qgw, .ref qgh, .ref qgt, .int br, .int jC, .int jR, .int nf, .ref qgx, .ref qgy, .ref qgz, .ref qgu, .int th])), (qgx, .inl (cI, 36, .inl fx)), (qgy, .inl (cI, 36, .inl fy)), (qgz, .inl (cI, 36, .inl fz)), (qgu, .inl (cZ, 36, .inl fu))] sz)) 0 0 (va_A [(qg, .inr (5, [.ref qgw, .ref qgh, .ref qgt, .int br, .int jC, .int jR, .int nf, .ref qgx, .ref qgy, .ref qgz, .ref qgu, .int th])), (qgx, .inl (cI, 36, .inl fx)), (qgy, .inl (cI, 36, .inl fy)), (qgz, .inl (cI, 36, .inl fz)), (qgu, .inl (cZ, 36, .inl fu))] sz) := by
  refine Met.ofW (cc := cX5_fold) (maxL := 6) (ret := (some .int)) (by decide) rfl ?_
  intro p e s m args below meth c s₁ B hml hv
  obtain ⟨rfl, hsz, hP, hK, hD0⟩ := hv
  have hx := B.exec
  have hb := B.bytes
  have hr := B.returns
  have hts := atoms_spec (ws := wsX5_fold) B.pre
  have hown : s.vm.findClass RX5 = some m.cls := findClass_of_methodNamed B.named
  have hlocks := B.notSynchronized
  subst hsz
  have hD := hD0.self (sz := s.heap.size)
  generalize hAe : va_A [(qg, .inr (5, [.ref qgw, .ref qgh, .ref qgt, .int br, .int jC, .int jR, .int nf, .ref qgx, .ref qgy, .ref qgz, .ref qgu, .int th])), (qgx, .inl (cI, 36, .inl fx)), (qgy, .inl (cI, 36, .inl fy)), (qgz, .inl (cI, 36, .inl fz)), (qgu, .inl (cZ, 36, .inl fu))] s.heap.size = A at hD ⊢
  have hA : ∀ q : Nat, s.heap.size ≤ q → A q := fun q h => by rw [← hAe]; exact Or.inr h
  have hS : va_S A s.heap s.heap [] := va_S.rf
  have hl := lv_entry ([.ref qg, .int b, .int bc]) (n := 6) (Nat.le_of_ble_eq_true rfl)
  rw [lg_entry_eq]
  generalize (lg_sl ([.ref qg, .int b, .int bc]) ++ List.replicate (6 - (lg_sl ([.ref qg, .int b, .int bc])).length) Slot.unset).toArray = ls at hl ⊢
  have hl : lv_has ls 6 [(0, .ref qg), (1, .int b), (2, .int bc)] := hl
  have hP : va_P D vwCl [(qg, .inr (5, [.ref qgw, .ref qgh, .ref qgt, .int br, .int jC, .int jR, .int nf, .ref qgx, .ref qgy, .ref qgz, .ref qgu, .int th])), (qgx, .inl (cI, 36, .inl fx)), (qgy, .inl (cI, 36, .inl fy)), (qgz, .inl (cI, 36, .inl fz)), (qgu, .inl (cZ, 36, .inl fu))] s.heap := hP
  have hP := hP
  refine lv_aload_n hx hb dX5_fold_0 rfl (lv_at hl 0 rfl) ?_
  refine lv_iload_n hx hb dX5_fold_1 rfl (lv_at hl 1 rfl) ?_
  refine lv_iload_n hx hb dX5_fold_2 rfl (lv_at hl 2 rfl) ?_
  refine va_calli (va_runV (As := [.int b, .int bc]) (rest := []) ⟨hx, hb, hml, hown, hts⟩ (c_X5_ahead l D cI cZ cJ cD qg qgw qgh qgt br jC jR nf qgx qgy qgz qgu th fx fy b bc ) (cwV 2 hts gX5_fold_X5_ahead rfl rfl rfl (by decide +kernel) ⟨Nat.le_of_ble_eq_true rfl, Nat.le_of_ble_eq_true rfl⟩) ⟨zblind, va_recv hK hP (ci := 5) (q0 := 0) rfl rfl, (fun U hU hW => ⟨rfl, by rw [hU]; exact hP.sub (ws' := [(qg, .inr (5, [.ref qgw, .ref qgh, .ref qgt, .int br, .int jC, .int jR, .int nf, .ref qgx, .ref qgy, .ref qgz, .ref qgu, .int th])), (qgx, .inl (cI, 36, .inl fx)), (qgy, .inl (cI, 36, .inl fy))]) [0, 1, 2] rfl, va_K.moved hW.alike hK⟩)⟩ rfl rfl hl.1 rfl (lv_room (Nat.le_of_ble_eq_true rfl)) dX5_fold_3 ⟨Nat.le_of_ble_eq_true rfl, Nat.le_of_ble_eq_true rfl⟩) hS (fun q _ h => h.elim) (fun q h => h.elim) (fun r8 u t H locs ht hvm hw hB hz1 hk1 hS => ?_)
  rw [hw]
  have hP := zk hP hk1
  refine lv_istore_n (lv' := [(3, .int (s_X5_ahead jC jR fx fy b bc)), (0, .ref qg), (1, .int b), (2, .int bc)]) hx hb dX5_fold_6 rfl hl (by decide) rfl (fun ls hl => ?_)
  refine lv_aload_n hx hb dX5_fold_7 rfl (lv_at hl 1 rfl) ?_
  refine lv_iload_n hx hb dX5_fold_8 rfl (lv_at hl 0 rfl) ?_
  have K10 : ∀ v10_0 : Int32, v10_0 = (if (s_X5_ahead jC jR fx fy b bc) ≤ 0 then 0 else (if (jC * jR) ≤ (s_X5_ahead jC jR fx fy b bc) then 0 else 1)) → ∀ (H : Heap) (locs : List Loc), va_P D vwCl [(qg, .inr (5, [.ref qgw, .ref qgh, .ref qgt, .int br, .int jC, .int jR, .int nf, .ref qgx, .ref qgy, .ref qgz, .ref qgu, .int th])), (qgx, .inl (cI, 36, .inl fx)), (qgy, .inl (cI, 36, .inl fy)), (qgz, .inl (cI, 36, .inl fz)), (qgu, .inl (cZ, 36, .inl fu))] H → va_D A [(qg, .inr (5, [.ref qgw, .ref qgh, .ref qgt, .int br, .int jC, .int jR, .int nf, .ref qgx, .ref qgy, .ref qgz, .ref qgu, .int th])), (qgx, .inl (cI, 36, .inl fx)), (qgy, .inl (cI, 36, .inl fy)), (qgz, .inl (cI, 36, .inl fz)), (qgu, .inl (cZ, 36, .inl fu))] → va_S A s.heap H locs → ∀ (ls : Array Slot), lv_has ls 6 [(3, .int (s_X5_ahead jC jR fx fy b bc)), (0, .ref qg), (1, .int b), (2, .int bc)] → W p l e (headSpec wsX5_fold rm_X5_fold).room s m ([.ref qg, .int b, .int bc]).toArray below meth c H locs 0 0 (MQ below (Qc_X5_fold D cI cZ cJ cD qg qgw qgh qgt br jC jR nf qgx qgy qgz qgu th fx fy fz fu b bc A) ([.ref qg, .int b, .int bc]).toArray s 0 0 A) (F0 m 30 ls [.int v10_0, .ref qg]) := by
    intro v10_0 hv10_0 H locs hP hD hS ls hl
    subst hv10_0
    have hPc := hP.sub (ws' := [(qg, .inr (5, [.ref qgw, .ref qgh, .ref qgt, .int br, .int jC, .int jR, .int nf, .ref qgx, .ref qgy, .ref qgz, .ref qgu, .int th]))]) [0] rfl
    have hDc := hD.sub (ws' := [(qg, .inr (5, [.ref qgw, .ref qgh, .ref qgt, .int br, .int jC, .int jR, .int nf, .ref qgx, .ref qgy, .ref qgz, .ref qgu, .int th]))]) [0] (by decide) rfl
    have hFc := va_free (wc := [(qg, .inr (5, [.ref qgw, .ref qgh, .ref qgt, .int br, .int jC, .int jR, .int nf, .ref qgx, .ref qgy, .ref qgz, .ref qgu, .int th]))]) hD hS hA [0] rfl
    refine va_calli (va_runV (As := [.int (if (s_X5_ahead jC jR fx fy b bc) ≤ 0 then 0 else (if (jC * jR) ≤ (s_X5_ahead jC jR fx fy b bc) then 0 else 1))]) (rest := []) ⟨hx, hb, hml, hown, hts⟩ (c_X5_may l D cI cZ cJ cD qg qgw qgh qgt br jC jR nf qgx qgy qgz qgu th (if (s_X5_ahead jC jR fx fy b bc) ≤ 0 then 0 else (if (jC * jR) ≤ (s_X5_ahead jC jR fx fy b bc) then 0 else 1)) H.size (by (repeat' split) <;> simp)) (cwV 1 hts gX5_fold_X5_may rfl rfl rfl (by decide +kernel) ⟨Nat.le_of_ble_eq_true rfl, Nat.le_of_ble_eq_true rfl⟩) ⟨zblindW, va_recv hK hP (ci := 5) (q0 := 0) rfl rfl, (fun U hU hW => ⟨rfl, by rw [hU], by rw [hU]; exact hPc, va_K.moved hW.alike hK, hDc.weaken (fun _ _ _ _ => trivial)⟩)⟩ rfl rfl hl.1 rfl (lv_room (Nat.le_of_ble_eq_true rfl)) dX5_fold_30 ⟨Nat.le_of_ble_eq_true rfl, Nat.le_of_ble_eq_true rfl⟩) hS (fun q _ h => hFc q h) hFc (fun r11 u t H locs ht hvm hw hB hz1 hk1 hS => ?_)
    rw [hw]
    obtain ⟨hP1, hK1, hD1⟩ := hB
    rw [ht] at hP1
    obtain ⟨hP, hD⟩ := va_join (wr := [(qgx, .inl (cI, 36, .inl fx)), (qgy, .inl (cI, 36, .inl fy)), (qgz, .inl (cI, 36, .inl fz)), (qgu, .inl (cZ, 36, .inl fu))]) (w1 := [(qg, .inr (5, [.ref qgw, .ref qgh, .ref qgt, .int br, .int jC, .int jR, .int nf, .ref qgx, .ref qgy, .ref qgz, .ref qgu, .int (n_X5_may_qg_11 (if (s_X5_ahead jC jR fx fy b bc) ≤ 0 then 0 else (if (jC * jR) ≤ (s_X5_ahead jC jR fx fy b bc) then 0 else 1)))]))]) hP hD [0] [1, 2, 3, 4] rfl rfl (by decide) (by decide) hk1 hFc hP1 hD1
    have hP := hP.sub (ws' := [(qg, .inr (5, [.ref qgw, .ref qgh, .ref qgt, .int br, .int jC, .int jR, .int nf, .ref qgx, .ref qgy, .ref qgz, .ref qgu, .int (n_X5_may_qg_11 (if (s_X5_ahead jC jR fx fy b bc) ≤ 0 then 0 else (if (jC * jR) ≤ (s_X5_ahead jC jR fx fy b bc) then 0 else 1)))])), (qgx, .inl (cI, 36, .inl fx)), (qgy, .inl (cI, 36, .inl fy)), (qgz, .inl (cI, 36, .inl fz)), (qgu, .inl (cZ, 36, .inl fu))]) [4, 0, 1, 2, 3] rfl
    have hD := hD.sub (ws' := [(qg, .inr (5, [.ref qgw, .ref qgh, .ref qgt, .int br, .int jC, .int jR, .int nf, .ref qgx, .ref qgy, .ref qgz, .ref qgu, .int (n_X5_may_qg_11 (if (s_X5_ahead jC jR fx fy b bc) ≤ 0 then 0 else (if (jC * jR) ≤ (s_X5_ahead jC jR fx fy b bc) then 0 else 1)))])), (qgx, .inl (cI, 36, .inl fx)), (qgy, .inl (cI, 36, .inl fy)), (qgz, .inl (cI, 36, .inl fz)), (qgu, .inl (cZ, 36, .inl fu))]) [4, 0, 1, 2, 3] (by decide) rfl
    refine lv_if_ne (tgt := 38) hx hb dX5_fold_33 (by decide) (fun c12 => ?_) (fun c12 => ?_)
    · refine lv_iconst (v := 0) hx hb dX5_fold_38 (by decide) ?_
      refine lv_istore (lv' := [(4, .int 0), (3, .int (s_X5_ahead jC jR fx fy b bc)), (0, .ref qg), (1, .int b), (2, .int bc)]) hx hb dX5_fold_39 hl (by decide) rfl (fun ls hl => ?_)
      refine lv_iconst (v := 0) hx hb dX5_fold_41 (by decide) ?_
      refine lv_istore (lv' := [(5, .int 0), (4, .int 0), (3, .int (s_X5_ahead jC jR fx fy b bc)), (0, .ref qg), (1, .int b), (2, .int bc)]) hx hb dX5_fold_42 hl (by decide) rfl (fun ls hl => ?_)
      have X13 : ∀ (H : Heap) (locs : List Loc), va_P D vwCl [(qg, .inr (5, [.ref qgw, .ref qgh, .ref qgt, .int br, .int jC, .int jR, .int nf, .ref qgx, .ref qgy, .ref qgz, .ref qgu, .int (n_X5_may_qg_11 (if (s_X5_ahead jC jR fx fy b bc) ≤ 0 then 0 else (if (jC * jR) ≤ (s_X5_ahead jC jR fx fy b bc) then 0 else 1)))])), (qgx, .inl (cI, 36, .inl fx)), (qgy, .inl (cI, 36, .inl fy)), (qgz, .inl (cI, 36, .inl fz)), (qgu, .inl (cZ, 36, .inl fu))] H → va_D A [(qg, .inr (5, [.ref qgw, .ref qgh, .ref qgt, .int br, .int jC, .int jR, .int nf, .ref qgx, .ref qgy, .ref qgz, .ref qgu, .int (n_X5_may_qg_11 (if (s_X5_ahead jC jR fx fy b bc) ≤ 0 then 0 else (if (jC * jR) ≤ (s_X5_ahead jC jR fx fy b bc) then 0 else 1)))])), (qgx, .inl (cI, 36, .inl fx)), (qgy, .inl (cI, 36, .inl fy)), (qgz, .inl (cI, 36, .inl fz)), (qgu, .inl (cZ, 36, .inl fu))] → va_S A s.heap H locs → ∀ (ls : Array Slot), lv_has ls 6 [(3, .int (s_X5_ahead jC jR fx fy b bc)), (0, .ref qg), (1, .int b), (2, .int bc), (4, .int (lp_X5_fold_44 jC jR fz 36))] → W p l e (headSpec wsX5_fold rm_X5_fold).room s m ([.ref qg, .int b, .int bc]).toArray below meth c H locs 0 0 (MQ below (Qc_X5_fold D cI cZ cJ cD qg qgw qgh qgt br jC jR nf qgx qgy qgz qgu th fx fy fz fu b bc A) ([.ref qg, .int b, .int bc]).toArray s 0 0 A) (F0 m 92 ls []) := by
        intro H locs hP hD hS ls hl
        refine lv_iconst (v := 0) hx hb dX5_fold_92 (by decide) ?_
        refine lv_istore (lv' := [(5, .int 0), (3, .int (s_X5_ahead jC jR fx fy b bc)), (0, .ref qg), (1, .int b), (2, .int bc), (4, .int (lp_X5_fold_44 jC jR fz 36))]) hx hb dX5_fold_93 hl (by decide) rfl (fun ls hl => ?_)
        have X14 : ∀ (H : Heap) (locs : List Loc), va_P D vwCl [(qg, .inr (5, [.ref qgw, .ref qgh, .ref qgt, .int br, .int jC, .int jR, .int nf, .ref qgx, .ref qgy, .ref qgz, .ref qgu, .int (n_X5_may_qg_11 (if (s_X5_ahead jC jR fx fy b bc) ≤ 0 then 0 else (if (jC * jR) ≤ (s_X5_ahead jC jR fx fy b bc) then 0 else 1)))])), (qgx, .inl (cI, 36, .inl (zs (fun p => !decide ((s_X5_isPanel jC jR (nI p)) = 0) && !decide (b ≤ (if bc = 0 then fy p else fx p))) (fun p => if bc = 0 then fx p else 2 * b - 1 - fx p) fx 36))), (qgy, .inl (cI, 36, .inl (zs (fun p => !decide ((s_X5_isPanel jC jR (nI p)) = 0) && !decide (b ≤ (if bc = 0 then fy p else fx p))) (fun p => if bc = 0 then 2 * b - 1 - fy p else fy p) fy 36))), (qgz, .inl (cI, 36, .inl (zs (fun p => !decide ((s_X5_isPanel jC jR (nI p)) = 0) && !decide (b ≤ (if bc = 0 then fy p else fx p))) (fun p => 2 * (lp_X5_fold_44 jC jR fz 36) + 1 - fz p) fz 36))), (qgu, .inl (cZ, 36, .inl (zs (fun p => !decide ((s_X5_isPanel jC jR (nI p)) = 0) && !decide (b ≤ (if bc = 0 then fy p else fx p))) (fun p => if fu p = 0 then 1 else 0) fu 36)))] H → va_D A [(qg, .inr (5, [.ref qgw, .ref qgh, .ref qgt, .int br, .int jC, .int jR, .int nf, .ref qgx, .ref qgy, .ref qgz, .ref qgu, .int (n_X5_may_qg_11 (if (s_X5_ahead jC jR fx fy b bc) ≤ 0 then 0 else (if (jC * jR) ≤ (s_X5_ahead jC jR fx fy b bc) then 0 else 1)))])), (qgx, .inl (cI, 36, .inl (zs (fun p => !decide ((s_X5_isPanel jC jR (nI p)) = 0) && !decide (b ≤ (if bc = 0 then fy p else fx p))) (fun p => if bc = 0 then fx p else 2 * b - 1 - fx p) fx 36))), (qgy, .inl (cI, 36, .inl (zs (fun p => !decide ((s_X5_isPanel jC jR (nI p)) = 0) && !decide (b ≤ (if bc = 0 then fy p else fx p))) (fun p => if bc = 0 then 2 * b - 1 - fy p else fy p) fy 36))), (qgz, .inl (cI, 36, .inl (zs (fun p => !decide ((s_X5_isPanel jC jR (nI p)) = 0) && !decide (b ≤ (if bc = 0 then fy p else fx p))) (fun p => 2 * (lp_X5_fold_44 jC jR fz 36) + 1 - fz p) fz 36))), (qgu, .inl (cZ, 36, .inl (zs (fun p => !decide ((s_X5_isPanel jC jR (nI p)) = 0) && !decide (b ≤ (if bc = 0 then fy p else fx p))) (fun p => if fu p = 0 then 1 else 0) fu 36)))] → va_S A s.heap H locs → ∀ (ls : Array Slot), lv_has ls 6 [(4, .int (lp_X5_fold_44 jC jR fz 36)), (3, .int (s_X5_ahead jC jR fx fy b bc)), (0, .ref qg), (1, .int b), (2, .int bc)] → W p l e (headSpec wsX5_fold rm_X5_fold).room s m ([.ref qg, .int b, .int bc]).toArray below meth c H locs 0 0 (MQ below (Qc_X5_fold D cI cZ cJ cD qg qgw qgh qgt br jC jR nf qgx qgy qgz qgu th fx fy fz fu b bc A) ([.ref qg, .int b, .int bc]).toArray s 0 0 A) (F0 m 253 ls []) := by
          intro  H locs hP hD hS ls hl
          refine lv_aload_n hx hb dX5_fold_253 rfl (lv_at hl 2 rfl) ?_
          refine lv_dup hx hb dX5_fold_254 rfl ?_
          refine va_get (D := D) (ci := 5) (v := .int nf) (C := RX5) (T := TX5) (N := 12) hx hb hts (fun w h => List.mem_cons_of_mem _ (List.mem_append_right _ h)) hown hK hP 0 rfl rfl 6 (by decide) (hts (.fieldLink RX5 106 "AtlasFolderModel" "folds" "I") (List.mem_cons_of_mem _ (List.mem_append_left _ (List.mem_of_getElem? (i := 6) rfl)))) (fun _ h9 => h9) rfl dX5_fold_255 ?_
          refine lv_iconst (v := 1) hx hb dX5_fold_258 (by decide) ?_
          refine lv_iadd hx hb dX5_fold_259 ?_
          refine va_put (D := D) (ci := 5) (v := .int (nf + 1)) (ty := .int) (C := RX5) (T := TX5) (N := 12) hx hb hts (fun w h => List.mem_cons_of_mem _ (List.mem_append_right _ h)) tyX5 tyX5_ok nmX5 hown hK hP hD hS 0 rfl rfl 6 (by decide) (hts (.fieldLink RX5 106 "AtlasFolderModel" "folds" "I") (List.mem_cons_of_mem _ (List.mem_append_left _ (List.mem_of_getElem? (i := 6) rfl)))) (fun _ h9 => h9) rfl (by decide +kernel) rfl rfl (Nat.le_of_ble_eq_true rfl) dX5_fold_260 (fun H locs hP hD hS => ?_)
          have hP : va_P D vwCl [(qg, .inr (5, [.ref qgw, .ref qgh, .ref qgt, .int br, .int jC, .int jR, .int (nf + 1), .ref qgx, .ref qgy, .ref qgz, .ref qgu, .int (n_X5_may_qg_11 (if (s_X5_ahead jC jR fx fy b bc) ≤ 0 then 0 else (if (jC * jR) ≤ (s_X5_ahead jC jR fx fy b bc) then 0 else 1)))])), (qgx, .inl (cI, 36, .inl (zs (fun p => !decide ((s_X5_isPanel jC jR (nI p)) = 0) && !decide (b ≤ (if bc = 0 then fy p else fx p))) (fun p => if bc = 0 then fx p else 2 * b - 1 - fx p) fx 36))), (qgy, .inl (cI, 36, .inl (zs (fun p => !decide ((s_X5_isPanel jC jR (nI p)) = 0) && !decide (b ≤ (if bc = 0 then fy p else fx p))) (fun p => if bc = 0 then 2 * b - 1 - fy p else fy p) fy 36))), (qgz, .inl (cI, 36, .inl (zs (fun p => !decide ((s_X5_isPanel jC jR (nI p)) = 0) && !decide (b ≤ (if bc = 0 then fy p else fx p))) (fun p => 2 * (lp_X5_fold_44 jC jR fz 36) + 1 - fz p) fz 36))), (qgu, .inl (cZ, 36, .inl (zs (fun p => !decide ((s_X5_isPanel jC jR (nI p)) = 0) && !decide (b ≤ (if bc = 0 then fy p else fx p))) (fun p => if fu p = 0 then 1 else 0) fu 36)))] H := hP
          have hD : va_D A [(qg, .inr (5, [.ref qgw, .ref qgh, .ref qgt, .int br, .int jC, .int jR, .int (nf + 1), .ref qgx, .ref qgy, .ref qgz, .ref qgu, .int (n_X5_may_qg_11 (if (s_X5_ahead jC jR fx fy b bc) ≤ 0 then 0 else (if (jC * jR) ≤ (s_X5_ahead jC jR fx fy b bc) then 0 else 1)))])), (qgx, .inl (cI, 36, .inl (zs (fun p => !decide ((s_X5_isPanel jC jR (nI p)) = 0) && !decide (b ≤ (if bc = 0 then fy p else fx p))) (fun p => if bc = 0 then fx p else 2 * b - 1 - fx p) fx 36))), (qgy, .inl (cI, 36, .inl (zs (fun p => !decide ((s_X5_isPanel jC jR (nI p)) = 0) && !decide (b ≤ (if bc = 0 then fy p else fx p))) (fun p => if bc = 0 then 2 * b - 1 - fy p else fy p) fy 36))), (qgz, .inl (cI, 36, .inl (zs (fun p => !decide ((s_X5_isPanel jC jR (nI p)) = 0) && !decide (b ≤ (if bc = 0 then fy p else fx p))) (fun p => 2 * (lp_X5_fold_44 jC jR fz 36) + 1 - fz p) fz 36))), (qgu, .inl (cZ, 36, .inl (zs (fun p => !decide ((s_X5_isPanel jC jR (nI p)) = 0) && !decide (b ≤ (if bc = 0 then fy p else fx p))) (fun p => if fu p = 0 then 1 else 0) fu 36)))] := hD
          refine lv_iload_n hx hb dX5_fold_263 rfl (lv_at hl 1 rfl) ?_
          have e15 : s_X5_fold jC jR fx fy b bc = s_X5_ahead jC jR fx fy b bc := by
            unfold s_X5_fold
            exact (if_neg c12)
          have e16 : n_X5_fold_qg_6 jC jR nf fx fy b bc = nf + 1 := by
            unfold n_X5_fold_qg_6
            exact (if_neg c12)
          have e17 : n_X5_fold_qg_11 jC jR fx fy b bc = n_X5_may_qg_11 (if (s_X5_ahead jC jR fx fy b bc) ≤ 0 then 0 else (if (jC * jR) ≤ (s_X5_ahead jC jR fx fy b bc) then 0 else 1)) := rfl
          have e18 : n_X5_fold_qgx jC jR fx fy b bc = zs (fun p => !decide ((s_X5_isPanel jC jR (nI p)) = 0) && !decide (b ≤ (if bc = 0 then fy p else fx p))) (fun p => if bc = 0 then fx p else 2 * b - 1 - fx p) fx 36 := by
            unfold n_X5_fold_qgx
            exact (if_neg c12)
          have e19 : n_X5_fold_qgy jC jR fx fy b bc = zs (fun p => !decide ((s_X5_isPanel jC jR (nI p)) = 0) && !decide (b ≤ (if bc = 0 then fy p else fx p))) (fun p => if bc = 0 then 2 * b - 1 - fy p else fy p) fy 36 := by
            unfold n_X5_fold_qgy
            exact (if_neg c12)
          have e20 : n_X5_fold_qgz jC jR fx fy fz b bc = zs (fun p => !decide ((s_X5_isPanel jC jR (nI p)) = 0) && !decide (b ≤ (if bc = 0 then fy p else fx p))) (fun p => 2 * (lp_X5_fold_44 jC jR fz 36) + 1 - fz p) fz 36 := by
            unfold n_X5_fold_qgz
            exact (if_neg c12)
          have e21 : n_X5_fold_qgu jC jR fx fy fu b bc = zs (fun p => !decide ((s_X5_isPanel jC jR (nI p)) = 0) && !decide (b ≤ (if bc = 0 then fy p else fx p))) (fun p => if fu p = 0 then 1 else 0) fu 36 := by
            unfold n_X5_fold_qgu
            exact (if_neg c12)
          exact W.iret (v := (s_X5_ahead jC jR fx fy b bc)) hx hb hr (fun t ht hW => ⟨⟨_, (), rfl, e15.symm, ⟨(by rw [e16, e17, e18, e19, e20, e21]; rw [ht]; exact hP), va_K.moved hW.alike hK, (by rw [e16, e17, e18, e19, e20, e21]; exact hD)⟩⟩, hS.F ht⟩) hS.2.2 dX5_fold_264
        have L14 : ∀ (n14 : Nat) (k : Nat), (k ≤ 36) → (36 < k + n14) → ∀ (H : Heap) (locs : List Loc), va_P D vwCl [(qg, .inr (5, [.ref qgw, .ref qgh, .ref qgt, .int br, .int jC, .int jR, .int nf, .ref qgx, .ref qgy, .ref qgz, .ref qgu, .int (n_X5_may_qg_11 (if (s_X5_ahead jC jR fx fy b bc) ≤ 0 then 0 else (if (jC * jR) ≤ (s_X5_ahead jC jR fx fy b bc) then 0 else 1)))])), (qgx, .inl (cI, 36, .inl (zs (fun p => !decide ((s_X5_isPanel jC jR (nI p)) = 0) && !decide (b ≤ (if bc = 0 then fy p else fx p))) (fun p => if bc = 0 then fx p else 2 * b - 1 - fx p) fx k))), (qgy, .inl (cI, 36, .inl (zs (fun p => !decide ((s_X5_isPanel jC jR (nI p)) = 0) && !decide (b ≤ (if bc = 0 then fy p else fx p))) (fun p => if bc = 0 then 2 * b - 1 - fy p else fy p) fy k))), (qgz, .inl (cI, 36, .inl (zs (fun p => !decide ((s_X5_isPanel jC jR (nI p)) = 0) && !decide (b ≤ (if bc = 0 then fy p else fx p))) (fun p => 2 * (lp_X5_fold_44 jC jR fz 36) + 1 - fz p) fz k))), (qgu, .inl (cZ, 36, .inl (zs (fun p => !decide ((s_X5_isPanel jC jR (nI p)) = 0) && !decide (b ≤ (if bc = 0 then fy p else fx p))) (fun p => if fu p = 0 then 1 else 0) fu k)))] H → va_D A [(qg, .inr (5, [.ref qgw, .ref qgh, .ref qgt, .int br, .int jC, .int jR, .int nf, .ref qgx, .ref qgy, .ref qgz, .ref qgu, .int (n_X5_may_qg_11 (if (s_X5_ahead jC jR fx fy b bc) ≤ 0 then 0 else (if (jC * jR) ≤ (s_X5_ahead jC jR fx fy b bc) then 0 else 1)))])), (qgx, .inl (cI, 36, .inl (zs (fun p => !decide ((s_X5_isPanel jC jR (nI p)) = 0) && !decide (b ≤ (if bc = 0 then fy p else fx p))) (fun p => if bc = 0 then fx p else 2 * b - 1 - fx p) fx k))), (qgy, .inl (cI, 36, .inl (zs (fun p => !decide ((s_X5_isPanel jC jR (nI p)) = 0) && !decide (b ≤ (if bc = 0 then fy p else fx p))) (fun p => if bc = 0 then 2 * b - 1 - fy p else fy p) fy k))), (qgz, .inl (cI, 36, .inl (zs (fun p => !decide ((s_X5_isPanel jC jR (nI p)) = 0) && !decide (b ≤ (if bc = 0 then fy p else fx p))) (fun p => 2 * (lp_X5_fold_44 jC jR fz 36) + 1 - fz p) fz k))), (qgu, .inl (cZ, 36, .inl (zs (fun p => !decide ((s_X5_isPanel jC jR (nI p)) = 0) && !decide (b ≤ (if bc = 0 then fy p else fx p))) (fun p => if fu p = 0 then 1 else 0) fu k)))] → va_S A s.heap H locs → ∀ (ls : Array Slot), lv_has ls 6 [(5, .int (nI k)), (4, .int (lp_X5_fold_44 jC jR fz 36)), (3, .int (s_X5_ahead jC jR fx fy b bc)), (0, .ref qg), (1, .int b), (2, .int bc)] → W p l e (headSpec wsX5_fold rm_X5_fold).room s m ([.ref qg, .int b, .int bc]).toArray below meth c H locs 0 0 (MQ below (Qc_X5_fold D cI cZ cJ cD qg qgw qgh qgt br jC jR nf qgx qgy qgz qgu th fx fy fz fu b bc A) ([.ref qg, .int b, .int bc]).toArray s 0 0 A) (F0 m 95 ls []) := by
          intro n14
          induction n14 with
          | zero =>
            intro k hk hf14
            exact absurd hf14 (by omega)
          | succ n14 ih14 =>
            intro k hk hf14 H locs hP hD hS ls hl
            refine lv_iload hx hb dX5_fold_95 (lv_at hl 0 rfl) ?_
            refine lv_bipush (v := 36) hx hb dX5_fold_97 (by decide) ?_
            refine lv_icmp_ge (tgt := 253) hx hb dX5_fold_99 (by decide) (fun c22 => ?_) (fun c22 => ?_)
            · have ek9 : k = 36 := z_ctr (n := 36) rfl (by omega) hk c22
              subst ek9
              exact X14  _ _ hP hD hS _ (lv_sub hl [1, 2, 3, 4, 5] rfl)
            · refine lv_aload_n hx hb dX5_fold_102 rfl (lv_at hl 3 rfl) ?_
              refine lv_iload hx hb dX5_fold_103 (lv_at hl 0 rfl) ?_
              refine va_calli (va_runV (As := [.int (nI k)]) (rest := []) ⟨hx, hb, hml, hown, hts⟩ (c_X5_isPanel l D cI cZ cJ cD qg qgw qgh qgt br jC jR nf qgx qgy qgz qgu (n_X5_may_qg_11 (if (s_X5_ahead jC jR fx fy b bc) ≤ 0 then 0 else (if (jC * jR) ≤ (s_X5_ahead jC jR fx fy b bc) then 0 else 1))) (nI k) ) (cwV 1 hts gX5_fold_X5_isPanel rfl rfl rfl (by decide +kernel) ⟨Nat.le_of_ble_eq_true rfl, Nat.le_of_ble_eq_true rfl⟩) ⟨zblind, va_recv hK hP (ci := 5) (q0 := 0) rfl rfl, (fun U hU hW => ⟨rfl, by rw [hU]; exact hP.sub (ws' := [(qg, .inr (5, [.ref qgw, .ref qgh, .ref qgt, .int br, .int jC, .int jR, .int nf, .ref qgx, .ref qgy, .ref qgz, .ref qgu, .int (n_X5_may_qg_11 (if (s_X5_ahead jC jR fx fy b bc) ≤ 0 then 0 else (if (jC * jR) ≤ (s_X5_ahead jC jR fx fy b bc) then 0 else 1)))]))]) [0] rfl, va_K.moved hW.alike hK⟩)⟩ rfl rfl hl.1 rfl (lv_room (Nat.le_of_ble_eq_true rfl)) dX5_fold_105 ⟨Nat.le_of_ble_eq_true rfl, Nat.le_of_ble_eq_true rfl⟩) hS (fun q _ h => h.elim) (fun q h => h.elim) (fun r23 u t H locs ht hvm hw hB hz1 hk1 hS => ?_)
              rw [hw]
              have hP := zk hP hk1
              refine lv_if_eq (tgt := 247) hx hb dX5_fold_108 (by decide) (fun c24 => ?_) (fun c24 => ?_)
              · refine lv_iinc (v := nI (k + 1)) (lv' := [(5, .int (nI (k + 1))), (4, .int (lp_X5_fold_44 jC jR fz 36)), (3, .int (s_X5_ahead jC jR fx fy b bc)), (0, .ref qg), (1, .int b), (2, .int bc)]) hx hb dX5_fold_247 hl (k := 0) rfl (nI_succ k).symm (by decide) rfl (fun ls hl => ?_)
                refine lv_goto (tgt := 95) hx hb dX5_fold_250 (by decide) ?_
                have hk36 : k < 36 := z_36l hk c22
                have hs8 : (fun p => !decide ((s_X5_isPanel jC jR (nI p)) = 0) && !decide (b ≤ (if bc = 0 then fy p else fx p))) k = false := by show (!decide _ && !decide _) = false; rw [decide_eq_true c24]; rfl
                rw [zs_skip (g := (fun p => if bc = 0 then fx p else 2 * b - 1 - fx p)) (f := fx) hs8, zs_skip (g := (fun p => if bc = 0 then 2 * b - 1 - fy p else fy p)) (f := fy) hs8, zs_skip (g := (fun p => 2 * (lp_X5_fold_44 jC jR fz 36) + 1 - fz p)) (f := fz) hs8, zs_skip (g := (fun p => if fu p = 0 then 1 else 0)) (f := fu) hs8] at hP hD
                exact ih14 (k + 1) (by omega) (by omega) _ _ hP hD hS _ (lv_sub hl [0, 1, 2, 3, 4, 5] rfl)
              · refine lv_iload_n hx hb dX5_fold_111 rfl (lv_at hl 5 rfl) ?_
                have K26 : ∀ v26_0 : Int32, v26_0 = (if bc = 0 then (zs (fun p => !decide ((s_X5_isPanel jC jR (nI p)) = 0) && !decide (b ≤ (if bc = 0 then fy p else fx p))) (fun p => if bc = 0 then 2 * b - 1 - fy p else fy p) fy k) (nI k).toNatClampNeg else (zs (fun p => !decide ((s_X5_isPanel jC jR (nI p)) = 0) && !decide (b ≤ (if bc = 0 then fy p else fx p))) (fun p => if bc = 0 then fx p else 2 * b - 1 - fx p) fx k) (nI k).toNatClampNeg) → ∀ (H : Heap) (locs : List Loc), va_P D vwCl [(qg, .inr (5, [.ref qgw, .ref qgh, .ref qgt, .int br, .int jC, .int jR, .int nf, .ref qgx, .ref qgy, .ref qgz, .ref qgu, .int (n_X5_may_qg_11 (if (s_X5_ahead jC jR fx fy b bc) ≤ 0 then 0 else (if (jC * jR) ≤ (s_X5_ahead jC jR fx fy b bc) then 0 else 1)))])), (qgx, .inl (cI, 36, .inl (zs (fun p => !decide ((s_X5_isPanel jC jR (nI p)) = 0) && !decide (b ≤ (if bc = 0 then fy p else fx p))) (fun p => if bc = 0 then fx p else 2 * b - 1 - fx p) fx k))), (qgy, .inl (cI, 36, .inl (zs (fun p => !decide ((s_X5_isPanel jC jR (nI p)) = 0) && !decide (b ≤ (if bc = 0 then fy p else fx p))) (fun p => if bc = 0 then 2 * b - 1 - fy p else fy p) fy k))), (qgz, .inl (cI, 36, .inl (zs (fun p => !decide ((s_X5_isPanel jC jR (nI p)) = 0) && !decide (b ≤ (if bc = 0 then fy p else fx p))) (fun p => 2 * (lp_X5_fold_44 jC jR fz 36) + 1 - fz p) fz k))), (qgu, .inl (cZ, 36, .inl (zs (fun p => !decide ((s_X5_isPanel jC jR (nI p)) = 0) && !decide (b ≤ (if bc = 0 then fy p else fx p))) (fun p => if fu p = 0 then 1 else 0) fu k)))] H → va_D A [(qg, .inr (5, [.ref qgw, .ref qgh, .ref qgt, .int br, .int jC, .int jR, .int nf, .ref qgx, .ref qgy, .ref qgz, .ref qgu, .int (n_X5_may_qg_11 (if (s_X5_ahead jC jR fx fy b bc) ≤ 0 then 0 else (if (jC * jR) ≤ (s_X5_ahead jC jR fx fy b bc) then 0 else 1)))])), (qgx, .inl (cI, 36, .inl (zs (fun p => !decide ((s_X5_isPanel jC jR (nI p)) = 0) && !decide (b ≤ (if bc = 0 then fy p else fx p))) (fun p => if bc = 0 then fx p else 2 * b - 1 - fx p) fx k))), (qgy, .inl (cI, 36, .inl (zs (fun p => !decide ((s_X5_isPanel jC jR (nI p)) = 0) && !decide (b ≤ (if bc = 0 then fy p else fx p))) (fun p => if bc = 0 then 2 * b - 1 - fy p else fy p) fy k))), (qgz, .inl (cI, 36, .inl (zs (fun p => !decide ((s_X5_isPanel jC jR (nI p)) = 0) && !decide (b ≤ (if bc = 0 then fy p else fx p))) (fun p => 2 * (lp_X5_fold_44 jC jR fz 36) + 1 - fz p) fz k))), (qgu, .inl (cZ, 36, .inl (zs (fun p => !decide ((s_X5_isPanel jC jR (nI p)) = 0) && !decide (b ≤ (if bc = 0 then fy p else fx p))) (fun p => if fu p = 0 then 1 else 0) fu k)))] → va_S A s.heap H locs → ∀ (ls : Array Slot), lv_has ls 6 [(5, .int (nI k)), (4, .int (lp_X5_fold_44 jC jR fz 36)), (3, .int (s_X5_ahead jC jR fx fy b bc)), (0, .ref qg), (1, .int b), (2, .int bc)] → W p l e (headSpec wsX5_fold rm_X5_fold).room s m ([.ref qg, .int b, .int bc]).toArray below meth c H locs 0 0 (MQ below (Qc_X5_fold D cI cZ cJ cD qg qgw qgh qgt br jC jR nf qgx qgy qgz qgu th fx fy fz fu b bc A) ([.ref qg, .int b, .int bc]).toArray s 0 0 A) (F0 m 132 ls [.int v26_0]) := by
                  intro v26_0 hv26_0 H locs hP hD hS ls hl
                  subst hv26_0
                  refine lv_iload_n hx hb dX5_fold_132 rfl (lv_at hl 4 rfl) ?_
                  refine lv_icmp_ge (tgt := 247) hx hb dX5_fold_133 (by decide) (fun c27 => ?_) (fun c27 => ?_)
                  · refine lv_iinc (v := nI (k + 1)) (lv' := [(5, .int (nI (k + 1))), (4, .int (lp_X5_fold_44 jC jR fz 36)), (3, .int (s_X5_ahead jC jR fx fy b bc)), (0, .ref qg), (1, .int b), (2, .int bc)]) hx hb dX5_fold_247 hl (k := 0) rfl (nI_succ k).symm (by decide) rfl (fun ls hl => ?_)
                    refine lv_goto (tgt := 95) hx hb dX5_fold_250 (by decide) ?_
                    have hk36 : k < 36 := z_36l hk c22
                    have hb8 := c27
                    rw [zs_at (fun p => !decide ((s_X5_isPanel jC jR (nI p)) = 0) && !decide (b ≤ (if bc = 0 then fy p else fx p))) (fun p => if bc = 0 then fx p else 2 * b - 1 - fx p) fx hk36, zs_at (fun p => !decide ((s_X5_isPanel jC jR (nI p)) = 0) && !decide (b ≤ (if bc = 0 then fy p else fx p))) (fun p => if bc = 0 then 2 * b - 1 - fy p else fy p) fy hk36] at hb8
                    have hs8 : (fun p => !decide ((s_X5_isPanel jC jR (nI p)) = 0) && !decide (b ≤ (if bc = 0 then fy p else fx p))) k = false := by show (!decide _ && !decide _) = false; rw [decide_eq_true hb8, Bool.not_true, Bool.and_false]
                    rw [zs_skip (g := (fun p => if bc = 0 then fx p else 2 * b - 1 - fx p)) (f := fx) hs8, zs_skip (g := (fun p => if bc = 0 then 2 * b - 1 - fy p else fy p)) (f := fy) hs8, zs_skip (g := (fun p => 2 * (lp_X5_fold_44 jC jR fz 36) + 1 - fz p)) (f := fz) hs8, zs_skip (g := (fun p => if fu p = 0 then 1 else 0)) (f := fu) hs8] at hP hD
                    exact ih14 (k + 1) (by omega) (by omega) _ _ hP hD hS _ (lv_sub hl [0, 1, 2, 3, 4, 5] rfl)
                  · refine lv_aload_n hx hb dX5_fold_136 rfl (lv_at hl 3 rfl) ?_
                    refine va_get (D := D) (ci := 5) (v := .ref qgx) (C := RX5) (T := TX5) (N := 12) hx hb hts (fun w h => List.mem_cons_of_mem _ (List.mem_append_right _ h)) hown hK hP 0 rfl rfl 7 (by decide) (hts (.fieldLink RX5 23 "AtlasFolderModel" "atX" "[I") (List.mem_cons_of_mem _ (List.mem_append_left _ (List.mem_of_getElem? (i := 3) rfl)))) (fun _ h9 => h9) rfl dX5_fold_137 ?_
                    refine lv_iload hx hb dX5_fold_140 (lv_at hl 0 rfl) ?_
                    refine lv_iload_n hx hb dX5_fold_142 rfl (lv_at hl 5 rfl) ?_
                    have K29 : ∀ v29_0 : Int32, v29_0 = (if bc = 0 then (zs (fun p => !decide ((s_X5_isPanel jC jR (nI p)) = 0) && !decide (b ≤ (if bc = 0 then fy p else fx p))) (fun p => if bc = 0 then fx p else 2 * b - 1 - fx p) fx k) (nI k).toNatClampNeg else ((2 * b) - 1) - ((zs (fun p => !decide ((s_X5_isPanel jC jR (nI p)) = 0) && !decide (b ≤ (if bc = 0 then fy p else fx p))) (fun p => if bc = 0 then fx p else 2 * b - 1 - fx p) fx k) (nI k).toNatClampNeg)) → ∀ (H : Heap) (locs : List Loc), va_P D vwCl [(qg, .inr (5, [.ref qgw, .ref qgh, .ref qgt, .int br, .int jC, .int jR, .int nf, .ref qgx, .ref qgy, .ref qgz, .ref qgu, .int (n_X5_may_qg_11 (if (s_X5_ahead jC jR fx fy b bc) ≤ 0 then 0 else (if (jC * jR) ≤ (s_X5_ahead jC jR fx fy b bc) then 0 else 1)))])), (qgx, .inl (cI, 36, .inl (zs (fun p => !decide ((s_X5_isPanel jC jR (nI p)) = 0) && !decide (b ≤ (if bc = 0 then fy p else fx p))) (fun p => if bc = 0 then fx p else 2 * b - 1 - fx p) fx k))), (qgy, .inl (cI, 36, .inl (zs (fun p => !decide ((s_X5_isPanel jC jR (nI p)) = 0) && !decide (b ≤ (if bc = 0 then fy p else fx p))) (fun p => if bc = 0 then 2 * b - 1 - fy p else fy p) fy k))), (qgz, .inl (cI, 36, .inl (zs (fun p => !decide ((s_X5_isPanel jC jR (nI p)) = 0) && !decide (b ≤ (if bc = 0 then fy p else fx p))) (fun p => 2 * (lp_X5_fold_44 jC jR fz 36) + 1 - fz p) fz k))), (qgu, .inl (cZ, 36, .inl (zs (fun p => !decide ((s_X5_isPanel jC jR (nI p)) = 0) && !decide (b ≤ (if bc = 0 then fy p else fx p))) (fun p => if fu p = 0 then 1 else 0) fu k)))] H → va_D A [(qg, .inr (5, [.ref qgw, .ref qgh, .ref qgt, .int br, .int jC, .int jR, .int nf, .ref qgx, .ref qgy, .ref qgz, .ref qgu, .int (n_X5_may_qg_11 (if (s_X5_ahead jC jR fx fy b bc) ≤ 0 then 0 else (if (jC * jR) ≤ (s_X5_ahead jC jR fx fy b bc) then 0 else 1)))])), (qgx, .inl (cI, 36, .inl (zs (fun p => !decide ((s_X5_isPanel jC jR (nI p)) = 0) && !decide (b ≤ (if bc = 0 then fy p else fx p))) (fun p => if bc = 0 then fx p else 2 * b - 1 - fx p) fx k))), (qgy, .inl (cI, 36, .inl (zs (fun p => !decide ((s_X5_isPanel jC jR (nI p)) = 0) && !decide (b ≤ (if bc = 0 then fy p else fx p))) (fun p => if bc = 0 then 2 * b - 1 - fy p else fy p) fy k))), (qgz, .inl (cI, 36, .inl (zs (fun p => !decide ((s_X5_isPanel jC jR (nI p)) = 0) && !decide (b ≤ (if bc = 0 then fy p else fx p))) (fun p => 2 * (lp_X5_fold_44 jC jR fz 36) + 1 - fz p) fz k))), (qgu, .inl (cZ, 36, .inl (zs (fun p => !decide ((s_X5_isPanel jC jR (nI p)) = 0) && !decide (b ≤ (if bc = 0 then fy p else fx p))) (fun p => if fu p = 0 then 1 else 0) fu k)))] → va_S A s.heap H locs → ∀ (ls : Array Slot), lv_has ls 6 [(5, .int (nI k)), (4, .int (lp_X5_fold_44 jC jR fz 36)), (3, .int (s_X5_ahead jC jR fx fy b bc)), (0, .ref qg), (1, .int b), (2, .int bc)] → W p l e (headSpec wsX5_fold rm_X5_fold).room s m ([.ref qg, .int b, .int bc]).toArray below meth c H locs 0 0 (MQ below (Qc_X5_fold D cI cZ cJ cD qg qgw qgh qgt br jC jR nf qgx qgy qgz qgu th fx fy fz fu b bc A) ([.ref qg, .int b, .int bc]).toArray s 0 0 A) (F0 m 169 ls [.int v29_0, .int (nI k), .ref qgx]) := by
                      intro v29_0 hv29_0 H locs hP hD hS ls hl
                      subst hv29_0
                      refine va_iast hx hb hK hP hD hS 1 0 rfl rfl (vp_in_nI (z_36l hk c22) (by omega)) dX5_fold_169 (fun H locs hP hD hS => ?_)
                      have hP : va_P D vwCl [(qg, .inr (5, [.ref qgw, .ref qgh, .ref qgt, .int br, .int jC, .int jR, .int nf, .ref qgx, .ref qgy, .ref qgz, .ref qgu, .int (n_X5_may_qg_11 (if (s_X5_ahead jC jR fx fy b bc) ≤ 0 then 0 else (if (jC * jR) ≤ (s_X5_ahead jC jR fx fy b bc) then 0 else 1)))])), (qgx, .inl (cI, 36, .inl (upd (zs (fun p => !decide ((s_X5_isPanel jC jR (nI p)) = 0) && !decide (b ≤ (if bc = 0 then fy p else fx p))) (fun p => if bc = 0 then fx p else 2 * b - 1 - fx p) fx k) (nI k).toNatClampNeg (if bc = 0 then (zs (fun p => !decide ((s_X5_isPanel jC jR (nI p)) = 0) && !decide (b ≤ (if bc = 0 then fy p else fx p))) (fun p => if bc = 0 then fx p else 2 * b - 1 - fx p) fx k) (nI k).toNatClampNeg else ((2 * b) - 1) - ((zs (fun p => !decide ((s_X5_isPanel jC jR (nI p)) = 0) && !decide (b ≤ (if bc = 0 then fy p else fx p))) (fun p => if bc = 0 then fx p else 2 * b - 1 - fx p) fx k) (nI k).toNatClampNeg))))), (qgy, .inl (cI, 36, .inl (zs (fun p => !decide ((s_X5_isPanel jC jR (nI p)) = 0) && !decide (b ≤ (if bc = 0 then fy p else fx p))) (fun p => if bc = 0 then 2 * b - 1 - fy p else fy p) fy k))), (qgz, .inl (cI, 36, .inl (zs (fun p => !decide ((s_X5_isPanel jC jR (nI p)) = 0) && !decide (b ≤ (if bc = 0 then fy p else fx p))) (fun p => 2 * (lp_X5_fold_44 jC jR fz 36) + 1 - fz p) fz k))), (qgu, .inl (cZ, 36, .inl (zs (fun p => !decide ((s_X5_isPanel jC jR (nI p)) = 0) && !decide (b ≤ (if bc = 0 then fy p else fx p))) (fun p => if fu p = 0 then 1 else 0) fu k)))] H := hP
                      have hD : va_D A [(qg, .inr (5, [.ref qgw, .ref qgh, .ref qgt, .int br, .int jC, .int jR, .int nf, .ref qgx, .ref qgy, .ref qgz, .ref qgu, .int (n_X5_may_qg_11 (if (s_X5_ahead jC jR fx fy b bc) ≤ 0 then 0 else (if (jC * jR) ≤ (s_X5_ahead jC jR fx fy b bc) then 0 else 1)))])), (qgx, .inl (cI, 36, .inl (upd (zs (fun p => !decide ((s_X5_isPanel jC jR (nI p)) = 0) && !decide (b ≤ (if bc = 0 then fy p else fx p))) (fun p => if bc = 0 then fx p else 2 * b - 1 - fx p) fx k) (nI k).toNatClampNeg (if bc = 0 then (zs (fun p => !decide ((s_X5_isPanel jC jR (nI p)) = 0) && !decide (b ≤ (if bc = 0 then fy p else fx p))) (fun p => if bc = 0 then fx p else 2 * b - 1 - fx p) fx k) (nI k).toNatClampNeg else ((2 * b) - 1) - ((zs (fun p => !decide ((s_X5_isPanel jC jR (nI p)) = 0) && !decide (b ≤ (if bc = 0 then fy p else fx p))) (fun p => if bc = 0 then fx p else 2 * b - 1 - fx p) fx k) (nI k).toNatClampNeg))))), (qgy, .inl (cI, 36, .inl (zs (fun p => !decide ((s_X5_isPanel jC jR (nI p)) = 0) && !decide (b ≤ (if bc = 0 then fy p else fx p))) (fun p => if bc = 0 then 2 * b - 1 - fy p else fy p) fy k))), (qgz, .inl (cI, 36, .inl (zs (fun p => !decide ((s_X5_isPanel jC jR (nI p)) = 0) && !decide (b ≤ (if bc = 0 then fy p else fx p))) (fun p => 2 * (lp_X5_fold_44 jC jR fz 36) + 1 - fz p) fz k))), (qgu, .inl (cZ, 36, .inl (zs (fun p => !decide ((s_X5_isPanel jC jR (nI p)) = 0) && !decide (b ≤ (if bc = 0 then fy p else fx p))) (fun p => if fu p = 0 then 1 else 0) fu k)))] := hD
                      refine lv_aload_n hx hb dX5_fold_170 rfl (lv_at hl 3 rfl) ?_
                      refine va_get (D := D) (ci := 5) (v := .ref qgy) (C := RX5) (T := TX5) (N := 12) hx hb hts (fun w h => List.mem_cons_of_mem _ (List.mem_append_right _ h)) hown hK hP 0 rfl rfl 8 (by decide) (hts (.fieldLink RX5 26 "AtlasFolderModel" "atY" "[I") (List.mem_cons_of_mem _ (List.mem_append_left _ (List.mem_of_getElem? (i := 4) rfl)))) (fun _ h9 => h9) rfl dX5_fold_171 ?_
                      refine lv_iload hx hb dX5_fold_174 (lv_at hl 0 rfl) ?_
                      refine lv_iload_n hx hb dX5_fold_176 rfl (lv_at hl 5 rfl) ?_
                      have K31 : ∀ v31_0 : Int32, v31_0 = (if bc = 0 then ((2 * b) - 1) - ((zs (fun p => !decide ((s_X5_isPanel jC jR (nI p)) = 0) && !decide (b ≤ (if bc = 0 then fy p else fx p))) (fun p => if bc = 0 then 2 * b - 1 - fy p else fy p) fy k) (nI k).toNatClampNeg) else (zs (fun p => !decide ((s_X5_isPanel jC jR (nI p)) = 0) && !decide (b ≤ (if bc = 0 then fy p else fx p))) (fun p => if bc = 0 then 2 * b - 1 - fy p else fy p) fy k) (nI k).toNatClampNeg) → ∀ (H : Heap) (locs : List Loc), va_P D vwCl [(qg, .inr (5, [.ref qgw, .ref qgh, .ref qgt, .int br, .int jC, .int jR, .int nf, .ref qgx, .ref qgy, .ref qgz, .ref qgu, .int (n_X5_may_qg_11 (if (s_X5_ahead jC jR fx fy b bc) ≤ 0 then 0 else (if (jC * jR) ≤ (s_X5_ahead jC jR fx fy b bc) then 0 else 1)))])), (qgx, .inl (cI, 36, .inl (upd (zs (fun p => !decide ((s_X5_isPanel jC jR (nI p)) = 0) && !decide (b ≤ (if bc = 0 then fy p else fx p))) (fun p => if bc = 0 then fx p else 2 * b - 1 - fx p) fx k) (nI k).toNatClampNeg (if bc = 0 then (zs (fun p => !decide ((s_X5_isPanel jC jR (nI p)) = 0) && !decide (b ≤ (if bc = 0 then fy p else fx p))) (fun p => if bc = 0 then fx p else 2 * b - 1 - fx p) fx k) (nI k).toNatClampNeg else ((2 * b) - 1) - ((zs (fun p => !decide ((s_X5_isPanel jC jR (nI p)) = 0) && !decide (b ≤ (if bc = 0 then fy p else fx p))) (fun p => if bc = 0 then fx p else 2 * b - 1 - fx p) fx k) (nI k).toNatClampNeg))))), (qgy, .inl (cI, 36, .inl (zs (fun p => !decide ((s_X5_isPanel jC jR (nI p)) = 0) && !decide (b ≤ (if bc = 0 then fy p else fx p))) (fun p => if bc = 0 then 2 * b - 1 - fy p else fy p) fy k))), (qgz, .inl (cI, 36, .inl (zs (fun p => !decide ((s_X5_isPanel jC jR (nI p)) = 0) && !decide (b ≤ (if bc = 0 then fy p else fx p))) (fun p => 2 * (lp_X5_fold_44 jC jR fz 36) + 1 - fz p) fz k))), (qgu, .inl (cZ, 36, .inl (zs (fun p => !decide ((s_X5_isPanel jC jR (nI p)) = 0) && !decide (b ≤ (if bc = 0 then fy p else fx p))) (fun p => if fu p = 0 then 1 else 0) fu k)))] H → va_D A [(qg, .inr (5, [.ref qgw, .ref qgh, .ref qgt, .int br, .int jC, .int jR, .int nf, .ref qgx, .ref qgy, .ref qgz, .ref qgu, .int (n_X5_may_qg_11 (if (s_X5_ahead jC jR fx fy b bc) ≤ 0 then 0 else (if (jC * jR) ≤ (s_X5_ahead jC jR fx fy b bc) then 0 else 1)))])), (qgx, .inl (cI, 36, .inl (upd (zs (fun p => !decide ((s_X5_isPanel jC jR (nI p)) = 0) && !decide (b ≤ (if bc = 0 then fy p else fx p))) (fun p => if bc = 0 then fx p else 2 * b - 1 - fx p) fx k) (nI k).toNatClampNeg (if bc = 0 then (zs (fun p => !decide ((s_X5_isPanel jC jR (nI p)) = 0) && !decide (b ≤ (if bc = 0 then fy p else fx p))) (fun p => if bc = 0 then fx p else 2 * b - 1 - fx p) fx k) (nI k).toNatClampNeg else ((2 * b) - 1) - ((zs (fun p => !decide ((s_X5_isPanel jC jR (nI p)) = 0) && !decide (b ≤ (if bc = 0 then fy p else fx p))) (fun p => if bc = 0 then fx p else 2 * b - 1 - fx p) fx k) (nI k).toNatClampNeg))))), (qgy, .inl (cI, 36, .inl (zs (fun p => !decide ((s_X5_isPanel jC jR (nI p)) = 0) && !decide (b ≤ (if bc = 0 then fy p else fx p))) (fun p => if bc = 0 then 2 * b - 1 - fy p else fy p) fy k))), (qgz, .inl (cI, 36, .inl (zs (fun p => !decide ((s_X5_isPanel jC jR (nI p)) = 0) && !decide (b ≤ (if bc = 0 then fy p else fx p))) (fun p => 2 * (lp_X5_fold_44 jC jR fz 36) + 1 - fz p) fz k))), (qgu, .inl (cZ, 36, .inl (zs (fun p => !decide ((s_X5_isPanel jC jR (nI p)) = 0) && !decide (b ≤ (if bc = 0 then fy p else fx p))) (fun p => if fu p = 0 then 1 else 0) fu k)))] → va_S A s.heap H locs → ∀ (ls : Array Slot), lv_has ls 6 [(5, .int (nI k)), (4, .int (lp_X5_fold_44 jC jR fz 36)), (3, .int (s_X5_ahead jC jR fx fy b bc)), (0, .ref qg), (1, .int b), (2, .int bc)] → W p l e (headSpec wsX5_fold rm_X5_fold).room s m ([.ref qg, .int b, .int bc]).toArray below meth c H locs 0 0 (MQ below (Qc_X5_fold D cI cZ cJ cD qg qgw qgh qgt br jC jR nf qgx qgy qgz qgu th fx fy fz fu b bc A) ([.ref qg, .int b, .int bc]).toArray s 0 0 A) (F0 m 203 ls [.int v31_0, .int (nI k), .ref qgy]) := by
                        intro v31_0 hv31_0 H locs hP hD hS ls hl
                        subst hv31_0
                        refine va_iast hx hb hK hP hD hS 2 0 rfl rfl (vp_in_nI (z_36l hk c22) (by omega)) dX5_fold_203 (fun H locs hP hD hS => ?_)
                        have hP : va_P D vwCl [(qg, .inr (5, [.ref qgw, .ref qgh, .ref qgt, .int br, .int jC, .int jR, .int nf, .ref qgx, .ref qgy, .ref qgz, .ref qgu, .int (n_X5_may_qg_11 (if (s_X5_ahead jC jR fx fy b bc) ≤ 0 then 0 else (if (jC * jR) ≤ (s_X5_ahead jC jR fx fy b bc) then 0 else 1)))])), (qgx, .inl (cI, 36, .inl (upd (zs (fun p => !decide ((s_X5_isPanel jC jR (nI p)) = 0) && !decide (b ≤ (if bc = 0 then fy p else fx p))) (fun p => if bc = 0 then fx p else 2 * b - 1 - fx p) fx k) (nI k).toNatClampNeg (if bc = 0 then (zs (fun p => !decide ((s_X5_isPanel jC jR (nI p)) = 0) && !decide (b ≤ (if bc = 0 then fy p else fx p))) (fun p => if bc = 0 then fx p else 2 * b - 1 - fx p) fx k) (nI k).toNatClampNeg else ((2 * b) - 1) - ((zs (fun p => !decide ((s_X5_isPanel jC jR (nI p)) = 0) && !decide (b ≤ (if bc = 0 then fy p else fx p))) (fun p => if bc = 0 then fx p else 2 * b - 1 - fx p) fx k) (nI k).toNatClampNeg))))), (qgy, .inl (cI, 36, .inl (upd (zs (fun p => !decide ((s_X5_isPanel jC jR (nI p)) = 0) && !decide (b ≤ (if bc = 0 then fy p else fx p))) (fun p => if bc = 0 then 2 * b - 1 - fy p else fy p) fy k) (nI k).toNatClampNeg (if bc = 0 then ((2 * b) - 1) - ((zs (fun p => !decide ((s_X5_isPanel jC jR (nI p)) = 0) && !decide (b ≤ (if bc = 0 then fy p else fx p))) (fun p => if bc = 0 then 2 * b - 1 - fy p else fy p) fy k) (nI k).toNatClampNeg) else (zs (fun p => !decide ((s_X5_isPanel jC jR (nI p)) = 0) && !decide (b ≤ (if bc = 0 then fy p else fx p))) (fun p => if bc = 0 then 2 * b - 1 - fy p else fy p) fy k) (nI k).toNatClampNeg)))), (qgz, .inl (cI, 36, .inl (zs (fun p => !decide ((s_X5_isPanel jC jR (nI p)) = 0) && !decide (b ≤ (if bc = 0 then fy p else fx p))) (fun p => 2 * (lp_X5_fold_44 jC jR fz 36) + 1 - fz p) fz k))), (qgu, .inl (cZ, 36, .inl (zs (fun p => !decide ((s_X5_isPanel jC jR (nI p)) = 0) && !decide (b ≤ (if bc = 0 then fy p else fx p))) (fun p => if fu p = 0 then 1 else 0) fu k)))] H := hP
                        have hD : va_D A [(qg, .inr (5, [.ref qgw, .ref qgh, .ref qgt, .int br, .int jC, .int jR, .int nf, .ref qgx, .ref qgy, .ref qgz, .ref qgu, .int (n_X5_may_qg_11 (if (s_X5_ahead jC jR fx fy b bc) ≤ 0 then 0 else (if (jC * jR) ≤ (s_X5_ahead jC jR fx fy b bc) then 0 else 1)))])), (qgx, .inl (cI, 36, .inl (upd (zs (fun p => !decide ((s_X5_isPanel jC jR (nI p)) = 0) && !decide (b ≤ (if bc = 0 then fy p else fx p))) (fun p => if bc = 0 then fx p else 2 * b - 1 - fx p) fx k) (nI k).toNatClampNeg (if bc = 0 then (zs (fun p => !decide ((s_X5_isPanel jC jR (nI p)) = 0) && !decide (b ≤ (if bc = 0 then fy p else fx p))) (fun p => if bc = 0 then fx p else 2 * b - 1 - fx p) fx k) (nI k).toNatClampNeg else ((2 * b) - 1) - ((zs (fun p => !decide ((s_X5_isPanel jC jR (nI p)) = 0) && !decide (b ≤ (if bc = 0 then fy p else fx p))) (fun p => if bc = 0 then fx p else 2 * b - 1 - fx p) fx k) (nI k).toNatClampNeg))))), (qgy, .inl (cI, 36, .inl (upd (zs (fun p => !decide ((s_X5_isPanel jC jR (nI p)) = 0) && !decide (b ≤ (if bc = 0 then fy p else fx p))) (fun p => if bc = 0 then 2 * b - 1 - fy p else fy p) fy k) (nI k).toNatClampNeg (if bc = 0 then ((2 * b) - 1) - ((zs (fun p => !decide ((s_X5_isPanel jC jR (nI p)) = 0) && !decide (b ≤ (if bc = 0 then fy p else fx p))) (fun p => if bc = 0 then 2 * b - 1 - fy p else fy p) fy k) (nI k).toNatClampNeg) else (zs (fun p => !decide ((s_X5_isPanel jC jR (nI p)) = 0) && !decide (b ≤ (if bc = 0 then fy p else fx p))) (fun p => if bc = 0 then 2 * b - 1 - fy p else fy p) fy k) (nI k).toNatClampNeg)))), (qgz, .inl (cI, 36, .inl (zs (fun p => !decide ((s_X5_isPanel jC jR (nI p)) = 0) && !decide (b ≤ (if bc = 0 then fy p else fx p))) (fun p => 2 * (lp_X5_fold_44 jC jR fz 36) + 1 - fz p) fz k))), (qgu, .inl (cZ, 36, .inl (zs (fun p => !decide ((s_X5_isPanel jC jR (nI p)) = 0) && !decide (b ≤ (if bc = 0 then fy p else fx p))) (fun p => if fu p = 0 then 1 else 0) fu k)))] := hD
                        refine lv_aload_n hx hb dX5_fold_204 rfl (lv_at hl 3 rfl) ?_
                        refine va_get (D := D) (ci := 5) (v := .ref qgz) (C := RX5) (T := TX5) (N := 12) hx hb hts (fun w h => List.mem_cons_of_mem _ (List.mem_append_right _ h)) hown hK hP 0 rfl rfl 9 (by decide) (hts (.fieldLink RX5 29 "AtlasFolderModel" "layer" "[I") (List.mem_cons_of_mem _ (List.mem_append_left _ (List.mem_of_getElem? (i := 2) rfl)))) (fun _ h9 => h9) rfl dX5_fold_205 ?_
                        refine lv_iload hx hb dX5_fold_208 (lv_at hl 0 rfl) ?_
                        refine lv_iconst (v := 2) hx hb dX5_fold_210 (by decide) ?_
                        refine lv_iload hx hb dX5_fold_211 (lv_at hl 1 rfl) ?_
                        refine lv_imul hx hb dX5_fold_213 ?_
                        refine lv_iconst (v := 1) hx hb dX5_fold_214 (by decide) ?_
                        refine lv_iadd hx hb dX5_fold_215 ?_
                        refine lv_aload_n hx hb dX5_fold_216 rfl (lv_at hl 3 rfl) ?_
                        refine va_get (D := D) (ci := 5) (v := .ref qgz) (C := RX5) (T := TX5) (N := 12) hx hb hts (fun w h => List.mem_cons_of_mem _ (List.mem_append_right _ h)) hown hK hP 0 rfl rfl 9 (by decide) (hts (.fieldLink RX5 29 "AtlasFolderModel" "layer" "[I") (List.mem_cons_of_mem _ (List.mem_append_left _ (List.mem_of_getElem? (i := 2) rfl)))) (fun _ h9 => h9) rfl dX5_fold_217 ?_
                        refine lv_iload hx hb dX5_fold_220 (lv_at hl 0 rfl) ?_
                        refine va_iald hx hb hK hP 3 0 rfl rfl (vp_in_nI (z_36l hk c22) (by omega)) dX5_fold_222 ?_
                        refine lv_isub hx hb dX5_fold_223 ?_
                        refine va_iast hx hb hK hP hD hS 3 0 rfl rfl (vp_in_nI (z_36l hk c22) (by omega)) dX5_fold_224 (fun H locs hP hD hS => ?_)
                        have hP : va_P D vwCl [(qg, .inr (5, [.ref qgw, .ref qgh, .ref qgt, .int br, .int jC, .int jR, .int nf, .ref qgx, .ref qgy, .ref qgz, .ref qgu, .int (n_X5_may_qg_11 (if (s_X5_ahead jC jR fx fy b bc) ≤ 0 then 0 else (if (jC * jR) ≤ (s_X5_ahead jC jR fx fy b bc) then 0 else 1)))])), (qgx, .inl (cI, 36, .inl (upd (zs (fun p => !decide ((s_X5_isPanel jC jR (nI p)) = 0) && !decide (b ≤ (if bc = 0 then fy p else fx p))) (fun p => if bc = 0 then fx p else 2 * b - 1 - fx p) fx k) (nI k).toNatClampNeg (if bc = 0 then (zs (fun p => !decide ((s_X5_isPanel jC jR (nI p)) = 0) && !decide (b ≤ (if bc = 0 then fy p else fx p))) (fun p => if bc = 0 then fx p else 2 * b - 1 - fx p) fx k) (nI k).toNatClampNeg else ((2 * b) - 1) - ((zs (fun p => !decide ((s_X5_isPanel jC jR (nI p)) = 0) && !decide (b ≤ (if bc = 0 then fy p else fx p))) (fun p => if bc = 0 then fx p else 2 * b - 1 - fx p) fx k) (nI k).toNatClampNeg))))), (qgy, .inl (cI, 36, .inl (upd (zs (fun p => !decide ((s_X5_isPanel jC jR (nI p)) = 0) && !decide (b ≤ (if bc = 0 then fy p else fx p))) (fun p => if bc = 0 then 2 * b - 1 - fy p else fy p) fy k) (nI k).toNatClampNeg (if bc = 0 then ((2 * b) - 1) - ((zs (fun p => !decide ((s_X5_isPanel jC jR (nI p)) = 0) && !decide (b ≤ (if bc = 0 then fy p else fx p))) (fun p => if bc = 0 then 2 * b - 1 - fy p else fy p) fy k) (nI k).toNatClampNeg) else (zs (fun p => !decide ((s_X5_isPanel jC jR (nI p)) = 0) && !decide (b ≤ (if bc = 0 then fy p else fx p))) (fun p => if bc = 0 then 2 * b - 1 - fy p else fy p) fy k) (nI k).toNatClampNeg)))), (qgz, .inl (cI, 36, .inl (upd (zs (fun p => !decide ((s_X5_isPanel jC jR (nI p)) = 0) && !decide (b ≤ (if bc = 0 then fy p else fx p))) (fun p => 2 * (lp_X5_fold_44 jC jR fz 36) + 1 - fz p) fz k) (nI k).toNatClampNeg (((2 * (lp_X5_fold_44 jC jR fz 36)) + 1) - ((zs (fun p => !decide ((s_X5_isPanel jC jR (nI p)) = 0) && !decide (b ≤ (if bc = 0 then fy p else fx p))) (fun p => 2 * (lp_X5_fold_44 jC jR fz 36) + 1 - fz p) fz k) (nI k).toNatClampNeg))))), (qgu, .inl (cZ, 36, .inl (zs (fun p => !decide ((s_X5_isPanel jC jR (nI p)) = 0) && !decide (b ≤ (if bc = 0 then fy p else fx p))) (fun p => if fu p = 0 then 1 else 0) fu k)))] H := hP
                        have hD : va_D A [(qg, .inr (5, [.ref qgw, .ref qgh, .ref qgt, .int br, .int jC, .int jR, .int nf, .ref qgx, .ref qgy, .ref qgz, .ref qgu, .int (n_X5_may_qg_11 (if (s_X5_ahead jC jR fx fy b bc) ≤ 0 then 0 else (if (jC * jR) ≤ (s_X5_ahead jC jR fx fy b bc) then 0 else 1)))])), (qgx, .inl (cI, 36, .inl (upd (zs (fun p => !decide ((s_X5_isPanel jC jR (nI p)) = 0) && !decide (b ≤ (if bc = 0 then fy p else fx p))) (fun p => if bc = 0 then fx p else 2 * b - 1 - fx p) fx k) (nI k).toNatClampNeg (if bc = 0 then (zs (fun p => !decide ((s_X5_isPanel jC jR (nI p)) = 0) && !decide (b ≤ (if bc = 0 then fy p else fx p))) (fun p => if bc = 0 then fx p else 2 * b - 1 - fx p) fx k) (nI k).toNatClampNeg else ((2 * b) - 1) - ((zs (fun p => !decide ((s_X5_isPanel jC jR (nI p)) = 0) && !decide (b ≤ (if bc = 0 then fy p else fx p))) (fun p => if bc = 0 then fx p else 2 * b - 1 - fx p) fx k) (nI k).toNatClampNeg))))), (qgy, .inl (cI, 36, .inl (upd (zs (fun p => !decide ((s_X5_isPanel jC jR (nI p)) = 0) && !decide (b ≤ (if bc = 0 then fy p else fx p))) (fun p => if bc = 0 then 2 * b - 1 - fy p else fy p) fy k) (nI k).toNatClampNeg (if bc = 0 then ((2 * b) - 1) - ((zs (fun p => !decide ((s_X5_isPanel jC jR (nI p)) = 0) && !decide (b ≤ (if bc = 0 then fy p else fx p))) (fun p => if bc = 0 then 2 * b - 1 - fy p else fy p) fy k) (nI k).toNatClampNeg) else (zs (fun p => !decide ((s_X5_isPanel jC jR (nI p)) = 0) && !decide (b ≤ (if bc = 0 then fy p else fx p))) (fun p => if bc = 0 then 2 * b - 1 - fy p else fy p) fy k) (nI k).toNatClampNeg)))), (qgz, .inl (cI, 36, .inl (upd (zs (fun p => !decide ((s_X5_isPanel jC jR (nI p)) = 0) && !decide (b ≤ (if bc = 0 then fy p else fx p))) (fun p => 2 * (lp_X5_fold_44 jC jR fz 36) + 1 - fz p) fz k) (nI k).toNatClampNeg (((2 * (lp_X5_fold_44 jC jR fz 36)) + 1) - ((zs (fun p => !decide ((s_X5_isPanel jC jR (nI p)) = 0) && !decide (b ≤ (if bc = 0 then fy p else fx p))) (fun p => 2 * (lp_X5_fold_44 jC jR fz 36) + 1 - fz p) fz k) (nI k).toNatClampNeg))))), (qgu, .inl (cZ, 36, .inl (zs (fun p => !decide ((s_X5_isPanel jC jR (nI p)) = 0) && !decide (b ≤ (if bc = 0 then fy p else fx p))) (fun p => if fu p = 0 then 1 else 0) fu k)))] := hD
                        refine lv_aload_n hx hb dX5_fold_225 rfl (lv_at hl 3 rfl) ?_
                        refine va_get (D := D) (ci := 5) (v := .ref qgu) (C := RX5) (T := TX5) (N := 12) hx hb hts (fun w h => List.mem_cons_of_mem _ (List.mem_append_right _ h)) hown hK hP 0 rfl rfl 10 (by decide) (hts (.fieldLink RX5 32 "AtlasFolderModel" "up" "[Z") (List.mem_cons_of_mem _ (List.mem_append_left _ (List.mem_of_getElem? (i := 5) rfl)))) (fun _ h9 => h9) rfl dX5_fold_226 ?_
                        refine lv_iload hx hb dX5_fold_229 (lv_at hl 0 rfl) ?_
                        refine lv_aload_n hx hb dX5_fold_231 rfl (lv_at hl 3 rfl) ?_
                        refine va_get (D := D) (ci := 5) (v := .ref qgu) (C := RX5) (T := TX5) (N := 12) hx hb hts (fun w h => List.mem_cons_of_mem _ (List.mem_append_right _ h)) hown hK hP 0 rfl rfl 10 (by decide) (hts (.fieldLink RX5 32 "AtlasFolderModel" "up" "[Z") (List.mem_cons_of_mem _ (List.mem_append_left _ (List.mem_of_getElem? (i := 5) rfl)))) (fun _ h9 => h9) rfl dX5_fold_232 ?_
                        refine lv_iload hx hb dX5_fold_235 (lv_at hl 0 rfl) ?_
                        refine va_zald hx hb hK hP 4 1 rfl rfl (vp_in_nI (z_36l hk c22) (by omega)) dX5_fold_237 ?_
                        have K33 : ∀ v33_0 : Int32, v33_0 = (if ((zs (fun p => !decide ((s_X5_isPanel jC jR (nI p)) = 0) && !decide (b ≤ (if bc = 0 then fy p else fx p))) (fun p => if fu p = 0 then 1 else 0) fu k) (nI k).toNatClampNeg) = 0 then 1 else 0) → ∀ (H : Heap) (locs : List Loc), va_P D vwCl [(qg, .inr (5, [.ref qgw, .ref qgh, .ref qgt, .int br, .int jC, .int jR, .int nf, .ref qgx, .ref qgy, .ref qgz, .ref qgu, .int (n_X5_may_qg_11 (if (s_X5_ahead jC jR fx fy b bc) ≤ 0 then 0 else (if (jC * jR) ≤ (s_X5_ahead jC jR fx fy b bc) then 0 else 1)))])), (qgx, .inl (cI, 36, .inl (upd (zs (fun p => !decide ((s_X5_isPanel jC jR (nI p)) = 0) && !decide (b ≤ (if bc = 0 then fy p else fx p))) (fun p => if bc = 0 then fx p else 2 * b - 1 - fx p) fx k) (nI k).toNatClampNeg (if bc = 0 then (zs (fun p => !decide ((s_X5_isPanel jC jR (nI p)) = 0) && !decide (b ≤ (if bc = 0 then fy p else fx p))) (fun p => if bc = 0 then fx p else 2 * b - 1 - fx p) fx k) (nI k).toNatClampNeg else ((2 * b) - 1) - ((zs (fun p => !decide ((s_X5_isPanel jC jR (nI p)) = 0) && !decide (b ≤ (if bc = 0 then fy p else fx p))) (fun p => if bc = 0 then fx p else 2 * b - 1 - fx p) fx k) (nI k).toNatClampNeg))))), (qgy, .inl (cI, 36, .inl (upd (zs (fun p => !decide ((s_X5_isPanel jC jR (nI p)) = 0) && !decide (b ≤ (if bc = 0 then fy p else fx p))) (fun p => if bc = 0 then 2 * b - 1 - fy p else fy p) fy k) (nI k).toNatClampNeg (if bc = 0 then ((2 * b) - 1) - ((zs (fun p => !decide ((s_X5_isPanel jC jR (nI p)) = 0) && !decide (b ≤ (if bc = 0 then fy p else fx p))) (fun p => if bc = 0 then 2 * b - 1 - fy p else fy p) fy k) (nI k).toNatClampNeg) else (zs (fun p => !decide ((s_X5_isPanel jC jR (nI p)) = 0) && !decide (b ≤ (if bc = 0 then fy p else fx p))) (fun p => if bc = 0 then 2 * b - 1 - fy p else fy p) fy k) (nI k).toNatClampNeg)))), (qgz, .inl (cI, 36, .inl (upd (zs (fun p => !decide ((s_X5_isPanel jC jR (nI p)) = 0) && !decide (b ≤ (if bc = 0 then fy p else fx p))) (fun p => 2 * (lp_X5_fold_44 jC jR fz 36) + 1 - fz p) fz k) (nI k).toNatClampNeg (((2 * (lp_X5_fold_44 jC jR fz 36)) + 1) - ((zs (fun p => !decide ((s_X5_isPanel jC jR (nI p)) = 0) && !decide (b ≤ (if bc = 0 then fy p else fx p))) (fun p => 2 * (lp_X5_fold_44 jC jR fz 36) + 1 - fz p) fz k) (nI k).toNatClampNeg))))), (qgu, .inl (cZ, 36, .inl (zs (fun p => !decide ((s_X5_isPanel jC jR (nI p)) = 0) && !decide (b ≤ (if bc = 0 then fy p else fx p))) (fun p => if fu p = 0 then 1 else 0) fu k)))] H → va_D A [(qg, .inr (5, [.ref qgw, .ref qgh, .ref qgt, .int br, .int jC, .int jR, .int nf, .ref qgx, .ref qgy, .ref qgz, .ref qgu, .int (n_X5_may_qg_11 (if (s_X5_ahead jC jR fx fy b bc) ≤ 0 then 0 else (if (jC * jR) ≤ (s_X5_ahead jC jR fx fy b bc) then 0 else 1)))])), (qgx, .inl (cI, 36, .inl (upd (zs (fun p => !decide ((s_X5_isPanel jC jR (nI p)) = 0) && !decide (b ≤ (if bc = 0 then fy p else fx p))) (fun p => if bc = 0 then fx p else 2 * b - 1 - fx p) fx k) (nI k).toNatClampNeg (if bc = 0 then (zs (fun p => !decide ((s_X5_isPanel jC jR (nI p)) = 0) && !decide (b ≤ (if bc = 0 then fy p else fx p))) (fun p => if bc = 0 then fx p else 2 * b - 1 - fx p) fx k) (nI k).toNatClampNeg else ((2 * b) - 1) - ((zs (fun p => !decide ((s_X5_isPanel jC jR (nI p)) = 0) && !decide (b ≤ (if bc = 0 then fy p else fx p))) (fun p => if bc = 0 then fx p else 2 * b - 1 - fx p) fx k) (nI k).toNatClampNeg))))), (qgy, .inl (cI, 36, .inl (upd (zs (fun p => !decide ((s_X5_isPanel jC jR (nI p)) = 0) && !decide (b ≤ (if bc = 0 then fy p else fx p))) (fun p => if bc = 0 then 2 * b - 1 - fy p else fy p) fy k) (nI k).toNatClampNeg (if bc = 0 then ((2 * b) - 1) - ((zs (fun p => !decide ((s_X5_isPanel jC jR (nI p)) = 0) && !decide (b ≤ (if bc = 0 then fy p else fx p))) (fun p => if bc = 0 then 2 * b - 1 - fy p else fy p) fy k) (nI k).toNatClampNeg) else (zs (fun p => !decide ((s_X5_isPanel jC jR (nI p)) = 0) && !decide (b ≤ (if bc = 0 then fy p else fx p))) (fun p => if bc = 0 then 2 * b - 1 - fy p else fy p) fy k) (nI k).toNatClampNeg)))), (qgz, .inl (cI, 36, .inl (upd (zs (fun p => !decide ((s_X5_isPanel jC jR (nI p)) = 0) && !decide (b ≤ (if bc = 0 then fy p else fx p))) (fun p => 2 * (lp_X5_fold_44 jC jR fz 36) + 1 - fz p) fz k) (nI k).toNatClampNeg (((2 * (lp_X5_fold_44 jC jR fz 36)) + 1) - ((zs (fun p => !decide ((s_X5_isPanel jC jR (nI p)) = 0) && !decide (b ≤ (if bc = 0 then fy p else fx p))) (fun p => 2 * (lp_X5_fold_44 jC jR fz 36) + 1 - fz p) fz k) (nI k).toNatClampNeg))))), (qgu, .inl (cZ, 36, .inl (zs (fun p => !decide ((s_X5_isPanel jC jR (nI p)) = 0) && !decide (b ≤ (if bc = 0 then fy p else fx p))) (fun p => if fu p = 0 then 1 else 0) fu k)))] → va_S A s.heap H locs → ∀ (ls : Array Slot), lv_has ls 6 [(5, .int (nI k)), (4, .int (lp_X5_fold_44 jC jR fz 36)), (3, .int (s_X5_ahead jC jR fx fy b bc)), (0, .ref qg), (1, .int b), (2, .int bc)] → W p l e (headSpec wsX5_fold rm_X5_fold).room s m ([.ref qg, .int b, .int bc]).toArray below meth c H locs 0 0 (MQ below (Qc_X5_fold D cI cZ cJ cD qg qgw qgh qgt br jC jR nf qgx qgy qgz qgu th fx fy fz fu b bc A) ([.ref qg, .int b, .int bc]).toArray s 0 0 A) (F0 m 246 ls [.int v33_0, .int (nI k), .ref qgu]) := by
                          intro v33_0 hv33_0 H locs hP hD hS ls hl
                          subst hv33_0
                          refine va_zast hx hb hK hP hD hS 4 1 rfl rfl (vp_in_nI (z_36l hk c22) (by omega)) dX5_fold_246 (fun H locs hP hD hS => ?_)
                          have hP : va_P D vwCl [(qg, .inr (5, [.ref qgw, .ref qgh, .ref qgt, .int br, .int jC, .int jR, .int nf, .ref qgx, .ref qgy, .ref qgz, .ref qgu, .int (n_X5_may_qg_11 (if (s_X5_ahead jC jR fx fy b bc) ≤ 0 then 0 else (if (jC * jR) ≤ (s_X5_ahead jC jR fx fy b bc) then 0 else 1)))])), (qgx, .inl (cI, 36, .inl (upd (zs (fun p => !decide ((s_X5_isPanel jC jR (nI p)) = 0) && !decide (b ≤ (if bc = 0 then fy p else fx p))) (fun p => if bc = 0 then fx p else 2 * b - 1 - fx p) fx k) (nI k).toNatClampNeg (if bc = 0 then (zs (fun p => !decide ((s_X5_isPanel jC jR (nI p)) = 0) && !decide (b ≤ (if bc = 0 then fy p else fx p))) (fun p => if bc = 0 then fx p else 2 * b - 1 - fx p) fx k) (nI k).toNatClampNeg else ((2 * b) - 1) - ((zs (fun p => !decide ((s_X5_isPanel jC jR (nI p)) = 0) && !decide (b ≤ (if bc = 0 then fy p else fx p))) (fun p => if bc = 0 then fx p else 2 * b - 1 - fx p) fx k) (nI k).toNatClampNeg))))), (qgy, .inl (cI, 36, .inl (upd (zs (fun p => !decide ((s_X5_isPanel jC jR (nI p)) = 0) && !decide (b ≤ (if bc = 0 then fy p else fx p))) (fun p => if bc = 0 then 2 * b - 1 - fy p else fy p) fy k) (nI k).toNatClampNeg (if bc = 0 then ((2 * b) - 1) - ((zs (fun p => !decide ((s_X5_isPanel jC jR (nI p)) = 0) && !decide (b ≤ (if bc = 0 then fy p else fx p))) (fun p => if bc = 0 then 2 * b - 1 - fy p else fy p) fy k) (nI k).toNatClampNeg) else (zs (fun p => !decide ((s_X5_isPanel jC jR (nI p)) = 0) && !decide (b ≤ (if bc = 0 then fy p else fx p))) (fun p => if bc = 0 then 2 * b - 1 - fy p else fy p) fy k) (nI k).toNatClampNeg)))), (qgz, .inl (cI, 36, .inl (upd (zs (fun p => !decide ((s_X5_isPanel jC jR (nI p)) = 0) && !decide (b ≤ (if bc = 0 then fy p else fx p))) (fun p => 2 * (lp_X5_fold_44 jC jR fz 36) + 1 - fz p) fz k) (nI k).toNatClampNeg (((2 * (lp_X5_fold_44 jC jR fz 36)) + 1) - ((zs (fun p => !decide ((s_X5_isPanel jC jR (nI p)) = 0) && !decide (b ≤ (if bc = 0 then fy p else fx p))) (fun p => 2 * (lp_X5_fold_44 jC jR fz 36) + 1 - fz p) fz k) (nI k).toNatClampNeg))))), (qgu, .inl (cZ, 36, .inl (upd (zs (fun p => !decide ((s_X5_isPanel jC jR (nI p)) = 0) && !decide (b ≤ (if bc = 0 then fy p else fx p))) (fun p => if fu p = 0 then 1 else 0) fu k) (nI k).toNatClampNeg (vp_nar .boolean (if ((zs (fun p => !decide ((s_X5_isPanel jC jR (nI p)) = 0) && !decide (b ≤ (if bc = 0 then fy p else fx p))) (fun p => if fu p = 0 then 1 else 0) fu k) (nI k).toNatClampNeg) = 0 then 1 else 0)))))] H := hP
                          have hD : va_D A [(qg, .inr (5, [.ref qgw, .ref qgh, .ref qgt, .int br, .int jC, .int jR, .int nf, .ref qgx, .ref qgy, .ref qgz, .ref qgu, .int (n_X5_may_qg_11 (if (s_X5_ahead jC jR fx fy b bc) ≤ 0 then 0 else (if (jC * jR) ≤ (s_X5_ahead jC jR fx fy b bc) then 0 else 1)))])), (qgx, .inl (cI, 36, .inl (upd (zs (fun p => !decide ((s_X5_isPanel jC jR (nI p)) = 0) && !decide (b ≤ (if bc = 0 then fy p else fx p))) (fun p => if bc = 0 then fx p else 2 * b - 1 - fx p) fx k) (nI k).toNatClampNeg (if bc = 0 then (zs (fun p => !decide ((s_X5_isPanel jC jR (nI p)) = 0) && !decide (b ≤ (if bc = 0 then fy p else fx p))) (fun p => if bc = 0 then fx p else 2 * b - 1 - fx p) fx k) (nI k).toNatClampNeg else ((2 * b) - 1) - ((zs (fun p => !decide ((s_X5_isPanel jC jR (nI p)) = 0) && !decide (b ≤ (if bc = 0 then fy p else fx p))) (fun p => if bc = 0 then fx p else 2 * b - 1 - fx p) fx k) (nI k).toNatClampNeg))))), (qgy, .inl (cI, 36, .inl (upd (zs (fun p => !decide ((s_X5_isPanel jC jR (nI p)) = 0) && !decide (b ≤ (if bc = 0 then fy p else fx p))) (fun p => if bc = 0 then 2 * b - 1 - fy p else fy p) fy k) (nI k).toNatClampNeg (if bc = 0 then ((2 * b) - 1) - ((zs (fun p => !decide ((s_X5_isPanel jC jR (nI p)) = 0) && !decide (b ≤ (if bc = 0 then fy p else fx p))) (fun p => if bc = 0 then 2 * b - 1 - fy p else fy p) fy k) (nI k).toNatClampNeg) else (zs (fun p => !decide ((s_X5_isPanel jC jR (nI p)) = 0) && !decide (b ≤ (if bc = 0 then fy p else fx p))) (fun p => if bc = 0 then 2 * b - 1 - fy p else fy p) fy k) (nI k).toNatClampNeg)))), (qgz, .inl (cI, 36, .inl (upd (zs (fun p => !decide ((s_X5_isPanel jC jR (nI p)) = 0) && !decide (b ≤ (if bc = 0 then fy p else fx p))) (fun p => 2 * (lp_X5_fold_44 jC jR fz 36) + 1 - fz p) fz k) (nI k).toNatClampNeg (((2 * (lp_X5_fold_44 jC jR fz 36)) + 1) - ((zs (fun p => !decide ((s_X5_isPanel jC jR (nI p)) = 0) && !decide (b ≤ (if bc = 0 then fy p else fx p))) (fun p => 2 * (lp_X5_fold_44 jC jR fz 36) + 1 - fz p) fz k) (nI k).toNatClampNeg))))), (qgu, .inl (cZ, 36, .inl (upd (zs (fun p => !decide ((s_X5_isPanel jC jR (nI p)) = 0) && !decide (b ≤ (if bc = 0 then fy p else fx p))) (fun p => if fu p = 0 then 1 else 0) fu k) (nI k).toNatClampNeg (vp_nar .boolean (if ((zs (fun p => !decide ((s_X5_isPanel jC jR (nI p)) = 0) && !decide (b ≤ (if bc = 0 then fy p else fx p))) (fun p => if fu p = 0 then 1 else 0) fu k) (nI k).toNatClampNeg) = 0 then 1 else 0)))))] := hD
                          refine lv_iinc (v := nI (k + 1)) (lv' := [(5, .int (nI (k + 1))), (4, .int (lp_X5_fold_44 jC jR fz 36)), (3, .int (s_X5_ahead jC jR fx fy b bc)), (0, .ref qg), (1, .int b), (2, .int bc)]) hx hb dX5_fold_247 hl (k := 0) rfl (nI_succ k).symm (by decide) rfl (fun ls hl => ?_)
                          refine lv_goto (tgt := 95) hx hb dX5_fold_250 (by decide) ?_
                          have hk36 : k < 36 := z_36l hk c22
                          have hb8 := c27
                          rw [zs_at (fun p => !decide ((s_X5_isPanel jC jR (nI p)) = 0) && !decide (b ≤ (if bc = 0 then fy p else fx p))) (fun p => if bc = 0 then fx p else 2 * b - 1 - fx p) fx hk36, zs_at (fun p => !decide ((s_X5_isPanel jC jR (nI p)) = 0) && !decide (b ≤ (if bc = 0 then fy p else fx p))) (fun p => if bc = 0 then 2 * b - 1 - fy p else fy p) fy hk36] at hb8
                          have hs8 : (fun p => !decide ((s_X5_isPanel jC jR (nI p)) = 0) && !decide (b ≤ (if bc = 0 then fy p else fx p))) k = true := by show (!decide _ && !decide _) = true; rw [decide_eq_false c24, decide_eq_false hb8]; rfl
                          have e_qgx : upd (zs (fun p => !decide ((s_X5_isPanel jC jR (nI p)) = 0) && !decide (b ≤ (if bc = 0 then fy p else fx p))) (fun p => if bc = 0 then fx p else 2 * b - 1 - fx p) fx k) (nI k).toNatClampNeg (if bc = 0 then (zs (fun p => !decide ((s_X5_isPanel jC jR (nI p)) = 0) && !decide (b ≤ (if bc = 0 then fy p else fx p))) (fun p => if bc = 0 then fx p else 2 * b - 1 - fx p) fx k) (nI k).toNatClampNeg else ((2 * b) - 1) - ((zs (fun p => !decide ((s_X5_isPanel jC jR (nI p)) = 0) && !decide (b ≤ (if bc = 0 then fy p else fx p))) (fun p => if bc = 0 then fx p else 2 * b - 1 - fx p) fx k) (nI k).toNatClampNeg)) = zs (fun p => !decide ((s_X5_isPanel jC jR (nI p)) = 0) && !decide (b ≤ (if bc = 0 then fy p else fx p))) (fun p => if bc = 0 then fx p else 2 * b - 1 - fx p) fx (k + 1) := zs_put hk36 hs8 (by rw [zs_at (fun p => !decide ((s_X5_isPanel jC jR (nI p)) = 0) && !decide (b ≤ (if bc = 0 then fy p else fx p))) (fun p => if bc = 0 then fx p else 2 * b - 1 - fx p) fx hk36])
                          have e_qgy : upd (zs (fun p => !decide ((s_X5_isPanel jC jR (nI p)) = 0) && !decide (b ≤ (if bc = 0 then fy p else fx p))) (fun p => if bc = 0 then 2 * b - 1 - fy p else fy p) fy k) (nI k).toNatClampNeg (if bc = 0 then ((2 * b) - 1) - ((zs (fun p => !decide ((s_X5_isPanel jC jR (nI p)) = 0) && !decide (b ≤ (if bc = 0 then fy p else fx p))) (fun p => if bc = 0 then 2 * b - 1 - fy p else fy p) fy k) (nI k).toNatClampNeg) else (zs (fun p => !decide ((s_X5_isPanel jC jR (nI p)) = 0) && !decide (b ≤ (if bc = 0 then fy p else fx p))) (fun p => if bc = 0 then 2 * b - 1 - fy p else fy p) fy k) (nI k).toNatClampNeg) = zs (fun p => !decide ((s_X5_isPanel jC jR (nI p)) = 0) && !decide (b ≤ (if bc = 0 then fy p else fx p))) (fun p => if bc = 0 then 2 * b - 1 - fy p else fy p) fy (k + 1) := zs_put hk36 hs8 (by rw [zs_at (fun p => !decide ((s_X5_isPanel jC jR (nI p)) = 0) && !decide (b ≤ (if bc = 0 then fy p else fx p))) (fun p => if bc = 0 then 2 * b - 1 - fy p else fy p) fy hk36])
                          have e_qgz : upd (zs (fun p => !decide ((s_X5_isPanel jC jR (nI p)) = 0) && !decide (b ≤ (if bc = 0 then fy p else fx p))) (fun p => 2 * (lp_X5_fold_44 jC jR fz 36) + 1 - fz p) fz k) (nI k).toNatClampNeg (((2 * (lp_X5_fold_44 jC jR fz 36)) + 1) - ((zs (fun p => !decide ((s_X5_isPanel jC jR (nI p)) = 0) && !decide (b ≤ (if bc = 0 then fy p else fx p))) (fun p => 2 * (lp_X5_fold_44 jC jR fz 36) + 1 - fz p) fz k) (nI k).toNatClampNeg)) = zs (fun p => !decide ((s_X5_isPanel jC jR (nI p)) = 0) && !decide (b ≤ (if bc = 0 then fy p else fx p))) (fun p => 2 * (lp_X5_fold_44 jC jR fz 36) + 1 - fz p) fz (k + 1) := zs_put hk36 hs8 (by rw [zs_at (fun p => !decide ((s_X5_isPanel jC jR (nI p)) = 0) && !decide (b ≤ (if bc = 0 then fy p else fx p))) (fun p => 2 * (lp_X5_fold_44 jC jR fz 36) + 1 - fz p) fz hk36])
                          have e_qgu : upd (zs (fun p => !decide ((s_X5_isPanel jC jR (nI p)) = 0) && !decide (b ≤ (if bc = 0 then fy p else fx p))) (fun p => if fu p = 0 then 1 else 0) fu k) (nI k).toNatClampNeg (vp_nar .boolean (if ((zs (fun p => !decide ((s_X5_isPanel jC jR (nI p)) = 0) && !decide (b ≤ (if bc = 0 then fy p else fx p))) (fun p => if fu p = 0 then 1 else 0) fu k) (nI k).toNatClampNeg) = 0 then 1 else 0)) = zs (fun p => !decide ((s_X5_isPanel jC jR (nI p)) = 0) && !decide (b ≤ (if bc = 0 then fy p else fx p))) (fun p => if fu p = 0 then 1 else 0) fu (k + 1) := zs_put hk36 hs8 (by rw [zs_at (fun p => !decide ((s_X5_isPanel jC jR (nI p)) = 0) && !decide (b ≤ (if bc = 0 then fy p else fx p))) (fun p => if fu p = 0 then 1 else 0) fu hk36]; exact z_b01 (by split <;> simp))
                          rw [e_qgx, e_qgy, e_qgz, e_qgu] at hP hD
                          exact ih14 (k + 1) (by omega) (by omega) _ _ hP hD hS _ (lv_sub hl [0, 1, 2, 3, 4, 5] rfl)
                        refine lv_if_ne (tgt := 245) hx hb dX5_fold_238 (by decide) (fun c34 => ?_) (fun c34 => ?_)
                        · refine lv_iconst (v := 0) hx hb dX5_fold_245 (by decide) ?_
                          exact K33 _ (if_neg c34).symm _ _ hP hD hS _ (lv_sub hl [0, 1, 2, 3, 4, 5] rfl)
                        · refine lv_iconst (v := 1) hx hb dX5_fold_241 (by decide) ?_
                          refine lv_goto (tgt := 246) hx hb dX5_fold_242 (by decide) ?_
                          exact K33 _ (if_pos c34).symm _ _ hP hD hS _ (lv_sub hl [0, 1, 2, 3, 4, 5] rfl)
                      refine lv_if_eq (tgt := 190) hx hb dX5_fold_177 (by decide) (fun c35 => ?_) (fun c35 => ?_)
                      · refine lv_iconst (v := 2) hx hb dX5_fold_190 (by decide) ?_
                        refine lv_iload_n hx hb dX5_fold_191 rfl (lv_at hl 4 rfl) ?_
                        refine lv_imul hx hb dX5_fold_192 ?_
                        refine lv_iconst (v := 1) hx hb dX5_fold_193 (by decide) ?_
                        refine lv_isub hx hb dX5_fold_194 ?_
                        refine lv_aload_n hx hb dX5_fold_195 rfl (lv_at hl 3 rfl) ?_
                        refine va_get (D := D) (ci := 5) (v := .ref qgy) (C := RX5) (T := TX5) (N := 12) hx hb hts (fun w h => List.mem_cons_of_mem _ (List.mem_append_right _ h)) hown hK hP 0 rfl rfl 8 (by decide) (hts (.fieldLink RX5 26 "AtlasFolderModel" "atY" "[I") (List.mem_cons_of_mem _ (List.mem_append_left _ (List.mem_of_getElem? (i := 4) rfl)))) (fun _ h9 => h9) rfl dX5_fold_196 ?_
                        refine lv_iload hx hb dX5_fold_199 (lv_at hl 0 rfl) ?_
                        refine va_iald hx hb hK hP 2 0 rfl rfl (vp_in_nI (z_36l hk c22) (by omega)) dX5_fold_201 ?_
                        refine lv_isub hx hb dX5_fold_202 ?_
                        exact K31 _ (if_pos c35).symm _ _ hP hD hS _ (lv_sub hl [0, 1, 2, 3, 4, 5] rfl)
                      · refine lv_aload_n hx hb dX5_fold_180 rfl (lv_at hl 3 rfl) ?_
                        refine va_get (D := D) (ci := 5) (v := .ref qgy) (C := RX5) (T := TX5) (N := 12) hx hb hts (fun w h => List.mem_cons_of_mem _ (List.mem_append_right _ h)) hown hK hP 0 rfl rfl 8 (by decide) (hts (.fieldLink RX5 26 "AtlasFolderModel" "atY" "[I") (List.mem_cons_of_mem _ (List.mem_append_left _ (List.mem_of_getElem? (i := 4) rfl)))) (fun _ h9 => h9) rfl dX5_fold_181 ?_
                        refine lv_iload hx hb dX5_fold_184 (lv_at hl 0 rfl) ?_
                        refine va_iald hx hb hK hP 2 0 rfl rfl (vp_in_nI (z_36l hk c22) (by omega)) dX5_fold_186 ?_
                        refine lv_goto (tgt := 203) hx hb dX5_fold_187 (by decide) ?_
                        exact K31 _ (if_neg c35).symm _ _ hP hD hS _ (lv_sub hl [0, 1, 2, 3, 4, 5] rfl)
                    refine lv_if_eq (tgt := 162) hx hb dX5_fold_143 (by decide) (fun c36 => ?_) (fun c36 => ?_)
                    · refine lv_aload_n hx hb dX5_fold_162 rfl (lv_at hl 3 rfl) ?_
                      refine va_get (D := D) (ci := 5) (v := .ref qgx) (C := RX5) (T := TX5) (N := 12) hx hb hts (fun w h => List.mem_cons_of_mem _ (List.mem_append_right _ h)) hown hK hP 0 rfl rfl 7 (by decide) (hts (.fieldLink RX5 23 "AtlasFolderModel" "atX" "[I") (List.mem_cons_of_mem _ (List.mem_append_left _ (List.mem_of_getElem? (i := 3) rfl)))) (fun _ h9 => h9) rfl dX5_fold_163 ?_
                      refine lv_iload hx hb dX5_fold_166 (lv_at hl 0 rfl) ?_
                      refine va_iald hx hb hK hP 1 0 rfl rfl (vp_in_nI (z_36l hk c22) (by omega)) dX5_fold_168 ?_
                      exact K29 _ (if_pos c36).symm _ _ hP hD hS _ (lv_sub hl [0, 1, 2, 3, 4, 5] rfl)
                    · refine lv_iconst (v := 2) hx hb dX5_fold_146 (by decide) ?_
                      refine lv_iload_n hx hb dX5_fold_147 rfl (lv_at hl 4 rfl) ?_
                      refine lv_imul hx hb dX5_fold_148 ?_
                      refine lv_iconst (v := 1) hx hb dX5_fold_149 (by decide) ?_
                      refine lv_isub hx hb dX5_fold_150 ?_
                      refine lv_aload_n hx hb dX5_fold_151 rfl (lv_at hl 3 rfl) ?_
                      refine va_get (D := D) (ci := 5) (v := .ref qgx) (C := RX5) (T := TX5) (N := 12) hx hb hts (fun w h => List.mem_cons_of_mem _ (List.mem_append_right _ h)) hown hK hP 0 rfl rfl 7 (by decide) (hts (.fieldLink RX5 23 "AtlasFolderModel" "atX" "[I") (List.mem_cons_of_mem _ (List.mem_append_left _ (List.mem_of_getElem? (i := 3) rfl)))) (fun _ h9 => h9) rfl dX5_fold_152 ?_
                      refine lv_iload hx hb dX5_fold_155 (lv_at hl 0 rfl) ?_
                      refine va_iald hx hb hK hP 1 0 rfl rfl (vp_in_nI (z_36l hk c22) (by omega)) dX5_fold_157 ?_
                      refine lv_isub hx hb dX5_fold_158 ?_
                      refine lv_goto (tgt := 169) hx hb dX5_fold_159 (by decide) ?_
                      exact K29 _ (if_neg c36).symm _ _ hP hD hS _ (lv_sub hl [0, 1, 2, 3, 4, 5] rfl)
                refine lv_if_eq (tgt := 125) hx hb dX5_fold_112 (by decide) (fun c37 => ?_) (fun c37 => ?_)
                · refine lv_aload_n hx hb dX5_fold_125 rfl (lv_at hl 3 rfl) ?_
                  refine va_get (D := D) (ci := 5) (v := .ref qgy) (C := RX5) (T := TX5) (N := 12) hx hb hts (fun w h => List.mem_cons_of_mem _ (List.mem_append_right _ h)) hown hK hP 0 rfl rfl 8 (by decide) (hts (.fieldLink RX5 26 "AtlasFolderModel" "atY" "[I") (List.mem_cons_of_mem _ (List.mem_append_left _ (List.mem_of_getElem? (i := 4) rfl)))) (fun _ h9 => h9) rfl dX5_fold_126 ?_
                  refine lv_iload hx hb dX5_fold_129 (lv_at hl 0 rfl) ?_
                  refine va_iald hx hb hK hP 2 0 rfl rfl (vp_in_nI (z_36l hk c22) (by omega)) dX5_fold_131 ?_
                  exact K26 _ (if_pos c37).symm _ _ hP hD hS _ (lv_sub hl [0, 1, 2, 3, 4, 5] rfl)
                · refine lv_aload_n hx hb dX5_fold_115 rfl (lv_at hl 3 rfl) ?_
                  refine va_get (D := D) (ci := 5) (v := .ref qgx) (C := RX5) (T := TX5) (N := 12) hx hb hts (fun w h => List.mem_cons_of_mem _ (List.mem_append_right _ h)) hown hK hP 0 rfl rfl 7 (by decide) (hts (.fieldLink RX5 23 "AtlasFolderModel" "atX" "[I") (List.mem_cons_of_mem _ (List.mem_append_left _ (List.mem_of_getElem? (i := 3) rfl)))) (fun _ h9 => h9) rfl dX5_fold_116 ?_
                  refine lv_iload hx hb dX5_fold_119 (lv_at hl 0 rfl) ?_
                  refine va_iald hx hb hK hP 1 0 rfl rfl (vp_in_nI (z_36l hk c22) (by omega)) dX5_fold_121 ?_
                  refine lv_goto (tgt := 132) hx hb dX5_fold_122 (by decide) ?_
                  exact K26 _ (if_neg c37).symm _ _ hP hD hS _ (lv_sub hl [0, 1, 2, 3, 4, 5] rfl)
        rw [← zs_0 (fun p => !decide ((s_X5_isPanel jC jR (nI p)) = 0) && !decide (b ≤ (if bc = 0 then fy p else fx p))) (fun p => if bc = 0 then fx p else 2 * b - 1 - fx p) fx, ← zs_0 (fun p => !decide ((s_X5_isPanel jC jR (nI p)) = 0) && !decide (b ≤ (if bc = 0 then fy p else fx p))) (fun p => if bc = 0 then 2 * b - 1 - fy p else fy p) fy, ← zs_0 (fun p => !decide ((s_X5_isPanel jC jR (nI p)) = 0) && !decide (b ≤ (if bc = 0 then fy p else fx p))) (fun p => 2 * (lp_X5_fold_44 jC jR fz 36) + 1 - fz p) fz, ← zs_0 (fun p => !decide ((s_X5_isPanel jC jR (nI p)) = 0) && !decide (b ≤ (if bc = 0 then fy p else fx p))) (fun p => if fu p = 0 then 1 else 0) fu] at hP hD
        exact L14 37 0 (by omega) (by omega) _ _ hP hD hS _ (zlv (lv_sub (l' := [(5, .int 0), (4, .int (lp_X5_fold_44 jC jR fz 36)), (3, .int (s_X5_ahead jC jR fx fy b bc)), (0, .ref qg), (1, .int b), (2, .int bc)]) hl [0, 5, 1, 2, 3, 4] rfl) (by rfl))
      have L13 : ∀ (n k : Nat) (acc : Int32), k ≤ 36 → 36 < k + n → acc = lp_X5_fold_44 jC jR fz k → ∀ (H : Heap) (locs : List Loc), va_P D vwCl [(qg, .inr (5, [.ref qgw, .ref qgh, .ref qgt, .int br, .int jC, .int jR, .int nf, .ref qgx, .ref qgy, .ref qgz, .ref qgu, .int (n_X5_may_qg_11 (if (s_X5_ahead jC jR fx fy b bc) ≤ 0 then 0 else (if (jC * jR) ≤ (s_X5_ahead jC jR fx fy b bc) then 0 else 1)))])), (qgx, .inl (cI, 36, .inl fx)), (qgy, .inl (cI, 36, .inl fy)), (qgz, .inl (cI, 36, .inl fz)), (qgu, .inl (cZ, 36, .inl fu))] H → va_D A [(qg, .inr (5, [.ref qgw, .ref qgh, .ref qgt, .int br, .int jC, .int jR, .int nf, .ref qgx, .ref qgy, .ref qgz, .ref qgu, .int (n_X5_may_qg_11 (if (s_X5_ahead jC jR fx fy b bc) ≤ 0 then 0 else (if (jC * jR) ≤ (s_X5_ahead jC jR fx fy b bc) then 0 else 1)))])), (qgx, .inl (cI, 36, .inl fx)), (qgy, .inl (cI, 36, .inl fy)), (qgz, .inl (cI, 36, .inl fz)), (qgu, .inl (cZ, 36, .inl fu))] → va_S A s.heap H locs → ∀ (ls : Array Slot), lv_has ls 6 [(3, .int (s_X5_ahead jC jR fx fy b bc)), (0, .ref qg), (1, .int b), (2, .int bc), (5, .int (nI k)), (4, .int acc)] → W p l e (headSpec wsX5_fold rm_X5_fold).room s m ([.ref qg, .int b, .int bc]).toArray below meth c H locs 0 0 (MQ below (Qc_X5_fold D cI cZ cJ cD qg qgw qgh qgt br jC jR nf qgx qgy qgz qgu th fx fy fz fu b bc A) ([.ref qg, .int b, .int bc]).toArray s 0 0 A) (F0 m 44 ls []) := by
        intro n
        induction n with
        | zero =>
          intro k acc hk hf
          exact absurd hf (by omega)
        | succ n ih =>
          intro k acc hk hf hacc H locs hP hD hS ls hl
          subst hacc
          refine lv_iload hx hb dX5_fold_44 (lv_at hl 4 rfl) ?_
          refine lv_bipush (v := 36) hx hb dX5_fold_46 (by decide) ?_
          refine lv_icmp_ge (tgt := 92) hx hb dX5_fold_48 (by decide) (fun c38 => ?_) (fun c38 => ?_)
          · have hge : 36 ≤ k := (z_36g hk c38)
            have ek : k = 36 := by omega
            subst ek
            exact X13 _ _ hP hD hS _ (lv_sub hl [0, 1, 2, 3, 5] rfl)
          · refine lv_aload_n hx hb dX5_fold_51 rfl (lv_at hl 1 rfl) ?_
            refine lv_iload hx hb dX5_fold_52 (lv_at hl 4 rfl) ?_
            refine va_calli (va_runV (As := [.int (nI k)]) (rest := []) ⟨hx, hb, hml, hown, hts⟩ (c_X5_isPanel l D cI cZ cJ cD qg qgw qgh qgt br jC jR nf qgx qgy qgz qgu (n_X5_may_qg_11 (if (s_X5_ahead jC jR fx fy b bc) ≤ 0 then 0 else (if (jC * jR) ≤ (s_X5_ahead jC jR fx fy b bc) then 0 else 1))) (nI k) ) (cwV 1 hts gX5_fold_X5_isPanel rfl rfl rfl (by decide +kernel) ⟨Nat.le_of_ble_eq_true rfl, Nat.le_of_ble_eq_true rfl⟩) ⟨zblind, va_recv hK hP (ci := 5) (q0 := 0) rfl rfl, (fun U hU hW => ⟨rfl, by rw [hU]; exact hP.sub (ws' := [(qg, .inr (5, [.ref qgw, .ref qgh, .ref qgt, .int br, .int jC, .int jR, .int nf, .ref qgx, .ref qgy, .ref qgz, .ref qgu, .int (n_X5_may_qg_11 (if (s_X5_ahead jC jR fx fy b bc) ≤ 0 then 0 else (if (jC * jR) ≤ (s_X5_ahead jC jR fx fy b bc) then 0 else 1)))]))]) [0] rfl, va_K.moved hW.alike hK⟩)⟩ rfl rfl hl.1 rfl (lv_room (Nat.le_of_ble_eq_true rfl)) dX5_fold_54 ⟨Nat.le_of_ble_eq_true rfl, Nat.le_of_ble_eq_true rfl⟩) hS (fun q _ h => h.elim) (fun q h => h.elim) (fun r39 u t H locs ht hvm hw hB hz1 hk1 hS => ?_)
            rw [hw]
            have hP := zk hP hk1
            have K41 : ∀ v41_0 : Int32, v41_0 = (if (s_X5_isPanel jC jR (nI k)) = 0 then lp_X5_fold_44 jC jR fz k else (if (fz (nI k).toNatClampNeg) ≤ (lp_X5_fold_44 jC jR fz k) then lp_X5_fold_44 jC jR fz k else fz (nI k).toNatClampNeg)) → ∀ (H : Heap) (locs : List Loc), va_P D vwCl [(qg, .inr (5, [.ref qgw, .ref qgh, .ref qgt, .int br, .int jC, .int jR, .int nf, .ref qgx, .ref qgy, .ref qgz, .ref qgu, .int (n_X5_may_qg_11 (if (s_X5_ahead jC jR fx fy b bc) ≤ 0 then 0 else (if (jC * jR) ≤ (s_X5_ahead jC jR fx fy b bc) then 0 else 1)))])), (qgx, .inl (cI, 36, .inl fx)), (qgy, .inl (cI, 36, .inl fy)), (qgz, .inl (cI, 36, .inl fz)), (qgu, .inl (cZ, 36, .inl fu))] H → va_D A [(qg, .inr (5, [.ref qgw, .ref qgh, .ref qgt, .int br, .int jC, .int jR, .int nf, .ref qgx, .ref qgy, .ref qgz, .ref qgu, .int (n_X5_may_qg_11 (if (s_X5_ahead jC jR fx fy b bc) ≤ 0 then 0 else (if (jC * jR) ≤ (s_X5_ahead jC jR fx fy b bc) then 0 else 1)))])), (qgx, .inl (cI, 36, .inl fx)), (qgy, .inl (cI, 36, .inl fy)), (qgz, .inl (cI, 36, .inl fz)), (qgu, .inl (cZ, 36, .inl fu))] → va_S A s.heap H locs → ∀ (ls : Array Slot), lv_has ls 6 [(3, .int (s_X5_ahead jC jR fx fy b bc)), (0, .ref qg), (1, .int b), (2, .int bc), (5, .int (nI k)), (4, .int (lp_X5_fold_44 jC jR fz k))] → W p l e (headSpec wsX5_fold rm_X5_fold).room s m ([.ref qg, .int b, .int bc]).toArray below meth c H locs 0 0 (MQ below (Qc_X5_fold D cI cZ cJ cD qg qgw qgh qgt br jC jR nf qgx qgy qgz qgu th fx fy fz fu b bc A) ([.ref qg, .int b, .int bc]).toArray s 0 0 A) (F0 m 84 ls [.int v41_0]) := by
              intro v41_0 hv41_0 H locs hP hD hS ls hl
              subst hv41_0
              refine lv_istore (lv' := [(4, .int (if (s_X5_isPanel jC jR (nI k)) = 0 then lp_X5_fold_44 jC jR fz k else (if (fz (nI k).toNatClampNeg) ≤ (lp_X5_fold_44 jC jR fz k) then lp_X5_fold_44 jC jR fz k else fz (nI k).toNatClampNeg))), (3, .int (s_X5_ahead jC jR fx fy b bc)), (0, .ref qg), (1, .int b), (2, .int bc), (5, .int (nI k))]) hx hb dX5_fold_84 hl (by decide) rfl (fun ls hl => ?_)
              refine lv_iinc (v := nI (k + 1)) (lv' := [(5, .int (nI (k + 1))), (4, .int (if (s_X5_isPanel jC jR (nI k)) = 0 then lp_X5_fold_44 jC jR fz k else (if (fz (nI k).toNatClampNeg) ≤ (lp_X5_fold_44 jC jR fz k) then lp_X5_fold_44 jC jR fz k else fz (nI k).toNatClampNeg))), (3, .int (s_X5_ahead jC jR fx fy b bc)), (0, .ref qg), (1, .int b), (2, .int bc)]) hx hb dX5_fold_86 hl (k := 5) rfl (nI_succ k).symm (by decide) rfl (fun ls hl => ?_)
              refine lv_goto (tgt := 44) hx hb dX5_fold_89 (by decide) ?_
              have hlt : k < 36 := (z_36l hk c38)
              exact ih (k + 1) _ (by omega) (by omega) rfl _ _ hP hD hS _ (lv_sub hl [2, 3, 4, 5, 0, 1] rfl)
            refine lv_if_eq (tgt := 82) hx hb dX5_fold_57 (by decide) (fun c42 => ?_) (fun c42 => ?_)
            · refine lv_iload hx hb dX5_fold_82 (lv_at hl 5 rfl) ?_
              exact K41 _ (if_pos c42).symm _ _ hP hD hS _ (lv_sub hl [0, 1, 2, 3, 4, 5] rfl)
            · refine lv_aload_n hx hb dX5_fold_60 rfl (lv_at hl 1 rfl) ?_
              refine va_get (D := D) (ci := 5) (v := .ref qgz) (C := RX5) (T := TX5) (N := 12) hx hb hts (fun w h => List.mem_cons_of_mem _ (List.mem_append_right _ h)) hown hK hP 0 rfl rfl 9 (by decide) (hts (.fieldLink RX5 29 "AtlasFolderModel" "layer" "[I") (List.mem_cons_of_mem _ (List.mem_append_left _ (List.mem_of_getElem? (i := 2) rfl)))) (fun _ h9 => h9) rfl dX5_fold_61 ?_
              refine lv_iload hx hb dX5_fold_64 (lv_at hl 4 rfl) ?_
              refine va_iald hx hb hK hP 3 0 rfl rfl (vp_in_nI (z_36l hk c38) (by omega)) dX5_fold_66 ?_
              refine lv_iload hx hb dX5_fold_67 (lv_at hl 5 rfl) ?_
              refine lv_icmp_le (tgt := 82) hx hb dX5_fold_69 (by decide) (fun c43 => ?_) (fun c43 => ?_)
              · refine lv_iload hx hb dX5_fold_82 (lv_at hl 5 rfl) ?_
                exact K41 _ ((if_neg c42).trans (if_pos c43)).symm _ _ hP hD hS _ (lv_sub hl [0, 1, 2, 3, 4, 5] rfl)
              · refine lv_aload_n hx hb dX5_fold_72 rfl (lv_at hl 1 rfl) ?_
                refine va_get (D := D) (ci := 5) (v := .ref qgz) (C := RX5) (T := TX5) (N := 12) hx hb hts (fun w h => List.mem_cons_of_mem _ (List.mem_append_right _ h)) hown hK hP 0 rfl rfl 9 (by decide) (hts (.fieldLink RX5 29 "AtlasFolderModel" "layer" "[I") (List.mem_cons_of_mem _ (List.mem_append_left _ (List.mem_of_getElem? (i := 2) rfl)))) (fun _ h9 => h9) rfl dX5_fold_73 ?_
                refine lv_iload hx hb dX5_fold_76 (lv_at hl 4 rfl) ?_
                refine va_iald hx hb hK hP 3 0 rfl rfl (vp_in_nI (z_36l hk c38) (by omega)) dX5_fold_78 ?_
                refine lv_goto (tgt := 84) hx hb dX5_fold_79 (by decide) ?_
                exact K41 _ ((if_neg c42).trans (if_neg c43)).symm _ _ hP hD hS _ (lv_sub hl [0, 1, 2, 3, 4, 5] rfl)
      exact L13 (36 + 1) 0 _ (Nat.zero_le _) (by omega) rfl _ _ hP hD hS _ (lv_sub hl [2, 3, 4, 5, 0, 1] rfl)
    · refine lv_iconst (v := 0) hx hb dX5_fold_36 (by decide) ?_
      have e44 : s_X5_fold jC jR fx fy b bc = 0 := by
        unfold s_X5_fold
        exact (if_pos c12)
      have e45 : n_X5_fold_qg_6 jC jR nf fx fy b bc = nf := by
        unfold n_X5_fold_qg_6
        exact (if_pos c12)
      have e46 : n_X5_fold_qg_11 jC jR fx fy b bc = n_X5_may_qg_11 (if (s_X5_ahead jC jR fx fy b bc) ≤ 0 then 0 else (if (jC * jR) ≤ (s_X5_ahead jC jR fx fy b bc) then 0 else 1)) := rfl
      have e47 : n_X5_fold_qgx jC jR fx fy b bc = fx := by
        unfold n_X5_fold_qgx
        exact (if_pos c12)
      have e48 : n_X5_fold_qgy jC jR fx fy b bc = fy := by
        unfold n_X5_fold_qgy
        exact (if_pos c12)
      have e49 : n_X5_fold_qgz jC jR fx fy fz b bc = fz := by
        unfold n_X5_fold_qgz
        exact (if_pos c12)
      have e50 : n_X5_fold_qgu jC jR fx fy fu b bc = fu := by
        unfold n_X5_fold_qgu
        exact (if_pos c12)
      exact W.iret (v := 0) hx hb hr (fun t ht hW => ⟨⟨_, (), rfl, e44.symm, ⟨(by rw [e45, e46, e47, e48, e49, e50]; rw [ht]; exact hP), va_K.moved hW.alike hK, (by rw [e45, e46, e47, e48, e49, e50]; exact hD)⟩⟩, hS.F ht⟩) hS.2.2 dX5_fold_37
  refine lv_if_le (tgt := 29) hx hb dX5_fold_9 (by decide) (fun c51 => ?_) (fun c51 => ?_)
  · refine lv_iconst (v := 0) hx hb dX5_fold_29 (by decide) ?_
    exact K10 _ (if_pos c51).symm _ _ hP hD hS _ (lv_sub hl [0, 1, 2, 3] rfl)
  · refine lv_iload_n hx hb dX5_fold_12 rfl (lv_at hl 0 rfl) ?_
    refine lv_aload_n hx hb dX5_fold_13 rfl (lv_at hl 1 rfl) ?_
    refine va_get (D := D) (ci := 5) (v := .int jC) (C := RX5) (T := TX5) (N := 12) hx hb hts (fun w h => List.mem_cons_of_mem _ (List.mem_append_right _ h)) hown hK hP 0 rfl rfl 4 (by decide) (hts (.fieldLink RX5 36 "AtlasFolderModel" "columns" "I") (List.mem_cons_of_mem _ (List.mem_append_left _ (List.mem_of_getElem? (i := 0) rfl)))) (fun _ h9 => h9) rfl dX5_fold_14 ?_
    refine lv_aload_n hx hb dX5_fold_17 rfl (lv_at hl 1 rfl) ?_
    refine va_get (D := D) (ci := 5) (v := .int jR) (C := RX5) (T := TX5) (N := 12) hx hb hts (fun w h => List.mem_cons_of_mem _ (List.mem_append_right _ h)) hown hK hP 0 rfl rfl 5 (by decide) (hts (.fieldLink RX5 39 "AtlasFolderModel" "rows" "I") (List.mem_cons_of_mem _ (List.mem_append_left _ (List.mem_of_getElem? (i := 1) rfl)))) (fun _ h9 => h9) rfl dX5_fold_18 ?_
    refine lv_imul hx hb dX5_fold_21 ?_
    refine lv_icmp_ge (tgt := 29) hx hb dX5_fold_22 (by decide) (fun c52 => ?_) (fun c52 => ?_)
    · refine lv_iconst (v := 0) hx hb dX5_fold_29 (by decide) ?_
      exact K10 _ ((if_neg c51).trans (if_pos c52)).symm _ _ hP hD hS _ (lv_sub hl [0, 1, 2, 3] rfl)
    · refine lv_iconst (v := 1) hx hb dX5_fold_25 (by decide) ?_
      refine lv_goto (tgt := 30) hx hb dX5_fold_26 (by decide) ?_
      exact K10 _ ((if_neg c51).trans (if_neg c52)).symm _ _ hP hD hS _ (lv_sub hl [0, 1, 2, 3] rfl)
def s_X5_foldColumns (jC : Int32) (jR : Int32) (fx : Nat → Int32) (fy : Nat → Int32) (b : Int32) : Int32 := s_X5_fold jC jR fx fy b 1
def n_X5_foldColumns_qg_6 (jC : Int32) (jR : Int32) (nf : Int32) (fx : Nat → Int32) (fy : Nat → Int32) (b : Int32) : Int32 := n_X5_fold_qg_6 jC jR nf fx fy b 1
def n_X5_foldColumns_qg_11 (jC : Int32) (jR : Int32) (fx : Nat → Int32) (fy : Nat → Int32) (b : Int32) : Int32 := n_X5_fold_qg_11 jC jR fx fy b 1
def n_X5_foldColumns_qgx (jC : Int32) (jR : Int32) (fx : Nat → Int32) (fy : Nat → Int32) (b : Int32) : Nat → Int32 := n_X5_fold_qgx jC jR fx fy b 1
def n_X5_foldColumns_qgy (jC : Int32) (jR : Int32) (fx : Nat → Int32) (fy : Nat → Int32) (b : Int32) : Nat → Int32 := n_X5_fold_qgy jC jR fx fy b 1
def n_X5_foldColumns_qgz (jC : Int32) (jR : Int32) (fx : Nat → Int32) (fy : Nat → Int32) (fz : Nat → Int32) (b : Int32) : Nat → Int32 := n_X5_fold_qgz jC jR fx fy fz b 1
def n_X5_foldColumns_qgu (jC : Int32) (jR : Int32) (fx : Nat → Int32) (fy : Nat → Int32) (fu : Nat → Int32) (b : Int32) : Nat → Int32 := n_X5_fold_qgu jC jR fx fy fu b 1
abbrev rm_X5_foldColumns : Room := { frames := 3, cells := 0, slots := 0, locals := 70 }
abbrev Qc_X5_foldColumns (D : va_G) (cI cZ cJ cD : ClassId) (qg : Nat) (qgw : Nat) (qgh : Nat) (qgt : Nat) (br : Int32) (jC : Int32) (jR : Int32) (nf : Int32) (qgx : Nat) (qgy : Nat) (qgz : Nat) (qgu : Nat) (th : Int32) (fx : Nat → Int32) (fy : Nat → Int32) (fz : Nat → Int32) (fu : Nat → Int32) (b : Int32) (A : Nat → Prop) : Array Value → State → Outcome → State → Prop := va_Qi (fun (r : Int32) (_ : Unit) => r = s_X5_foldColumns jC jR fx fy b) (zPost D cI cZ cJ cD A [(qg, .inr (5, [.ref qgw, .ref qgh, .ref qgt, .int br, .int jC, .int jR, .int (n_X5_foldColumns_qg_6 jC jR nf fx fy b), .ref qgx, .ref qgy, .ref qgz, .ref qgu, .int (n_X5_foldColumns_qg_11 jC jR fx fy b)])), (qgx, .inl (cI, 36, .inl (n_X5_foldColumns_qgx jC jR fx fy b))), (qgy, .inl (cI, 36, .inl (n_X5_foldColumns_qgy jC jR fx fy b))), (qgz, .inl (cI, 36, .inl (n_X5_foldColumns_qgz jC jR fx fy fz b))), (qgu, .inl (cZ, 36, .inl (n_X5_foldColumns_qgu jC jR fx fy fu b)))]) A
set_option maxHeartbeats 1000000 in
set_option maxRecDepth 100000 in
theorem c_X5_foldColumns (l : Launch) (D : va_G) (cI cZ cJ cD : ClassId) (qg : Nat) (qgw : Nat) (qgh : Nat) (qgt : Nat) (br : Int32) (jC : Int32) (jR : Int32) (nf : Int32) (qgx : Nat) (qgy : Nat) (qgz : Nat) (qgu : Nat) (th : Int32) (fx : Nat → Int32) (fy : Nat → Int32) (fz : Nat → Int32) (fu : Nat → Int32) (b : Int32) (sz : Nat)  : Met l yX5_foldColumns wsX5_foldColumns rm_X5_foldColumns (va_Pc [.ref qg, .int b] (zPreW D cI cZ cJ cD [(qg, .inr (5, [.ref qgw, .ref qgh, .ref qgt, .int br, .int jC, .int jR, .int nf, .ref qgx, .ref qgy, .ref qgz, .ref qgu, .int th])), (qgx, .inl (cI, 36, .inl fx)), (qgy, .inl (cI, 36, .inl fy)), (qgz, .inl (cI, 36, .inl fz)), (qgu, .inl (cZ, 36, .inl fu))] sz)) (Qc_X5_foldColumns D cI cZ cJ cD qg qgw qgh qgt br jC jR nf qgx qgy qgz qgu th fx fy fz fu b (va_A [(qg, .inr (5, [.ref qgw, .ref qgh, .ref qgt, .int br, .int jC, .int jR, .int nf, .ref qgx, .ref qgy, .ref qgz, .ref qgu, .int th])), (qgx, .inl (cI, 36, .inl fx)), (qgy, .inl (cI, 36, .inl fy)), (qgz, .inl (cI, 36, .inl fz)), (qgu, .inl (cZ, 36, .inl fu))] sz)) 0 0 (va_A [(qg, .inr (5, [.ref qgw, .ref qgh, .ref qgt, .int br, .int jC, .int jR, .int nf, .ref qgx, .ref qgy, .ref qgz, .ref qgu, .int th])), (qgx, .inl (cI, 36, .inl fx)), (qgy, .inl (cI, 36, .inl fy)), (qgz, .inl (cI, 36, .inl fz)), (qgu, .inl (cZ, 36, .inl fu))] sz) := by
  refine Met.ofW (cc := cX5_foldColumns) (maxL := 2) (ret := (some .int)) (by decide) rfl ?_
  intro p e s m args below meth c s₁ B hml hv
  obtain ⟨rfl, hsz, hP, hK, hD0⟩ := hv
  have hx := B.exec
  have hb := B.bytes
  have hr := B.returns
  have hts := atoms_spec (ws := wsX5_foldColumns) B.pre
  have hown : s.vm.findClass RX5 = some m.cls := findClass_of_methodNamed B.named
  have hlocks := B.notSynchronized
  subst hsz
  have hD := hD0.self (sz := s.heap.size)
  generalize hAe : va_A [(qg, .inr (5, [.ref qgw, .ref qgh, .ref qgt, .int br, .int jC, .int jR, .int nf, .ref qgx, .ref qgy, .ref qgz, .ref qgu, .int th])), (qgx, .inl (cI, 36, .inl fx)), (qgy, .inl (cI, 36, .inl fy)), (qgz, .inl (cI, 36, .inl fz)), (qgu, .inl (cZ, 36, .inl fu))] s.heap.size = A at hD ⊢
  have hA : ∀ q : Nat, s.heap.size ≤ q → A q := fun q h => by rw [← hAe]; exact Or.inr h
  have hS : va_S A s.heap s.heap [] := va_S.rf
  have hl := lv_entry ([.ref qg, .int b]) (n := 2) (Nat.le_of_ble_eq_true rfl)
  rw [lg_entry_eq]
  generalize (lg_sl ([.ref qg, .int b]) ++ List.replicate (2 - (lg_sl ([.ref qg, .int b])).length) Slot.unset).toArray = ls at hl ⊢
  have hl : lv_has ls 2 [(0, .ref qg), (1, .int b)] := hl
  have hP : va_P D vwCl [(qg, .inr (5, [.ref qgw, .ref qgh, .ref qgt, .int br, .int jC, .int jR, .int nf, .ref qgx, .ref qgy, .ref qgz, .ref qgu, .int th])), (qgx, .inl (cI, 36, .inl fx)), (qgy, .inl (cI, 36, .inl fy)), (qgz, .inl (cI, 36, .inl fz)), (qgu, .inl (cZ, 36, .inl fu))] s.heap := hP
  have hP := hP
  refine lv_aload_n hx hb dX5_foldColumns_0 rfl (lv_at hl 0 rfl) ?_
  refine lv_iload_n hx hb dX5_foldColumns_1 rfl (lv_at hl 1 rfl) ?_
  refine lv_iconst (v := 1) hx hb dX5_foldColumns_2 (by decide) ?_
  have hPc := hP.sub (ws' := [(qg, .inr (5, [.ref qgw, .ref qgh, .ref qgt, .int br, .int jC, .int jR, .int nf, .ref qgx, .ref qgy, .ref qgz, .ref qgu, .int th])), (qgx, .inl (cI, 36, .inl fx)), (qgy, .inl (cI, 36, .inl fy)), (qgz, .inl (cI, 36, .inl fz)), (qgu, .inl (cZ, 36, .inl fu))]) [0, 1, 2, 3, 4] rfl
  have hDc := hD.sub (ws' := [(qg, .inr (5, [.ref qgw, .ref qgh, .ref qgt, .int br, .int jC, .int jR, .int nf, .ref qgx, .ref qgy, .ref qgz, .ref qgu, .int th])), (qgx, .inl (cI, 36, .inl fx)), (qgy, .inl (cI, 36, .inl fy)), (qgz, .inl (cI, 36, .inl fz)), (qgu, .inl (cZ, 36, .inl fu))]) [0, 1, 2, 3, 4] (by decide) rfl
  have hFc := va_free (wc := [(qg, .inr (5, [.ref qgw, .ref qgh, .ref qgt, .int br, .int jC, .int jR, .int nf, .ref qgx, .ref qgy, .ref qgz, .ref qgu, .int th])), (qgx, .inl (cI, 36, .inl fx)), (qgy, .inl (cI, 36, .inl fy)), (qgz, .inl (cI, 36, .inl fz)), (qgu, .inl (cZ, 36, .inl fu))]) hD hS hA [0, 1, 2, 3, 4] rfl
  refine va_calli (va_runV (As := [.int b, .int 1]) (rest := []) ⟨hx, hb, hml, hown, hts⟩ (c_X5_fold l D cI cZ cJ cD qg qgw qgh qgt br jC jR nf qgx qgy qgz qgu th fx fy fz fu b 1 s.heap.size ) (cwV 2 hts gX5_foldColumns_X5_fold rfl rfl rfl (by decide +kernel) ⟨Nat.le_of_ble_eq_true rfl, Nat.le_of_ble_eq_true rfl⟩) ⟨zblindW, va_recv hK hP (ci := 5) (q0 := 0) rfl rfl, (fun U hU hW => ⟨rfl, by rw [hU], by rw [hU]; exact hPc, va_K.moved hW.alike hK, hDc.weaken (fun _ _ _ _ => trivial)⟩)⟩ rfl rfl hl.1 rfl (lv_room (Nat.le_of_ble_eq_true rfl)) dX5_foldColumns_3 ⟨Nat.le_of_ble_eq_true rfl, Nat.le_of_ble_eq_true rfl⟩) hS (fun q _ h => hFc q h) hFc (fun r2 u t H locs ht hvm hw hB hz1 hk1 hS => ?_)
  rw [hw]
  obtain ⟨hP1, hK1, hD1⟩ := hB
  rw [ht] at hP1
  obtain ⟨hP, hD⟩ := va_join (wr := []) (w1 := [(qg, .inr (5, [.ref qgw, .ref qgh, .ref qgt, .int br, .int jC, .int jR, .int (n_X5_fold_qg_6 jC jR nf fx fy b 1), .ref qgx, .ref qgy, .ref qgz, .ref qgu, .int (n_X5_fold_qg_11 jC jR fx fy b 1)])), (qgx, .inl (cI, 36, .inl (n_X5_fold_qgx jC jR fx fy b 1))), (qgy, .inl (cI, 36, .inl (n_X5_fold_qgy jC jR fx fy b 1))), (qgz, .inl (cI, 36, .inl (n_X5_fold_qgz jC jR fx fy fz b 1))), (qgu, .inl (cZ, 36, .inl (n_X5_fold_qgu jC jR fx fy fu b 1)))]) hP hD [0, 1, 2, 3, 4] [] rfl rfl (by decide) (by decide) hk1 hFc hP1 hD1
  have hP := hP.sub (ws' := [(qg, .inr (5, [.ref qgw, .ref qgh, .ref qgt, .int br, .int jC, .int jR, .int (n_X5_fold_qg_6 jC jR nf fx fy b 1), .ref qgx, .ref qgy, .ref qgz, .ref qgu, .int (n_X5_fold_qg_11 jC jR fx fy b 1)])), (qgx, .inl (cI, 36, .inl (n_X5_fold_qgx jC jR fx fy b 1))), (qgy, .inl (cI, 36, .inl (n_X5_fold_qgy jC jR fx fy b 1))), (qgz, .inl (cI, 36, .inl (n_X5_fold_qgz jC jR fx fy fz b 1))), (qgu, .inl (cZ, 36, .inl (n_X5_fold_qgu jC jR fx fy fu b 1)))]) [0, 1, 2, 3, 4] rfl
  have hD := hD.sub (ws' := [(qg, .inr (5, [.ref qgw, .ref qgh, .ref qgt, .int br, .int jC, .int jR, .int (n_X5_fold_qg_6 jC jR nf fx fy b 1), .ref qgx, .ref qgy, .ref qgz, .ref qgu, .int (n_X5_fold_qg_11 jC jR fx fy b 1)])), (qgx, .inl (cI, 36, .inl (n_X5_fold_qgx jC jR fx fy b 1))), (qgy, .inl (cI, 36, .inl (n_X5_fold_qgy jC jR fx fy b 1))), (qgz, .inl (cI, 36, .inl (n_X5_fold_qgz jC jR fx fy fz b 1))), (qgu, .inl (cZ, 36, .inl (n_X5_fold_qgu jC jR fx fy fu b 1)))]) [0, 1, 2, 3, 4] (by decide) rfl
  have e3 : s_X5_foldColumns jC jR fx fy b = s_X5_fold jC jR fx fy b 1 := rfl
  have e4 : n_X5_foldColumns_qg_6 jC jR nf fx fy b = n_X5_fold_qg_6 jC jR nf fx fy b 1 := rfl
  have e5 : n_X5_foldColumns_qg_11 jC jR fx fy b = n_X5_fold_qg_11 jC jR fx fy b 1 := rfl
  have e6 : n_X5_foldColumns_qgx jC jR fx fy b = n_X5_fold_qgx jC jR fx fy b 1 := rfl
  have e7 : n_X5_foldColumns_qgy jC jR fx fy b = n_X5_fold_qgy jC jR fx fy b 1 := rfl
  have e8 : n_X5_foldColumns_qgz jC jR fx fy fz b = n_X5_fold_qgz jC jR fx fy fz b 1 := rfl
  have e9 : n_X5_foldColumns_qgu jC jR fx fy fu b = n_X5_fold_qgu jC jR fx fy fu b 1 := rfl
  exact W.iret (v := (s_X5_fold jC jR fx fy b 1)) hx hb hr (fun t ht hW => ⟨⟨_, (), rfl, e3.symm, ⟨(by rw [e4, e5, e6, e7, e8, e9]; rw [ht]; exact hP), va_K.moved hW.alike hK, (by rw [e4, e5, e6, e7, e8, e9]; exact hD)⟩⟩, hS.F ht⟩) hS.2.2 dX5_foldColumns_6
def s_X5_foldRows (jC : Int32) (jR : Int32) (fx : Nat → Int32) (fy : Nat → Int32) (b : Int32) : Int32 := s_X5_fold jC jR fx fy b 0
def n_X5_foldRows_qg_6 (jC : Int32) (jR : Int32) (nf : Int32) (fx : Nat → Int32) (fy : Nat → Int32) (b : Int32) : Int32 := n_X5_fold_qg_6 jC jR nf fx fy b 0
def n_X5_foldRows_qg_11 (jC : Int32) (jR : Int32) (fx : Nat → Int32) (fy : Nat → Int32) (b : Int32) : Int32 := n_X5_fold_qg_11 jC jR fx fy b 0
def n_X5_foldRows_qgx (jC : Int32) (jR : Int32) (fx : Nat → Int32) (fy : Nat → Int32) (b : Int32) : Nat → Int32 := n_X5_fold_qgx jC jR fx fy b 0
def n_X5_foldRows_qgy (jC : Int32) (jR : Int32) (fx : Nat → Int32) (fy : Nat → Int32) (b : Int32) : Nat → Int32 := n_X5_fold_qgy jC jR fx fy b 0
def n_X5_foldRows_qgz (jC : Int32) (jR : Int32) (fx : Nat → Int32) (fy : Nat → Int32) (fz : Nat → Int32) (b : Int32) : Nat → Int32 := n_X5_fold_qgz jC jR fx fy fz b 0
def n_X5_foldRows_qgu (jC : Int32) (jR : Int32) (fx : Nat → Int32) (fy : Nat → Int32) (fu : Nat → Int32) (b : Int32) : Nat → Int32 := n_X5_fold_qgu jC jR fx fy fu b 0
abbrev rm_X5_foldRows : Room := { frames := 3, cells := 0, slots := 0, locals := 70 }
abbrev Qc_X5_foldRows (D : va_G) (cI cZ cJ cD : ClassId) (qg : Nat) (qgw : Nat) (qgh : Nat) (qgt : Nat) (br : Int32) (jC : Int32) (jR : Int32) (nf : Int32) (qgx : Nat) (qgy : Nat) (qgz : Nat) (qgu : Nat) (th : Int32) (fx : Nat → Int32) (fy : Nat → Int32) (fz : Nat → Int32) (fu : Nat → Int32) (b : Int32) (A : Nat → Prop) : Array Value → State → Outcome → State → Prop := va_Qi (fun (r : Int32) (_ : Unit) => r = s_X5_foldRows jC jR fx fy b) (zPost D cI cZ cJ cD A [(qg, .inr (5, [.ref qgw, .ref qgh, .ref qgt, .int br, .int jC, .int jR, .int (n_X5_foldRows_qg_6 jC jR nf fx fy b), .ref qgx, .ref qgy, .ref qgz, .ref qgu, .int (n_X5_foldRows_qg_11 jC jR fx fy b)])), (qgx, .inl (cI, 36, .inl (n_X5_foldRows_qgx jC jR fx fy b))), (qgy, .inl (cI, 36, .inl (n_X5_foldRows_qgy jC jR fx fy b))), (qgz, .inl (cI, 36, .inl (n_X5_foldRows_qgz jC jR fx fy fz b))), (qgu, .inl (cZ, 36, .inl (n_X5_foldRows_qgu jC jR fx fy fu b)))]) A
set_option maxHeartbeats 1000000 in
set_option maxRecDepth 100000 in
theorem c_X5_foldRows (l : Launch) (D : va_G) (cI cZ cJ cD : ClassId) (qg : Nat) (qgw : Nat) (qgh : Nat) (qgt : Nat) (br : Int32) (jC : Int32) (jR : Int32) (nf : Int32) (qgx : Nat) (qgy : Nat) (qgz : Nat) (qgu : Nat) (th : Int32) (fx : Nat → Int32) (fy : Nat → Int32) (fz : Nat → Int32) (fu : Nat → Int32) (b : Int32) (sz : Nat)  : Met l yX5_foldRows wsX5_foldRows rm_X5_foldRows (va_Pc [.ref qg, .int b] (zPreW D cI cZ cJ cD [(qg, .inr (5, [.ref qgw, .ref qgh, .ref qgt, .int br, .int jC, .int jR, .int nf, .ref qgx, .ref qgy, .ref qgz, .ref qgu, .int th])), (qgx, .inl (cI, 36, .inl fx)), (qgy, .inl (cI, 36, .inl fy)), (qgz, .inl (cI, 36, .inl fz)), (qgu, .inl (cZ, 36, .inl fu))] sz)) (Qc_X5_foldRows D cI cZ cJ cD qg qgw qgh qgt br jC jR nf qgx qgy qgz qgu th fx fy fz fu b (va_A [(qg, .inr (5, [.ref qgw, .ref qgh, .ref qgt, .int br, .int jC, .int jR, .int nf, .ref qgx, .ref qgy, .ref qgz, .ref qgu, .int th])), (qgx, .inl (cI, 36, .inl fx)), (qgy, .inl (cI, 36, .inl fy)), (qgz, .inl (cI, 36, .inl fz)), (qgu, .inl (cZ, 36, .inl fu))] sz)) 0 0 (va_A [(qg, .inr (5, [.ref qgw, .ref qgh, .ref qgt, .int br, .int jC, .int jR, .int nf, .ref qgx, .ref qgy, .ref qgz, .ref qgu, .int th])), (qgx, .inl (cI, 36, .inl fx)), (qgy, .inl (cI, 36, .inl fy)), (qgz, .inl (cI, 36, .inl fz)), (qgu, .inl (cZ, 36, .inl fu))] sz) := by
  refine Met.ofW (cc := cX5_foldRows) (maxL := 2) (ret := (some .int)) (by decide) rfl ?_
  intro p e s m args below meth c s₁ B hml hv
  obtain ⟨rfl, hsz, hP, hK, hD0⟩ := hv
  have hx := B.exec
  have hb := B.bytes
  have hr := B.returns
  have hts := atoms_spec (ws := wsX5_foldRows) B.pre
  have hown : s.vm.findClass RX5 = some m.cls := findClass_of_methodNamed B.named
  have hlocks := B.notSynchronized
  subst hsz
  have hD := hD0.self (sz := s.heap.size)
  generalize hAe : va_A [(qg, .inr (5, [.ref qgw, .ref qgh, .ref qgt, .int br, .int jC, .int jR, .int nf, .ref qgx, .ref qgy, .ref qgz, .ref qgu, .int th])), (qgx, .inl (cI, 36, .inl fx)), (qgy, .inl (cI, 36, .inl fy)), (qgz, .inl (cI, 36, .inl fz)), (qgu, .inl (cZ, 36, .inl fu))] s.heap.size = A at hD ⊢
  have hA : ∀ q : Nat, s.heap.size ≤ q → A q := fun q h => by rw [← hAe]; exact Or.inr h
  have hS : va_S A s.heap s.heap [] := va_S.rf
  have hl := lv_entry ([.ref qg, .int b]) (n := 2) (Nat.le_of_ble_eq_true rfl)
  rw [lg_entry_eq]
  generalize (lg_sl ([.ref qg, .int b]) ++ List.replicate (2 - (lg_sl ([.ref qg, .int b])).length) Slot.unset).toArray = ls at hl ⊢
  have hl : lv_has ls 2 [(0, .ref qg), (1, .int b)] := hl
  have hP : va_P D vwCl [(qg, .inr (5, [.ref qgw, .ref qgh, .ref qgt, .int br, .int jC, .int jR, .int nf, .ref qgx, .ref qgy, .ref qgz, .ref qgu, .int th])), (qgx, .inl (cI, 36, .inl fx)), (qgy, .inl (cI, 36, .inl fy)), (qgz, .inl (cI, 36, .inl fz)), (qgu, .inl (cZ, 36, .inl fu))] s.heap := hP
  have hP := hP
  refine lv_aload_n hx hb dX5_foldRows_0 rfl (lv_at hl 0 rfl) ?_
  refine lv_iload_n hx hb dX5_foldRows_1 rfl (lv_at hl 1 rfl) ?_
  refine lv_iconst (v := 0) hx hb dX5_foldRows_2 (by decide) ?_
  have hPc := hP.sub (ws' := [(qg, .inr (5, [.ref qgw, .ref qgh, .ref qgt, .int br, .int jC, .int jR, .int nf, .ref qgx, .ref qgy, .ref qgz, .ref qgu, .int th])), (qgx, .inl (cI, 36, .inl fx)), (qgy, .inl (cI, 36, .inl fy)), (qgz, .inl (cI, 36, .inl fz)), (qgu, .inl (cZ, 36, .inl fu))]) [0, 1, 2, 3, 4] rfl
  have hDc := hD.sub (ws' := [(qg, .inr (5, [.ref qgw, .ref qgh, .ref qgt, .int br, .int jC, .int jR, .int nf, .ref qgx, .ref qgy, .ref qgz, .ref qgu, .int th])), (qgx, .inl (cI, 36, .inl fx)), (qgy, .inl (cI, 36, .inl fy)), (qgz, .inl (cI, 36, .inl fz)), (qgu, .inl (cZ, 36, .inl fu))]) [0, 1, 2, 3, 4] (by decide) rfl
  have hFc := va_free (wc := [(qg, .inr (5, [.ref qgw, .ref qgh, .ref qgt, .int br, .int jC, .int jR, .int nf, .ref qgx, .ref qgy, .ref qgz, .ref qgu, .int th])), (qgx, .inl (cI, 36, .inl fx)), (qgy, .inl (cI, 36, .inl fy)), (qgz, .inl (cI, 36, .inl fz)), (qgu, .inl (cZ, 36, .inl fu))]) hD hS hA [0, 1, 2, 3, 4] rfl
  refine va_calli (va_runV (As := [.int b, .int 0]) (rest := []) ⟨hx, hb, hml, hown, hts⟩ (c_X5_fold l D cI cZ cJ cD qg qgw qgh qgt br jC jR nf qgx qgy qgz qgu th fx fy fz fu b 0 s.heap.size ) (cwV 2 hts gX5_foldRows_X5_fold rfl rfl rfl (by decide +kernel) ⟨Nat.le_of_ble_eq_true rfl, Nat.le_of_ble_eq_true rfl⟩) ⟨zblindW, va_recv hK hP (ci := 5) (q0 := 0) rfl rfl, (fun U hU hW => ⟨rfl, by rw [hU], by rw [hU]; exact hPc, va_K.moved hW.alike hK, hDc.weaken (fun _ _ _ _ => trivial)⟩)⟩ rfl rfl hl.1 rfl (lv_room (Nat.le_of_ble_eq_true rfl)) dX5_foldRows_3 ⟨Nat.le_of_ble_eq_true rfl, Nat.le_of_ble_eq_true rfl⟩) hS (fun q _ h => hFc q h) hFc (fun r2 u t H locs ht hvm hw hB hz1 hk1 hS => ?_)
  rw [hw]
  obtain ⟨hP1, hK1, hD1⟩ := hB
  rw [ht] at hP1
  obtain ⟨hP, hD⟩ := va_join (wr := []) (w1 := [(qg, .inr (5, [.ref qgw, .ref qgh, .ref qgt, .int br, .int jC, .int jR, .int (n_X5_fold_qg_6 jC jR nf fx fy b 0), .ref qgx, .ref qgy, .ref qgz, .ref qgu, .int (n_X5_fold_qg_11 jC jR fx fy b 0)])), (qgx, .inl (cI, 36, .inl (n_X5_fold_qgx jC jR fx fy b 0))), (qgy, .inl (cI, 36, .inl (n_X5_fold_qgy jC jR fx fy b 0))), (qgz, .inl (cI, 36, .inl (n_X5_fold_qgz jC jR fx fy fz b 0))), (qgu, .inl (cZ, 36, .inl (n_X5_fold_qgu jC jR fx fy fu b 0)))]) hP hD [0, 1, 2, 3, 4] [] rfl rfl (by decide) (by decide) hk1 hFc hP1 hD1
  have hP := hP.sub (ws' := [(qg, .inr (5, [.ref qgw, .ref qgh, .ref qgt, .int br, .int jC, .int jR, .int (n_X5_fold_qg_6 jC jR nf fx fy b 0), .ref qgx, .ref qgy, .ref qgz, .ref qgu, .int (n_X5_fold_qg_11 jC jR fx fy b 0)])), (qgx, .inl (cI, 36, .inl (n_X5_fold_qgx jC jR fx fy b 0))), (qgy, .inl (cI, 36, .inl (n_X5_fold_qgy jC jR fx fy b 0))), (qgz, .inl (cI, 36, .inl (n_X5_fold_qgz jC jR fx fy fz b 0))), (qgu, .inl (cZ, 36, .inl (n_X5_fold_qgu jC jR fx fy fu b 0)))]) [0, 1, 2, 3, 4] rfl
  have hD := hD.sub (ws' := [(qg, .inr (5, [.ref qgw, .ref qgh, .ref qgt, .int br, .int jC, .int jR, .int (n_X5_fold_qg_6 jC jR nf fx fy b 0), .ref qgx, .ref qgy, .ref qgz, .ref qgu, .int (n_X5_fold_qg_11 jC jR fx fy b 0)])), (qgx, .inl (cI, 36, .inl (n_X5_fold_qgx jC jR fx fy b 0))), (qgy, .inl (cI, 36, .inl (n_X5_fold_qgy jC jR fx fy b 0))), (qgz, .inl (cI, 36, .inl (n_X5_fold_qgz jC jR fx fy fz b 0))), (qgu, .inl (cZ, 36, .inl (n_X5_fold_qgu jC jR fx fy fu b 0)))]) [0, 1, 2, 3, 4] (by decide) rfl
  have e3 : s_X5_foldRows jC jR fx fy b = s_X5_fold jC jR fx fy b 0 := rfl
  have e4 : n_X5_foldRows_qg_6 jC jR nf fx fy b = n_X5_fold_qg_6 jC jR nf fx fy b 0 := rfl
  have e5 : n_X5_foldRows_qg_11 jC jR fx fy b = n_X5_fold_qg_11 jC jR fx fy b 0 := rfl
  have e6 : n_X5_foldRows_qgx jC jR fx fy b = n_X5_fold_qgx jC jR fx fy b 0 := rfl
  have e7 : n_X5_foldRows_qgy jC jR fx fy b = n_X5_fold_qgy jC jR fx fy b 0 := rfl
  have e8 : n_X5_foldRows_qgz jC jR fx fy fz b = n_X5_fold_qgz jC jR fx fy fz b 0 := rfl
  have e9 : n_X5_foldRows_qgu jC jR fx fy fu b = n_X5_fold_qgu jC jR fx fy fu b 0 := rfl
  exact W.iret (v := (s_X5_fold jC jR fx fy b 0)) hx hb hr (fun t ht hW => ⟨⟨_, (), rfl, e3.symm, ⟨(by rw [e4, e5, e6, e7, e8, e9]; rw [ht]; exact hP), va_K.moved hW.alike hK, (by rw [e4, e5, e6, e7, e8, e9]; exact hD)⟩⟩, hS.F ht⟩) hS.2.2 dX5_foldRows_6
def s_X5_unfold (nf : Int32) : Int32 := nf
def n_X5_unfold_qg_6  : Int32 := n_X5_lay_qg_6
def n_X5_unfold_qg_11  : Int32 := 0
def n_X5_unfold_qgx (fx : Nat → Int32) : Nat → Int32 := n_X5_lay_qgx fx
def n_X5_unfold_qgy (fy : Nat → Int32) : Nat → Int32 := n_X5_lay_qgy fy
def n_X5_unfold_qgz (fz : Nat → Int32) : Nat → Int32 := n_X5_lay_qgz fz
def n_X5_unfold_qgu (fu : Nat → Int32) : Nat → Int32 := n_X5_lay_qgu fu
abbrev rm_X5_unfold : Room := { frames := 1, cells := 0, slots := 0, locals := 21 }
abbrev Qc_X5_unfold (D : va_G) (cI cZ cJ cD : ClassId) (qg : Nat) (qgw : Nat) (qgh : Nat) (qgt : Nat) (br : Int32) (jC : Int32) (jR : Int32) (nf : Int32) (qgx : Nat) (qgy : Nat) (qgz : Nat) (qgu : Nat) (th : Int32) (fx : Nat → Int32) (fy : Nat → Int32) (fz : Nat → Int32) (fu : Nat → Int32) (A : Nat → Prop) : Array Value → State → Outcome → State → Prop := va_Qi (fun (r : Int32) (_ : Unit) => r = s_X5_unfold nf) (zPost D cI cZ cJ cD A [(qg, .inr (5, [.ref qgw, .ref qgh, .ref qgt, .int br, .int jC, .int jR, .int n_X5_unfold_qg_6, .ref qgx, .ref qgy, .ref qgz, .ref qgu, .int n_X5_unfold_qg_11])), (qgx, .inl (cI, 36, .inl (n_X5_unfold_qgx fx))), (qgy, .inl (cI, 36, .inl (n_X5_unfold_qgy fy))), (qgz, .inl (cI, 36, .inl (n_X5_unfold_qgz fz))), (qgu, .inl (cZ, 36, .inl (n_X5_unfold_qgu fu)))]) A
set_option maxHeartbeats 1000000 in
set_option maxRecDepth 100000 in
theorem c_X5_unfold (l : Launch) (D : va_G) (cI cZ cJ cD : ClassId) (qg : Nat) (qgw : Nat) (qgh : Nat) (qgt : Nat) (br : Int32) (jC : Int32) (jR : Int32) (nf : Int32) (qgx : Nat) (qgy : Nat) (qgz : Nat) (qgu : Nat) (th : Int32) (fx : Nat → Int32) (fy : Nat → Int32) (fz : Nat → Int32) (fu : Nat → Int32) (sz : Nat)  : Met l yX5_unfold wsX5_unfold rm_X5_unfold (va_Pc [.ref qg] (zPreW D cI cZ cJ cD [(qg, .inr (5, [.ref qgw, .ref qgh, .ref qgt, .int br, .int jC, .int jR, .int nf, .ref qgx, .ref qgy, .ref qgz, .ref qgu, .int th])), (qgx, .inl (cI, 36, .inl fx)), (qgy, .inl (cI, 36, .inl fy)), (qgz, .inl (cI, 36, .inl fz)), (qgu, .inl (cZ, 36, .inl fu))] sz)) (Qc_X5_unfold D cI cZ cJ cD qg qgw qgh qgt br jC jR nf qgx qgy qgz qgu th fx fy fz fu (va_A [(qg, .inr (5, [.ref qgw, .ref qgh, .ref qgt, .int br, .int jC, .int jR, .int nf, .ref qgx, .ref qgy, .ref qgz, .ref qgu, .int th])), (qgx, .inl (cI, 36, .inl fx)), (qgy, .inl (cI, 36, .inl fy)), (qgz, .inl (cI, 36, .inl fz)), (qgu, .inl (cZ, 36, .inl fu))] sz)) 0 0 (va_A [(qg, .inr (5, [.ref qgw, .ref qgh, .ref qgt, .int br, .int jC, .int jR, .int nf, .ref qgx, .ref qgy, .ref qgz, .ref qgu, .int th])), (qgx, .inl (cI, 36, .inl fx)), (qgy, .inl (cI, 36, .inl fy)), (qgz, .inl (cI, 36, .inl fz)), (qgu, .inl (cZ, 36, .inl fu))] sz) := by
  refine Met.ofW (cc := cX5_unfold) (maxL := 2) (ret := (some .int)) (by decide) rfl ?_
  intro p e s m args below meth c s₁ B hml hv
  obtain ⟨rfl, hsz, hP, hK, hD0⟩ := hv
  have hx := B.exec
  have hb := B.bytes
  have hr := B.returns
  have hts := atoms_spec (ws := wsX5_unfold) B.pre
  have hown : s.vm.findClass RX5 = some m.cls := findClass_of_methodNamed B.named
  have hlocks := B.notSynchronized
  subst hsz
  have hD := hD0.self (sz := s.heap.size)
  generalize hAe : va_A [(qg, .inr (5, [.ref qgw, .ref qgh, .ref qgt, .int br, .int jC, .int jR, .int nf, .ref qgx, .ref qgy, .ref qgz, .ref qgu, .int th])), (qgx, .inl (cI, 36, .inl fx)), (qgy, .inl (cI, 36, .inl fy)), (qgz, .inl (cI, 36, .inl fz)), (qgu, .inl (cZ, 36, .inl fu))] s.heap.size = A at hD ⊢
  have hA : ∀ q : Nat, s.heap.size ≤ q → A q := fun q h => by rw [← hAe]; exact Or.inr h
  have hS : va_S A s.heap s.heap [] := va_S.rf
  have hl := lv_entry ([.ref qg]) (n := 2) (Nat.le_of_ble_eq_true rfl)
  rw [lg_entry_eq]
  generalize (lg_sl ([.ref qg]) ++ List.replicate (2 - (lg_sl ([.ref qg])).length) Slot.unset).toArray = ls at hl ⊢
  have hl : lv_has ls 2 [(0, .ref qg)] := hl
  have hP : va_P D vwCl [(qg, .inr (5, [.ref qgw, .ref qgh, .ref qgt, .int br, .int jC, .int jR, .int nf, .ref qgx, .ref qgy, .ref qgz, .ref qgu, .int th])), (qgx, .inl (cI, 36, .inl fx)), (qgy, .inl (cI, 36, .inl fy)), (qgz, .inl (cI, 36, .inl fz)), (qgu, .inl (cZ, 36, .inl fu))] s.heap := hP
  have hP := hP
  refine lv_aload_n hx hb dX5_unfold_0 rfl (lv_at hl 0 rfl) ?_
  refine lv_iconst (v := 0) hx hb dX5_unfold_1 (by decide) ?_
  refine va_put (D := D) (ci := 5) (v := .int 0) (ty := .int) (C := RX5) (T := TX5) (N := 12) hx hb hts (fun w h => List.mem_cons_of_mem _ (List.mem_append_right _ h)) tyX5 tyX5_ok nmX5 hown hK hP hD hS 0 rfl rfl 11 (by decide) (hts (.fieldLink RX5 45 "AtlasFolderModel" "thrown" "I") (List.mem_cons_of_mem _ (List.mem_append_left _ (List.mem_of_getElem? (i := 0) rfl)))) (fun _ h9 => h9) rfl (by decide +kernel) rfl rfl (Nat.le_of_ble_eq_true rfl) dX5_unfold_2 (fun H locs hP hD hS => ?_)
  have hP : va_P D vwCl [(qg, .inr (5, [.ref qgw, .ref qgh, .ref qgt, .int br, .int jC, .int jR, .int nf, .ref qgx, .ref qgy, .ref qgz, .ref qgu, .int 0])), (qgx, .inl (cI, 36, .inl fx)), (qgy, .inl (cI, 36, .inl fy)), (qgz, .inl (cI, 36, .inl fz)), (qgu, .inl (cZ, 36, .inl fu))] H := hP
  have hD : va_D A [(qg, .inr (5, [.ref qgw, .ref qgh, .ref qgt, .int br, .int jC, .int jR, .int nf, .ref qgx, .ref qgy, .ref qgz, .ref qgu, .int 0])), (qgx, .inl (cI, 36, .inl fx)), (qgy, .inl (cI, 36, .inl fy)), (qgz, .inl (cI, 36, .inl fz)), (qgu, .inl (cZ, 36, .inl fu))] := hD
  refine lv_aload_n hx hb dX5_unfold_5 rfl (lv_at hl 0 rfl) ?_
  refine va_get (D := D) (ci := 5) (v := .int nf) (C := RX5) (T := TX5) (N := 12) hx hb hts (fun w h => List.mem_cons_of_mem _ (List.mem_append_right _ h)) hown hK hP 0 rfl rfl 6 (by decide) (hts (.fieldLink RX5 106 "AtlasFolderModel" "folds" "I") (List.mem_cons_of_mem _ (List.mem_append_left _ (List.mem_of_getElem? (i := 1) rfl)))) (fun _ h9 => h9) rfl dX5_unfold_6 ?_
  refine lv_istore_n (lv' := [(1, .int nf), (0, .ref qg)]) hx hb dX5_unfold_9 rfl hl (by decide) rfl (fun ls hl => ?_)
  refine lv_aload_n hx hb dX5_unfold_10 rfl (lv_at hl 1 rfl) ?_
  have hPc := hP.sub (ws' := [(qg, .inr (5, [.ref qgw, .ref qgh, .ref qgt, .int br, .int jC, .int jR, .int nf, .ref qgx, .ref qgy, .ref qgz, .ref qgu, .int 0])), (qgx, .inl (cI, 36, .inl fx)), (qgy, .inl (cI, 36, .inl fy)), (qgz, .inl (cI, 36, .inl fz)), (qgu, .inl (cZ, 36, .inl fu))]) [0, 1, 2, 3, 4] rfl
  have hDc := hD.sub (ws' := [(qg, .inr (5, [.ref qgw, .ref qgh, .ref qgt, .int br, .int jC, .int jR, .int nf, .ref qgx, .ref qgy, .ref qgz, .ref qgu, .int 0])), (qgx, .inl (cI, 36, .inl fx)), (qgy, .inl (cI, 36, .inl fy)), (qgz, .inl (cI, 36, .inl fz)), (qgu, .inl (cZ, 36, .inl fu))]) [0, 1, 2, 3, 4] (by decide) rfl
  have hFc := va_free (wc := [(qg, .inr (5, [.ref qgw, .ref qgh, .ref qgt, .int br, .int jC, .int jR, .int nf, .ref qgx, .ref qgy, .ref qgz, .ref qgu, .int 0])), (qgx, .inl (cI, 36, .inl fx)), (qgy, .inl (cI, 36, .inl fy)), (qgz, .inl (cI, 36, .inl fz)), (qgu, .inl (cZ, 36, .inl fu))]) hD hS hA [0, 1, 2, 3, 4] rfl
  refine va_callv (va_runV (As := []) (rest := []) ⟨hx, hb, hml, hown, hts⟩ (c_X5_lay l D cI cZ cJ cD qg qgw qgh qgt br jC jR nf qgx qgy qgz qgu 0 fx fy fz fu H.size ) (cwV 0 hts gX5_unfold_X5_lay rfl rfl rfl (by decide +kernel) ⟨Nat.le_of_ble_eq_true rfl, Nat.le_of_ble_eq_true rfl⟩) ⟨zblindW, va_recv hK hP (ci := 5) (q0 := 0) rfl rfl, (fun U hU hW => ⟨rfl, by rw [hU], by rw [hU]; exact hPc, va_K.moved hW.alike hK, hDc.weaken (fun _ _ _ _ => trivial)⟩)⟩ rfl rfl hl.1 rfl (lv_room (Nat.le_of_ble_eq_true rfl)) dX5_unfold_11 ⟨Nat.le_of_ble_eq_true rfl, Nat.le_of_ble_eq_true rfl⟩) hS (fun q _ h => hFc q h) hFc (fun u t H locs ht hvm hw hB hz1 hk1 hS => ?_)
  obtain ⟨hP1, hK1, hD1⟩ := hB
  rw [ht] at hP1
  obtain ⟨hP, hD⟩ := va_join (wr := []) (w1 := [(qg, .inr (5, [.ref qgw, .ref qgh, .ref qgt, .int br, .int jC, .int jR, .int n_X5_lay_qg_6, .ref qgx, .ref qgy, .ref qgz, .ref qgu, .int 0])), (qgx, .inl (cI, 36, .inl (n_X5_lay_qgx fx))), (qgy, .inl (cI, 36, .inl (n_X5_lay_qgy fy))), (qgz, .inl (cI, 36, .inl (n_X5_lay_qgz fz))), (qgu, .inl (cZ, 36, .inl (n_X5_lay_qgu fu)))]) hP hD [0, 1, 2, 3, 4] [] rfl rfl (by decide) (by decide) hk1 hFc hP1 hD1
  have hP := hP.sub (ws' := [(qg, .inr (5, [.ref qgw, .ref qgh, .ref qgt, .int br, .int jC, .int jR, .int n_X5_lay_qg_6, .ref qgx, .ref qgy, .ref qgz, .ref qgu, .int 0])), (qgx, .inl (cI, 36, .inl (n_X5_lay_qgx fx))), (qgy, .inl (cI, 36, .inl (n_X5_lay_qgy fy))), (qgz, .inl (cI, 36, .inl (n_X5_lay_qgz fz))), (qgu, .inl (cZ, 36, .inl (n_X5_lay_qgu fu)))]) [0, 1, 2, 3, 4] rfl
  have hD := hD.sub (ws' := [(qg, .inr (5, [.ref qgw, .ref qgh, .ref qgt, .int br, .int jC, .int jR, .int n_X5_lay_qg_6, .ref qgx, .ref qgy, .ref qgz, .ref qgu, .int 0])), (qgx, .inl (cI, 36, .inl (n_X5_lay_qgx fx))), (qgy, .inl (cI, 36, .inl (n_X5_lay_qgy fy))), (qgz, .inl (cI, 36, .inl (n_X5_lay_qgz fz))), (qgu, .inl (cZ, 36, .inl (n_X5_lay_qgu fu)))]) [0, 1, 2, 3, 4] (by decide) rfl
  refine lv_iload_n hx hb dX5_unfold_14 rfl (lv_at hl 0 rfl) ?_
  have e3 : s_X5_unfold nf = nf := rfl
  have e4 : n_X5_unfold_qg_6 = n_X5_lay_qg_6 := rfl
  have e5 : n_X5_unfold_qg_11 = 0 := rfl
  have e6 : n_X5_unfold_qgx fx = n_X5_lay_qgx fx := rfl
  have e7 : n_X5_unfold_qgy fy = n_X5_lay_qgy fy := rfl
  have e8 : n_X5_unfold_qgz fz = n_X5_lay_qgz fz := rfl
  have e9 : n_X5_unfold_qgu fu = n_X5_lay_qgu fu := rfl
  exact W.iret (v := nf) hx hb hr (fun t ht hW => ⟨⟨_, (), rfl, e3.symm, ⟨(by rw [e4, e5, e6, e7, e8, e9]; rw [ht]; exact hP), va_K.moved hW.alike hK, (by rw [e4, e5, e6, e7, e8, e9]; exact hD)⟩⟩, hS.F ht⟩) hS.2.2 dX5_unfold_15
def s_X5_panel (jC : Int32) (jR : Int32) (lat : Int32) (lon : Int32) : Int32 := (if (s_X5_may (if (s_X5_isLatitude lat) = 0 then 0 else (if (s_X5_isLongitude lon) = 0 then 0 else 1))) = 0 then 0 else (10 * (((lon + 180) * jC) / 360)) + (if jR ≤ (((90 - lat) * jR) / 180) then jR - 1 else ((90 - lat) * jR) / 180))
def n_X5_panel_qg_11 (lat : Int32) (lon : Int32) : Int32 := n_X5_may_qg_11 (if (s_X5_isLatitude lat) = 0 then 0 else (if (s_X5_isLongitude lon) = 0 then 0 else 1))
abbrev rm_X5_panel : Room := { frames := 1, cells := 0, slots := 0, locals := 21 }
abbrev Qc_X5_panel (D : va_G) (cI cZ cJ cD : ClassId) (qg : Nat) (qgw : Nat) (qgh : Nat) (qgt : Nat) (br : Int32) (jC : Int32) (jR : Int32) (nf : Int32) (qgx : Nat) (qgy : Nat) (qgz : Nat) (qgu : Nat) (th : Int32) (lat : Int32) (lon : Int32) (A : Nat → Prop) : Array Value → State → Outcome → State → Prop := va_Qi (fun (r : Int32) (_ : Unit) => r = s_X5_panel jC jR lat lon) (zPost D cI cZ cJ cD A [(qg, .inr (5, [.ref qgw, .ref qgh, .ref qgt, .int br, .int jC, .int jR, .int nf, .ref qgx, .ref qgy, .ref qgz, .ref qgu, .int (n_X5_panel_qg_11 lat lon)]))]) A
set_option maxHeartbeats 1000000 in
set_option maxRecDepth 100000 in
theorem c_X5_panel (l : Launch) (D : va_G) (cI cZ cJ cD : ClassId) (qg : Nat) (qgw : Nat) (qgh : Nat) (qgt : Nat) (br : Int32) (jC : Int32) (jR : Int32) (nf : Int32) (qgx : Nat) (qgy : Nat) (qgz : Nat) (qgu : Nat) (th : Int32) (lat : Int32) (lon : Int32) (sz : Nat)  : Met l yX5_panel wsX5_panel rm_X5_panel (va_Pc [.ref qg, .int lat, .int lon] (zPreW D cI cZ cJ cD [(qg, .inr (5, [.ref qgw, .ref qgh, .ref qgt, .int br, .int jC, .int jR, .int nf, .ref qgx, .ref qgy, .ref qgz, .ref qgu, .int th]))] sz)) (Qc_X5_panel D cI cZ cJ cD qg qgw qgh qgt br jC jR nf qgx qgy qgz qgu th lat lon (va_A [(qg, .inr (5, [.ref qgw, .ref qgh, .ref qgt, .int br, .int jC, .int jR, .int nf, .ref qgx, .ref qgy, .ref qgz, .ref qgu, .int th]))] sz)) 0 0 (va_A [(qg, .inr (5, [.ref qgw, .ref qgh, .ref qgt, .int br, .int jC, .int jR, .int nf, .ref qgx, .ref qgy, .ref qgz, .ref qgu, .int th]))] sz) := by
  refine Met.ofW (cc := cX5_panel) (maxL := 4) (ret := (some .int)) (by decide) rfl ?_
  intro p e s m args below meth c s₁ B hml hv
  obtain ⟨rfl, hsz, hP, hK, hD0⟩ := hv
  have hx := B.exec
  have hb := B.bytes
  have hr := B.returns
  have hts := atoms_spec (ws := wsX5_panel) B.pre
  have hown : s.vm.findClass RX5 = some m.cls := findClass_of_methodNamed B.named
  have hlocks := B.notSynchronized
  subst hsz
  have hD := hD0.self (sz := s.heap.size)
  generalize hAe : va_A [(qg, .inr (5, [.ref qgw, .ref qgh, .ref qgt, .int br, .int jC, .int jR, .int nf, .ref qgx, .ref qgy, .ref qgz, .ref qgu, .int th]))] s.heap.size = A at hD ⊢
  have hA : ∀ q : Nat, s.heap.size ≤ q → A q := fun q h => by rw [← hAe]; exact Or.inr h
  have hS : va_S A s.heap s.heap [] := va_S.rf
  have hl := lv_entry ([.ref qg, .int lat, .int lon]) (n := 4) (Nat.le_of_ble_eq_true rfl)
  rw [lg_entry_eq]
  generalize (lg_sl ([.ref qg, .int lat, .int lon]) ++ List.replicate (4 - (lg_sl ([.ref qg, .int lat, .int lon])).length) Slot.unset).toArray = ls at hl ⊢
  have hl : lv_has ls 4 [(0, .ref qg), (1, .int lat), (2, .int lon)] := hl
  have hP : va_P D vwCl [(qg, .inr (5, [.ref qgw, .ref qgh, .ref qgt, .int br, .int jC, .int jR, .int nf, .ref qgx, .ref qgy, .ref qgz, .ref qgu, .int th]))] s.heap := hP
  have hP := hP
  refine lv_aload_n hx hb dX5_panel_0 rfl (lv_at hl 0 rfl) ?_
  refine lv_iload_n hx hb dX5_panel_1 rfl (lv_at hl 1 rfl) ?_
  refine va_calli (va_runS (As := [.int lat]) (rest := [.ref qg]) ⟨hx, hb, hml, hown, hts⟩ (c_X5_isLatitude l D cI cZ cJ cD lat ) (va_cwS 1 hts gX5_panel_X5_isLatitude rfl rfl rfl (by decide +kernel) ⟨Nat.le_of_ble_eq_true rfl, Nat.le_of_ble_eq_true rfl⟩) ⟨zblind, (fun U hU hW => ⟨rfl, by rw [hU]; exact hP.sub (ws' := []) [] rfl, va_K.moved hW.alike hK⟩)⟩ rfl rfl hl.1 rfl (lv_room (Nat.le_of_ble_eq_true rfl)) dX5_panel_2 ⟨Nat.le_of_ble_eq_true rfl, Nat.le_of_ble_eq_true rfl⟩) hS (fun q _ h => h.elim) (fun q h => h.elim) (fun r12 u t H locs ht hvm hw hB hz1 hk1 hS => ?_)
  rw [hw]
  have hP := zk hP hk1
  have K14 : ∀ v14_0 : Int32, v14_0 = (if (s_X5_isLatitude lat) = 0 then 0 else (if (s_X5_isLongitude lon) = 0 then 0 else 1)) → ∀ (H : Heap) (locs : List Loc), va_P D vwCl [(qg, .inr (5, [.ref qgw, .ref qgh, .ref qgt, .int br, .int jC, .int jR, .int nf, .ref qgx, .ref qgy, .ref qgz, .ref qgu, .int th]))] H → va_D A [(qg, .inr (5, [.ref qgw, .ref qgh, .ref qgt, .int br, .int jC, .int jR, .int nf, .ref qgx, .ref qgy, .ref qgz, .ref qgu, .int th]))] → va_S A s.heap H locs → ∀ (ls : Array Slot), lv_has ls 4 [(0, .ref qg), (1, .int lat), (2, .int lon)] → W p l e (headSpec wsX5_panel rm_X5_panel).room s m ([.ref qg, .int lat, .int lon]).toArray below meth c H locs 0 0 (MQ below (Qc_X5_panel D cI cZ cJ cD qg qgw qgh qgt br jC jR nf qgx qgy qgz qgu th lat lon A) ([.ref qg, .int lat, .int lon]).toArray s 0 0 A) (F0 m 20 ls [.int v14_0, .ref qg]) := by
    intro v14_0 hv14_0 H locs hP hD hS ls hl
    subst hv14_0
    have hPc := hP.sub (ws' := [(qg, .inr (5, [.ref qgw, .ref qgh, .ref qgt, .int br, .int jC, .int jR, .int nf, .ref qgx, .ref qgy, .ref qgz, .ref qgu, .int th]))]) [0] rfl
    have hDc := hD.sub (ws' := [(qg, .inr (5, [.ref qgw, .ref qgh, .ref qgt, .int br, .int jC, .int jR, .int nf, .ref qgx, .ref qgy, .ref qgz, .ref qgu, .int th]))]) [0] (by decide) rfl
    have hFc := va_free (wc := [(qg, .inr (5, [.ref qgw, .ref qgh, .ref qgt, .int br, .int jC, .int jR, .int nf, .ref qgx, .ref qgy, .ref qgz, .ref qgu, .int th]))]) hD hS hA [0] rfl
    refine va_calli (va_runV (As := [.int (if (s_X5_isLatitude lat) = 0 then 0 else (if (s_X5_isLongitude lon) = 0 then 0 else 1))]) (rest := []) ⟨hx, hb, hml, hown, hts⟩ (c_X5_may l D cI cZ cJ cD qg qgw qgh qgt br jC jR nf qgx qgy qgz qgu th (if (s_X5_isLatitude lat) = 0 then 0 else (if (s_X5_isLongitude lon) = 0 then 0 else 1)) H.size (by (repeat' split) <;> simp)) (cwV 1 hts gX5_panel_X5_may rfl rfl rfl (by decide +kernel) ⟨Nat.le_of_ble_eq_true rfl, Nat.le_of_ble_eq_true rfl⟩) ⟨zblindW, va_recv hK hP (ci := 5) (q0 := 0) rfl rfl, (fun U hU hW => ⟨rfl, by rw [hU], by rw [hU]; exact hPc, va_K.moved hW.alike hK, hDc.weaken (fun _ _ _ _ => trivial)⟩)⟩ rfl rfl hl.1 rfl (lv_room (Nat.le_of_ble_eq_true rfl)) dX5_panel_20 ⟨Nat.le_of_ble_eq_true rfl, Nat.le_of_ble_eq_true rfl⟩) hS (fun q _ h => hFc q h) hFc (fun r15 u t H locs ht hvm hw hB hz1 hk1 hS => ?_)
    rw [hw]
    obtain ⟨hP1, hK1, hD1⟩ := hB
    rw [ht] at hP1
    obtain ⟨hP, hD⟩ := va_join (wr := []) (w1 := [(qg, .inr (5, [.ref qgw, .ref qgh, .ref qgt, .int br, .int jC, .int jR, .int nf, .ref qgx, .ref qgy, .ref qgz, .ref qgu, .int (n_X5_may_qg_11 (if (s_X5_isLatitude lat) = 0 then 0 else (if (s_X5_isLongitude lon) = 0 then 0 else 1)))]))]) hP hD [0] [] rfl rfl (by decide) (by decide) hk1 hFc hP1 hD1
    have hP := hP.sub (ws' := [(qg, .inr (5, [.ref qgw, .ref qgh, .ref qgt, .int br, .int jC, .int jR, .int nf, .ref qgx, .ref qgy, .ref qgz, .ref qgu, .int (n_X5_may_qg_11 (if (s_X5_isLatitude lat) = 0 then 0 else (if (s_X5_isLongitude lon) = 0 then 0 else 1)))]))]) [0] rfl
    have hD := hD.sub (ws' := [(qg, .inr (5, [.ref qgw, .ref qgh, .ref qgt, .int br, .int jC, .int jR, .int nf, .ref qgx, .ref qgy, .ref qgz, .ref qgu, .int (n_X5_may_qg_11 (if (s_X5_isLatitude lat) = 0 then 0 else (if (s_X5_isLongitude lon) = 0 then 0 else 1)))]))]) [0] (by decide) rfl
    refine lv_if_ne (tgt := 28) hx hb dX5_panel_23 (by decide) (fun c16 => ?_) (fun c16 => ?_)
    · refine lv_bipush (v := 90) hx hb dX5_panel_28 (by decide) ?_
      refine lv_iload_n hx hb dX5_panel_30 rfl (lv_at hl 1 rfl) ?_
      refine lv_isub hx hb dX5_panel_31 ?_
      refine lv_aload_n hx hb dX5_panel_32 rfl (lv_at hl 0 rfl) ?_
      refine va_get (D := D) (ci := 5) (v := .int jR) (C := RX5) (T := TX5) (N := 12) hx hb hts (fun w h => List.mem_cons_of_mem _ (List.mem_append_right _ h)) hown hK hP 0 rfl rfl 5 (by decide) (hts (.fieldLink RX5 39 "AtlasFolderModel" "rows" "I") (List.mem_cons_of_mem _ (List.mem_append_left _ (List.mem_of_getElem? (i := 0) rfl)))) (fun _ h9 => h9) rfl dX5_panel_33 ?_
      refine lv_imul hx hb dX5_panel_36 ?_
      refine lv_sipush (v := 180) hx hb dX5_panel_37 (by decide) ?_
      refine lv_idiv hx hb dX5_panel_40 (by decide) ?_
      refine lv_istore_n (lv' := [(3, .int (((90 - lat) * jR) / 180)), (0, .ref qg), (1, .int lat), (2, .int lon)]) hx hb dX5_panel_41 rfl hl (by decide) rfl (fun ls hl => ?_)
      refine lv_bipush (v := 10) hx hb dX5_panel_42 (by decide) ?_
      refine lv_iload_n hx hb dX5_panel_44 rfl (lv_at hl 3 rfl) ?_
      refine lv_sipush (v := 180) hx hb dX5_panel_45 (by decide) ?_
      refine lv_iadd hx hb dX5_panel_48 ?_
      refine lv_aload_n hx hb dX5_panel_49 rfl (lv_at hl 1 rfl) ?_
      refine va_get (D := D) (ci := 5) (v := .int jC) (C := RX5) (T := TX5) (N := 12) hx hb hts (fun w h => List.mem_cons_of_mem _ (List.mem_append_right _ h)) hown hK hP 0 rfl rfl 4 (by decide) (hts (.fieldLink RX5 36 "AtlasFolderModel" "columns" "I") (List.mem_cons_of_mem _ (List.mem_append_left _ (List.mem_of_getElem? (i := 1) rfl)))) (fun _ h9 => h9) rfl dX5_panel_50 ?_
      refine lv_imul hx hb dX5_panel_53 ?_
      refine lv_sipush (v := 360) hx hb dX5_panel_54 (by decide) ?_
      refine lv_idiv hx hb dX5_panel_57 (by decide) ?_
      refine lv_imul hx hb dX5_panel_58 ?_
      refine lv_iload_n hx hb dX5_panel_59 rfl (lv_at hl 0 rfl) ?_
      refine lv_aload_n hx hb dX5_panel_60 rfl (lv_at hl 1 rfl) ?_
      refine va_get (D := D) (ci := 5) (v := .int jR) (C := RX5) (T := TX5) (N := 12) hx hb hts (fun w h => List.mem_cons_of_mem _ (List.mem_append_right _ h)) hown hK hP 0 rfl rfl 5 (by decide) (hts (.fieldLink RX5 39 "AtlasFolderModel" "rows" "I") (List.mem_cons_of_mem _ (List.mem_append_left _ (List.mem_of_getElem? (i := 0) rfl)))) (fun _ h9 => h9) rfl dX5_panel_61 ?_
      have K18 : ∀ v18_0 : Int32, v18_0 = (if jR ≤ (((90 - lat) * jR) / 180) then jR - 1 else ((90 - lat) * jR) / 180) → ∀ (H : Heap) (locs : List Loc), va_P D vwCl [(qg, .inr (5, [.ref qgw, .ref qgh, .ref qgt, .int br, .int jC, .int jR, .int nf, .ref qgx, .ref qgy, .ref qgz, .ref qgu, .int (n_X5_may_qg_11 (if (s_X5_isLatitude lat) = 0 then 0 else (if (s_X5_isLongitude lon) = 0 then 0 else 1)))]))] H → va_D A [(qg, .inr (5, [.ref qgw, .ref qgh, .ref qgt, .int br, .int jC, .int jR, .int nf, .ref qgx, .ref qgy, .ref qgz, .ref qgu, .int (n_X5_may_qg_11 (if (s_X5_isLatitude lat) = 0 then 0 else (if (s_X5_isLongitude lon) = 0 then 0 else 1)))]))] → va_S A s.heap H locs → ∀ (ls : Array Slot), lv_has ls 4 [(3, .int (((90 - lat) * jR) / 180)), (0, .ref qg), (1, .int lat), (2, .int lon)] → W p l e (headSpec wsX5_panel rm_X5_panel).room s m ([.ref qg, .int lat, .int lon]).toArray below meth c H locs 0 0 (MQ below (Qc_X5_panel D cI cZ cJ cD qg qgw qgh qgt br jC jR nf qgx qgy qgz qgu th lat lon A) ([.ref qg, .int lat, .int lon]).toArray s 0 0 A) (F0 m 77 ls [.int v18_0, .int (10 * (((lon + 180) * jC) / 360))]) := by
        intro v18_0 hv18_0 H locs hP hD hS ls hl
        subst hv18_0
        refine lv_iadd hx hb dX5_panel_77 ?_
        have e19 : s_X5_panel jC jR lat lon = (10 * (((lon + 180) * jC) / 360)) + (if jR ≤ (((90 - lat) * jR) / 180) then jR - 1 else ((90 - lat) * jR) / 180) := by
          unfold s_X5_panel
          exact (if_neg c16)
        have e20 : n_X5_panel_qg_11 lat lon = n_X5_may_qg_11 (if (s_X5_isLatitude lat) = 0 then 0 else (if (s_X5_isLongitude lon) = 0 then 0 else 1)) := rfl
        exact W.iret (v := ((10 * (((lon + 180) * jC) / 360)) + (if jR ≤ (((90 - lat) * jR) / 180) then jR - 1 else ((90 - lat) * jR) / 180))) hx hb hr (fun t ht hW => ⟨⟨_, (), rfl, e19.symm, ⟨(by rw [e20]; rw [ht]; exact hP), va_K.moved hW.alike hK, (by rw [e20]; exact hD)⟩⟩, hS.F ht⟩) hS.2.2 dX5_panel_78
      refine lv_icmp_ge (tgt := 71) hx hb dX5_panel_64 (by decide) (fun c21 => ?_) (fun c21 => ?_)
      · refine lv_aload_n hx hb dX5_panel_71 rfl (lv_at hl 1 rfl) ?_
        refine va_get (D := D) (ci := 5) (v := .int jR) (C := RX5) (T := TX5) (N := 12) hx hb hts (fun w h => List.mem_cons_of_mem _ (List.mem_append_right _ h)) hown hK hP 0 rfl rfl 5 (by decide) (hts (.fieldLink RX5 39 "AtlasFolderModel" "rows" "I") (List.mem_cons_of_mem _ (List.mem_append_left _ (List.mem_of_getElem? (i := 0) rfl)))) (fun _ h9 => h9) rfl dX5_panel_72 ?_
        refine lv_iconst (v := 1) hx hb dX5_panel_75 (by decide) ?_
        refine lv_isub hx hb dX5_panel_76 ?_
        exact K18 _ (if_pos c21).symm _ _ hP hD hS _ (lv_sub hl [0, 1, 2, 3] rfl)
      · refine lv_iload_n hx hb dX5_panel_67 rfl (lv_at hl 0 rfl) ?_
        refine lv_goto (tgt := 77) hx hb dX5_panel_68 (by decide) ?_
        exact K18 _ (if_neg c21).symm _ _ hP hD hS _ (lv_sub hl [0, 1, 2, 3] rfl)
    · refine lv_iconst (v := 0) hx hb dX5_panel_26 (by decide) ?_
      have e22 : s_X5_panel jC jR lat lon = 0 := by
        unfold s_X5_panel
        exact (if_pos c16)
      have e23 : n_X5_panel_qg_11 lat lon = n_X5_may_qg_11 (if (s_X5_isLatitude lat) = 0 then 0 else (if (s_X5_isLongitude lon) = 0 then 0 else 1)) := rfl
      exact W.iret (v := 0) hx hb hr (fun t ht hW => ⟨⟨_, (), rfl, e22.symm, ⟨(by rw [e23]; rw [ht]; exact hP), va_K.moved hW.alike hK, (by rw [e23]; exact hD)⟩⟩, hS.F ht⟩) hS.2.2 dX5_panel_27
  refine lv_if_eq (tgt := 19) hx hb dX5_panel_5 (by decide) (fun c24 => ?_) (fun c24 => ?_)
  · refine lv_iconst (v := 0) hx hb dX5_panel_19 (by decide) ?_
    exact K14 _ (if_pos c24).symm _ _ hP hD hS _ (lv_sub hl [0, 1, 2] rfl)
  · refine lv_iload_n hx hb dX5_panel_8 rfl (lv_at hl 2 rfl) ?_
    refine va_calli (va_runS (As := [.int lon]) (rest := [.ref qg]) ⟨hx, hb, hml, hown, hts⟩ (c_X5_isLongitude l D cI cZ cJ cD lon ) (va_cwS 1 hts gX5_panel_X5_isLongitude rfl rfl rfl (by decide +kernel) ⟨Nat.le_of_ble_eq_true rfl, Nat.le_of_ble_eq_true rfl⟩) ⟨zblind, (fun U hU hW => ⟨rfl, by rw [hU]; exact hP.sub (ws' := []) [] rfl, va_K.moved hW.alike hK⟩)⟩ rfl rfl hl.1 rfl (lv_room (Nat.le_of_ble_eq_true rfl)) dX5_panel_9 ⟨Nat.le_of_ble_eq_true rfl, Nat.le_of_ble_eq_true rfl⟩) hS (fun q _ h => h.elim) (fun q h => h.elim) (fun r25 u t H locs ht hvm hw hB hz1 hk1 hS => ?_)
    rw [hw]
    have hP := zk hP hk1
    refine lv_if_eq (tgt := 19) hx hb dX5_panel_12 (by decide) (fun c26 => ?_) (fun c26 => ?_)
    · refine lv_iconst (v := 0) hx hb dX5_panel_19 (by decide) ?_
      exact K14 _ ((if_neg c24).trans (if_pos c26)).symm _ _ hP hD hS _ (lv_sub hl [0, 1, 2] rfl)
    · refine lv_iconst (v := 1) hx hb dX5_panel_15 (by decide) ?_
      refine lv_goto (tgt := 20) hx hb dX5_panel_16 (by decide) ?_
      exact K14 _ ((if_neg c24).trans (if_neg c26)).symm _ _ hP hD hS _ (lv_sub hl [0, 1, 2] rfl)
theorem z_h6 {jC jR co ro : Int32} (hC : jC ≤ 6) (hR : jR ≤ 6) (h : ¬ s_X5_has jC jR co ro = 0) : ∃ c r : Nat, c < 6 ∧ r < 6 ∧ co = nI c ∧ ro = nI r ∧ ¬ jC ≤ co ∧ ¬ jR ≤ ro ∧ (6 * co) + ro = nI (6 * c + r) := by
  have h1 := z_n1 h
  have h2 := z_n1 (z_n2 h)
  have h3 := z_n1 (z_n2 (z_n2 h))
  have h4 := z_n1 (z_n2 (z_n2 (z_n2 h)))
  obtain ⟨c, hc, ec⟩ := vp_in_of (z_in (N := 6) (n := 6) rfl h1 (fun q => h2 (Int32.le_trans hC q))) (by omega)
  obtain ⟨r, hr, er⟩ := vp_in_of (z_in (N := 6) (n := 6) rfl h3 (fun q => h4 (Int32.le_trans hR q))) (by omega)
  refine ⟨c, r, hc, hr, ec, er, h2, h4, ?_⟩
  rw [ec, er, show (6 : Int32) * nI c = nI (6 * c) from pk_mul 6 c, nI_add]
theorem z_h6i {jC jR co ro : Int32} (hC : jC ≤ 6) (hR : jR ≤ 6) (h : ¬ s_X5_has jC jR co ro = 0) : vp_in ((6 * co) + ro) 36 := by
  obtain ⟨c, r, hc, hr, -, -, -, -, e⟩ := z_h6 hC hR h
  rw [e]
  exact vp_in_nI (by omega) (by omega)
def s_X5_placeX (jC : Int32) (jR : Int32) (fx : Nat → Int32) (co : Int32) (ro : Int32) : Int32 := (if (s_X5_has jC jR co ro) = 0 then 0 else fx ((6 * co) + ro).toNatClampNeg)
def n_X5_placeX_qg_11 (jC : Int32) (jR : Int32) (co : Int32) (ro : Int32) : Int32 := n_X5_has_qg_11 jC jR co ro
abbrev rm_X5_placeX : Room := { frames := 2, cells := 0, slots := 0, locals := 43 }
abbrev Qc_X5_placeX (D : va_G) (cI cZ cJ cD : ClassId) (qg : Nat) (qgw : Nat) (qgh : Nat) (qgt : Nat) (br : Int32) (jC : Int32) (jR : Int32) (nf : Int32) (qgx : Nat) (qgy : Nat) (qgz : Nat) (qgu : Nat) (th : Int32) (fx : Nat → Int32) (co : Int32) (ro : Int32) (A : Nat → Prop) : Array Value → State → Outcome → State → Prop := va_Qi (fun (r : Int32) (_ : Unit) => r = s_X5_placeX jC jR fx co ro) (zPost D cI cZ cJ cD A [(qg, .inr (5, [.ref qgw, .ref qgh, .ref qgt, .int br, .int jC, .int jR, .int nf, .ref qgx, .ref qgy, .ref qgz, .ref qgu, .int (n_X5_placeX_qg_11 jC jR co ro)])), (qgx, .inl (cI, 36, .inl fx))]) A
set_option maxHeartbeats 1000000 in
set_option maxRecDepth 100000 in
theorem c_X5_placeX (l : Launch) (D : va_G) (cI cZ cJ cD : ClassId) (qg : Nat) (qgw : Nat) (qgh : Nat) (qgt : Nat) (br : Int32) (jC : Int32) (jR : Int32) (nf : Int32) (qgx : Nat) (qgy : Nat) (qgz : Nat) (qgu : Nat) (th : Int32) (fx : Nat → Int32) (co : Int32) (ro : Int32) (sz : Nat) (hjC : jC ≤ 6) (hjR : jR ≤ 6) : Met l yX5_placeX wsX5_placeX rm_X5_placeX (va_Pc [.ref qg, .int co, .int ro] (zPreW D cI cZ cJ cD [(qg, .inr (5, [.ref qgw, .ref qgh, .ref qgt, .int br, .int jC, .int jR, .int nf, .ref qgx, .ref qgy, .ref qgz, .ref qgu, .int th])), (qgx, .inl (cI, 36, .inl fx))] sz)) (Qc_X5_placeX D cI cZ cJ cD qg qgw qgh qgt br jC jR nf qgx qgy qgz qgu th fx co ro (va_A [(qg, .inr (5, [.ref qgw, .ref qgh, .ref qgt, .int br, .int jC, .int jR, .int nf, .ref qgx, .ref qgy, .ref qgz, .ref qgu, .int th])), (qgx, .inl (cI, 36, .inl fx))] sz)) 0 0 (va_A [(qg, .inr (5, [.ref qgw, .ref qgh, .ref qgt, .int br, .int jC, .int jR, .int nf, .ref qgx, .ref qgy, .ref qgz, .ref qgu, .int th])), (qgx, .inl (cI, 36, .inl fx))] sz) := by
  refine Met.ofW (cc := cX5_placeX) (maxL := 3) (ret := (some .int)) (by decide) rfl ?_
  intro p e s m args below meth c s₁ B hml hv
  obtain ⟨rfl, hsz, hP, hK, hD0⟩ := hv
  have hx := B.exec
  have hb := B.bytes
  have hr := B.returns
  have hts := atoms_spec (ws := wsX5_placeX) B.pre
  have hown : s.vm.findClass RX5 = some m.cls := findClass_of_methodNamed B.named
  have hlocks := B.notSynchronized
  subst hsz
  have hD := hD0.self (sz := s.heap.size)
  generalize hAe : va_A [(qg, .inr (5, [.ref qgw, .ref qgh, .ref qgt, .int br, .int jC, .int jR, .int nf, .ref qgx, .ref qgy, .ref qgz, .ref qgu, .int th])), (qgx, .inl (cI, 36, .inl fx))] s.heap.size = A at hD ⊢
  have hA : ∀ q : Nat, s.heap.size ≤ q → A q := fun q h => by rw [← hAe]; exact Or.inr h
  have hS : va_S A s.heap s.heap [] := va_S.rf
  have hl := lv_entry ([.ref qg, .int co, .int ro]) (n := 3) (Nat.le_of_ble_eq_true rfl)
  rw [lg_entry_eq]
  generalize (lg_sl ([.ref qg, .int co, .int ro]) ++ List.replicate (3 - (lg_sl ([.ref qg, .int co, .int ro])).length) Slot.unset).toArray = ls at hl ⊢
  have hl : lv_has ls 3 [(0, .ref qg), (1, .int co), (2, .int ro)] := hl
  have hP : va_P D vwCl [(qg, .inr (5, [.ref qgw, .ref qgh, .ref qgt, .int br, .int jC, .int jR, .int nf, .ref qgx, .ref qgy, .ref qgz, .ref qgu, .int th])), (qgx, .inl (cI, 36, .inl fx))] s.heap := hP
  have hP := hP
  refine lv_aload_n hx hb dX5_placeX_0 rfl (lv_at hl 0 rfl) ?_
  refine lv_iload_n hx hb dX5_placeX_1 rfl (lv_at hl 1 rfl) ?_
  refine lv_iload_n hx hb dX5_placeX_2 rfl (lv_at hl 2 rfl) ?_
  have hPc := hP.sub (ws' := [(qg, .inr (5, [.ref qgw, .ref qgh, .ref qgt, .int br, .int jC, .int jR, .int nf, .ref qgx, .ref qgy, .ref qgz, .ref qgu, .int th]))]) [0] rfl
  have hDc := hD.sub (ws' := [(qg, .inr (5, [.ref qgw, .ref qgh, .ref qgt, .int br, .int jC, .int jR, .int nf, .ref qgx, .ref qgy, .ref qgz, .ref qgu, .int th]))]) [0] (by decide) rfl
  have hFc := va_free (wc := [(qg, .inr (5, [.ref qgw, .ref qgh, .ref qgt, .int br, .int jC, .int jR, .int nf, .ref qgx, .ref qgy, .ref qgz, .ref qgu, .int th]))]) hD hS hA [0] rfl
  refine va_calli (va_runV (As := [.int co, .int ro]) (rest := []) ⟨hx, hb, hml, hown, hts⟩ (c_X5_has l D cI cZ cJ cD qg qgw qgh qgt br jC jR nf qgx qgy qgz qgu th co ro s.heap.size ) (cwV 2 hts gX5_placeX_X5_has rfl rfl rfl (by decide +kernel) ⟨Nat.le_of_ble_eq_true rfl, Nat.le_of_ble_eq_true rfl⟩) ⟨zblindW, va_recv hK hP (ci := 5) (q0 := 0) rfl rfl, (fun U hU hW => ⟨rfl, by rw [hU], by rw [hU]; exact hPc, va_K.moved hW.alike hK, hDc.weaken (fun _ _ _ _ => trivial)⟩)⟩ rfl rfl hl.1 rfl (lv_room (Nat.le_of_ble_eq_true rfl)) dX5_placeX_3 ⟨Nat.le_of_ble_eq_true rfl, Nat.le_of_ble_eq_true rfl⟩) hS (fun q _ h => hFc q h) hFc (fun r5 u t H locs ht hvm hw hB hz1 hk1 hS => ?_)
  rw [hw]
  obtain ⟨hP1, hK1, hD1⟩ := hB
  rw [ht] at hP1
  obtain ⟨hP, hD⟩ := va_join (wr := [(qgx, .inl (cI, 36, .inl fx))]) (w1 := [(qg, .inr (5, [.ref qgw, .ref qgh, .ref qgt, .int br, .int jC, .int jR, .int nf, .ref qgx, .ref qgy, .ref qgz, .ref qgu, .int (n_X5_has_qg_11 jC jR co ro)]))]) hP hD [0] [1] rfl rfl (by decide) (by decide) hk1 hFc hP1 hD1
  have hP := hP.sub (ws' := [(qg, .inr (5, [.ref qgw, .ref qgh, .ref qgt, .int br, .int jC, .int jR, .int nf, .ref qgx, .ref qgy, .ref qgz, .ref qgu, .int (n_X5_has_qg_11 jC jR co ro)])), (qgx, .inl (cI, 36, .inl fx))]) [1, 0] rfl
  have hD := hD.sub (ws' := [(qg, .inr (5, [.ref qgw, .ref qgh, .ref qgt, .int br, .int jC, .int jR, .int nf, .ref qgx, .ref qgy, .ref qgz, .ref qgu, .int (n_X5_has_qg_11 jC jR co ro)])), (qgx, .inl (cI, 36, .inl fx))]) [1, 0] (by decide) rfl
  have K7 : ∀ v7_0 : Int32, v7_0 = (if (s_X5_has jC jR co ro) = 0 then 0 else fx ((6 * co) + ro).toNatClampNeg) → ∀ (H : Heap) (locs : List Loc), va_P D vwCl [(qg, .inr (5, [.ref qgw, .ref qgh, .ref qgt, .int br, .int jC, .int jR, .int nf, .ref qgx, .ref qgy, .ref qgz, .ref qgu, .int (n_X5_has_qg_11 jC jR co ro)])), (qgx, .inl (cI, 36, .inl fx))] H → va_D A [(qg, .inr (5, [.ref qgw, .ref qgh, .ref qgt, .int br, .int jC, .int jR, .int nf, .ref qgx, .ref qgy, .ref qgz, .ref qgu, .int (n_X5_has_qg_11 jC jR co ro)])), (qgx, .inl (cI, 36, .inl fx))] → va_S A s.heap H locs → ∀ (ls : Array Slot), lv_has ls 3 [(0, .ref qg), (1, .int co), (2, .int ro)] → W p l e (headSpec wsX5_placeX rm_X5_placeX).room s m ([.ref qg, .int co, .int ro]).toArray below meth c H locs 0 0 (MQ below (Qc_X5_placeX D cI cZ cJ cD qg qgw qgh qgt br jC jR nf qgx qgy qgz qgu th fx co ro A) ([.ref qg, .int co, .int ro]).toArray s 0 0 A) (F0 m 24 ls [.int v7_0]) := by
    intro v7_0 hv7_0 H locs hP hD hS ls hl
    subst hv7_0
    have e8 : s_X5_placeX jC jR fx co ro = (if (s_X5_has jC jR co ro) = 0 then 0 else fx ((6 * co) + ro).toNatClampNeg) := rfl
    have e9 : n_X5_placeX_qg_11 jC jR co ro = n_X5_has_qg_11 jC jR co ro := rfl
    exact W.iret (v := (if (s_X5_has jC jR co ro) = 0 then 0 else fx ((6 * co) + ro).toNatClampNeg)) hx hb hr (fun t ht hW => ⟨⟨_, (), rfl, e8.symm, ⟨(by rw [e9]; rw [ht]; exact hP), va_K.moved hW.alike hK, (by rw [e9]; exact hD)⟩⟩, hS.F ht⟩) hS.2.2 dX5_placeX_24
  refine lv_if_eq (tgt := 23) hx hb dX5_placeX_6 (by decide) (fun c10 => ?_) (fun c10 => ?_)
  · refine lv_iconst (v := 0) hx hb dX5_placeX_23 (by decide) ?_
    exact K7 _ (if_pos c10).symm _ _ hP hD hS _ (lv_sub hl [0, 1, 2] rfl)
  · refine lv_aload_n hx hb dX5_placeX_9 rfl (lv_at hl 0 rfl) ?_
    refine va_get (D := D) (ci := 5) (v := .ref qgx) (C := RX5) (T := TX5) (N := 12) hx hb hts (fun w h => List.mem_cons_of_mem _ (List.mem_append_right _ h)) hown hK hP 0 rfl rfl 7 (by decide) (hts (.fieldLink RX5 23 "AtlasFolderModel" "atX" "[I") (List.mem_cons_of_mem _ (List.mem_append_left _ (List.mem_of_getElem? (i := 0) rfl)))) (fun _ h9 => h9) rfl dX5_placeX_10 ?_
    refine lv_bipush (v := 6) hx hb dX5_placeX_13 (by decide) ?_
    refine lv_iload_n hx hb dX5_placeX_15 rfl (lv_at hl 1 rfl) ?_
    refine lv_imul hx hb dX5_placeX_16 ?_
    refine lv_iload_n hx hb dX5_placeX_17 rfl (lv_at hl 2 rfl) ?_
    refine lv_iadd hx hb dX5_placeX_18 ?_
    refine va_iald hx hb hK hP 1 0 rfl rfl (z_h6i hjC hjR c10) dX5_placeX_19 ?_
    refine lv_goto (tgt := 24) hx hb dX5_placeX_20 (by decide) ?_
    exact K7 _ (if_neg c10).symm _ _ hP hD hS _ (lv_sub hl [0, 1, 2] rfl)
def s_X5_placeY (jC : Int32) (jR : Int32) (fy : Nat → Int32) (co : Int32) (ro : Int32) : Int32 := (if (s_X5_has jC jR co ro) = 0 then 0 else fy ((6 * co) + ro).toNatClampNeg)
def n_X5_placeY_qg_11 (jC : Int32) (jR : Int32) (co : Int32) (ro : Int32) : Int32 := n_X5_has_qg_11 jC jR co ro
abbrev rm_X5_placeY : Room := { frames := 2, cells := 0, slots := 0, locals := 43 }
abbrev Qc_X5_placeY (D : va_G) (cI cZ cJ cD : ClassId) (qg : Nat) (qgw : Nat) (qgh : Nat) (qgt : Nat) (br : Int32) (jC : Int32) (jR : Int32) (nf : Int32) (qgx : Nat) (qgy : Nat) (qgz : Nat) (qgu : Nat) (th : Int32) (fy : Nat → Int32) (co : Int32) (ro : Int32) (A : Nat → Prop) : Array Value → State → Outcome → State → Prop := va_Qi (fun (r : Int32) (_ : Unit) => r = s_X5_placeY jC jR fy co ro) (zPost D cI cZ cJ cD A [(qg, .inr (5, [.ref qgw, .ref qgh, .ref qgt, .int br, .int jC, .int jR, .int nf, .ref qgx, .ref qgy, .ref qgz, .ref qgu, .int (n_X5_placeY_qg_11 jC jR co ro)])), (qgy, .inl (cI, 36, .inl fy))]) A
set_option maxHeartbeats 1000000 in
set_option maxRecDepth 100000 in
theorem c_X5_placeY (l : Launch) (D : va_G) (cI cZ cJ cD : ClassId) (qg : Nat) (qgw : Nat) (qgh : Nat) (qgt : Nat) (br : Int32) (jC : Int32) (jR : Int32) (nf : Int32) (qgx : Nat) (qgy : Nat) (qgz : Nat) (qgu : Nat) (th : Int32) (fy : Nat → Int32) (co : Int32) (ro : Int32) (sz : Nat) (hjC : jC ≤ 6) (hjR : jR ≤ 6) : Met l yX5_placeY wsX5_placeY rm_X5_placeY (va_Pc [.ref qg, .int co, .int ro] (zPreW D cI cZ cJ cD [(qg, .inr (5, [.ref qgw, .ref qgh, .ref qgt, .int br, .int jC, .int jR, .int nf, .ref qgx, .ref qgy, .ref qgz, .ref qgu, .int th])), (qgy, .inl (cI, 36, .inl fy))] sz)) (Qc_X5_placeY D cI cZ cJ cD qg qgw qgh qgt br jC jR nf qgx qgy qgz qgu th fy co ro (va_A [(qg, .inr (5, [.ref qgw, .ref qgh, .ref qgt, .int br, .int jC, .int jR, .int nf, .ref qgx, .ref qgy, .ref qgz, .ref qgu, .int th])), (qgy, .inl (cI, 36, .inl fy))] sz)) 0 0 (va_A [(qg, .inr (5, [.ref qgw, .ref qgh, .ref qgt, .int br, .int jC, .int jR, .int nf, .ref qgx, .ref qgy, .ref qgz, .ref qgu, .int th])), (qgy, .inl (cI, 36, .inl fy))] sz) := by
  refine Met.ofW (cc := cX5_placeY) (maxL := 3) (ret := (some .int)) (by decide) rfl ?_
  intro p e s m args below meth c s₁ B hml hv
  obtain ⟨rfl, hsz, hP, hK, hD0⟩ := hv
  have hx := B.exec
  have hb := B.bytes
  have hr := B.returns
  have hts := atoms_spec (ws := wsX5_placeY) B.pre
  have hown : s.vm.findClass RX5 = some m.cls := findClass_of_methodNamed B.named
  have hlocks := B.notSynchronized
  subst hsz
  have hD := hD0.self (sz := s.heap.size)
  generalize hAe : va_A [(qg, .inr (5, [.ref qgw, .ref qgh, .ref qgt, .int br, .int jC, .int jR, .int nf, .ref qgx, .ref qgy, .ref qgz, .ref qgu, .int th])), (qgy, .inl (cI, 36, .inl fy))] s.heap.size = A at hD ⊢
  have hA : ∀ q : Nat, s.heap.size ≤ q → A q := fun q h => by rw [← hAe]; exact Or.inr h
  have hS : va_S A s.heap s.heap [] := va_S.rf
  have hl := lv_entry ([.ref qg, .int co, .int ro]) (n := 3) (Nat.le_of_ble_eq_true rfl)
  rw [lg_entry_eq]
  generalize (lg_sl ([.ref qg, .int co, .int ro]) ++ List.replicate (3 - (lg_sl ([.ref qg, .int co, .int ro])).length) Slot.unset).toArray = ls at hl ⊢
  have hl : lv_has ls 3 [(0, .ref qg), (1, .int co), (2, .int ro)] := hl
  have hP : va_P D vwCl [(qg, .inr (5, [.ref qgw, .ref qgh, .ref qgt, .int br, .int jC, .int jR, .int nf, .ref qgx, .ref qgy, .ref qgz, .ref qgu, .int th])), (qgy, .inl (cI, 36, .inl fy))] s.heap := hP
  have hP := hP
  refine lv_aload_n hx hb dX5_placeY_0 rfl (lv_at hl 0 rfl) ?_
  refine lv_iload_n hx hb dX5_placeY_1 rfl (lv_at hl 1 rfl) ?_
  refine lv_iload_n hx hb dX5_placeY_2 rfl (lv_at hl 2 rfl) ?_
  have hPc := hP.sub (ws' := [(qg, .inr (5, [.ref qgw, .ref qgh, .ref qgt, .int br, .int jC, .int jR, .int nf, .ref qgx, .ref qgy, .ref qgz, .ref qgu, .int th]))]) [0] rfl
  have hDc := hD.sub (ws' := [(qg, .inr (5, [.ref qgw, .ref qgh, .ref qgt, .int br, .int jC, .int jR, .int nf, .ref qgx, .ref qgy, .ref qgz, .ref qgu, .int th]))]) [0] (by decide) rfl
  have hFc := va_free (wc := [(qg, .inr (5, [.ref qgw, .ref qgh, .ref qgt, .int br, .int jC, .int jR, .int nf, .ref qgx, .ref qgy, .ref qgz, .ref qgu, .int th]))]) hD hS hA [0] rfl
  refine va_calli (va_runV (As := [.int co, .int ro]) (rest := []) ⟨hx, hb, hml, hown, hts⟩ (c_X5_has l D cI cZ cJ cD qg qgw qgh qgt br jC jR nf qgx qgy qgz qgu th co ro s.heap.size ) (cwV 2 hts gX5_placeY_X5_has rfl rfl rfl (by decide +kernel) ⟨Nat.le_of_ble_eq_true rfl, Nat.le_of_ble_eq_true rfl⟩) ⟨zblindW, va_recv hK hP (ci := 5) (q0 := 0) rfl rfl, (fun U hU hW => ⟨rfl, by rw [hU], by rw [hU]; exact hPc, va_K.moved hW.alike hK, hDc.weaken (fun _ _ _ _ => trivial)⟩)⟩ rfl rfl hl.1 rfl (lv_room (Nat.le_of_ble_eq_true rfl)) dX5_placeY_3 ⟨Nat.le_of_ble_eq_true rfl, Nat.le_of_ble_eq_true rfl⟩) hS (fun q _ h => hFc q h) hFc (fun r5 u t H locs ht hvm hw hB hz1 hk1 hS => ?_)
  rw [hw]
  obtain ⟨hP1, hK1, hD1⟩ := hB
  rw [ht] at hP1
  obtain ⟨hP, hD⟩ := va_join (wr := [(qgy, .inl (cI, 36, .inl fy))]) (w1 := [(qg, .inr (5, [.ref qgw, .ref qgh, .ref qgt, .int br, .int jC, .int jR, .int nf, .ref qgx, .ref qgy, .ref qgz, .ref qgu, .int (n_X5_has_qg_11 jC jR co ro)]))]) hP hD [0] [1] rfl rfl (by decide) (by decide) hk1 hFc hP1 hD1
  have hP := hP.sub (ws' := [(qg, .inr (5, [.ref qgw, .ref qgh, .ref qgt, .int br, .int jC, .int jR, .int nf, .ref qgx, .ref qgy, .ref qgz, .ref qgu, .int (n_X5_has_qg_11 jC jR co ro)])), (qgy, .inl (cI, 36, .inl fy))]) [1, 0] rfl
  have hD := hD.sub (ws' := [(qg, .inr (5, [.ref qgw, .ref qgh, .ref qgt, .int br, .int jC, .int jR, .int nf, .ref qgx, .ref qgy, .ref qgz, .ref qgu, .int (n_X5_has_qg_11 jC jR co ro)])), (qgy, .inl (cI, 36, .inl fy))]) [1, 0] (by decide) rfl
  have K7 : ∀ v7_0 : Int32, v7_0 = (if (s_X5_has jC jR co ro) = 0 then 0 else fy ((6 * co) + ro).toNatClampNeg) → ∀ (H : Heap) (locs : List Loc), va_P D vwCl [(qg, .inr (5, [.ref qgw, .ref qgh, .ref qgt, .int br, .int jC, .int jR, .int nf, .ref qgx, .ref qgy, .ref qgz, .ref qgu, .int (n_X5_has_qg_11 jC jR co ro)])), (qgy, .inl (cI, 36, .inl fy))] H → va_D A [(qg, .inr (5, [.ref qgw, .ref qgh, .ref qgt, .int br, .int jC, .int jR, .int nf, .ref qgx, .ref qgy, .ref qgz, .ref qgu, .int (n_X5_has_qg_11 jC jR co ro)])), (qgy, .inl (cI, 36, .inl fy))] → va_S A s.heap H locs → ∀ (ls : Array Slot), lv_has ls 3 [(0, .ref qg), (1, .int co), (2, .int ro)] → W p l e (headSpec wsX5_placeY rm_X5_placeY).room s m ([.ref qg, .int co, .int ro]).toArray below meth c H locs 0 0 (MQ below (Qc_X5_placeY D cI cZ cJ cD qg qgw qgh qgt br jC jR nf qgx qgy qgz qgu th fy co ro A) ([.ref qg, .int co, .int ro]).toArray s 0 0 A) (F0 m 24 ls [.int v7_0]) := by
    intro v7_0 hv7_0 H locs hP hD hS ls hl
    subst hv7_0
    have e8 : s_X5_placeY jC jR fy co ro = (if (s_X5_has jC jR co ro) = 0 then 0 else fy ((6 * co) + ro).toNatClampNeg) := rfl
    have e9 : n_X5_placeY_qg_11 jC jR co ro = n_X5_has_qg_11 jC jR co ro := rfl
    exact W.iret (v := (if (s_X5_has jC jR co ro) = 0 then 0 else fy ((6 * co) + ro).toNatClampNeg)) hx hb hr (fun t ht hW => ⟨⟨_, (), rfl, e8.symm, ⟨(by rw [e9]; rw [ht]; exact hP), va_K.moved hW.alike hK, (by rw [e9]; exact hD)⟩⟩, hS.F ht⟩) hS.2.2 dX5_placeY_24
  refine lv_if_eq (tgt := 23) hx hb dX5_placeY_6 (by decide) (fun c10 => ?_) (fun c10 => ?_)
  · refine lv_iconst (v := 0) hx hb dX5_placeY_23 (by decide) ?_
    exact K7 _ (if_pos c10).symm _ _ hP hD hS _ (lv_sub hl [0, 1, 2] rfl)
  · refine lv_aload_n hx hb dX5_placeY_9 rfl (lv_at hl 0 rfl) ?_
    refine va_get (D := D) (ci := 5) (v := .ref qgy) (C := RX5) (T := TX5) (N := 12) hx hb hts (fun w h => List.mem_cons_of_mem _ (List.mem_append_right _ h)) hown hK hP 0 rfl rfl 8 (by decide) (hts (.fieldLink RX5 26 "AtlasFolderModel" "atY" "[I") (List.mem_cons_of_mem _ (List.mem_append_left _ (List.mem_of_getElem? (i := 0) rfl)))) (fun _ h9 => h9) rfl dX5_placeY_10 ?_
    refine lv_bipush (v := 6) hx hb dX5_placeY_13 (by decide) ?_
    refine lv_iload_n hx hb dX5_placeY_15 rfl (lv_at hl 1 rfl) ?_
    refine lv_imul hx hb dX5_placeY_16 ?_
    refine lv_iload_n hx hb dX5_placeY_17 rfl (lv_at hl 2 rfl) ?_
    refine lv_iadd hx hb dX5_placeY_18 ?_
    refine va_iald hx hb hK hP 1 0 rfl rfl (z_h6i hjC hjR c10) dX5_placeY_19 ?_
    refine lv_goto (tgt := 24) hx hb dX5_placeY_20 (by decide) ?_
    exact K7 _ (if_neg c10).symm _ _ hP hD hS _ (lv_sub hl [0, 1, 2] rfl)
def lp_X5_stacked_5 (jC : Int32) (jR : Int32) (fx : Nat → Int32) (fy : Nat → Int32) (fz : Nat → Int32) (pn : Int32) (al : Int32) : Nat → Int32
  | 0 => 0
  | k + 1 => (lp_X5_stacked_5 jC jR fx fy fz pn al k) + (if (if (s_X5_isPanel jC jR (nI k)) = 0 then 0 else (if (fx (nI k).toNatClampNeg) = (fx pn.toNatClampNeg) then (if (fy (nI k).toNatClampNeg) = (fy pn.toNatClampNeg) then 1 else 0) else 0)) = (0 : Int32) then 0 else (if al = 0 then (if (fz (nI k).toNatClampNeg) ≤ (fz pn.toNatClampNeg) then 0 else 1) else 1))
def s_X5_stacked (jC : Int32) (jR : Int32) (fx : Nat → Int32) (fy : Nat → Int32) (fz : Nat → Int32) (pn : Int32) (al : Int32) : Int32 := lp_X5_stacked_5 jC jR fx fy fz pn al 36
abbrev rm_X5_stacked : Room := { frames := 1, cells := 0, slots := 0, locals := 21 }
abbrev Qc_X5_stacked (D : va_G) (cI cZ cJ cD : ClassId) (qg : Nat) (qgw : Nat) (qgh : Nat) (qgt : Nat) (br : Int32) (jC : Int32) (jR : Int32) (nf : Int32) (qgx : Nat) (qgy : Nat) (qgz : Nat) (qgu : Nat) (th : Int32) (fx : Nat → Int32) (fy : Nat → Int32) (fz : Nat → Int32) (pn : Int32) (al : Int32) : Array Value → State → Outcome → State → Prop := va_Qi (fun (r : Int32) (_ : Unit) => r = s_X5_stacked jC jR fx fy fz pn al) (fun _ _ => True) (fun _ : Nat => False)
set_option maxHeartbeats 1000000 in
set_option maxRecDepth 100000 in
theorem c_X5_stacked (l : Launch) (D : va_G) (cI cZ cJ cD : ClassId) (qg : Nat) (qgw : Nat) (qgh : Nat) (qgt : Nat) (br : Int32) (jC : Int32) (jR : Int32) (nf : Int32) (qgx : Nat) (qgy : Nat) (qgz : Nat) (qgu : Nat) (th : Int32) (fx : Nat → Int32) (fy : Nat → Int32) (fz : Nat → Int32) (pn : Int32) (al : Int32) (hp : vp_in pn 36) : Met l yX5_stacked wsX5_stacked rm_X5_stacked (va_Pc [.ref qg, .int pn, .int al] (zPre D cI cZ cJ cD [(qg, .inr (5, [.ref qgw, .ref qgh, .ref qgt, .int br, .int jC, .int jR, .int nf, .ref qgx, .ref qgy, .ref qgz, .ref qgu, .int th])), (qgx, .inl (cI, 36, .inl fx)), (qgy, .inl (cI, 36, .inl fy)), (qgz, .inl (cI, 36, .inl fz))])) (Qc_X5_stacked D cI cZ cJ cD qg qgw qgh qgt br jC jR nf qgx qgy qgz qgu th fx fy fz pn al ) 0 0 (fun _ : Nat => False) := by
  refine Met.ofW (cc := cX5_stacked) (maxL := 6) (ret := (some .int)) (by decide) rfl ?_
  intro p e s m args below meth c s₁ B hml hv
  obtain ⟨rfl, hP, hK⟩ := hv
  have hx := B.exec
  have hb := B.bytes
  have hr := B.returns
  have hts := atoms_spec (ws := wsX5_stacked) B.pre
  have hown : s.vm.findClass RX5 = some m.cls := findClass_of_methodNamed B.named
  have hlocks := B.notSynchronized
  have hS : va_S (fun _ : Nat => False) s.heap s.heap [] := va_S.rf
  have hl := lv_entry ([.ref qg, .int pn, .int al]) (n := 6) (Nat.le_of_ble_eq_true rfl)
  rw [lg_entry_eq]
  generalize (lg_sl ([.ref qg, .int pn, .int al]) ++ List.replicate (6 - (lg_sl ([.ref qg, .int pn, .int al])).length) Slot.unset).toArray = ls at hl ⊢
  have hl : lv_has ls 6 [(0, .ref qg), (1, .int pn), (2, .int al)] := hl
  have hP : va_P D vwCl [(qg, .inr (5, [.ref qgw, .ref qgh, .ref qgt, .int br, .int jC, .int jR, .int nf, .ref qgx, .ref qgy, .ref qgz, .ref qgu, .int th])), (qgx, .inl (cI, 36, .inl fx)), (qgy, .inl (cI, 36, .inl fy)), (qgz, .inl (cI, 36, .inl fz))] s.heap := hP
  have hP := hP
  refine lv_iconst (v := 0) hx hb dX5_stacked_0 (by decide) ?_
  refine lv_istore_n (lv' := [(3, .int 0), (0, .ref qg), (1, .int pn), (2, .int al)]) hx hb dX5_stacked_1 rfl hl (by decide) rfl (fun ls hl => ?_)
  refine lv_iconst (v := 0) hx hb dX5_stacked_2 (by decide) ?_
  refine lv_istore (lv' := [(4, .int 0), (3, .int 0), (0, .ref qg), (1, .int pn), (2, .int al)]) hx hb dX5_stacked_3 hl (by decide) rfl (fun ls hl => ?_)
  have X1 : ∀ (H : Heap) (locs : List Loc), va_P D vwCl [(qg, .inr (5, [.ref qgw, .ref qgh, .ref qgt, .int br, .int jC, .int jR, .int nf, .ref qgx, .ref qgy, .ref qgz, .ref qgu, .int th])), (qgx, .inl (cI, 36, .inl fx)), (qgy, .inl (cI, 36, .inl fy)), (qgz, .inl (cI, 36, .inl fz))] H → va_S (fun _ : Nat => False) s.heap H locs → ∀ (ls : Array Slot), lv_has ls 6 [(0, .ref qg), (1, .int pn), (2, .int al), (3, .int (lp_X5_stacked_5 jC jR fx fy fz pn al 36))] → W p l e (headSpec wsX5_stacked rm_X5_stacked).room s m ([.ref qg, .int pn, .int al]).toArray below meth c H locs 0 0 (MQ below (Qc_X5_stacked D cI cZ cJ cD qg qgw qgh qgt br jC jR nf qgx qgy qgz qgu th fx fy fz pn al) ([.ref qg, .int pn, .int al]).toArray s 0 0 (fun _ : Nat => False)) (F0 m 99 ls []) := by
    intro H locs hP hS ls hl
    refine lv_iload_n hx hb dX5_stacked_99 rfl (lv_at hl 3 rfl) ?_
    have e2 : s_X5_stacked jC jR fx fy fz pn al = lp_X5_stacked_5 jC jR fx fy fz pn al 36 := rfl
    exact W.iret (v := (lp_X5_stacked_5 jC jR fx fy fz pn al 36)) hx hb hr (fun t ht hW => ⟨⟨_, (), rfl, e2.symm, trivial⟩, hS.F ht⟩) hS.2.2 dX5_stacked_100
  have L1 : ∀ (n k : Nat) (acc : Int32), k ≤ 36 → 36 < k + n → acc = lp_X5_stacked_5 jC jR fx fy fz pn al k → ∀ (H : Heap) (locs : List Loc), va_P D vwCl [(qg, .inr (5, [.ref qgw, .ref qgh, .ref qgt, .int br, .int jC, .int jR, .int nf, .ref qgx, .ref qgy, .ref qgz, .ref qgu, .int th])), (qgx, .inl (cI, 36, .inl fx)), (qgy, .inl (cI, 36, .inl fy)), (qgz, .inl (cI, 36, .inl fz))] H → va_S (fun _ : Nat => False) s.heap H locs → ∀ (ls : Array Slot), lv_has ls 6 [(0, .ref qg), (1, .int pn), (2, .int al), (4, .int (nI k)), (3, .int acc)] → W p l e (headSpec wsX5_stacked rm_X5_stacked).room s m ([.ref qg, .int pn, .int al]).toArray below meth c H locs 0 0 (MQ below (Qc_X5_stacked D cI cZ cJ cD qg qgw qgh qgt br jC jR nf qgx qgy qgz qgu th fx fy fz pn al) ([.ref qg, .int pn, .int al]).toArray s 0 0 (fun _ : Nat => False)) (F0 m 5 ls []) := by
    intro n
    induction n with
    | zero =>
      intro k acc hk hf
      exact absurd hf (by omega)
    | succ n ih =>
      intro k acc hk hf hacc H locs hP hS ls hl
      subst hacc
      refine lv_iload hx hb dX5_stacked_5 (lv_at hl 3 rfl) ?_
      refine lv_bipush (v := 36) hx hb dX5_stacked_7 (by decide) ?_
      refine lv_icmp_ge (tgt := 99) hx hb dX5_stacked_9 (by decide) (fun c3 => ?_) (fun c3 => ?_)
      · have hge : 36 ≤ k := (z_36g hk c3)
        have ek : k = 36 := by omega
        subst ek
        exact X1 _ _ hP hS _ (lv_sub hl [0, 1, 2, 4] rfl)
      · refine lv_aload_n hx hb dX5_stacked_12 rfl (lv_at hl 0 rfl) ?_
        refine lv_iload hx hb dX5_stacked_13 (lv_at hl 3 rfl) ?_
        refine va_calli (va_runV (As := [.int (nI k)]) (rest := []) ⟨hx, hb, hml, hown, hts⟩ (c_X5_isPanel l D cI cZ cJ cD qg qgw qgh qgt br jC jR nf qgx qgy qgz qgu th (nI k) ) (cwV 1 hts gX5_stacked_X5_isPanel rfl rfl rfl (by decide +kernel) ⟨Nat.le_of_ble_eq_true rfl, Nat.le_of_ble_eq_true rfl⟩) ⟨zblind, va_recv hK hP (ci := 5) (q0 := 0) rfl rfl, (fun U hU hW => ⟨rfl, by rw [hU]; exact hP.sub (ws' := [(qg, .inr (5, [.ref qgw, .ref qgh, .ref qgt, .int br, .int jC, .int jR, .int nf, .ref qgx, .ref qgy, .ref qgz, .ref qgu, .int th]))]) [0] rfl, va_K.moved hW.alike hK⟩)⟩ rfl rfl hl.1 rfl (lv_room (Nat.le_of_ble_eq_true rfl)) dX5_stacked_15 ⟨Nat.le_of_ble_eq_true rfl, Nat.le_of_ble_eq_true rfl⟩) hS (fun q _ h => h.elim) (fun q h => h.elim) (fun r4 u t H locs ht hvm hw hB hz1 hk1 hS => ?_)
        rw [hw]
        have hP := zk hP hk1
        have K6 : ∀ v6_0 : Int32, v6_0 = (if (s_X5_isPanel jC jR (nI k)) = 0 then 0 else (if (fx (nI k).toNatClampNeg) = (fx pn.toNatClampNeg) then (if (fy (nI k).toNatClampNeg) = (fy pn.toNatClampNeg) then 1 else 0) else 0)) → ∀ (H : Heap) (locs : List Loc), va_P D vwCl [(qg, .inr (5, [.ref qgw, .ref qgh, .ref qgt, .int br, .int jC, .int jR, .int nf, .ref qgx, .ref qgy, .ref qgz, .ref qgu, .int th])), (qgx, .inl (cI, 36, .inl fx)), (qgy, .inl (cI, 36, .inl fy)), (qgz, .inl (cI, 36, .inl fz))] H → va_S (fun _ : Nat => False) s.heap H locs → ∀ (ls : Array Slot), lv_has ls 6 [(0, .ref qg), (1, .int pn), (2, .int al), (4, .int (nI k)), (3, .int (lp_X5_stacked_5 jC jR fx fy fz pn al k))] → W p l e (headSpec wsX5_stacked rm_X5_stacked).room s m ([.ref qg, .int pn, .int al]).toArray below meth c H locs 0 0 (MQ below (Qc_X5_stacked D cI cZ cJ cD qg qgw qgh qgt br jC jR nf qgx qgy qgz qgu th fx fy fz pn al) ([.ref qg, .int pn, .int al]).toArray s 0 0 (fun _ : Nat => False)) (F0 m 58 ls [.int v6_0]) := by
          intro v6_0 hv6_0 H locs hP hS ls hl
          subst hv6_0
          refine lv_istore (lv' := [(5, .int (if (s_X5_isPanel jC jR (nI k)) = 0 then 0 else (if (fx (nI k).toNatClampNeg) = (fx pn.toNatClampNeg) then (if (fy (nI k).toNatClampNeg) = (fy pn.toNatClampNeg) then 1 else 0) else 0))), (0, .ref qg), (1, .int pn), (2, .int al), (4, .int (nI k)), (3, .int (lp_X5_stacked_5 jC jR fx fy fz pn al k))]) hx hb dX5_stacked_58 hl (by decide) rfl (fun ls hl => ?_)
          refine lv_iload_n hx hb dX5_stacked_60 rfl (lv_at hl 5 rfl) ?_
          refine lv_iload hx hb dX5_stacked_61 (lv_at hl 0 rfl) ?_
          have K8 : ∀ v8_0 : Int32, v8_0 = (if (if (s_X5_isPanel jC jR (nI k)) = 0 then 0 else (if (fx (nI k).toNatClampNeg) = (fx pn.toNatClampNeg) then (if (fy (nI k).toNatClampNeg) = (fy pn.toNatClampNeg) then 1 else 0) else 0)) = (0 : Int32) then 0 else (if al = 0 then (if (fz (nI k).toNatClampNeg) ≤ (fz pn.toNatClampNeg) then 0 else 1) else 1)) → ∀ (H : Heap) (locs : List Loc), va_P D vwCl [(qg, .inr (5, [.ref qgw, .ref qgh, .ref qgt, .int br, .int jC, .int jR, .int nf, .ref qgx, .ref qgy, .ref qgz, .ref qgu, .int th])), (qgx, .inl (cI, 36, .inl fx)), (qgy, .inl (cI, 36, .inl fy)), (qgz, .inl (cI, 36, .inl fz))] H → va_S (fun _ : Nat => False) s.heap H locs → ∀ (ls : Array Slot), lv_has ls 6 [(5, .int (if (s_X5_isPanel jC jR (nI k)) = 0 then 0 else (if (fx (nI k).toNatClampNeg) = (fx pn.toNatClampNeg) then (if (fy (nI k).toNatClampNeg) = (fy pn.toNatClampNeg) then 1 else 0) else 0))), (0, .ref qg), (1, .int pn), (2, .int al), (4, .int (nI k)), (3, .int (lp_X5_stacked_5 jC jR fx fy fz pn al k))] → W p l e (headSpec wsX5_stacked rm_X5_stacked).room s m ([.ref qg, .int pn, .int al]).toArray below meth c H locs 0 0 (MQ below (Qc_X5_stacked D cI cZ cJ cD qg qgw qgh qgt br jC jR nf qgx qgy qgz qgu th fx fy fz pn al) ([.ref qg, .int pn, .int al]).toArray s 0 0 (fun _ : Nat => False)) (F0 m 91 ls [.int v8_0, .int (lp_X5_stacked_5 jC jR fx fy fz pn al k)]) := by
            intro v8_0 hv8_0 H locs hP hS ls hl
            subst hv8_0
            refine lv_iadd hx hb dX5_stacked_91 ?_
            refine lv_istore_n (lv' := [(3, .int ((lp_X5_stacked_5 jC jR fx fy fz pn al k) + (if (if (s_X5_isPanel jC jR (nI k)) = 0 then 0 else (if (fx (nI k).toNatClampNeg) = (fx pn.toNatClampNeg) then (if (fy (nI k).toNatClampNeg) = (fy pn.toNatClampNeg) then 1 else 0) else 0)) = (0 : Int32) then 0 else (if al = 0 then (if (fz (nI k).toNatClampNeg) ≤ (fz pn.toNatClampNeg) then 0 else 1) else 1)))), (5, .int (if (s_X5_isPanel jC jR (nI k)) = 0 then 0 else (if (fx (nI k).toNatClampNeg) = (fx pn.toNatClampNeg) then (if (fy (nI k).toNatClampNeg) = (fy pn.toNatClampNeg) then 1 else 0) else 0))), (0, .ref qg), (1, .int pn), (2, .int al), (4, .int (nI k))]) hx hb dX5_stacked_92 rfl hl (by decide) rfl (fun ls hl => ?_)
            refine lv_iinc (v := nI (k + 1)) (lv' := [(4, .int (nI (k + 1))), (3, .int ((lp_X5_stacked_5 jC jR fx fy fz pn al k) + (if (if (s_X5_isPanel jC jR (nI k)) = 0 then 0 else (if (fx (nI k).toNatClampNeg) = (fx pn.toNatClampNeg) then (if (fy (nI k).toNatClampNeg) = (fy pn.toNatClampNeg) then 1 else 0) else 0)) = (0 : Int32) then 0 else (if al = 0 then (if (fz (nI k).toNatClampNeg) ≤ (fz pn.toNatClampNeg) then 0 else 1) else 1)))), (5, .int (if (s_X5_isPanel jC jR (nI k)) = 0 then 0 else (if (fx (nI k).toNatClampNeg) = (fx pn.toNatClampNeg) then (if (fy (nI k).toNatClampNeg) = (fy pn.toNatClampNeg) then 1 else 0) else 0))), (0, .ref qg), (1, .int pn), (2, .int al)]) hx hb dX5_stacked_93 hl (k := 5) rfl (nI_succ k).symm (by decide) rfl (fun ls hl => ?_)
            refine lv_goto (tgt := 5) hx hb dX5_stacked_96 (by decide) ?_
            have hlt : k < 36 := (z_36l hk c3)
            exact ih (k + 1) _ (by omega) (by omega) rfl _ _ hP hS _ (lv_sub hl [3, 4, 5, 0, 1] rfl)
          refine lv_if_eq (tgt := 90) hx hb dX5_stacked_63 (by decide) (fun c9 => ?_) (fun c9 => ?_)
          · refine lv_iconst (v := 0) hx hb dX5_stacked_90 (by decide) ?_
            exact K8 _ (if_pos c9).symm _ _ hP hS _ (lv_sub hl [0, 1, 2, 3, 4, 5] rfl)
          · refine lv_iload_n hx hb dX5_stacked_66 rfl (lv_at hl 3 rfl) ?_
            refine lv_if_ne (tgt := 86) hx hb dX5_stacked_67 (by decide) (fun c10 => ?_) (fun c10 => ?_)
            · refine lv_iconst (v := 1) hx hb dX5_stacked_86 (by decide) ?_
              refine lv_goto (tgt := 91) hx hb dX5_stacked_87 (by decide) ?_
              exact K8 _ ((if_neg c9).trans (if_neg c10)).symm _ _ hP hS _ (lv_sub hl [0, 1, 2, 3, 4, 5] rfl)
            · refine lv_aload_n hx hb dX5_stacked_70 rfl (lv_at hl 1 rfl) ?_
              refine va_get (D := D) (ci := 5) (v := .ref qgz) (C := RX5) (T := TX5) (N := 12) hx hb hts (fun w h => List.mem_cons_of_mem _ (List.mem_append_right _ h)) hown hK hP 0 rfl rfl 9 (by decide) (hts (.fieldLink RX5 29 "AtlasFolderModel" "layer" "[I") (List.mem_cons_of_mem _ (List.mem_append_left _ (List.mem_of_getElem? (i := 2) rfl)))) (fun _ h9 => h9) rfl dX5_stacked_71 ?_
              refine lv_iload hx hb dX5_stacked_74 (lv_at hl 4 rfl) ?_
              refine va_iald hx hb hK hP 3 0 rfl rfl (vp_in_nI (z_36l hk c3) (by omega)) dX5_stacked_76 ?_
              refine lv_aload_n hx hb dX5_stacked_77 rfl (lv_at hl 1 rfl) ?_
              refine va_get (D := D) (ci := 5) (v := .ref qgz) (C := RX5) (T := TX5) (N := 12) hx hb hts (fun w h => List.mem_cons_of_mem _ (List.mem_append_right _ h)) hown hK hP 0 rfl rfl 9 (by decide) (hts (.fieldLink RX5 29 "AtlasFolderModel" "layer" "[I") (List.mem_cons_of_mem _ (List.mem_append_left _ (List.mem_of_getElem? (i := 2) rfl)))) (fun _ h9 => h9) rfl dX5_stacked_78 ?_
              refine lv_iload_n hx hb dX5_stacked_81 rfl (lv_at hl 2 rfl) ?_
              refine va_iald hx hb hK hP 3 0 rfl rfl hp dX5_stacked_82 ?_
              refine lv_icmp_le (tgt := 90) hx hb dX5_stacked_83 (by decide) (fun c11 => ?_) (fun c11 => ?_)
              · refine lv_iconst (v := 0) hx hb dX5_stacked_90 (by decide) ?_
                exact K8 _ ((if_neg c9).trans ((if_pos c10).trans (if_pos c11))).symm _ _ hP hS _ (lv_sub hl [0, 1, 2, 3, 4, 5] rfl)
              · refine lv_iconst (v := 1) hx hb dX5_stacked_86 (by decide) ?_
                refine lv_goto (tgt := 91) hx hb dX5_stacked_87 (by decide) ?_
                exact K8 _ ((if_neg c9).trans ((if_pos c10).trans (if_neg c11))).symm _ _ hP hS _ (lv_sub hl [0, 1, 2, 3, 4, 5] rfl)
        refine lv_if_eq (tgt := 57) hx hb dX5_stacked_18 (by decide) (fun c12 => ?_) (fun c12 => ?_)
        · refine lv_iconst (v := 0) hx hb dX5_stacked_57 (by decide) ?_
          exact K6 _ (if_pos c12).symm _ _ hP hS _ (lv_sub hl [0, 1, 2, 3, 4] rfl)
        · refine lv_aload_n hx hb dX5_stacked_21 rfl (lv_at hl 0 rfl) ?_
          refine va_get (D := D) (ci := 5) (v := .ref qgx) (C := RX5) (T := TX5) (N := 12) hx hb hts (fun w h => List.mem_cons_of_mem _ (List.mem_append_right _ h)) hown hK hP 0 rfl rfl 7 (by decide) (hts (.fieldLink RX5 23 "AtlasFolderModel" "atX" "[I") (List.mem_cons_of_mem _ (List.mem_append_left _ (List.mem_of_getElem? (i := 0) rfl)))) (fun _ h9 => h9) rfl dX5_stacked_22 ?_
          refine lv_iload hx hb dX5_stacked_25 (lv_at hl 3 rfl) ?_
          refine va_iald hx hb hK hP 1 0 rfl rfl (vp_in_nI (z_36l hk c3) (by omega)) dX5_stacked_27 ?_
          refine lv_aload_n hx hb dX5_stacked_28 rfl (lv_at hl 0 rfl) ?_
          refine va_get (D := D) (ci := 5) (v := .ref qgx) (C := RX5) (T := TX5) (N := 12) hx hb hts (fun w h => List.mem_cons_of_mem _ (List.mem_append_right _ h)) hown hK hP 0 rfl rfl 7 (by decide) (hts (.fieldLink RX5 23 "AtlasFolderModel" "atX" "[I") (List.mem_cons_of_mem _ (List.mem_append_left _ (List.mem_of_getElem? (i := 0) rfl)))) (fun _ h9 => h9) rfl dX5_stacked_29 ?_
          refine lv_iload_n hx hb dX5_stacked_32 rfl (lv_at hl 1 rfl) ?_
          refine va_iald hx hb hK hP 1 0 rfl rfl hp dX5_stacked_33 ?_
          refine lv_icmp_ne (tgt := 57) hx hb dX5_stacked_34 (by decide) (fun c13 => ?_) (fun c13 => ?_)
          · refine lv_iconst (v := 0) hx hb dX5_stacked_57 (by decide) ?_
            exact K6 _ ((if_neg c12).trans (if_neg c13)).symm _ _ hP hS _ (lv_sub hl [0, 1, 2, 3, 4] rfl)
          · refine lv_aload_n hx hb dX5_stacked_37 rfl (lv_at hl 0 rfl) ?_
            refine va_get (D := D) (ci := 5) (v := .ref qgy) (C := RX5) (T := TX5) (N := 12) hx hb hts (fun w h => List.mem_cons_of_mem _ (List.mem_append_right _ h)) hown hK hP 0 rfl rfl 8 (by decide) (hts (.fieldLink RX5 26 "AtlasFolderModel" "atY" "[I") (List.mem_cons_of_mem _ (List.mem_append_left _ (List.mem_of_getElem? (i := 1) rfl)))) (fun _ h9 => h9) rfl dX5_stacked_38 ?_
            refine lv_iload hx hb dX5_stacked_41 (lv_at hl 3 rfl) ?_
            refine va_iald hx hb hK hP 2 0 rfl rfl (vp_in_nI (z_36l hk c3) (by omega)) dX5_stacked_43 ?_
            refine lv_aload_n hx hb dX5_stacked_44 rfl (lv_at hl 0 rfl) ?_
            refine va_get (D := D) (ci := 5) (v := .ref qgy) (C := RX5) (T := TX5) (N := 12) hx hb hts (fun w h => List.mem_cons_of_mem _ (List.mem_append_right _ h)) hown hK hP 0 rfl rfl 8 (by decide) (hts (.fieldLink RX5 26 "AtlasFolderModel" "atY" "[I") (List.mem_cons_of_mem _ (List.mem_append_left _ (List.mem_of_getElem? (i := 1) rfl)))) (fun _ h9 => h9) rfl dX5_stacked_45 ?_
            refine lv_iload_n hx hb dX5_stacked_48 rfl (lv_at hl 1 rfl) ?_
            refine va_iald hx hb hK hP 2 0 rfl rfl hp dX5_stacked_49 ?_
            refine lv_icmp_ne (tgt := 57) hx hb dX5_stacked_50 (by decide) (fun c14 => ?_) (fun c14 => ?_)
            · refine lv_iconst (v := 0) hx hb dX5_stacked_57 (by decide) ?_
              exact K6 _ ((if_neg c12).trans ((if_pos c13).trans (if_neg c14))).symm _ _ hP hS _ (lv_sub hl [0, 1, 2, 3, 4] rfl)
            · refine lv_iconst (v := 1) hx hb dX5_stacked_53 (by decide) ?_
              refine lv_goto (tgt := 58) hx hb dX5_stacked_54 (by decide) ?_
              exact K6 _ ((if_neg c12).trans ((if_pos c13).trans (if_pos c14))).symm _ _ hP hS _ (lv_sub hl [0, 1, 2, 3, 4] rfl)
  exact L1 (36 + 1) 0 _ (Nat.zero_le _) (by omega) rfl _ _ hP hS _ (lv_sub hl [2, 3, 4, 0, 1] rfl)
def s_X5_above (jC : Int32) (jR : Int32) (fx : Nat → Int32) (fy : Nat → Int32) (fz : Nat → Int32) (co : Int32) (ro : Int32) : Int32 := (if (s_X5_has jC jR co ro) = 0 then 0 else s_X5_stacked jC jR fx fy fz ((6 * co) + ro) 0)
def n_X5_above_qg_11 (jC : Int32) (jR : Int32) (co : Int32) (ro : Int32) : Int32 := n_X5_has_qg_11 jC jR co ro
abbrev rm_X5_above : Room := { frames := 2, cells := 0, slots := 0, locals := 46 }
abbrev Qc_X5_above (D : va_G) (cI cZ cJ cD : ClassId) (qg : Nat) (qgw : Nat) (qgh : Nat) (qgt : Nat) (br : Int32) (jC : Int32) (jR : Int32) (nf : Int32) (qgx : Nat) (qgy : Nat) (qgz : Nat) (qgu : Nat) (th : Int32) (fx : Nat → Int32) (fy : Nat → Int32) (fz : Nat → Int32) (co : Int32) (ro : Int32) (A : Nat → Prop) : Array Value → State → Outcome → State → Prop := va_Qi (fun (r : Int32) (_ : Unit) => r = s_X5_above jC jR fx fy fz co ro) (zPost D cI cZ cJ cD A [(qg, .inr (5, [.ref qgw, .ref qgh, .ref qgt, .int br, .int jC, .int jR, .int nf, .ref qgx, .ref qgy, .ref qgz, .ref qgu, .int (n_X5_above_qg_11 jC jR co ro)])), (qgx, .inl (cI, 36, .inl fx)), (qgy, .inl (cI, 36, .inl fy)), (qgz, .inl (cI, 36, .inl fz))]) A
set_option maxHeartbeats 1000000 in
set_option maxRecDepth 100000 in
theorem c_X5_above (l : Launch) (D : va_G) (cI cZ cJ cD : ClassId) (qg : Nat) (qgw : Nat) (qgh : Nat) (qgt : Nat) (br : Int32) (jC : Int32) (jR : Int32) (nf : Int32) (qgx : Nat) (qgy : Nat) (qgz : Nat) (qgu : Nat) (th : Int32) (fx : Nat → Int32) (fy : Nat → Int32) (fz : Nat → Int32) (co : Int32) (ro : Int32) (sz : Nat) (hjC : jC ≤ 6) (hjR : jR ≤ 6) : Met l yX5_above wsX5_above rm_X5_above (va_Pc [.ref qg, .int co, .int ro] (zPreW D cI cZ cJ cD [(qg, .inr (5, [.ref qgw, .ref qgh, .ref qgt, .int br, .int jC, .int jR, .int nf, .ref qgx, .ref qgy, .ref qgz, .ref qgu, .int th])), (qgx, .inl (cI, 36, .inl fx)), (qgy, .inl (cI, 36, .inl fy)), (qgz, .inl (cI, 36, .inl fz))] sz)) (Qc_X5_above D cI cZ cJ cD qg qgw qgh qgt br jC jR nf qgx qgy qgz qgu th fx fy fz co ro (va_A [(qg, .inr (5, [.ref qgw, .ref qgh, .ref qgt, .int br, .int jC, .int jR, .int nf, .ref qgx, .ref qgy, .ref qgz, .ref qgu, .int th])), (qgx, .inl (cI, 36, .inl fx)), (qgy, .inl (cI, 36, .inl fy)), (qgz, .inl (cI, 36, .inl fz))] sz)) 0 0 (va_A [(qg, .inr (5, [.ref qgw, .ref qgh, .ref qgt, .int br, .int jC, .int jR, .int nf, .ref qgx, .ref qgy, .ref qgz, .ref qgu, .int th])), (qgx, .inl (cI, 36, .inl fx)), (qgy, .inl (cI, 36, .inl fy)), (qgz, .inl (cI, 36, .inl fz))] sz) := by
  refine Met.ofW (cc := cX5_above) (maxL := 3) (ret := (some .int)) (by decide) rfl ?_
  intro p e s m args below meth c s₁ B hml hv
  obtain ⟨rfl, hsz, hP, hK, hD0⟩ := hv
  have hx := B.exec
  have hb := B.bytes
  have hr := B.returns
  have hts := atoms_spec (ws := wsX5_above) B.pre
  have hown : s.vm.findClass RX5 = some m.cls := findClass_of_methodNamed B.named
  have hlocks := B.notSynchronized
  subst hsz
  have hD := hD0.self (sz := s.heap.size)
  generalize hAe : va_A [(qg, .inr (5, [.ref qgw, .ref qgh, .ref qgt, .int br, .int jC, .int jR, .int nf, .ref qgx, .ref qgy, .ref qgz, .ref qgu, .int th])), (qgx, .inl (cI, 36, .inl fx)), (qgy, .inl (cI, 36, .inl fy)), (qgz, .inl (cI, 36, .inl fz))] s.heap.size = A at hD ⊢
  have hA : ∀ q : Nat, s.heap.size ≤ q → A q := fun q h => by rw [← hAe]; exact Or.inr h
  have hS : va_S A s.heap s.heap [] := va_S.rf
  have hl := lv_entry ([.ref qg, .int co, .int ro]) (n := 3) (Nat.le_of_ble_eq_true rfl)
  rw [lg_entry_eq]
  generalize (lg_sl ([.ref qg, .int co, .int ro]) ++ List.replicate (3 - (lg_sl ([.ref qg, .int co, .int ro])).length) Slot.unset).toArray = ls at hl ⊢
  have hl : lv_has ls 3 [(0, .ref qg), (1, .int co), (2, .int ro)] := hl
  have hP : va_P D vwCl [(qg, .inr (5, [.ref qgw, .ref qgh, .ref qgt, .int br, .int jC, .int jR, .int nf, .ref qgx, .ref qgy, .ref qgz, .ref qgu, .int th])), (qgx, .inl (cI, 36, .inl fx)), (qgy, .inl (cI, 36, .inl fy)), (qgz, .inl (cI, 36, .inl fz))] s.heap := hP
  have hP := hP
  refine lv_aload_n hx hb dX5_above_0 rfl (lv_at hl 0 rfl) ?_
  refine lv_iload_n hx hb dX5_above_1 rfl (lv_at hl 1 rfl) ?_
  refine lv_iload_n hx hb dX5_above_2 rfl (lv_at hl 2 rfl) ?_
  have hPc := hP.sub (ws' := [(qg, .inr (5, [.ref qgw, .ref qgh, .ref qgt, .int br, .int jC, .int jR, .int nf, .ref qgx, .ref qgy, .ref qgz, .ref qgu, .int th]))]) [0] rfl
  have hDc := hD.sub (ws' := [(qg, .inr (5, [.ref qgw, .ref qgh, .ref qgt, .int br, .int jC, .int jR, .int nf, .ref qgx, .ref qgy, .ref qgz, .ref qgu, .int th]))]) [0] (by decide) rfl
  have hFc := va_free (wc := [(qg, .inr (5, [.ref qgw, .ref qgh, .ref qgt, .int br, .int jC, .int jR, .int nf, .ref qgx, .ref qgy, .ref qgz, .ref qgu, .int th]))]) hD hS hA [0] rfl
  refine va_calli (va_runV (As := [.int co, .int ro]) (rest := []) ⟨hx, hb, hml, hown, hts⟩ (c_X5_has l D cI cZ cJ cD qg qgw qgh qgt br jC jR nf qgx qgy qgz qgu th co ro s.heap.size ) (cwV 2 hts gX5_above_X5_has rfl rfl rfl (by decide +kernel) ⟨Nat.le_of_ble_eq_true rfl, Nat.le_of_ble_eq_true rfl⟩) ⟨zblindW, va_recv hK hP (ci := 5) (q0 := 0) rfl rfl, (fun U hU hW => ⟨rfl, by rw [hU], by rw [hU]; exact hPc, va_K.moved hW.alike hK, hDc.weaken (fun _ _ _ _ => trivial)⟩)⟩ rfl rfl hl.1 rfl (lv_room (Nat.le_of_ble_eq_true rfl)) dX5_above_3 ⟨Nat.le_of_ble_eq_true rfl, Nat.le_of_ble_eq_true rfl⟩) hS (fun q _ h => hFc q h) hFc (fun r6 u t H locs ht hvm hw hB hz1 hk1 hS => ?_)
  rw [hw]
  obtain ⟨hP1, hK1, hD1⟩ := hB
  rw [ht] at hP1
  obtain ⟨hP, hD⟩ := va_join (wr := [(qgx, .inl (cI, 36, .inl fx)), (qgy, .inl (cI, 36, .inl fy)), (qgz, .inl (cI, 36, .inl fz))]) (w1 := [(qg, .inr (5, [.ref qgw, .ref qgh, .ref qgt, .int br, .int jC, .int jR, .int nf, .ref qgx, .ref qgy, .ref qgz, .ref qgu, .int (n_X5_has_qg_11 jC jR co ro)]))]) hP hD [0] [1, 2, 3] rfl rfl (by decide) (by decide) hk1 hFc hP1 hD1
  have hP := hP.sub (ws' := [(qg, .inr (5, [.ref qgw, .ref qgh, .ref qgt, .int br, .int jC, .int jR, .int nf, .ref qgx, .ref qgy, .ref qgz, .ref qgu, .int (n_X5_has_qg_11 jC jR co ro)])), (qgx, .inl (cI, 36, .inl fx)), (qgy, .inl (cI, 36, .inl fy)), (qgz, .inl (cI, 36, .inl fz))]) [3, 0, 1, 2] rfl
  have hD := hD.sub (ws' := [(qg, .inr (5, [.ref qgw, .ref qgh, .ref qgt, .int br, .int jC, .int jR, .int nf, .ref qgx, .ref qgy, .ref qgz, .ref qgu, .int (n_X5_has_qg_11 jC jR co ro)])), (qgx, .inl (cI, 36, .inl fx)), (qgy, .inl (cI, 36, .inl fy)), (qgz, .inl (cI, 36, .inl fz))]) [3, 0, 1, 2] (by decide) rfl
  have K8 : ∀ v8_0 : Int32, v8_0 = (if (s_X5_has jC jR co ro) = 0 then 0 else s_X5_stacked jC jR fx fy fz ((6 * co) + ro) 0) → ∀ (H : Heap) (locs : List Loc), va_P D vwCl [(qg, .inr (5, [.ref qgw, .ref qgh, .ref qgt, .int br, .int jC, .int jR, .int nf, .ref qgx, .ref qgy, .ref qgz, .ref qgu, .int (n_X5_has_qg_11 jC jR co ro)])), (qgx, .inl (cI, 36, .inl fx)), (qgy, .inl (cI, 36, .inl fy)), (qgz, .inl (cI, 36, .inl fz))] H → va_D A [(qg, .inr (5, [.ref qgw, .ref qgh, .ref qgt, .int br, .int jC, .int jR, .int nf, .ref qgx, .ref qgy, .ref qgz, .ref qgu, .int (n_X5_has_qg_11 jC jR co ro)])), (qgx, .inl (cI, 36, .inl fx)), (qgy, .inl (cI, 36, .inl fy)), (qgz, .inl (cI, 36, .inl fz))] → va_S A s.heap H locs → ∀ (ls : Array Slot), lv_has ls 3 [(0, .ref qg), (1, .int co), (2, .int ro)] → W p l e (headSpec wsX5_above rm_X5_above).room s m ([.ref qg, .int co, .int ro]).toArray below meth c H locs 0 0 (MQ below (Qc_X5_above D cI cZ cJ cD qg qgw qgh qgt br jC jR nf qgx qgy qgz qgu th fx fy fz co ro A) ([.ref qg, .int co, .int ro]).toArray s 0 0 A) (F0 m 24 ls [.int v8_0]) := by
    intro v8_0 hv8_0 H locs hP hD hS ls hl
    subst hv8_0
    have e9 : s_X5_above jC jR fx fy fz co ro = (if (s_X5_has jC jR co ro) = 0 then 0 else s_X5_stacked jC jR fx fy fz ((6 * co) + ro) 0) := rfl
    have e10 : n_X5_above_qg_11 jC jR co ro = n_X5_has_qg_11 jC jR co ro := rfl
    exact W.iret (v := (if (s_X5_has jC jR co ro) = 0 then 0 else s_X5_stacked jC jR fx fy fz ((6 * co) + ro) 0)) hx hb hr (fun t ht hW => ⟨⟨_, (), rfl, e9.symm, ⟨(by rw [e10]; rw [ht]; exact hP), va_K.moved hW.alike hK, (by rw [e10]; exact hD)⟩⟩, hS.F ht⟩) hS.2.2 dX5_above_24
  refine lv_if_eq (tgt := 23) hx hb dX5_above_6 (by decide) (fun c11 => ?_) (fun c11 => ?_)
  · refine lv_iconst (v := 0) hx hb dX5_above_23 (by decide) ?_
    exact K8 _ (if_pos c11).symm _ _ hP hD hS _ (lv_sub hl [0, 1, 2] rfl)
  · refine lv_aload_n hx hb dX5_above_9 rfl (lv_at hl 0 rfl) ?_
    refine lv_bipush (v := 6) hx hb dX5_above_10 (by decide) ?_
    refine lv_iload_n hx hb dX5_above_12 rfl (lv_at hl 1 rfl) ?_
    refine lv_imul hx hb dX5_above_13 ?_
    refine lv_iload_n hx hb dX5_above_14 rfl (lv_at hl 2 rfl) ?_
    refine lv_iadd hx hb dX5_above_15 ?_
    refine lv_iconst (v := 0) hx hb dX5_above_16 (by decide) ?_
    refine va_calli (va_runV (As := [.int ((6 * co) + ro), .int 0]) (rest := []) ⟨hx, hb, hml, hown, hts⟩ (c_X5_stacked l D cI cZ cJ cD qg qgw qgh qgt br jC jR nf qgx qgy qgz qgu (n_X5_has_qg_11 jC jR co ro) fx fy fz ((6 * co) + ro) 0 (z_h6i hjC hjR c11)) (cwV 2 hts gX5_above_X5_stacked rfl rfl rfl (by decide +kernel) ⟨Nat.le_of_ble_eq_true rfl, Nat.le_of_ble_eq_true rfl⟩) ⟨zblind, va_recv hK hP (ci := 5) (q0 := 0) rfl rfl, (fun U hU hW => ⟨rfl, by rw [hU]; exact hP.sub (ws' := [(qg, .inr (5, [.ref qgw, .ref qgh, .ref qgt, .int br, .int jC, .int jR, .int nf, .ref qgx, .ref qgy, .ref qgz, .ref qgu, .int (n_X5_has_qg_11 jC jR co ro)])), (qgx, .inl (cI, 36, .inl fx)), (qgy, .inl (cI, 36, .inl fy)), (qgz, .inl (cI, 36, .inl fz))]) [0, 1, 2, 3] rfl, va_K.moved hW.alike hK⟩)⟩ rfl rfl hl.1 rfl (lv_room (Nat.le_of_ble_eq_true rfl)) dX5_above_17 ⟨Nat.le_of_ble_eq_true rfl, Nat.le_of_ble_eq_true rfl⟩) hS (fun q _ h => h.elim) (fun q h => h.elim) (fun r12 u t H locs ht hvm hw hB hz1 hk1 hS => ?_)
    rw [hw]
    have hP := zk hP hk1
    refine lv_goto (tgt := 24) hx hb dX5_above_20 (by decide) ?_
    exact K8 _ (if_neg c11).symm _ _ hP hD hS _ (lv_sub hl [0, 1, 2] rfl)
def s_X5_isUp (jC : Int32) (jR : Int32) (fu : Nat → Int32) (co : Int32) (ro : Int32) : Int32 := (if (s_X5_has jC jR co ro) = 0 then 0 else (if (fu ((6 * co) + ro).toNatClampNeg) = 0 then 0 else 1))
def n_X5_isUp_qg_11 (jC : Int32) (jR : Int32) (co : Int32) (ro : Int32) : Int32 := n_X5_has_qg_11 jC jR co ro
abbrev rm_X5_isUp : Room := { frames := 2, cells := 0, slots := 0, locals := 43 }
abbrev Qc_X5_isUp (D : va_G) (cI cZ cJ cD : ClassId) (qg : Nat) (qgw : Nat) (qgh : Nat) (qgt : Nat) (br : Int32) (jC : Int32) (jR : Int32) (nf : Int32) (qgx : Nat) (qgy : Nat) (qgz : Nat) (qgu : Nat) (th : Int32) (fu : Nat → Int32) (co : Int32) (ro : Int32) (A : Nat → Prop) : Array Value → State → Outcome → State → Prop := va_Qi (fun (r : Int32) (_ : Unit) => r = s_X5_isUp jC jR fu co ro) (zPost D cI cZ cJ cD A [(qg, .inr (5, [.ref qgw, .ref qgh, .ref qgt, .int br, .int jC, .int jR, .int nf, .ref qgx, .ref qgy, .ref qgz, .ref qgu, .int (n_X5_isUp_qg_11 jC jR co ro)])), (qgu, .inl (cZ, 36, .inl fu))]) A
set_option maxHeartbeats 1000000 in
set_option maxRecDepth 100000 in
theorem c_X5_isUp (l : Launch) (D : va_G) (cI cZ cJ cD : ClassId) (qg : Nat) (qgw : Nat) (qgh : Nat) (qgt : Nat) (br : Int32) (jC : Int32) (jR : Int32) (nf : Int32) (qgx : Nat) (qgy : Nat) (qgz : Nat) (qgu : Nat) (th : Int32) (fu : Nat → Int32) (co : Int32) (ro : Int32) (sz : Nat) (hjC : jC ≤ 6) (hjR : jR ≤ 6) : Met l yX5_isUp wsX5_isUp rm_X5_isUp (va_Pc [.ref qg, .int co, .int ro] (zPreW D cI cZ cJ cD [(qg, .inr (5, [.ref qgw, .ref qgh, .ref qgt, .int br, .int jC, .int jR, .int nf, .ref qgx, .ref qgy, .ref qgz, .ref qgu, .int th])), (qgu, .inl (cZ, 36, .inl fu))] sz)) (Qc_X5_isUp D cI cZ cJ cD qg qgw qgh qgt br jC jR nf qgx qgy qgz qgu th fu co ro (va_A [(qg, .inr (5, [.ref qgw, .ref qgh, .ref qgt, .int br, .int jC, .int jR, .int nf, .ref qgx, .ref qgy, .ref qgz, .ref qgu, .int th])), (qgu, .inl (cZ, 36, .inl fu))] sz)) 0 0 (va_A [(qg, .inr (5, [.ref qgw, .ref qgh, .ref qgt, .int br, .int jC, .int jR, .int nf, .ref qgx, .ref qgy, .ref qgz, .ref qgu, .int th])), (qgu, .inl (cZ, 36, .inl fu))] sz) := by
  refine Met.ofW (cc := cX5_isUp) (maxL := 3) (ret := (some .boolean)) (by decide) rfl ?_
  intro p e s m args below meth c s₁ B hml hv
  obtain ⟨rfl, hsz, hP, hK, hD0⟩ := hv
  have hx := B.exec
  have hb := B.bytes
  have hr := B.returns
  have hts := atoms_spec (ws := wsX5_isUp) B.pre
  have hown : s.vm.findClass RX5 = some m.cls := findClass_of_methodNamed B.named
  have hlocks := B.notSynchronized
  subst hsz
  have hD := hD0.self (sz := s.heap.size)
  generalize hAe : va_A [(qg, .inr (5, [.ref qgw, .ref qgh, .ref qgt, .int br, .int jC, .int jR, .int nf, .ref qgx, .ref qgy, .ref qgz, .ref qgu, .int th])), (qgu, .inl (cZ, 36, .inl fu))] s.heap.size = A at hD ⊢
  have hA : ∀ q : Nat, s.heap.size ≤ q → A q := fun q h => by rw [← hAe]; exact Or.inr h
  have hS : va_S A s.heap s.heap [] := va_S.rf
  have hl := lv_entry ([.ref qg, .int co, .int ro]) (n := 3) (Nat.le_of_ble_eq_true rfl)
  rw [lg_entry_eq]
  generalize (lg_sl ([.ref qg, .int co, .int ro]) ++ List.replicate (3 - (lg_sl ([.ref qg, .int co, .int ro])).length) Slot.unset).toArray = ls at hl ⊢
  have hl : lv_has ls 3 [(0, .ref qg), (1, .int co), (2, .int ro)] := hl
  have hP : va_P D vwCl [(qg, .inr (5, [.ref qgw, .ref qgh, .ref qgt, .int br, .int jC, .int jR, .int nf, .ref qgx, .ref qgy, .ref qgz, .ref qgu, .int th])), (qgu, .inl (cZ, 36, .inl fu))] s.heap := hP
  have hP := hP
  refine lv_aload_n hx hb dX5_isUp_0 rfl (lv_at hl 0 rfl) ?_
  refine lv_iload_n hx hb dX5_isUp_1 rfl (lv_at hl 1 rfl) ?_
  refine lv_iload_n hx hb dX5_isUp_2 rfl (lv_at hl 2 rfl) ?_
  have hPc := hP.sub (ws' := [(qg, .inr (5, [.ref qgw, .ref qgh, .ref qgt, .int br, .int jC, .int jR, .int nf, .ref qgx, .ref qgy, .ref qgz, .ref qgu, .int th]))]) [0] rfl
  have hDc := hD.sub (ws' := [(qg, .inr (5, [.ref qgw, .ref qgh, .ref qgt, .int br, .int jC, .int jR, .int nf, .ref qgx, .ref qgy, .ref qgz, .ref qgu, .int th]))]) [0] (by decide) rfl
  have hFc := va_free (wc := [(qg, .inr (5, [.ref qgw, .ref qgh, .ref qgt, .int br, .int jC, .int jR, .int nf, .ref qgx, .ref qgy, .ref qgz, .ref qgu, .int th]))]) hD hS hA [0] rfl
  refine va_calli (va_runV (As := [.int co, .int ro]) (rest := []) ⟨hx, hb, hml, hown, hts⟩ (c_X5_has l D cI cZ cJ cD qg qgw qgh qgt br jC jR nf qgx qgy qgz qgu th co ro s.heap.size ) (cwV 2 hts gX5_isUp_X5_has rfl rfl rfl (by decide +kernel) ⟨Nat.le_of_ble_eq_true rfl, Nat.le_of_ble_eq_true rfl⟩) ⟨zblindW, va_recv hK hP (ci := 5) (q0 := 0) rfl rfl, (fun U hU hW => ⟨rfl, by rw [hU], by rw [hU]; exact hPc, va_K.moved hW.alike hK, hDc.weaken (fun _ _ _ _ => trivial)⟩)⟩ rfl rfl hl.1 rfl (lv_room (Nat.le_of_ble_eq_true rfl)) dX5_isUp_3 ⟨Nat.le_of_ble_eq_true rfl, Nat.le_of_ble_eq_true rfl⟩) hS (fun q _ h => hFc q h) hFc (fun r6 u t H locs ht hvm hw hB hz1 hk1 hS => ?_)
  rw [hw]
  obtain ⟨hP1, hK1, hD1⟩ := hB
  rw [ht] at hP1
  obtain ⟨hP, hD⟩ := va_join (wr := [(qgu, .inl (cZ, 36, .inl fu))]) (w1 := [(qg, .inr (5, [.ref qgw, .ref qgh, .ref qgt, .int br, .int jC, .int jR, .int nf, .ref qgx, .ref qgy, .ref qgz, .ref qgu, .int (n_X5_has_qg_11 jC jR co ro)]))]) hP hD [0] [1] rfl rfl (by decide) (by decide) hk1 hFc hP1 hD1
  have hP := hP.sub (ws' := [(qg, .inr (5, [.ref qgw, .ref qgh, .ref qgt, .int br, .int jC, .int jR, .int nf, .ref qgx, .ref qgy, .ref qgz, .ref qgu, .int (n_X5_has_qg_11 jC jR co ro)])), (qgu, .inl (cZ, 36, .inl fu))]) [1, 0] rfl
  have hD := hD.sub (ws' := [(qg, .inr (5, [.ref qgw, .ref qgh, .ref qgt, .int br, .int jC, .int jR, .int nf, .ref qgx, .ref qgy, .ref qgz, .ref qgu, .int (n_X5_has_qg_11 jC jR co ro)])), (qgu, .inl (cZ, 36, .inl fu))]) [1, 0] (by decide) rfl
  have K8 : ∀ v8_0 : Int32, v8_0 = (if (s_X5_has jC jR co ro) = 0 then 0 else (if (fu ((6 * co) + ro).toNatClampNeg) = 0 then 0 else 1)) → ∀ (H : Heap) (locs : List Loc), va_P D vwCl [(qg, .inr (5, [.ref qgw, .ref qgh, .ref qgt, .int br, .int jC, .int jR, .int nf, .ref qgx, .ref qgy, .ref qgz, .ref qgu, .int (n_X5_has_qg_11 jC jR co ro)])), (qgu, .inl (cZ, 36, .inl fu))] H → va_D A [(qg, .inr (5, [.ref qgw, .ref qgh, .ref qgt, .int br, .int jC, .int jR, .int nf, .ref qgx, .ref qgy, .ref qgz, .ref qgu, .int (n_X5_has_qg_11 jC jR co ro)])), (qgu, .inl (cZ, 36, .inl fu))] → va_S A s.heap H locs → ∀ (ls : Array Slot), lv_has ls 3 [(0, .ref qg), (1, .int co), (2, .int ro)] → W p l e (headSpec wsX5_isUp rm_X5_isUp).room s m ([.ref qg, .int co, .int ro]).toArray below meth c H locs 0 0 (MQ below (Qc_X5_isUp D cI cZ cJ cD qg qgw qgh qgt br jC jR nf qgx qgy qgz qgu th fu co ro A) ([.ref qg, .int co, .int ro]).toArray s 0 0 A) (F0 m 28 ls [.int v8_0]) := by
    intro v8_0 hv8_0 H locs hP hD hS ls hl
    subst hv8_0
    have e9 : s_X5_isUp jC jR fu co ro = (if (s_X5_has jC jR co ro) = 0 then 0 else (if (fu ((6 * co) + ro).toNatClampNeg) = 0 then 0 else 1)) := rfl
    have e10 : n_X5_isUp_qg_11 jC jR co ro = n_X5_has_qg_11 jC jR co ro := rfl
    exact W.zret (v := (if (s_X5_has jC jR co ro) = 0 then 0 else (if (fu ((6 * co) + ro).toNatClampNeg) = 0 then 0 else 1))) hx hb hr (z_b (by (repeat' split) <;> simp)) (fun t ht hW => ⟨⟨_, (), rfl, e9.symm, ⟨(by rw [e10]; rw [ht]; exact hP), va_K.moved hW.alike hK, (by rw [e10]; exact hD)⟩⟩, hS.F ht⟩) hS.2.2 dX5_isUp_28
  refine lv_if_eq (tgt := 27) hx hb dX5_isUp_6 (by decide) (fun c11 => ?_) (fun c11 => ?_)
  · refine lv_iconst (v := 0) hx hb dX5_isUp_27 (by decide) ?_
    exact K8 _ (if_pos c11).symm _ _ hP hD hS _ (lv_sub hl [0, 1, 2] rfl)
  · refine lv_aload_n hx hb dX5_isUp_9 rfl (lv_at hl 0 rfl) ?_
    refine va_get (D := D) (ci := 5) (v := .ref qgu) (C := RX5) (T := TX5) (N := 12) hx hb hts (fun w h => List.mem_cons_of_mem _ (List.mem_append_right _ h)) hown hK hP 0 rfl rfl 10 (by decide) (hts (.fieldLink RX5 32 "AtlasFolderModel" "up" "[Z") (List.mem_cons_of_mem _ (List.mem_append_left _ (List.mem_of_getElem? (i := 0) rfl)))) (fun _ h9 => h9) rfl dX5_isUp_10 ?_
    refine lv_bipush (v := 6) hx hb dX5_isUp_13 (by decide) ?_
    refine lv_iload_n hx hb dX5_isUp_15 rfl (lv_at hl 1 rfl) ?_
    refine lv_imul hx hb dX5_isUp_16 ?_
    refine lv_iload_n hx hb dX5_isUp_17 rfl (lv_at hl 2 rfl) ?_
    refine lv_iadd hx hb dX5_isUp_18 ?_
    refine va_zald hx hb hK hP 1 1 rfl rfl (z_h6i hjC hjR c11) dX5_isUp_19 ?_
    refine lv_if_eq (tgt := 27) hx hb dX5_isUp_20 (by decide) (fun c12 => ?_) (fun c12 => ?_)
    · refine lv_iconst (v := 0) hx hb dX5_isUp_27 (by decide) ?_
      exact K8 _ ((if_neg c11).trans (if_pos c12)).symm _ _ hP hD hS _ (lv_sub hl [0, 1, 2] rfl)
    · refine lv_iconst (v := 1) hx hb dX5_isUp_23 (by decide) ?_
      refine lv_goto (tgt := 28) hx hb dX5_isUp_24 (by decide) ?_
      exact K8 _ ((if_neg c11).trans (if_neg c12)).symm _ _ hP hD hS _ (lv_sub hl [0, 1, 2] rfl)
def lp_X5_thickness_9 (jC : Int32) (jR : Int32) (fx : Nat → Int32) (fy : Nat → Int32) (fz : Nat → Int32) : Nat → Int32
  | 0 => 0
  | k + 1 => (if (if (s_X5_isPanel jC jR (nI k)) = 0 then 0 else s_X5_stacked jC jR fx fy fz (nI k) 1) ≤ (lp_X5_thickness_9 jC jR fx fy fz k) then lp_X5_thickness_9 jC jR fx fy fz k else (if (s_X5_isPanel jC jR (nI k)) = 0 then 0 else s_X5_stacked jC jR fx fy fz (nI k) 1))
def s_X5_thickness (jC : Int32) (jR : Int32) (fx : Nat → Int32) (fy : Nat → Int32) (fz : Nat → Int32) : Int32 := lp_X5_thickness_9 jC jR fx fy fz 36
def n_X5_thickness_qg_11  : Int32 := 0
abbrev rm_X5_thickness : Room := { frames := 2, cells := 0, slots := 0, locals := 46 }
abbrev Qc_X5_thickness (D : va_G) (cI cZ cJ cD : ClassId) (qg : Nat) (qgw : Nat) (qgh : Nat) (qgt : Nat) (br : Int32) (jC : Int32) (jR : Int32) (nf : Int32) (qgx : Nat) (qgy : Nat) (qgz : Nat) (qgu : Nat) (th : Int32) (fx : Nat → Int32) (fy : Nat → Int32) (fz : Nat → Int32) (A : Nat → Prop) : Array Value → State → Outcome → State → Prop := va_Qi (fun (r : Int32) (_ : Unit) => r = s_X5_thickness jC jR fx fy fz) (zPost D cI cZ cJ cD A [(qg, .inr (5, [.ref qgw, .ref qgh, .ref qgt, .int br, .int jC, .int jR, .int nf, .ref qgx, .ref qgy, .ref qgz, .ref qgu, .int n_X5_thickness_qg_11])), (qgx, .inl (cI, 36, .inl fx)), (qgy, .inl (cI, 36, .inl fy)), (qgz, .inl (cI, 36, .inl fz))]) A
set_option maxHeartbeats 1000000 in
set_option maxRecDepth 100000 in
theorem c_X5_thickness (l : Launch) (D : va_G) (cI cZ cJ cD : ClassId) (qg : Nat) (qgw : Nat) (qgh : Nat) (qgt : Nat) (br : Int32) (jC : Int32) (jR : Int32) (nf : Int32) (qgx : Nat) (qgy : Nat) (qgz : Nat) (qgu : Nat) (th : Int32) (fx : Nat → Int32) (fy : Nat → Int32) (fz : Nat → Int32) (sz : Nat)  : Met l yX5_thickness wsX5_thickness rm_X5_thickness (va_Pc [.ref qg] (zPreW D cI cZ cJ cD [(qg, .inr (5, [.ref qgw, .ref qgh, .ref qgt, .int br, .int jC, .int jR, .int nf, .ref qgx, .ref qgy, .ref qgz, .ref qgu, .int th])), (qgx, .inl (cI, 36, .inl fx)), (qgy, .inl (cI, 36, .inl fy)), (qgz, .inl (cI, 36, .inl fz))] sz)) (Qc_X5_thickness D cI cZ cJ cD qg qgw qgh qgt br jC jR nf qgx qgy qgz qgu th fx fy fz (va_A [(qg, .inr (5, [.ref qgw, .ref qgh, .ref qgt, .int br, .int jC, .int jR, .int nf, .ref qgx, .ref qgy, .ref qgz, .ref qgu, .int th])), (qgx, .inl (cI, 36, .inl fx)), (qgy, .inl (cI, 36, .inl fy)), (qgz, .inl (cI, 36, .inl fz))] sz)) 0 0 (va_A [(qg, .inr (5, [.ref qgw, .ref qgh, .ref qgt, .int br, .int jC, .int jR, .int nf, .ref qgx, .ref qgy, .ref qgz, .ref qgu, .int th])), (qgx, .inl (cI, 36, .inl fx)), (qgy, .inl (cI, 36, .inl fy)), (qgz, .inl (cI, 36, .inl fz))] sz) := by
  refine Met.ofW (cc := cX5_thickness) (maxL := 4) (ret := (some .int)) (by decide) rfl ?_
  intro p e s m args below meth c s₁ B hml hv
  obtain ⟨rfl, hsz, hP, hK, hD0⟩ := hv
  have hx := B.exec
  have hb := B.bytes
  have hr := B.returns
  have hts := atoms_spec (ws := wsX5_thickness) B.pre
  have hown : s.vm.findClass RX5 = some m.cls := findClass_of_methodNamed B.named
  have hlocks := B.notSynchronized
  subst hsz
  have hD := hD0.self (sz := s.heap.size)
  generalize hAe : va_A [(qg, .inr (5, [.ref qgw, .ref qgh, .ref qgt, .int br, .int jC, .int jR, .int nf, .ref qgx, .ref qgy, .ref qgz, .ref qgu, .int th])), (qgx, .inl (cI, 36, .inl fx)), (qgy, .inl (cI, 36, .inl fy)), (qgz, .inl (cI, 36, .inl fz))] s.heap.size = A at hD ⊢
  have hA : ∀ q : Nat, s.heap.size ≤ q → A q := fun q h => by rw [← hAe]; exact Or.inr h
  have hS : va_S A s.heap s.heap [] := va_S.rf
  have hl := lv_entry ([.ref qg]) (n := 4) (Nat.le_of_ble_eq_true rfl)
  rw [lg_entry_eq]
  generalize (lg_sl ([.ref qg]) ++ List.replicate (4 - (lg_sl ([.ref qg])).length) Slot.unset).toArray = ls at hl ⊢
  have hl : lv_has ls 4 [(0, .ref qg)] := hl
  have hP : va_P D vwCl [(qg, .inr (5, [.ref qgw, .ref qgh, .ref qgt, .int br, .int jC, .int jR, .int nf, .ref qgx, .ref qgy, .ref qgz, .ref qgu, .int th])), (qgx, .inl (cI, 36, .inl fx)), (qgy, .inl (cI, 36, .inl fy)), (qgz, .inl (cI, 36, .inl fz))] s.heap := hP
  have hP := hP
  refine lv_aload_n hx hb dX5_thickness_0 rfl (lv_at hl 0 rfl) ?_
  refine lv_iconst (v := 0) hx hb dX5_thickness_1 (by decide) ?_
  refine va_put (D := D) (ci := 5) (v := .int 0) (ty := .int) (C := RX5) (T := TX5) (N := 12) hx hb hts (fun w h => List.mem_cons_of_mem _ (List.mem_append_right _ h)) tyX5 tyX5_ok nmX5 hown hK hP hD hS 0 rfl rfl 11 (by decide) (hts (.fieldLink RX5 45 "AtlasFolderModel" "thrown" "I") (List.mem_cons_of_mem _ (List.mem_append_left _ (List.mem_of_getElem? (i := 0) rfl)))) (fun _ h9 => h9) rfl (by decide +kernel) rfl rfl (Nat.le_of_ble_eq_true rfl) dX5_thickness_2 (fun H locs hP hD hS => ?_)
  have hP : va_P D vwCl [(qg, .inr (5, [.ref qgw, .ref qgh, .ref qgt, .int br, .int jC, .int jR, .int nf, .ref qgx, .ref qgy, .ref qgz, .ref qgu, .int 0])), (qgx, .inl (cI, 36, .inl fx)), (qgy, .inl (cI, 36, .inl fy)), (qgz, .inl (cI, 36, .inl fz))] H := hP
  have hD : va_D A [(qg, .inr (5, [.ref qgw, .ref qgh, .ref qgt, .int br, .int jC, .int jR, .int nf, .ref qgx, .ref qgy, .ref qgz, .ref qgu, .int 0])), (qgx, .inl (cI, 36, .inl fx)), (qgy, .inl (cI, 36, .inl fy)), (qgz, .inl (cI, 36, .inl fz))] := hD
  refine lv_iconst (v := 0) hx hb dX5_thickness_5 (by decide) ?_
  refine lv_istore_n (lv' := [(1, .int 0), (0, .ref qg)]) hx hb dX5_thickness_6 rfl hl (by decide) rfl (fun ls hl => ?_)
  refine lv_iconst (v := 0) hx hb dX5_thickness_7 (by decide) ?_
  refine lv_istore_n (lv' := [(2, .int 0), (1, .int 0), (0, .ref qg)]) hx hb dX5_thickness_8 rfl hl (by decide) rfl (fun ls hl => ?_)
  have X1 : ∀ (H : Heap) (locs : List Loc), va_P D vwCl [(qg, .inr (5, [.ref qgw, .ref qgh, .ref qgt, .int br, .int jC, .int jR, .int nf, .ref qgx, .ref qgy, .ref qgz, .ref qgu, .int 0])), (qgx, .inl (cI, 36, .inl fx)), (qgy, .inl (cI, 36, .inl fy)), (qgz, .inl (cI, 36, .inl fz))] H → va_D A [(qg, .inr (5, [.ref qgw, .ref qgh, .ref qgt, .int br, .int jC, .int jR, .int nf, .ref qgx, .ref qgy, .ref qgz, .ref qgu, .int 0])), (qgx, .inl (cI, 36, .inl fx)), (qgy, .inl (cI, 36, .inl fy)), (qgz, .inl (cI, 36, .inl fz))] → va_S A s.heap H locs → ∀ (ls : Array Slot), lv_has ls 4 [(0, .ref qg), (1, .int (lp_X5_thickness_9 jC jR fx fy fz 36))] → W p l e (headSpec wsX5_thickness rm_X5_thickness).room s m ([.ref qg]).toArray below meth c H locs 0 0 (MQ below (Qc_X5_thickness D cI cZ cJ cD qg qgw qgh qgt br jC jR nf qgx qgy qgz qgu th fx fy fz A) ([.ref qg]).toArray s 0 0 A) (F0 m 51 ls []) := by
    intro H locs hP hD hS ls hl
    refine lv_iload_n hx hb dX5_thickness_51 rfl (lv_at hl 1 rfl) ?_
    have e2 : s_X5_thickness jC jR fx fy fz = lp_X5_thickness_9 jC jR fx fy fz 36 := rfl
    have e3 : n_X5_thickness_qg_11 = 0 := rfl
    exact W.iret (v := (lp_X5_thickness_9 jC jR fx fy fz 36)) hx hb hr (fun t ht hW => ⟨⟨_, (), rfl, e2.symm, ⟨(by rw [e3]; rw [ht]; exact hP), va_K.moved hW.alike hK, (by rw [e3]; exact hD)⟩⟩, hS.F ht⟩) hS.2.2 dX5_thickness_52
  have L1 : ∀ (n k : Nat) (acc : Int32), k ≤ 36 → 36 < k + n → acc = lp_X5_thickness_9 jC jR fx fy fz k → ∀ (H : Heap) (locs : List Loc), va_P D vwCl [(qg, .inr (5, [.ref qgw, .ref qgh, .ref qgt, .int br, .int jC, .int jR, .int nf, .ref qgx, .ref qgy, .ref qgz, .ref qgu, .int 0])), (qgx, .inl (cI, 36, .inl fx)), (qgy, .inl (cI, 36, .inl fy)), (qgz, .inl (cI, 36, .inl fz))] H → va_D A [(qg, .inr (5, [.ref qgw, .ref qgh, .ref qgt, .int br, .int jC, .int jR, .int nf, .ref qgx, .ref qgy, .ref qgz, .ref qgu, .int 0])), (qgx, .inl (cI, 36, .inl fx)), (qgy, .inl (cI, 36, .inl fy)), (qgz, .inl (cI, 36, .inl fz))] → va_S A s.heap H locs → ∀ (ls : Array Slot), lv_has ls 4 [(0, .ref qg), (2, .int (nI k)), (1, .int acc)] → W p l e (headSpec wsX5_thickness rm_X5_thickness).room s m ([.ref qg]).toArray below meth c H locs 0 0 (MQ below (Qc_X5_thickness D cI cZ cJ cD qg qgw qgh qgt br jC jR nf qgx qgy qgz qgu th fx fy fz A) ([.ref qg]).toArray s 0 0 A) (F0 m 9 ls []) := by
    intro n
    induction n with
    | zero =>
      intro k acc hk hf
      exact absurd hf (by omega)
    | succ n ih =>
      intro k acc hk hf hacc H locs hP hD hS ls hl
      subst hacc
      refine lv_iload_n hx hb dX5_thickness_9 rfl (lv_at hl 1 rfl) ?_
      refine lv_bipush (v := 36) hx hb dX5_thickness_10 (by decide) ?_
      refine lv_icmp_ge (tgt := 51) hx hb dX5_thickness_12 (by decide) (fun c4 => ?_) (fun c4 => ?_)
      · have hge : 36 ≤ k := (z_36g hk c4)
        have ek : k = 36 := by omega
        subst ek
        exact X1 _ _ hP hD hS _ (lv_sub hl [0, 2] rfl)
      · refine lv_aload_n hx hb dX5_thickness_15 rfl (lv_at hl 0 rfl) ?_
        refine lv_iload_n hx hb dX5_thickness_16 rfl (lv_at hl 1 rfl) ?_
        refine va_calli (va_runV (As := [.int (nI k)]) (rest := []) ⟨hx, hb, hml, hown, hts⟩ (c_X5_isPanel l D cI cZ cJ cD qg qgw qgh qgt br jC jR nf qgx qgy qgz qgu 0 (nI k) ) (cwV 1 hts gX5_thickness_X5_isPanel rfl rfl rfl (by decide +kernel) ⟨Nat.le_of_ble_eq_true rfl, Nat.le_of_ble_eq_true rfl⟩) ⟨zblind, va_recv hK hP (ci := 5) (q0 := 0) rfl rfl, (fun U hU hW => ⟨rfl, by rw [hU]; exact hP.sub (ws' := [(qg, .inr (5, [.ref qgw, .ref qgh, .ref qgt, .int br, .int jC, .int jR, .int nf, .ref qgx, .ref qgy, .ref qgz, .ref qgu, .int 0]))]) [0] rfl, va_K.moved hW.alike hK⟩)⟩ rfl rfl hl.1 rfl (lv_room (Nat.le_of_ble_eq_true rfl)) dX5_thickness_17 ⟨Nat.le_of_ble_eq_true rfl, Nat.le_of_ble_eq_true rfl⟩) hS (fun q _ h => h.elim) (fun q h => h.elim) (fun r5 u t H locs ht hvm hw hB hz1 hk1 hS => ?_)
        rw [hw]
        have hP := zk hP hk1
        have K7 : ∀ v7_0 : Int32, v7_0 = (if (s_X5_isPanel jC jR (nI k)) = 0 then 0 else s_X5_stacked jC jR fx fy fz (nI k) 1) → ∀ (H : Heap) (locs : List Loc), va_P D vwCl [(qg, .inr (5, [.ref qgw, .ref qgh, .ref qgt, .int br, .int jC, .int jR, .int nf, .ref qgx, .ref qgy, .ref qgz, .ref qgu, .int 0])), (qgx, .inl (cI, 36, .inl fx)), (qgy, .inl (cI, 36, .inl fy)), (qgz, .inl (cI, 36, .inl fz))] H → va_D A [(qg, .inr (5, [.ref qgw, .ref qgh, .ref qgt, .int br, .int jC, .int jR, .int nf, .ref qgx, .ref qgy, .ref qgz, .ref qgu, .int 0])), (qgx, .inl (cI, 36, .inl fx)), (qgy, .inl (cI, 36, .inl fy)), (qgz, .inl (cI, 36, .inl fz))] → va_S A s.heap H locs → ∀ (ls : Array Slot), lv_has ls 4 [(0, .ref qg), (2, .int (nI k)), (1, .int (lp_X5_thickness_9 jC jR fx fy fz k))] → W p l e (headSpec wsX5_thickness rm_X5_thickness).room s m ([.ref qg]).toArray below meth c H locs 0 0 (MQ below (Qc_X5_thickness D cI cZ cJ cD qg qgw qgh qgt br jC jR nf qgx qgy qgz qgu th fx fy fz A) ([.ref qg]).toArray s 0 0 A) (F0 m 33 ls [.int v7_0]) := by
          intro v7_0 hv7_0 H locs hP hD hS ls hl
          subst hv7_0
          refine lv_istore_n (lv' := [(3, .int (if (s_X5_isPanel jC jR (nI k)) = 0 then 0 else s_X5_stacked jC jR fx fy fz (nI k) 1)), (0, .ref qg), (2, .int (nI k)), (1, .int (lp_X5_thickness_9 jC jR fx fy fz k))]) hx hb dX5_thickness_33 rfl hl (by decide) rfl (fun ls hl => ?_)
          refine lv_iload_n hx hb dX5_thickness_34 rfl (lv_at hl 0 rfl) ?_
          refine lv_iload_n hx hb dX5_thickness_35 rfl (lv_at hl 3 rfl) ?_
          have K9 : ∀ v9_0 : Int32, v9_0 = (if (if (s_X5_isPanel jC jR (nI k)) = 0 then 0 else s_X5_stacked jC jR fx fy fz (nI k) 1) ≤ (lp_X5_thickness_9 jC jR fx fy fz k) then lp_X5_thickness_9 jC jR fx fy fz k else (if (s_X5_isPanel jC jR (nI k)) = 0 then 0 else s_X5_stacked jC jR fx fy fz (nI k) 1)) → ∀ (H : Heap) (locs : List Loc), va_P D vwCl [(qg, .inr (5, [.ref qgw, .ref qgh, .ref qgt, .int br, .int jC, .int jR, .int nf, .ref qgx, .ref qgy, .ref qgz, .ref qgu, .int 0])), (qgx, .inl (cI, 36, .inl fx)), (qgy, .inl (cI, 36, .inl fy)), (qgz, .inl (cI, 36, .inl fz))] H → va_D A [(qg, .inr (5, [.ref qgw, .ref qgh, .ref qgt, .int br, .int jC, .int jR, .int nf, .ref qgx, .ref qgy, .ref qgz, .ref qgu, .int 0])), (qgx, .inl (cI, 36, .inl fx)), (qgy, .inl (cI, 36, .inl fy)), (qgz, .inl (cI, 36, .inl fz))] → va_S A s.heap H locs → ∀ (ls : Array Slot), lv_has ls 4 [(3, .int (if (s_X5_isPanel jC jR (nI k)) = 0 then 0 else s_X5_stacked jC jR fx fy fz (nI k) 1)), (0, .ref qg), (2, .int (nI k)), (1, .int (lp_X5_thickness_9 jC jR fx fy fz k))] → W p l e (headSpec wsX5_thickness rm_X5_thickness).room s m ([.ref qg]).toArray below meth c H locs 0 0 (MQ below (Qc_X5_thickness D cI cZ cJ cD qg qgw qgh qgt br jC jR nf qgx qgy qgz qgu th fx fy fz A) ([.ref qg]).toArray s 0 0 A) (F0 m 44 ls [.int v9_0]) := by
            intro v9_0 hv9_0 H locs hP hD hS ls hl
            subst hv9_0
            refine lv_istore_n (lv' := [(1, .int (if (if (s_X5_isPanel jC jR (nI k)) = 0 then 0 else s_X5_stacked jC jR fx fy fz (nI k) 1) ≤ (lp_X5_thickness_9 jC jR fx fy fz k) then lp_X5_thickness_9 jC jR fx fy fz k else (if (s_X5_isPanel jC jR (nI k)) = 0 then 0 else s_X5_stacked jC jR fx fy fz (nI k) 1))), (3, .int (if (s_X5_isPanel jC jR (nI k)) = 0 then 0 else s_X5_stacked jC jR fx fy fz (nI k) 1)), (0, .ref qg), (2, .int (nI k))]) hx hb dX5_thickness_44 rfl hl (by decide) rfl (fun ls hl => ?_)
            refine lv_iinc (v := nI (k + 1)) (lv' := [(2, .int (nI (k + 1))), (1, .int (if (if (s_X5_isPanel jC jR (nI k)) = 0 then 0 else s_X5_stacked jC jR fx fy fz (nI k) 1) ≤ (lp_X5_thickness_9 jC jR fx fy fz k) then lp_X5_thickness_9 jC jR fx fy fz k else (if (s_X5_isPanel jC jR (nI k)) = 0 then 0 else s_X5_stacked jC jR fx fy fz (nI k) 1))), (3, .int (if (s_X5_isPanel jC jR (nI k)) = 0 then 0 else s_X5_stacked jC jR fx fy fz (nI k) 1)), (0, .ref qg)]) hx hb dX5_thickness_45 hl (k := 3) rfl (nI_succ k).symm (by decide) rfl (fun ls hl => ?_)
            refine lv_goto (tgt := 9) hx hb dX5_thickness_48 (by decide) ?_
            have hlt : k < 36 := (z_36l hk c4)
            exact ih (k + 1) _ (by omega) (by omega) rfl _ _ hP hD hS _ (lv_sub hl [3, 0, 1] rfl)
          refine lv_icmp_le (tgt := 43) hx hb dX5_thickness_36 (by decide) (fun c10 => ?_) (fun c10 => ?_)
          · refine lv_iload_n hx hb dX5_thickness_43 rfl (lv_at hl 3 rfl) ?_
            exact K9 _ (if_pos c10).symm _ _ hP hD hS _ (lv_sub hl [0, 1, 2, 3] rfl)
          · refine lv_iload_n hx hb dX5_thickness_39 rfl (lv_at hl 0 rfl) ?_
            refine lv_goto (tgt := 44) hx hb dX5_thickness_40 (by decide) ?_
            exact K9 _ (if_neg c10).symm _ _ hP hD hS _ (lv_sub hl [0, 1, 2, 3] rfl)
        refine lv_if_eq (tgt := 32) hx hb dX5_thickness_20 (by decide) (fun c11 => ?_) (fun c11 => ?_)
        · refine lv_iconst (v := 0) hx hb dX5_thickness_32 (by decide) ?_
          exact K7 _ (if_pos c11).symm _ _ hP hD hS _ (lv_sub hl [0, 1, 2] rfl)
        · refine lv_aload_n hx hb dX5_thickness_23 rfl (lv_at hl 0 rfl) ?_
          refine lv_iload_n hx hb dX5_thickness_24 rfl (lv_at hl 1 rfl) ?_
          refine lv_iconst (v := 1) hx hb dX5_thickness_25 (by decide) ?_
          refine va_calli (va_runV (As := [.int (nI k), .int 1]) (rest := []) ⟨hx, hb, hml, hown, hts⟩ (c_X5_stacked l D cI cZ cJ cD qg qgw qgh qgt br jC jR nf qgx qgy qgz qgu 0 fx fy fz (nI k) 1 (vp_in_nI (z_36l hk c4) (by omega))) (cwV 2 hts gX5_thickness_X5_stacked rfl rfl rfl (by decide +kernel) ⟨Nat.le_of_ble_eq_true rfl, Nat.le_of_ble_eq_true rfl⟩) ⟨zblind, va_recv hK hP (ci := 5) (q0 := 0) rfl rfl, (fun U hU hW => ⟨rfl, by rw [hU]; exact hP.sub (ws' := [(qg, .inr (5, [.ref qgw, .ref qgh, .ref qgt, .int br, .int jC, .int jR, .int nf, .ref qgx, .ref qgy, .ref qgz, .ref qgu, .int 0])), (qgx, .inl (cI, 36, .inl fx)), (qgy, .inl (cI, 36, .inl fy)), (qgz, .inl (cI, 36, .inl fz))]) [0, 1, 2, 3] rfl, va_K.moved hW.alike hK⟩)⟩ rfl rfl hl.1 rfl (lv_room (Nat.le_of_ble_eq_true rfl)) dX5_thickness_26 ⟨Nat.le_of_ble_eq_true rfl, Nat.le_of_ble_eq_true rfl⟩) hS (fun q _ h => h.elim) (fun q h => h.elim) (fun r12 u t H locs ht hvm hw hB hz1 hk1 hS => ?_)
          rw [hw]
          have hP := zk hP hk1
          refine lv_goto (tgt := 33) hx hb dX5_thickness_29 (by decide) ?_
          exact K7 _ (if_neg c11).symm _ _ hP hD hS _ (lv_sub hl [0, 1, 2] rfl)
  exact L1 (36 + 1) 0 _ (Nat.zero_le _) (by omega) rfl _ _ hP hD hS _ (lv_sub hl [2, 0, 1] rfl)
def lp_X5_readable_9 (jC : Int32) (jR : Int32) (fx : Nat → Int32) (fy : Nat → Int32) (fz : Nat → Int32) (fu : Nat → Int32) : Nat → Int32
  | 0 => 0
  | k + 1 => (lp_X5_readable_9 jC jR fx fy fz fu k) + (if (s_X5_isPanel jC jR (nI k)) = 0 then 0 else (if (fu (nI k).toNatClampNeg) = 0 then 0 else (if (s_X5_stacked jC jR fx fy fz (nI k) 0) = 0 then 1 else 0)))
def s_X5_readable (jC : Int32) (jR : Int32) (fx : Nat → Int32) (fy : Nat → Int32) (fz : Nat → Int32) (fu : Nat → Int32) : Int32 := lp_X5_readable_9 jC jR fx fy fz fu 36
def n_X5_readable_qg_11  : Int32 := 0
abbrev rm_X5_readable : Room := { frames := 2, cells := 0, slots := 0, locals := 46 }
abbrev Qc_X5_readable (D : va_G) (cI cZ cJ cD : ClassId) (qg : Nat) (qgw : Nat) (qgh : Nat) (qgt : Nat) (br : Int32) (jC : Int32) (jR : Int32) (nf : Int32) (qgx : Nat) (qgy : Nat) (qgz : Nat) (qgu : Nat) (th : Int32) (fx : Nat → Int32) (fy : Nat → Int32) (fz : Nat → Int32) (fu : Nat → Int32) (A : Nat → Prop) : Array Value → State → Outcome → State → Prop := va_Qi (fun (r : Int32) (_ : Unit) => r = s_X5_readable jC jR fx fy fz fu) (zPost D cI cZ cJ cD A [(qg, .inr (5, [.ref qgw, .ref qgh, .ref qgt, .int br, .int jC, .int jR, .int nf, .ref qgx, .ref qgy, .ref qgz, .ref qgu, .int n_X5_readable_qg_11])), (qgx, .inl (cI, 36, .inl fx)), (qgy, .inl (cI, 36, .inl fy)), (qgz, .inl (cI, 36, .inl fz)), (qgu, .inl (cZ, 36, .inl fu))]) A
set_option maxHeartbeats 1000000 in
set_option maxRecDepth 100000 in
theorem c_X5_readable (l : Launch) (D : va_G) (cI cZ cJ cD : ClassId) (qg : Nat) (qgw : Nat) (qgh : Nat) (qgt : Nat) (br : Int32) (jC : Int32) (jR : Int32) (nf : Int32) (qgx : Nat) (qgy : Nat) (qgz : Nat) (qgu : Nat) (th : Int32) (fx : Nat → Int32) (fy : Nat → Int32) (fz : Nat → Int32) (fu : Nat → Int32) (sz : Nat)  : Met l yX5_readable wsX5_readable rm_X5_readable (va_Pc [.ref qg] (zPreW D cI cZ cJ cD [(qg, .inr (5, [.ref qgw, .ref qgh, .ref qgt, .int br, .int jC, .int jR, .int nf, .ref qgx, .ref qgy, .ref qgz, .ref qgu, .int th])), (qgx, .inl (cI, 36, .inl fx)), (qgy, .inl (cI, 36, .inl fy)), (qgz, .inl (cI, 36, .inl fz)), (qgu, .inl (cZ, 36, .inl fu))] sz)) (Qc_X5_readable D cI cZ cJ cD qg qgw qgh qgt br jC jR nf qgx qgy qgz qgu th fx fy fz fu (va_A [(qg, .inr (5, [.ref qgw, .ref qgh, .ref qgt, .int br, .int jC, .int jR, .int nf, .ref qgx, .ref qgy, .ref qgz, .ref qgu, .int th])), (qgx, .inl (cI, 36, .inl fx)), (qgy, .inl (cI, 36, .inl fy)), (qgz, .inl (cI, 36, .inl fz)), (qgu, .inl (cZ, 36, .inl fu))] sz)) 0 0 (va_A [(qg, .inr (5, [.ref qgw, .ref qgh, .ref qgt, .int br, .int jC, .int jR, .int nf, .ref qgx, .ref qgy, .ref qgz, .ref qgu, .int th])), (qgx, .inl (cI, 36, .inl fx)), (qgy, .inl (cI, 36, .inl fy)), (qgz, .inl (cI, 36, .inl fz)), (qgu, .inl (cZ, 36, .inl fu))] sz) := by
  refine Met.ofW (cc := cX5_readable) (maxL := 3) (ret := (some .int)) (by decide) rfl ?_
  intro p e s m args below meth c s₁ B hml hv
  obtain ⟨rfl, hsz, hP, hK, hD0⟩ := hv
  have hx := B.exec
  have hb := B.bytes
  have hr := B.returns
  have hts := atoms_spec (ws := wsX5_readable) B.pre
  have hown : s.vm.findClass RX5 = some m.cls := findClass_of_methodNamed B.named
  have hlocks := B.notSynchronized
  subst hsz
  have hD := hD0.self (sz := s.heap.size)
  generalize hAe : va_A [(qg, .inr (5, [.ref qgw, .ref qgh, .ref qgt, .int br, .int jC, .int jR, .int nf, .ref qgx, .ref qgy, .ref qgz, .ref qgu, .int th])), (qgx, .inl (cI, 36, .inl fx)), (qgy, .inl (cI, 36, .inl fy)), (qgz, .inl (cI, 36, .inl fz)), (qgu, .inl (cZ, 36, .inl fu))] s.heap.size = A at hD ⊢
  have hA : ∀ q : Nat, s.heap.size ≤ q → A q := fun q h => by rw [← hAe]; exact Or.inr h
  have hS : va_S A s.heap s.heap [] := va_S.rf
  have hl := lv_entry ([.ref qg]) (n := 3) (Nat.le_of_ble_eq_true rfl)
  rw [lg_entry_eq]
  generalize (lg_sl ([.ref qg]) ++ List.replicate (3 - (lg_sl ([.ref qg])).length) Slot.unset).toArray = ls at hl ⊢
  have hl : lv_has ls 3 [(0, .ref qg)] := hl
  have hP : va_P D vwCl [(qg, .inr (5, [.ref qgw, .ref qgh, .ref qgt, .int br, .int jC, .int jR, .int nf, .ref qgx, .ref qgy, .ref qgz, .ref qgu, .int th])), (qgx, .inl (cI, 36, .inl fx)), (qgy, .inl (cI, 36, .inl fy)), (qgz, .inl (cI, 36, .inl fz)), (qgu, .inl (cZ, 36, .inl fu))] s.heap := hP
  have hP := hP
  refine lv_aload_n hx hb dX5_readable_0 rfl (lv_at hl 0 rfl) ?_
  refine lv_iconst (v := 0) hx hb dX5_readable_1 (by decide) ?_
  refine va_put (D := D) (ci := 5) (v := .int 0) (ty := .int) (C := RX5) (T := TX5) (N := 12) hx hb hts (fun w h => List.mem_cons_of_mem _ (List.mem_append_right _ h)) tyX5 tyX5_ok nmX5 hown hK hP hD hS 0 rfl rfl 11 (by decide) (hts (.fieldLink RX5 45 "AtlasFolderModel" "thrown" "I") (List.mem_cons_of_mem _ (List.mem_append_left _ (List.mem_of_getElem? (i := 0) rfl)))) (fun _ h9 => h9) rfl (by decide +kernel) rfl rfl (Nat.le_of_ble_eq_true rfl) dX5_readable_2 (fun H locs hP hD hS => ?_)
  have hP : va_P D vwCl [(qg, .inr (5, [.ref qgw, .ref qgh, .ref qgt, .int br, .int jC, .int jR, .int nf, .ref qgx, .ref qgy, .ref qgz, .ref qgu, .int 0])), (qgx, .inl (cI, 36, .inl fx)), (qgy, .inl (cI, 36, .inl fy)), (qgz, .inl (cI, 36, .inl fz)), (qgu, .inl (cZ, 36, .inl fu))] H := hP
  have hD : va_D A [(qg, .inr (5, [.ref qgw, .ref qgh, .ref qgt, .int br, .int jC, .int jR, .int nf, .ref qgx, .ref qgy, .ref qgz, .ref qgu, .int 0])), (qgx, .inl (cI, 36, .inl fx)), (qgy, .inl (cI, 36, .inl fy)), (qgz, .inl (cI, 36, .inl fz)), (qgu, .inl (cZ, 36, .inl fu))] := hD
  refine lv_iconst (v := 0) hx hb dX5_readable_5 (by decide) ?_
  refine lv_istore_n (lv' := [(1, .int 0), (0, .ref qg)]) hx hb dX5_readable_6 rfl hl (by decide) rfl (fun ls hl => ?_)
  refine lv_iconst (v := 0) hx hb dX5_readable_7 (by decide) ?_
  refine lv_istore_n (lv' := [(2, .int 0), (1, .int 0), (0, .ref qg)]) hx hb dX5_readable_8 rfl hl (by decide) rfl (fun ls hl => ?_)
  have X1 : ∀ (H : Heap) (locs : List Loc), va_P D vwCl [(qg, .inr (5, [.ref qgw, .ref qgh, .ref qgt, .int br, .int jC, .int jR, .int nf, .ref qgx, .ref qgy, .ref qgz, .ref qgu, .int 0])), (qgx, .inl (cI, 36, .inl fx)), (qgy, .inl (cI, 36, .inl fy)), (qgz, .inl (cI, 36, .inl fz)), (qgu, .inl (cZ, 36, .inl fu))] H → va_D A [(qg, .inr (5, [.ref qgw, .ref qgh, .ref qgt, .int br, .int jC, .int jR, .int nf, .ref qgx, .ref qgy, .ref qgz, .ref qgu, .int 0])), (qgx, .inl (cI, 36, .inl fx)), (qgy, .inl (cI, 36, .inl fy)), (qgz, .inl (cI, 36, .inl fz)), (qgu, .inl (cZ, 36, .inl fu))] → va_S A s.heap H locs → ∀ (ls : Array Slot), lv_has ls 3 [(0, .ref qg), (1, .int (lp_X5_readable_9 jC jR fx fy fz fu 36))] → W p l e (headSpec wsX5_readable rm_X5_readable).room s m ([.ref qg]).toArray below meth c H locs 0 0 (MQ below (Qc_X5_readable D cI cZ cJ cD qg qgw qgh qgt br jC jR nf qgx qgy qgz qgu th fx fy fz fu A) ([.ref qg]).toArray s 0 0 A) (F0 m 55 ls []) := by
    intro H locs hP hD hS ls hl
    refine lv_iload_n hx hb dX5_readable_55 rfl (lv_at hl 1 rfl) ?_
    have e2 : s_X5_readable jC jR fx fy fz fu = lp_X5_readable_9 jC jR fx fy fz fu 36 := rfl
    have e3 : n_X5_readable_qg_11 = 0 := rfl
    exact W.iret (v := (lp_X5_readable_9 jC jR fx fy fz fu 36)) hx hb hr (fun t ht hW => ⟨⟨_, (), rfl, e2.symm, ⟨(by rw [e3]; rw [ht]; exact hP), va_K.moved hW.alike hK, (by rw [e3]; exact hD)⟩⟩, hS.F ht⟩) hS.2.2 dX5_readable_56
  have L1 : ∀ (n k : Nat) (acc : Int32), k ≤ 36 → 36 < k + n → acc = lp_X5_readable_9 jC jR fx fy fz fu k → ∀ (H : Heap) (locs : List Loc), va_P D vwCl [(qg, .inr (5, [.ref qgw, .ref qgh, .ref qgt, .int br, .int jC, .int jR, .int nf, .ref qgx, .ref qgy, .ref qgz, .ref qgu, .int 0])), (qgx, .inl (cI, 36, .inl fx)), (qgy, .inl (cI, 36, .inl fy)), (qgz, .inl (cI, 36, .inl fz)), (qgu, .inl (cZ, 36, .inl fu))] H → va_D A [(qg, .inr (5, [.ref qgw, .ref qgh, .ref qgt, .int br, .int jC, .int jR, .int nf, .ref qgx, .ref qgy, .ref qgz, .ref qgu, .int 0])), (qgx, .inl (cI, 36, .inl fx)), (qgy, .inl (cI, 36, .inl fy)), (qgz, .inl (cI, 36, .inl fz)), (qgu, .inl (cZ, 36, .inl fu))] → va_S A s.heap H locs → ∀ (ls : Array Slot), lv_has ls 3 [(0, .ref qg), (2, .int (nI k)), (1, .int acc)] → W p l e (headSpec wsX5_readable rm_X5_readable).room s m ([.ref qg]).toArray below meth c H locs 0 0 (MQ below (Qc_X5_readable D cI cZ cJ cD qg qgw qgh qgt br jC jR nf qgx qgy qgz qgu th fx fy fz fu A) ([.ref qg]).toArray s 0 0 A) (F0 m 9 ls []) := by
    intro n
    induction n with
    | zero =>
      intro k acc hk hf
      exact absurd hf (by omega)
    | succ n ih =>
      intro k acc hk hf hacc H locs hP hD hS ls hl
      subst hacc
      refine lv_iload_n hx hb dX5_readable_9 rfl (lv_at hl 1 rfl) ?_
      refine lv_bipush (v := 36) hx hb dX5_readable_10 (by decide) ?_
      refine lv_icmp_ge (tgt := 55) hx hb dX5_readable_12 (by decide) (fun c4 => ?_) (fun c4 => ?_)
      · have hge : 36 ≤ k := (z_36g hk c4)
        have ek : k = 36 := by omega
        subst ek
        exact X1 _ _ hP hD hS _ (lv_sub hl [0, 2] rfl)
      · refine lv_iload_n hx hb dX5_readable_15 rfl (lv_at hl 2 rfl) ?_
        refine lv_aload_n hx hb dX5_readable_16 rfl (lv_at hl 0 rfl) ?_
        refine lv_iload_n hx hb dX5_readable_17 rfl (lv_at hl 1 rfl) ?_
        refine va_calli (va_runV (As := [.int (nI k)]) (rest := [.int (lp_X5_readable_9 jC jR fx fy fz fu k)]) ⟨hx, hb, hml, hown, hts⟩ (c_X5_isPanel l D cI cZ cJ cD qg qgw qgh qgt br jC jR nf qgx qgy qgz qgu 0 (nI k) ) (cwV 1 hts gX5_readable_X5_isPanel rfl rfl rfl (by decide +kernel) ⟨Nat.le_of_ble_eq_true rfl, Nat.le_of_ble_eq_true rfl⟩) ⟨zblind, va_recv hK hP (ci := 5) (q0 := 0) rfl rfl, (fun U hU hW => ⟨rfl, by rw [hU]; exact hP.sub (ws' := [(qg, .inr (5, [.ref qgw, .ref qgh, .ref qgt, .int br, .int jC, .int jR, .int nf, .ref qgx, .ref qgy, .ref qgz, .ref qgu, .int 0]))]) [0] rfl, va_K.moved hW.alike hK⟩)⟩ rfl rfl hl.1 rfl (lv_room (Nat.le_of_ble_eq_true rfl)) dX5_readable_18 ⟨Nat.le_of_ble_eq_true rfl, Nat.le_of_ble_eq_true rfl⟩) hS (fun q _ h => h.elim) (fun q h => h.elim) (fun r5 u t H locs ht hvm hw hB hz1 hk1 hS => ?_)
        rw [hw]
        have hP := zk hP hk1
        have K7 : ∀ v7_0 : Int32, v7_0 = (if (s_X5_isPanel jC jR (nI k)) = 0 then 0 else (if (fu (nI k).toNatClampNeg) = 0 then 0 else (if (s_X5_stacked jC jR fx fy fz (nI k) 0) = 0 then 1 else 0))) → ∀ (H : Heap) (locs : List Loc), va_P D vwCl [(qg, .inr (5, [.ref qgw, .ref qgh, .ref qgt, .int br, .int jC, .int jR, .int nf, .ref qgx, .ref qgy, .ref qgz, .ref qgu, .int 0])), (qgx, .inl (cI, 36, .inl fx)), (qgy, .inl (cI, 36, .inl fy)), (qgz, .inl (cI, 36, .inl fz)), (qgu, .inl (cZ, 36, .inl fu))] H → va_D A [(qg, .inr (5, [.ref qgw, .ref qgh, .ref qgt, .int br, .int jC, .int jR, .int nf, .ref qgx, .ref qgy, .ref qgz, .ref qgu, .int 0])), (qgx, .inl (cI, 36, .inl fx)), (qgy, .inl (cI, 36, .inl fy)), (qgz, .inl (cI, 36, .inl fz)), (qgu, .inl (cZ, 36, .inl fu))] → va_S A s.heap H locs → ∀ (ls : Array Slot), lv_has ls 3 [(0, .ref qg), (2, .int (nI k)), (1, .int (lp_X5_readable_9 jC jR fx fy fz fu k))] → W p l e (headSpec wsX5_readable rm_X5_readable).room s m ([.ref qg]).toArray below meth c H locs 0 0 (MQ below (Qc_X5_readable D cI cZ cJ cD qg qgw qgh qgt br jC jR nf qgx qgy qgz qgu th fx fy fz fu A) ([.ref qg]).toArray s 0 0 A) (F0 m 47 ls [.int v7_0, .int (lp_X5_readable_9 jC jR fx fy fz fu k)]) := by
          intro v7_0 hv7_0 H locs hP hD hS ls hl
          subst hv7_0
          refine lv_iadd hx hb dX5_readable_47 ?_
          refine lv_istore_n (lv' := [(1, .int ((lp_X5_readable_9 jC jR fx fy fz fu k) + (if (s_X5_isPanel jC jR (nI k)) = 0 then 0 else (if (fu (nI k).toNatClampNeg) = 0 then 0 else (if (s_X5_stacked jC jR fx fy fz (nI k) 0) = 0 then 1 else 0))))), (0, .ref qg), (2, .int (nI k))]) hx hb dX5_readable_48 rfl hl (by decide) rfl (fun ls hl => ?_)
          refine lv_iinc (v := nI (k + 1)) (lv' := [(2, .int (nI (k + 1))), (1, .int ((lp_X5_readable_9 jC jR fx fy fz fu k) + (if (s_X5_isPanel jC jR (nI k)) = 0 then 0 else (if (fu (nI k).toNatClampNeg) = 0 then 0 else (if (s_X5_stacked jC jR fx fy fz (nI k) 0) = 0 then 1 else 0))))), (0, .ref qg)]) hx hb dX5_readable_49 hl (k := 2) rfl (nI_succ k).symm (by decide) rfl (fun ls hl => ?_)
          refine lv_goto (tgt := 9) hx hb dX5_readable_52 (by decide) ?_
          have hlt : k < 36 := (z_36l hk c4)
          exact ih (k + 1) _ (by omega) (by omega) rfl _ _ hP hD hS _ (lv_sub hl [2, 0, 1] rfl)
        refine lv_if_eq (tgt := 46) hx hb dX5_readable_21 (by decide) (fun c8 => ?_) (fun c8 => ?_)
        · refine lv_iconst (v := 0) hx hb dX5_readable_46 (by decide) ?_
          exact K7 _ (if_pos c8).symm _ _ hP hD hS _ (lv_sub hl [0, 1, 2] rfl)
        · refine lv_aload_n hx hb dX5_readable_24 rfl (lv_at hl 0 rfl) ?_
          refine va_get (D := D) (ci := 5) (v := .ref qgu) (C := RX5) (T := TX5) (N := 12) hx hb hts (fun w h => List.mem_cons_of_mem _ (List.mem_append_right _ h)) hown hK hP 0 rfl rfl 10 (by decide) (hts (.fieldLink RX5 32 "AtlasFolderModel" "up" "[Z") (List.mem_cons_of_mem _ (List.mem_append_left _ (List.mem_of_getElem? (i := 1) rfl)))) (fun _ h9 => h9) rfl dX5_readable_25 ?_
          refine lv_iload_n hx hb dX5_readable_28 rfl (lv_at hl 1 rfl) ?_
          refine va_zald hx hb hK hP 4 1 rfl rfl (vp_in_nI (z_36l hk c4) (by omega)) dX5_readable_29 ?_
          refine lv_if_eq (tgt := 46) hx hb dX5_readable_30 (by decide) (fun c9 => ?_) (fun c9 => ?_)
          · refine lv_iconst (v := 0) hx hb dX5_readable_46 (by decide) ?_
            exact K7 _ ((if_neg c8).trans (if_pos c9)).symm _ _ hP hD hS _ (lv_sub hl [0, 1, 2] rfl)
          · refine lv_aload_n hx hb dX5_readable_33 rfl (lv_at hl 0 rfl) ?_
            refine lv_iload_n hx hb dX5_readable_34 rfl (lv_at hl 1 rfl) ?_
            refine lv_iconst (v := 0) hx hb dX5_readable_35 (by decide) ?_
            refine va_calli (va_runV (As := [.int (nI k), .int 0]) (rest := [.int (lp_X5_readable_9 jC jR fx fy fz fu k)]) ⟨hx, hb, hml, hown, hts⟩ (c_X5_stacked l D cI cZ cJ cD qg qgw qgh qgt br jC jR nf qgx qgy qgz qgu 0 fx fy fz (nI k) 0 (vp_in_nI (z_36l hk c4) (by omega))) (cwV 2 hts gX5_readable_X5_stacked rfl rfl rfl (by decide +kernel) ⟨Nat.le_of_ble_eq_true rfl, Nat.le_of_ble_eq_true rfl⟩) ⟨zblind, va_recv hK hP (ci := 5) (q0 := 0) rfl rfl, (fun U hU hW => ⟨rfl, by rw [hU]; exact hP.sub (ws' := [(qg, .inr (5, [.ref qgw, .ref qgh, .ref qgt, .int br, .int jC, .int jR, .int nf, .ref qgx, .ref qgy, .ref qgz, .ref qgu, .int 0])), (qgx, .inl (cI, 36, .inl fx)), (qgy, .inl (cI, 36, .inl fy)), (qgz, .inl (cI, 36, .inl fz))]) [0, 1, 2, 3] rfl, va_K.moved hW.alike hK⟩)⟩ rfl rfl hl.1 rfl (lv_room (Nat.le_of_ble_eq_true rfl)) dX5_readable_36 ⟨Nat.le_of_ble_eq_true rfl, Nat.le_of_ble_eq_true rfl⟩) hS (fun q _ h => h.elim) (fun q h => h.elim) (fun r10 u t H locs ht hvm hw hB hz1 hk1 hS => ?_)
            rw [hw]
            have hP := zk hP hk1
            refine lv_if_ne (tgt := 46) hx hb dX5_readable_39 (by decide) (fun c11 => ?_) (fun c11 => ?_)
            · refine lv_iconst (v := 0) hx hb dX5_readable_46 (by decide) ?_
              exact K7 _ ((if_neg c8).trans ((if_neg c9).trans (if_neg c11))).symm _ _ hP hD hS _ (lv_sub hl [0, 1, 2] rfl)
            · refine lv_iconst (v := 1) hx hb dX5_readable_42 (by decide) ?_
              refine lv_goto (tgt := 47) hx hb dX5_readable_43 (by decide) ?_
              exact K7 _ ((if_neg c8).trans ((if_neg c9).trans (if_pos c11))).symm _ _ hP hD hS _ (lv_sub hl [0, 1, 2] rfl)
  exact L1 (36 + 1) 0 _ (Nat.zero_le _) (by omega) rfl _ _ hP hD hS _ (lv_sub hl [2, 0, 1] rfl)
abbrev rm_X5_init : Room := { frames := 1, cells := 7, slots := 173, locals := 21 }
abbrev Qc_X5_init (D : va_G) (cI cZ cJ cD : ClassId) (qg : Nat) (A : Nat → Prop) : Array Value → State → Outcome → State → Prop := va_Qv (fun u : Nat × Nat × Nat × Nat × Nat × Nat × Nat => True) (fun (u : Nat × Nat × Nat × Nat × Nat × Nat × Nat) (t : State) => zPost D cI cZ cJ cD A [(qg, .inr (5, [.ref u.1, .ref u.2.1, .ref u.2.2.1, .int 15, .int 1, .int 1, .int n_X5_lay_qg_6, .ref u.2.2.2.1, .ref u.2.2.2.2.1, .ref u.2.2.2.2.2.1, .ref u.2.2.2.2.2.2, .int 0])), (u.1, .inl (cI, 10, .inl (zg (fun _ => 0) (fun p => 1000 - 100 * nI p) 10))), (u.2.1, .inl (cI, 10, .inl (zg (fun _ => 0) (fun p => 1000 * nI p) 10))), (u.2.2.1, .inl (cI, 9, .inl (zg (fun _ => 0) (fun _ => 1000) 9))), (u.2.2.2.1, .inl (cI, 36, .inl (n_X5_lay_qgx (fun _ => 0)))), (u.2.2.2.2.1, .inl (cI, 36, .inl (n_X5_lay_qgy (fun _ => 0)))), (u.2.2.2.2.2.1, .inl (cI, 36, .inl (n_X5_lay_qgz (fun _ => 0)))), (u.2.2.2.2.2.2, .inl (cZ, 36, .inl (n_X5_lay_qgu (fun _ => 0))))] () t) A
set_option maxHeartbeats 1000000 in
set_option maxRecDepth 100000 in
theorem c_X5_init (l : Launch) (D : va_G) (cI cZ cJ cD : ClassId) (qg : Nat) (sz : Nat)  : Met l yX5_init wsX5_init rm_X5_init (va_Pc [.ref qg] (zPreW D cI cZ cJ cD [(qg, .inr (5, [.null, .null, .null, .int 0, .int 0, .int 0, .int 0, .null, .null, .null, .null, .int 0]))] sz)) (Qc_X5_init D cI cZ cJ cD qg (va_A [(qg, .inr (5, [.null, .null, .null, .int 0, .int 0, .int 0, .int 0, .null, .null, .null, .null, .int 0]))] sz)) 7 173 (va_A [(qg, .inr (5, [.null, .null, .null, .int 0, .int 0, .int 0, .int 0, .null, .null, .null, .null, .int 0]))] sz) := by
  refine Met.ofW (cc := cX5_init) (maxL := 2) (ret := none) (by decide) rfl ?_
  intro p e s m args below meth c s₁ B hml hv
  obtain ⟨rfl, hsz, hP, hK, hD0⟩ := hv
  have hx := B.exec
  have hb := B.bytes
  have hr := B.returns
  have hts := atoms_spec (ws := wsX5_init) B.pre
  have hown : s.vm.findClass RX5 = some m.cls := findClass_of_methodNamed B.named
  have hlocks := B.notSynchronized
  have hin : meth.name = "<init>" := (name_of_methodNamed B.named B.method).1
  subst hsz
  have hD := hD0.self (sz := s.heap.size)
  generalize hAe : va_A [(qg, .inr (5, [.null, .null, .null, .int 0, .int 0, .int 0, .int 0, .null, .null, .null, .null, .int 0]))] s.heap.size = A at hD ⊢
  have hA : ∀ q : Nat, s.heap.size ≤ q → A q := fun q h => by rw [← hAe]; exact Or.inr h
  have hS : va_S A s.heap s.heap [] := va_S.rf
  have hl := lv_entry ([.ref qg]) (n := 2) (Nat.le_of_ble_eq_true rfl)
  rw [lg_entry_eq]
  generalize (lg_sl ([.ref qg]) ++ List.replicate (2 - (lg_sl ([.ref qg])).length) Slot.unset).toArray = ls at hl ⊢
  have hl : lv_has ls 2 [(0, .ref qg)] := hl
  have hP : va_P D vwCl [(qg, .inr (5, [.null, .null, .null, .int 0, .int 0, .int 0, .int 0, .null, .null, .null, .null, .int 0]))] s.heap := hP
  have hP := hP
  refine lv_aload_n hx hb dX5_init_0 rfl (lv_at hl 0 rfl) ?_
  refine W.objInit hx hb hown (hts (.methodLink RX5 1 objectInit) (List.mem_cons_of_mem _ (List.mem_append_left _ (List.mem_of_getElem? (i := 0) rfl)))) (hts (.instanceMethod objectInit) (List.mem_cons_of_mem _ (List.mem_append_left _ (List.mem_of_getElem? (i := 1) rfl)))) (hts (.code objectInit ⟨#[0xb1]⟩ 1 none) (List.mem_cons_of_mem _ (List.mem_append_left _ (List.mem_of_getElem? (i := 2) rfl)))) rfl (by rw [hml]; exact hl.1) rfl dX5_init_1 (Nat.le_of_ble_eq_true rfl) (Nat.le_of_ble_eq_true rfl) ?_
  refine W.eq (g2 := F0 m 4 ls []) rfl ?_
  refine lv_aload_n hx hb dX5_init_4 rfl (lv_at hl 0 rfl) ?_
  refine lv_bipush (v := 10) hx hb dX5_init_5 (by decide) ?_
  refine va_newa (atype := .int) (a0 := (10, .inl (fun _ => 0))) hx hb (hts (.arrayClass .int) (List.mem_cons_of_mem _ (List.mem_append_left _ (List.mem_of_getElem? (i := 3) rfl)))) rfl hK hP hD hS hA (fun cA => rfl) (by decide) rfl (by decide) (Nat.le_of_ble_eq_true rfl) (Nat.le_of_ble_eq_true rfl) dX5_init_7 (fun qn9 cA H hK hP hD hS => ?_)
  obtain rfl : cI = cA := Option.some.inj ((hK.2 0 _ rfl).2.symm.trans (hK.2 4 _ rfl).2)
  have hK := hK.sub (tys' := zT cI cZ cJ cD) [0, 1, 2, 3] rfl
  have hP : va_P D vwCl [(qg, .inr (5, [.null, .null, .null, .int 0, .int 0, .int 0, .int 0, .null, .null, .null, .null, .int 0])), (qn9, .inl (cI, 10, .inl (fun _ => 0)))] H := hP
  have hD : va_D A [(qg, .inr (5, [.null, .null, .null, .int 0, .int 0, .int 0, .int 0, .null, .null, .null, .null, .int 0])), (qn9, .inl (cI, 10, .inl (fun _ => 0)))] := hD
  refine W.widen (k := 1) (n := 10) (by decide) (by decide) ?_
  refine va_putF (D := D) (ci := 5) (v := .ref qn9) (ty := (.array .int)) (C := RX5) (T := TX5) (N := 12) hx hb hts (fun w h => List.mem_cons_of_mem _ (List.mem_append_right _ h)) tyX5 tyX5_ok nmX5 hown hK hP hD hS 0 rfl rfl 0 (by decide) (hts (.fieldLink RX5 7 "AtlasFolderModel" "width" "[I") (List.mem_cons_of_mem _ (List.mem_append_left _ (List.mem_of_getElem? (i := 4) rfl)))) (fun _ h9 => h9) rfl hin rfl (by decide +kernel) rfl rfl (Nat.le_of_ble_eq_true rfl) dX5_init_9 (fun H locs hP hD hS => ?_)
  have hP : va_P D vwCl [(qg, .inr (5, [.ref qn9, .null, .null, .int 0, .int 0, .int 0, .int 0, .null, .null, .null, .null, .int 0])), (qn9, .inl (cI, 10, .inl (fun _ => 0)))] H := hP
  have hD : va_D A [(qg, .inr (5, [.ref qn9, .null, .null, .int 0, .int 0, .int 0, .int 0, .null, .null, .null, .null, .int 0])), (qn9, .inl (cI, 10, .inl (fun _ => 0)))] := hD
  refine lv_aload_n hx hb dX5_init_12 rfl (lv_at hl 0 rfl) ?_
  refine lv_bipush (v := 10) hx hb dX5_init_13 (by decide) ?_
  refine va_newa (atype := .int) (a0 := (10, .inl (fun _ => 0))) hx hb (hts (.arrayClass .int) (List.mem_cons_of_mem _ (List.mem_append_left _ (List.mem_of_getElem? (i := 3) rfl)))) rfl hK hP hD hS hA (fun cA => rfl) (by decide) rfl (by decide) (Nat.le_of_ble_eq_true rfl) (Nat.le_of_ble_eq_true rfl) dX5_init_15 (fun qn10 cA H hK hP hD hS => ?_)
  obtain rfl : cI = cA := Option.some.inj ((hK.2 0 _ rfl).2.symm.trans (hK.2 4 _ rfl).2)
  have hK := hK.sub (tys' := zT cI cZ cJ cD) [0, 1, 2, 3] rfl
  have hP : va_P D vwCl [(qg, .inr (5, [.ref qn9, .null, .null, .int 0, .int 0, .int 0, .int 0, .null, .null, .null, .null, .int 0])), (qn9, .inl (cI, 10, .inl (fun _ => 0))), (qn10, .inl (cI, 10, .inl (fun _ => 0)))] H := hP
  have hD : va_D A [(qg, .inr (5, [.ref qn9, .null, .null, .int 0, .int 0, .int 0, .int 0, .null, .null, .null, .null, .int 0])), (qn9, .inl (cI, 10, .inl (fun _ => 0))), (qn10, .inl (cI, 10, .inl (fun _ => 0)))] := hD
  refine W.widen (k := 2) (n := 20) (by decide) (by decide) ?_
  refine va_putF (D := D) (ci := 5) (v := .ref qn10) (ty := (.array .int)) (C := RX5) (T := TX5) (N := 12) hx hb hts (fun w h => List.mem_cons_of_mem _ (List.mem_append_right _ h)) tyX5 tyX5_ok nmX5 hown hK hP hD hS 0 rfl rfl 1 (by decide) (hts (.fieldLink RX5 13 "AtlasFolderModel" "height" "[I") (List.mem_cons_of_mem _ (List.mem_append_left _ (List.mem_of_getElem? (i := 5) rfl)))) (fun _ h9 => h9) rfl hin rfl (by decide +kernel) rfl rfl (Nat.le_of_ble_eq_true rfl) dX5_init_17 (fun H locs hP hD hS => ?_)
  have hP : va_P D vwCl [(qg, .inr (5, [.ref qn9, .ref qn10, .null, .int 0, .int 0, .int 0, .int 0, .null, .null, .null, .null, .int 0])), (qn9, .inl (cI, 10, .inl (fun _ => 0))), (qn10, .inl (cI, 10, .inl (fun _ => 0)))] H := hP
  have hD : va_D A [(qg, .inr (5, [.ref qn9, .ref qn10, .null, .int 0, .int 0, .int 0, .int 0, .null, .null, .null, .null, .int 0])), (qn9, .inl (cI, 10, .inl (fun _ => 0))), (qn10, .inl (cI, 10, .inl (fun _ => 0)))] := hD
  refine lv_aload_n hx hb dX5_init_20 rfl (lv_at hl 0 rfl) ?_
  refine lv_bipush (v := 9) hx hb dX5_init_21 (by decide) ?_
  refine va_newa (atype := .int) (a0 := (9, .inl (fun _ => 0))) hx hb (hts (.arrayClass .int) (List.mem_cons_of_mem _ (List.mem_append_left _ (List.mem_of_getElem? (i := 3) rfl)))) rfl hK hP hD hS hA (fun cA => rfl) (by decide) rfl (by decide) (Nat.le_of_ble_eq_true rfl) (Nat.le_of_ble_eq_true rfl) dX5_init_23 (fun qn11 cA H hK hP hD hS => ?_)
  obtain rfl : cI = cA := Option.some.inj ((hK.2 0 _ rfl).2.symm.trans (hK.2 4 _ rfl).2)
  have hK := hK.sub (tys' := zT cI cZ cJ cD) [0, 1, 2, 3] rfl
  have hP : va_P D vwCl [(qg, .inr (5, [.ref qn9, .ref qn10, .null, .int 0, .int 0, .int 0, .int 0, .null, .null, .null, .null, .int 0])), (qn9, .inl (cI, 10, .inl (fun _ => 0))), (qn10, .inl (cI, 10, .inl (fun _ => 0))), (qn11, .inl (cI, 9, .inl (fun _ => 0)))] H := hP
  have hD : va_D A [(qg, .inr (5, [.ref qn9, .ref qn10, .null, .int 0, .int 0, .int 0, .int 0, .null, .null, .null, .null, .int 0])), (qn9, .inl (cI, 10, .inl (fun _ => 0))), (qn10, .inl (cI, 10, .inl (fun _ => 0))), (qn11, .inl (cI, 9, .inl (fun _ => 0)))] := hD
  refine W.widen (k := 3) (n := 29) (by decide) (by decide) ?_
  refine va_putF (D := D) (ci := 5) (v := .ref qn11) (ty := (.array .int)) (C := RX5) (T := TX5) (N := 12) hx hb hts (fun w h => List.mem_cons_of_mem _ (List.mem_append_right _ h)) tyX5 tyX5_ok nmX5 hown hK hP hD hS 0 rfl rfl 2 (by decide) (hts (.fieldLink RX5 16 "AtlasFolderModel" "truth" "[I") (List.mem_cons_of_mem _ (List.mem_append_left _ (List.mem_of_getElem? (i := 6) rfl)))) (fun _ h9 => h9) rfl hin rfl (by decide +kernel) rfl rfl (Nat.le_of_ble_eq_true rfl) dX5_init_25 (fun H locs hP hD hS => ?_)
  have hP : va_P D vwCl [(qg, .inr (5, [.ref qn9, .ref qn10, .ref qn11, .int 0, .int 0, .int 0, .int 0, .null, .null, .null, .null, .int 0])), (qn9, .inl (cI, 10, .inl (fun _ => 0))), (qn10, .inl (cI, 10, .inl (fun _ => 0))), (qn11, .inl (cI, 9, .inl (fun _ => 0)))] H := hP
  have hD : va_D A [(qg, .inr (5, [.ref qn9, .ref qn10, .ref qn11, .int 0, .int 0, .int 0, .int 0, .null, .null, .null, .null, .int 0])), (qn9, .inl (cI, 10, .inl (fun _ => 0))), (qn10, .inl (cI, 10, .inl (fun _ => 0))), (qn11, .inl (cI, 9, .inl (fun _ => 0)))] := hD
  refine lv_aload_n hx hb dX5_init_28 rfl (lv_at hl 0 rfl) ?_
  refine lv_bipush (v := 15) hx hb dX5_init_29 (by decide) ?_
  refine va_put (D := D) (ci := 5) (v := .int 15) (ty := .int) (C := RX5) (T := TX5) (N := 12) hx hb hts (fun w h => List.mem_cons_of_mem _ (List.mem_append_right _ h)) tyX5 tyX5_ok nmX5 hown hK hP hD hS 0 rfl rfl 3 (by decide) (hts (.fieldLink RX5 19 "AtlasFolderModel" "breadth" "I") (List.mem_cons_of_mem _ (List.mem_append_left _ (List.mem_of_getElem? (i := 7) rfl)))) (fun _ h9 => h9) rfl (by decide +kernel) rfl rfl (Nat.le_of_ble_eq_true rfl) dX5_init_31 (fun H locs hP hD hS => ?_)
  have hP : va_P D vwCl [(qg, .inr (5, [.ref qn9, .ref qn10, .ref qn11, .int 15, .int 0, .int 0, .int 0, .null, .null, .null, .null, .int 0])), (qn9, .inl (cI, 10, .inl (fun _ => 0))), (qn10, .inl (cI, 10, .inl (fun _ => 0))), (qn11, .inl (cI, 9, .inl (fun _ => 0)))] H := hP
  have hD : va_D A [(qg, .inr (5, [.ref qn9, .ref qn10, .ref qn11, .int 15, .int 0, .int 0, .int 0, .null, .null, .null, .null, .int 0])), (qn9, .inl (cI, 10, .inl (fun _ => 0))), (qn10, .inl (cI, 10, .inl (fun _ => 0))), (qn11, .inl (cI, 9, .inl (fun _ => 0)))] := hD
  refine lv_aload_n hx hb dX5_init_34 rfl (lv_at hl 0 rfl) ?_
  refine lv_bipush (v := 36) hx hb dX5_init_35 (by decide) ?_
  refine va_newa (atype := .int) (a0 := (36, .inl (fun _ => 0))) hx hb (hts (.arrayClass .int) (List.mem_cons_of_mem _ (List.mem_append_left _ (List.mem_of_getElem? (i := 3) rfl)))) rfl hK hP hD hS hA (fun cA => rfl) (by decide) rfl (by decide) (Nat.le_of_ble_eq_true rfl) (Nat.le_of_ble_eq_true rfl) dX5_init_37 (fun qn12 cA H hK hP hD hS => ?_)
  obtain rfl : cI = cA := Option.some.inj ((hK.2 0 _ rfl).2.symm.trans (hK.2 4 _ rfl).2)
  have hK := hK.sub (tys' := zT cI cZ cJ cD) [0, 1, 2, 3] rfl
  have hP : va_P D vwCl [(qg, .inr (5, [.ref qn9, .ref qn10, .ref qn11, .int 15, .int 0, .int 0, .int 0, .null, .null, .null, .null, .int 0])), (qn9, .inl (cI, 10, .inl (fun _ => 0))), (qn10, .inl (cI, 10, .inl (fun _ => 0))), (qn11, .inl (cI, 9, .inl (fun _ => 0))), (qn12, .inl (cI, 36, .inl (fun _ => 0)))] H := hP
  have hD : va_D A [(qg, .inr (5, [.ref qn9, .ref qn10, .ref qn11, .int 15, .int 0, .int 0, .int 0, .null, .null, .null, .null, .int 0])), (qn9, .inl (cI, 10, .inl (fun _ => 0))), (qn10, .inl (cI, 10, .inl (fun _ => 0))), (qn11, .inl (cI, 9, .inl (fun _ => 0))), (qn12, .inl (cI, 36, .inl (fun _ => 0)))] := hD
  refine W.widen (k := 4) (n := 65) (by decide) (by decide) ?_
  refine va_putF (D := D) (ci := 5) (v := .ref qn12) (ty := (.array .int)) (C := RX5) (T := TX5) (N := 12) hx hb hts (fun w h => List.mem_cons_of_mem _ (List.mem_append_right _ h)) tyX5 tyX5_ok nmX5 hown hK hP hD hS 0 rfl rfl 7 (by decide) (hts (.fieldLink RX5 23 "AtlasFolderModel" "atX" "[I") (List.mem_cons_of_mem _ (List.mem_append_left _ (List.mem_of_getElem? (i := 8) rfl)))) (fun _ h9 => h9) rfl hin rfl (by decide +kernel) rfl rfl (Nat.le_of_ble_eq_true rfl) dX5_init_39 (fun H locs hP hD hS => ?_)
  have hP : va_P D vwCl [(qg, .inr (5, [.ref qn9, .ref qn10, .ref qn11, .int 15, .int 0, .int 0, .int 0, .ref qn12, .null, .null, .null, .int 0])), (qn9, .inl (cI, 10, .inl (fun _ => 0))), (qn10, .inl (cI, 10, .inl (fun _ => 0))), (qn11, .inl (cI, 9, .inl (fun _ => 0))), (qn12, .inl (cI, 36, .inl (fun _ => 0)))] H := hP
  have hD : va_D A [(qg, .inr (5, [.ref qn9, .ref qn10, .ref qn11, .int 15, .int 0, .int 0, .int 0, .ref qn12, .null, .null, .null, .int 0])), (qn9, .inl (cI, 10, .inl (fun _ => 0))), (qn10, .inl (cI, 10, .inl (fun _ => 0))), (qn11, .inl (cI, 9, .inl (fun _ => 0))), (qn12, .inl (cI, 36, .inl (fun _ => 0)))] := hD
  refine lv_aload_n hx hb dX5_init_42 rfl (lv_at hl 0 rfl) ?_
  refine lv_bipush (v := 36) hx hb dX5_init_43 (by decide) ?_
  refine va_newa (atype := .int) (a0 := (36, .inl (fun _ => 0))) hx hb (hts (.arrayClass .int) (List.mem_cons_of_mem _ (List.mem_append_left _ (List.mem_of_getElem? (i := 3) rfl)))) rfl hK hP hD hS hA (fun cA => rfl) (by decide) rfl (by decide) (Nat.le_of_ble_eq_true rfl) (Nat.le_of_ble_eq_true rfl) dX5_init_45 (fun qn13 cA H hK hP hD hS => ?_)
  obtain rfl : cI = cA := Option.some.inj ((hK.2 0 _ rfl).2.symm.trans (hK.2 4 _ rfl).2)
  have hK := hK.sub (tys' := zT cI cZ cJ cD) [0, 1, 2, 3] rfl
  have hP : va_P D vwCl [(qg, .inr (5, [.ref qn9, .ref qn10, .ref qn11, .int 15, .int 0, .int 0, .int 0, .ref qn12, .null, .null, .null, .int 0])), (qn9, .inl (cI, 10, .inl (fun _ => 0))), (qn10, .inl (cI, 10, .inl (fun _ => 0))), (qn11, .inl (cI, 9, .inl (fun _ => 0))), (qn12, .inl (cI, 36, .inl (fun _ => 0))), (qn13, .inl (cI, 36, .inl (fun _ => 0)))] H := hP
  have hD : va_D A [(qg, .inr (5, [.ref qn9, .ref qn10, .ref qn11, .int 15, .int 0, .int 0, .int 0, .ref qn12, .null, .null, .null, .int 0])), (qn9, .inl (cI, 10, .inl (fun _ => 0))), (qn10, .inl (cI, 10, .inl (fun _ => 0))), (qn11, .inl (cI, 9, .inl (fun _ => 0))), (qn12, .inl (cI, 36, .inl (fun _ => 0))), (qn13, .inl (cI, 36, .inl (fun _ => 0)))] := hD
  refine W.widen (k := 5) (n := 101) (by decide) (by decide) ?_
  refine va_putF (D := D) (ci := 5) (v := .ref qn13) (ty := (.array .int)) (C := RX5) (T := TX5) (N := 12) hx hb hts (fun w h => List.mem_cons_of_mem _ (List.mem_append_right _ h)) tyX5 tyX5_ok nmX5 hown hK hP hD hS 0 rfl rfl 8 (by decide) (hts (.fieldLink RX5 26 "AtlasFolderModel" "atY" "[I") (List.mem_cons_of_mem _ (List.mem_append_left _ (List.mem_of_getElem? (i := 9) rfl)))) (fun _ h9 => h9) rfl hin rfl (by decide +kernel) rfl rfl (Nat.le_of_ble_eq_true rfl) dX5_init_47 (fun H locs hP hD hS => ?_)
  have hP : va_P D vwCl [(qg, .inr (5, [.ref qn9, .ref qn10, .ref qn11, .int 15, .int 0, .int 0, .int 0, .ref qn12, .ref qn13, .null, .null, .int 0])), (qn9, .inl (cI, 10, .inl (fun _ => 0))), (qn10, .inl (cI, 10, .inl (fun _ => 0))), (qn11, .inl (cI, 9, .inl (fun _ => 0))), (qn12, .inl (cI, 36, .inl (fun _ => 0))), (qn13, .inl (cI, 36, .inl (fun _ => 0)))] H := hP
  have hD : va_D A [(qg, .inr (5, [.ref qn9, .ref qn10, .ref qn11, .int 15, .int 0, .int 0, .int 0, .ref qn12, .ref qn13, .null, .null, .int 0])), (qn9, .inl (cI, 10, .inl (fun _ => 0))), (qn10, .inl (cI, 10, .inl (fun _ => 0))), (qn11, .inl (cI, 9, .inl (fun _ => 0))), (qn12, .inl (cI, 36, .inl (fun _ => 0))), (qn13, .inl (cI, 36, .inl (fun _ => 0)))] := hD
  refine lv_aload_n hx hb dX5_init_50 rfl (lv_at hl 0 rfl) ?_
  refine lv_bipush (v := 36) hx hb dX5_init_51 (by decide) ?_
  refine va_newa (atype := .int) (a0 := (36, .inl (fun _ => 0))) hx hb (hts (.arrayClass .int) (List.mem_cons_of_mem _ (List.mem_append_left _ (List.mem_of_getElem? (i := 3) rfl)))) rfl hK hP hD hS hA (fun cA => rfl) (by decide) rfl (by decide) (Nat.le_of_ble_eq_true rfl) (Nat.le_of_ble_eq_true rfl) dX5_init_53 (fun qn14 cA H hK hP hD hS => ?_)
  obtain rfl : cI = cA := Option.some.inj ((hK.2 0 _ rfl).2.symm.trans (hK.2 4 _ rfl).2)
  have hK := hK.sub (tys' := zT cI cZ cJ cD) [0, 1, 2, 3] rfl
  have hP : va_P D vwCl [(qg, .inr (5, [.ref qn9, .ref qn10, .ref qn11, .int 15, .int 0, .int 0, .int 0, .ref qn12, .ref qn13, .null, .null, .int 0])), (qn9, .inl (cI, 10, .inl (fun _ => 0))), (qn10, .inl (cI, 10, .inl (fun _ => 0))), (qn11, .inl (cI, 9, .inl (fun _ => 0))), (qn12, .inl (cI, 36, .inl (fun _ => 0))), (qn13, .inl (cI, 36, .inl (fun _ => 0))), (qn14, .inl (cI, 36, .inl (fun _ => 0)))] H := hP
  have hD : va_D A [(qg, .inr (5, [.ref qn9, .ref qn10, .ref qn11, .int 15, .int 0, .int 0, .int 0, .ref qn12, .ref qn13, .null, .null, .int 0])), (qn9, .inl (cI, 10, .inl (fun _ => 0))), (qn10, .inl (cI, 10, .inl (fun _ => 0))), (qn11, .inl (cI, 9, .inl (fun _ => 0))), (qn12, .inl (cI, 36, .inl (fun _ => 0))), (qn13, .inl (cI, 36, .inl (fun _ => 0))), (qn14, .inl (cI, 36, .inl (fun _ => 0)))] := hD
  refine W.widen (k := 6) (n := 137) (by decide) (by decide) ?_
  refine va_putF (D := D) (ci := 5) (v := .ref qn14) (ty := (.array .int)) (C := RX5) (T := TX5) (N := 12) hx hb hts (fun w h => List.mem_cons_of_mem _ (List.mem_append_right _ h)) tyX5 tyX5_ok nmX5 hown hK hP hD hS 0 rfl rfl 9 (by decide) (hts (.fieldLink RX5 29 "AtlasFolderModel" "layer" "[I") (List.mem_cons_of_mem _ (List.mem_append_left _ (List.mem_of_getElem? (i := 10) rfl)))) (fun _ h9 => h9) rfl hin rfl (by decide +kernel) rfl rfl (Nat.le_of_ble_eq_true rfl) dX5_init_55 (fun H locs hP hD hS => ?_)
  have hP : va_P D vwCl [(qg, .inr (5, [.ref qn9, .ref qn10, .ref qn11, .int 15, .int 0, .int 0, .int 0, .ref qn12, .ref qn13, .ref qn14, .null, .int 0])), (qn9, .inl (cI, 10, .inl (fun _ => 0))), (qn10, .inl (cI, 10, .inl (fun _ => 0))), (qn11, .inl (cI, 9, .inl (fun _ => 0))), (qn12, .inl (cI, 36, .inl (fun _ => 0))), (qn13, .inl (cI, 36, .inl (fun _ => 0))), (qn14, .inl (cI, 36, .inl (fun _ => 0)))] H := hP
  have hD : va_D A [(qg, .inr (5, [.ref qn9, .ref qn10, .ref qn11, .int 15, .int 0, .int 0, .int 0, .ref qn12, .ref qn13, .ref qn14, .null, .int 0])), (qn9, .inl (cI, 10, .inl (fun _ => 0))), (qn10, .inl (cI, 10, .inl (fun _ => 0))), (qn11, .inl (cI, 9, .inl (fun _ => 0))), (qn12, .inl (cI, 36, .inl (fun _ => 0))), (qn13, .inl (cI, 36, .inl (fun _ => 0))), (qn14, .inl (cI, 36, .inl (fun _ => 0)))] := hD
  refine lv_aload_n hx hb dX5_init_58 rfl (lv_at hl 0 rfl) ?_
  refine lv_bipush (v := 36) hx hb dX5_init_59 (by decide) ?_
  refine va_newa (atype := .boolean) (a0 := (36, .inl (fun _ => 0))) hx hb (hts (.arrayClass .boolean) (List.mem_cons_of_mem _ (List.mem_append_left _ (List.mem_of_getElem? (i := 11) rfl)))) rfl hK hP hD hS hA (fun cA => rfl) (by decide) rfl (by decide) (Nat.le_of_ble_eq_true rfl) (Nat.le_of_ble_eq_true rfl) dX5_init_61 (fun qn15 cA H hK hP hD hS => ?_)
  obtain rfl : cZ = cA := Option.some.inj ((hK.2 1 _ rfl).2.symm.trans (hK.2 4 _ rfl).2)
  have hK := hK.sub (tys' := zT cI cZ cJ cD) [0, 1, 2, 3] rfl
  have hP : va_P D vwCl [(qg, .inr (5, [.ref qn9, .ref qn10, .ref qn11, .int 15, .int 0, .int 0, .int 0, .ref qn12, .ref qn13, .ref qn14, .null, .int 0])), (qn9, .inl (cI, 10, .inl (fun _ => 0))), (qn10, .inl (cI, 10, .inl (fun _ => 0))), (qn11, .inl (cI, 9, .inl (fun _ => 0))), (qn12, .inl (cI, 36, .inl (fun _ => 0))), (qn13, .inl (cI, 36, .inl (fun _ => 0))), (qn14, .inl (cI, 36, .inl (fun _ => 0))), (qn15, .inl (cZ, 36, .inl (fun _ => 0)))] H := hP
  have hD : va_D A [(qg, .inr (5, [.ref qn9, .ref qn10, .ref qn11, .int 15, .int 0, .int 0, .int 0, .ref qn12, .ref qn13, .ref qn14, .null, .int 0])), (qn9, .inl (cI, 10, .inl (fun _ => 0))), (qn10, .inl (cI, 10, .inl (fun _ => 0))), (qn11, .inl (cI, 9, .inl (fun _ => 0))), (qn12, .inl (cI, 36, .inl (fun _ => 0))), (qn13, .inl (cI, 36, .inl (fun _ => 0))), (qn14, .inl (cI, 36, .inl (fun _ => 0))), (qn15, .inl (cZ, 36, .inl (fun _ => 0)))] := hD
  refine W.widen (k := 7) (n := 173) (by decide) (by decide) ?_
  refine va_putF (D := D) (ci := 5) (v := .ref qn15) (ty := (.array .boolean)) (C := RX5) (T := TX5) (N := 12) hx hb hts (fun w h => List.mem_cons_of_mem _ (List.mem_append_right _ h)) tyX5 tyX5_ok nmX5 hown hK hP hD hS 0 rfl rfl 10 (by decide) (hts (.fieldLink RX5 32 "AtlasFolderModel" "up" "[Z") (List.mem_cons_of_mem _ (List.mem_append_left _ (List.mem_of_getElem? (i := 12) rfl)))) (fun _ h9 => h9) rfl hin rfl (by decide +kernel) rfl rfl (Nat.le_of_ble_eq_true rfl) dX5_init_63 (fun H locs hP hD hS => ?_)
  have hP : va_P D vwCl [(qg, .inr (5, [.ref qn9, .ref qn10, .ref qn11, .int 15, .int 0, .int 0, .int 0, .ref qn12, .ref qn13, .ref qn14, .ref qn15, .int 0])), (qn9, .inl (cI, 10, .inl (fun _ => 0))), (qn10, .inl (cI, 10, .inl (fun _ => 0))), (qn11, .inl (cI, 9, .inl (fun _ => 0))), (qn12, .inl (cI, 36, .inl (fun _ => 0))), (qn13, .inl (cI, 36, .inl (fun _ => 0))), (qn14, .inl (cI, 36, .inl (fun _ => 0))), (qn15, .inl (cZ, 36, .inl (fun _ => 0)))] H := hP
  have hD : va_D A [(qg, .inr (5, [.ref qn9, .ref qn10, .ref qn11, .int 15, .int 0, .int 0, .int 0, .ref qn12, .ref qn13, .ref qn14, .ref qn15, .int 0])), (qn9, .inl (cI, 10, .inl (fun _ => 0))), (qn10, .inl (cI, 10, .inl (fun _ => 0))), (qn11, .inl (cI, 9, .inl (fun _ => 0))), (qn12, .inl (cI, 36, .inl (fun _ => 0))), (qn13, .inl (cI, 36, .inl (fun _ => 0))), (qn14, .inl (cI, 36, .inl (fun _ => 0))), (qn15, .inl (cZ, 36, .inl (fun _ => 0)))] := hD
  refine lv_iconst (v := 0) hx hb dX5_init_66 (by decide) ?_
  refine lv_istore_n (lv' := [(1, .int 0), (0, .ref qg)]) hx hb dX5_init_67 rfl hl (by decide) rfl (fun ls hl => ?_)
  have X16 : ∀ (H : Heap) (locs : List Loc), va_P D vwCl [(qg, .inr (5, [.ref qn9, .ref qn10, .ref qn11, .int 15, .int 0, .int 0, .int 0, .ref qn12, .ref qn13, .ref qn14, .ref qn15, .int 0])), (qn9, .inl (cI, 10, .inl (zg (fun _ => 0) (fun p => 1000 - 100 * nI p) 10))), (qn10, .inl (cI, 10, .inl (zg (fun _ => 0) (fun p => 1000 * nI p) 10))), (qn11, .inl (cI, 9, .inl (fun _ => 0))), (qn12, .inl (cI, 36, .inl (fun _ => 0))), (qn13, .inl (cI, 36, .inl (fun _ => 0))), (qn14, .inl (cI, 36, .inl (fun _ => 0))), (qn15, .inl (cZ, 36, .inl (fun _ => 0)))] H → va_D A [(qg, .inr (5, [.ref qn9, .ref qn10, .ref qn11, .int 15, .int 0, .int 0, .int 0, .ref qn12, .ref qn13, .ref qn14, .ref qn15, .int 0])), (qn9, .inl (cI, 10, .inl (zg (fun _ => 0) (fun p => 1000 - 100 * nI p) 10))), (qn10, .inl (cI, 10, .inl (zg (fun _ => 0) (fun p => 1000 * nI p) 10))), (qn11, .inl (cI, 9, .inl (fun _ => 0))), (qn12, .inl (cI, 36, .inl (fun _ => 0))), (qn13, .inl (cI, 36, .inl (fun _ => 0))), (qn14, .inl (cI, 36, .inl (fun _ => 0))), (qn15, .inl (cZ, 36, .inl (fun _ => 0)))] → va_S A s.heap H locs → ∀ (ls : Array Slot), lv_has ls 2 [(0, .ref qg)] → W p l e (headSpec wsX5_init rm_X5_init).room s m ([.ref qg]).toArray below meth c H locs 7 173 (MQ below (Qc_X5_init D cI cZ cJ cD qg A) ([.ref qg]).toArray s 7 173 A) (F0 m 105 ls []) := by
    intro  H locs hP hD hS ls hl
    refine lv_iconst (v := 0) hx hb dX5_init_105 (by decide) ?_
    refine lv_istore_n (lv' := [(1, .int 0), (0, .ref qg)]) hx hb dX5_init_106 rfl hl (by decide) rfl (fun ls hl => ?_)
    have X17 : ∀ (H : Heap) (locs : List Loc), va_P D vwCl [(qg, .inr (5, [.ref qn9, .ref qn10, .ref qn11, .int 15, .int 0, .int 0, .int 0, .ref qn12, .ref qn13, .ref qn14, .ref qn15, .int 0])), (qn9, .inl (cI, 10, .inl (zg (fun _ => 0) (fun p => 1000 - 100 * nI p) 10))), (qn10, .inl (cI, 10, .inl (zg (fun _ => 0) (fun p => 1000 * nI p) 10))), (qn11, .inl (cI, 9, .inl (zg (fun _ => 0) (fun _ => 1000) 9))), (qn12, .inl (cI, 36, .inl (fun _ => 0))), (qn13, .inl (cI, 36, .inl (fun _ => 0))), (qn14, .inl (cI, 36, .inl (fun _ => 0))), (qn15, .inl (cZ, 36, .inl (fun _ => 0)))] H → va_D A [(qg, .inr (5, [.ref qn9, .ref qn10, .ref qn11, .int 15, .int 0, .int 0, .int 0, .ref qn12, .ref qn13, .ref qn14, .ref qn15, .int 0])), (qn9, .inl (cI, 10, .inl (zg (fun _ => 0) (fun p => 1000 - 100 * nI p) 10))), (qn10, .inl (cI, 10, .inl (zg (fun _ => 0) (fun p => 1000 * nI p) 10))), (qn11, .inl (cI, 9, .inl (zg (fun _ => 0) (fun _ => 1000) 9))), (qn12, .inl (cI, 36, .inl (fun _ => 0))), (qn13, .inl (cI, 36, .inl (fun _ => 0))), (qn14, .inl (cI, 36, .inl (fun _ => 0))), (qn15, .inl (cZ, 36, .inl (fun _ => 0)))] → va_S A s.heap H locs → ∀ (ls : Array Slot), lv_has ls 2 [(0, .ref qg)] → W p l e (headSpec wsX5_init rm_X5_init).room s m ([.ref qg]).toArray below meth c H locs 7 173 (MQ below (Qc_X5_init D cI cZ cJ cD qg A) ([.ref qg]).toArray s 7 173 A) (F0 m 128 ls []) := by
      intro  H locs hP hD hS ls hl
      refine lv_aload_n hx hb dX5_init_128 rfl (lv_at hl 0 rfl) ?_
      refine lv_iconst (v := 1) hx hb dX5_init_129 (by decide) ?_
      refine va_put (D := D) (ci := 5) (v := .int 1) (ty := .int) (C := RX5) (T := TX5) (N := 12) hx hb hts (fun w h => List.mem_cons_of_mem _ (List.mem_append_right _ h)) tyX5 tyX5_ok nmX5 hown hK hP hD hS 0 rfl rfl 4 (by decide) (hts (.fieldLink RX5 36 "AtlasFolderModel" "columns" "I") (List.mem_cons_of_mem _ (List.mem_append_left _ (List.mem_of_getElem? (i := 13) rfl)))) (fun _ h9 => h9) rfl (by decide +kernel) rfl rfl (Nat.le_of_ble_eq_true rfl) dX5_init_130 (fun H locs hP hD hS => ?_)
      have hP : va_P D vwCl [(qg, .inr (5, [.ref qn9, .ref qn10, .ref qn11, .int 15, .int 1, .int 0, .int 0, .ref qn12, .ref qn13, .ref qn14, .ref qn15, .int 0])), (qn9, .inl (cI, 10, .inl (zg (fun _ => 0) (fun p => 1000 - 100 * nI p) 10))), (qn10, .inl (cI, 10, .inl (zg (fun _ => 0) (fun p => 1000 * nI p) 10))), (qn11, .inl (cI, 9, .inl (zg (fun _ => 0) (fun _ => 1000) 9))), (qn12, .inl (cI, 36, .inl (fun _ => 0))), (qn13, .inl (cI, 36, .inl (fun _ => 0))), (qn14, .inl (cI, 36, .inl (fun _ => 0))), (qn15, .inl (cZ, 36, .inl (fun _ => 0)))] H := hP
      have hD : va_D A [(qg, .inr (5, [.ref qn9, .ref qn10, .ref qn11, .int 15, .int 1, .int 0, .int 0, .ref qn12, .ref qn13, .ref qn14, .ref qn15, .int 0])), (qn9, .inl (cI, 10, .inl (zg (fun _ => 0) (fun p => 1000 - 100 * nI p) 10))), (qn10, .inl (cI, 10, .inl (zg (fun _ => 0) (fun p => 1000 * nI p) 10))), (qn11, .inl (cI, 9, .inl (zg (fun _ => 0) (fun _ => 1000) 9))), (qn12, .inl (cI, 36, .inl (fun _ => 0))), (qn13, .inl (cI, 36, .inl (fun _ => 0))), (qn14, .inl (cI, 36, .inl (fun _ => 0))), (qn15, .inl (cZ, 36, .inl (fun _ => 0)))] := hD
      refine lv_aload_n hx hb dX5_init_133 rfl (lv_at hl 0 rfl) ?_
      refine lv_iconst (v := 1) hx hb dX5_init_134 (by decide) ?_
      refine va_put (D := D) (ci := 5) (v := .int 1) (ty := .int) (C := RX5) (T := TX5) (N := 12) hx hb hts (fun w h => List.mem_cons_of_mem _ (List.mem_append_right _ h)) tyX5 tyX5_ok nmX5 hown hK hP hD hS 0 rfl rfl 5 (by decide) (hts (.fieldLink RX5 39 "AtlasFolderModel" "rows" "I") (List.mem_cons_of_mem _ (List.mem_append_left _ (List.mem_of_getElem? (i := 14) rfl)))) (fun _ h9 => h9) rfl (by decide +kernel) rfl rfl (Nat.le_of_ble_eq_true rfl) dX5_init_135 (fun H locs hP hD hS => ?_)
      have hP : va_P D vwCl [(qg, .inr (5, [.ref qn9, .ref qn10, .ref qn11, .int 15, .int 1, .int 1, .int 0, .ref qn12, .ref qn13, .ref qn14, .ref qn15, .int 0])), (qn9, .inl (cI, 10, .inl (zg (fun _ => 0) (fun p => 1000 - 100 * nI p) 10))), (qn10, .inl (cI, 10, .inl (zg (fun _ => 0) (fun p => 1000 * nI p) 10))), (qn11, .inl (cI, 9, .inl (zg (fun _ => 0) (fun _ => 1000) 9))), (qn12, .inl (cI, 36, .inl (fun _ => 0))), (qn13, .inl (cI, 36, .inl (fun _ => 0))), (qn14, .inl (cI, 36, .inl (fun _ => 0))), (qn15, .inl (cZ, 36, .inl (fun _ => 0)))] H := hP
      have hD : va_D A [(qg, .inr (5, [.ref qn9, .ref qn10, .ref qn11, .int 15, .int 1, .int 1, .int 0, .ref qn12, .ref qn13, .ref qn14, .ref qn15, .int 0])), (qn9, .inl (cI, 10, .inl (zg (fun _ => 0) (fun p => 1000 - 100 * nI p) 10))), (qn10, .inl (cI, 10, .inl (zg (fun _ => 0) (fun p => 1000 * nI p) 10))), (qn11, .inl (cI, 9, .inl (zg (fun _ => 0) (fun _ => 1000) 9))), (qn12, .inl (cI, 36, .inl (fun _ => 0))), (qn13, .inl (cI, 36, .inl (fun _ => 0))), (qn14, .inl (cI, 36, .inl (fun _ => 0))), (qn15, .inl (cZ, 36, .inl (fun _ => 0)))] := hD
      refine lv_aload_n hx hb dX5_init_138 rfl (lv_at hl 0 rfl) ?_
      have hPc := hP.sub (ws' := [(qg, .inr (5, [.ref qn9, .ref qn10, .ref qn11, .int 15, .int 1, .int 1, .int 0, .ref qn12, .ref qn13, .ref qn14, .ref qn15, .int 0])), (qn12, .inl (cI, 36, .inl (fun _ => 0))), (qn13, .inl (cI, 36, .inl (fun _ => 0))), (qn14, .inl (cI, 36, .inl (fun _ => 0))), (qn15, .inl (cZ, 36, .inl (fun _ => 0)))]) [0, 4, 5, 6, 7] rfl
      have hDc := hD.sub (ws' := [(qg, .inr (5, [.ref qn9, .ref qn10, .ref qn11, .int 15, .int 1, .int 1, .int 0, .ref qn12, .ref qn13, .ref qn14, .ref qn15, .int 0])), (qn12, .inl (cI, 36, .inl (fun _ => 0))), (qn13, .inl (cI, 36, .inl (fun _ => 0))), (qn14, .inl (cI, 36, .inl (fun _ => 0))), (qn15, .inl (cZ, 36, .inl (fun _ => 0)))]) [0, 4, 5, 6, 7] (by decide) rfl
      have hFc := va_free (wc := [(qg, .inr (5, [.ref qn9, .ref qn10, .ref qn11, .int 15, .int 1, .int 1, .int 0, .ref qn12, .ref qn13, .ref qn14, .ref qn15, .int 0])), (qn12, .inl (cI, 36, .inl (fun _ => 0))), (qn13, .inl (cI, 36, .inl (fun _ => 0))), (qn14, .inl (cI, 36, .inl (fun _ => 0))), (qn15, .inl (cZ, 36, .inl (fun _ => 0)))]) hD hS hA [0, 4, 5, 6, 7] rfl
      refine va_callv (va_runV (As := []) (rest := []) ⟨hx, hb, hml, hown, hts⟩ (c_X5_lay l D cI cZ cJ cD qg qn9 qn10 qn11 15 1 1 0 qn12 qn13 qn14 qn15 0 (fun _ => 0) (fun _ => 0) (fun _ => 0) (fun _ => 0) H.size ) (cwV 0 hts gX5_init_X5_lay rfl rfl rfl (by decide +kernel) ⟨Nat.le_of_ble_eq_true rfl, Nat.le_of_ble_eq_true rfl⟩) ⟨zblindW, va_recv hK hP (ci := 5) (q0 := 0) rfl rfl, (fun U hU hW => ⟨rfl, by rw [hU], by rw [hU]; exact hPc, va_K.moved hW.alike hK, hDc.weaken (fun _ _ _ _ => trivial)⟩)⟩ rfl rfl hl.1 rfl (lv_room (Nat.le_of_ble_eq_true rfl)) dX5_init_139 ⟨Nat.le_of_ble_eq_true rfl, Nat.le_of_ble_eq_true rfl⟩) hS (fun q _ h => hFc q h) hFc (fun u t H locs ht hvm hw hB hz1 hk1 hS => ?_)
      obtain ⟨hP1, hK1, hD1⟩ := hB
      rw [ht] at hP1
      obtain ⟨hP, hD⟩ := va_join (wr := [(qn9, .inl (cI, 10, .inl (zg (fun _ => 0) (fun p => 1000 - 100 * nI p) 10))), (qn10, .inl (cI, 10, .inl (zg (fun _ => 0) (fun p => 1000 * nI p) 10))), (qn11, .inl (cI, 9, .inl (zg (fun _ => 0) (fun _ => 1000) 9)))]) (w1 := [(qg, .inr (5, [.ref qn9, .ref qn10, .ref qn11, .int 15, .int 1, .int 1, .int n_X5_lay_qg_6, .ref qn12, .ref qn13, .ref qn14, .ref qn15, .int 0])), (qn12, .inl (cI, 36, .inl (n_X5_lay_qgx (fun _ => 0)))), (qn13, .inl (cI, 36, .inl (n_X5_lay_qgy (fun _ => 0)))), (qn14, .inl (cI, 36, .inl (n_X5_lay_qgz (fun _ => 0)))), (qn15, .inl (cZ, 36, .inl (n_X5_lay_qgu (fun _ => 0))))]) hP hD [0, 4, 5, 6, 7] [1, 2, 3] rfl rfl (by decide) (by decide) hk1 hFc hP1 hD1
      have hP := hP.sub (ws' := [(qg, .inr (5, [.ref qn9, .ref qn10, .ref qn11, .int 15, .int 1, .int 1, .int n_X5_lay_qg_6, .ref qn12, .ref qn13, .ref qn14, .ref qn15, .int 0])), (qn9, .inl (cI, 10, .inl (zg (fun _ => 0) (fun p => 1000 - 100 * nI p) 10))), (qn10, .inl (cI, 10, .inl (zg (fun _ => 0) (fun p => 1000 * nI p) 10))), (qn11, .inl (cI, 9, .inl (zg (fun _ => 0) (fun _ => 1000) 9))), (qn12, .inl (cI, 36, .inl (n_X5_lay_qgx (fun _ => 0)))), (qn13, .inl (cI, 36, .inl (n_X5_lay_qgy (fun _ => 0)))), (qn14, .inl (cI, 36, .inl (n_X5_lay_qgz (fun _ => 0)))), (qn15, .inl (cZ, 36, .inl (n_X5_lay_qgu (fun _ => 0))))]) [3, 0, 1, 2, 4, 5, 6, 7] rfl
      have hD := hD.sub (ws' := [(qg, .inr (5, [.ref qn9, .ref qn10, .ref qn11, .int 15, .int 1, .int 1, .int n_X5_lay_qg_6, .ref qn12, .ref qn13, .ref qn14, .ref qn15, .int 0])), (qn9, .inl (cI, 10, .inl (zg (fun _ => 0) (fun p => 1000 - 100 * nI p) 10))), (qn10, .inl (cI, 10, .inl (zg (fun _ => 0) (fun p => 1000 * nI p) 10))), (qn11, .inl (cI, 9, .inl (zg (fun _ => 0) (fun _ => 1000) 9))), (qn12, .inl (cI, 36, .inl (n_X5_lay_qgx (fun _ => 0)))), (qn13, .inl (cI, 36, .inl (n_X5_lay_qgy (fun _ => 0)))), (qn14, .inl (cI, 36, .inl (n_X5_lay_qgz (fun _ => 0)))), (qn15, .inl (cZ, 36, .inl (n_X5_lay_qgu (fun _ => 0))))]) [3, 0, 1, 2, 4, 5, 6, 7] (by decide) rfl
      have hP := hP.sub (ws' := [(qg, .inr (5, [.ref qn9, .ref qn10, .ref qn11, .int 15, .int 1, .int 1, .int n_X5_lay_qg_6, .ref qn12, .ref qn13, .ref qn14, .ref qn15, .int 0])), (qn9, .inl (cI, 10, .inl (zg (fun _ => 0) (fun p => 1000 - 100 * nI p) 10))), (qn10, .inl (cI, 10, .inl (zg (fun _ => 0) (fun p => 1000 * nI p) 10))), (qn11, .inl (cI, 9, .inl (zg (fun _ => 0) (fun _ => 1000) 9))), (qn12, .inl (cI, 36, .inl (n_X5_lay_qgx (fun _ => 0)))), (qn13, .inl (cI, 36, .inl (n_X5_lay_qgy (fun _ => 0)))), (qn14, .inl (cI, 36, .inl (n_X5_lay_qgz (fun _ => 0)))), (qn15, .inl (cZ, 36, .inl (n_X5_lay_qgu (fun _ => 0))))]) [0, 1, 2, 3, 4, 5, 6, 7] rfl
      have hD := hD.sub (ws' := [(qg, .inr (5, [.ref qn9, .ref qn10, .ref qn11, .int 15, .int 1, .int 1, .int n_X5_lay_qg_6, .ref qn12, .ref qn13, .ref qn14, .ref qn15, .int 0])), (qn9, .inl (cI, 10, .inl (zg (fun _ => 0) (fun p => 1000 - 100 * nI p) 10))), (qn10, .inl (cI, 10, .inl (zg (fun _ => 0) (fun p => 1000 * nI p) 10))), (qn11, .inl (cI, 9, .inl (zg (fun _ => 0) (fun _ => 1000) 9))), (qn12, .inl (cI, 36, .inl (n_X5_lay_qgx (fun _ => 0)))), (qn13, .inl (cI, 36, .inl (n_X5_lay_qgy (fun _ => 0)))), (qn14, .inl (cI, 36, .inl (n_X5_lay_qgz (fun _ => 0)))), (qn15, .inl (cZ, 36, .inl (n_X5_lay_qgu (fun _ => 0))))]) [0, 1, 2, 3, 4, 5, 6, 7] (by decide) rfl
      exact W.vret hx hb hr (fun t ht hW => ⟨⟨(qn9, qn10, qn11, qn12, qn13, qn14, qn15), rfl, trivial, ⟨by rw [ht]; exact hP, va_K.moved hW.alike hK, hD⟩⟩, hS.F ht⟩) hS.2.2 dX5_init_142
    have L17 : ∀ (n17 : Nat) (k : Nat), (k ≤ 9) → (9 < k + n17) → ∀ (H : Heap) (locs : List Loc), va_P D vwCl [(qg, .inr (5, [.ref qn9, .ref qn10, .ref qn11, .int 15, .int 0, .int 0, .int 0, .ref qn12, .ref qn13, .ref qn14, .ref qn15, .int 0])), (qn9, .inl (cI, 10, .inl (zg (fun _ => 0) (fun p => 1000 - 100 * nI p) 10))), (qn10, .inl (cI, 10, .inl (zg (fun _ => 0) (fun p => 1000 * nI p) 10))), (qn11, .inl (cI, 9, .inl (zg (fun _ => 0) (fun _ => 1000) k))), (qn12, .inl (cI, 36, .inl (fun _ => 0))), (qn13, .inl (cI, 36, .inl (fun _ => 0))), (qn14, .inl (cI, 36, .inl (fun _ => 0))), (qn15, .inl (cZ, 36, .inl (fun _ => 0)))] H → va_D A [(qg, .inr (5, [.ref qn9, .ref qn10, .ref qn11, .int 15, .int 0, .int 0, .int 0, .ref qn12, .ref qn13, .ref qn14, .ref qn15, .int 0])), (qn9, .inl (cI, 10, .inl (zg (fun _ => 0) (fun p => 1000 - 100 * nI p) 10))), (qn10, .inl (cI, 10, .inl (zg (fun _ => 0) (fun p => 1000 * nI p) 10))), (qn11, .inl (cI, 9, .inl (zg (fun _ => 0) (fun _ => 1000) k))), (qn12, .inl (cI, 36, .inl (fun _ => 0))), (qn13, .inl (cI, 36, .inl (fun _ => 0))), (qn14, .inl (cI, 36, .inl (fun _ => 0))), (qn15, .inl (cZ, 36, .inl (fun _ => 0)))] → va_S A s.heap H locs → ∀ (ls : Array Slot), lv_has ls 2 [(1, .int (nI k)), (0, .ref qg)] → W p l e (headSpec wsX5_init rm_X5_init).room s m ([.ref qg]).toArray below meth c H locs 7 173 (MQ below (Qc_X5_init D cI cZ cJ cD qg A) ([.ref qg]).toArray s 7 173 A) (F0 m 107 ls []) := by
      intro n17
      induction n17 with
      | zero =>
        intro k hk hf17
        exact absurd hf17 (by omega)
      | succ n17 ih17 =>
        intro k hk hf17 H locs hP hD hS ls hl
        refine lv_iload_n hx hb dX5_init_107 rfl (lv_at hl 0 rfl) ?_
        refine lv_bipush (v := 9) hx hb dX5_init_108 (by decide) ?_
        refine lv_icmp_ge (tgt := 128) hx hb dX5_init_110 (by decide) (fun c19 => ?_) (fun c19 => ?_)
        · have ek9 : k = 9 := z_ctr rfl (by omega) hk c19
          subst ek9
          exact X17  _ _ hP hD hS _ (lv_sub hl [1] rfl)
        · refine lv_aload_n hx hb dX5_init_113 rfl (lv_at hl 1 rfl) ?_
          refine va_get (D := D) (ci := 5) (v := .ref qn11) (C := RX5) (T := TX5) (N := 12) hx hb hts (fun w h => List.mem_cons_of_mem _ (List.mem_append_right _ h)) hown hK hP 0 rfl rfl 2 (by decide) (hts (.fieldLink RX5 16 "AtlasFolderModel" "truth" "[I") (List.mem_cons_of_mem _ (List.mem_append_left _ (List.mem_of_getElem? (i := 6) rfl)))) (fun _ h9 => h9) rfl dX5_init_114 ?_
          refine lv_iload_n hx hb dX5_init_117 rfl (lv_at hl 0 rfl) ?_
          refine lv_sipush (v := 1000) hx hb dX5_init_118 (by decide) ?_
          refine va_iast hx hb hK hP hD hS 3 0 rfl rfl (vp_in_nI (z_ctl (n := 9) rfl (by omega) c19) (by omega)) dX5_init_121 (fun H locs hP hD hS => ?_)
          have hP : va_P D vwCl [(qg, .inr (5, [.ref qn9, .ref qn10, .ref qn11, .int 15, .int 0, .int 0, .int 0, .ref qn12, .ref qn13, .ref qn14, .ref qn15, .int 0])), (qn9, .inl (cI, 10, .inl (zg (fun _ => 0) (fun p => 1000 - 100 * nI p) 10))), (qn10, .inl (cI, 10, .inl (zg (fun _ => 0) (fun p => 1000 * nI p) 10))), (qn11, .inl (cI, 9, .inl (upd (zg (fun _ => 0) (fun _ => 1000) k) (nI k).toNatClampNeg 1000))), (qn12, .inl (cI, 36, .inl (fun _ => 0))), (qn13, .inl (cI, 36, .inl (fun _ => 0))), (qn14, .inl (cI, 36, .inl (fun _ => 0))), (qn15, .inl (cZ, 36, .inl (fun _ => 0)))] H := hP
          have hD : va_D A [(qg, .inr (5, [.ref qn9, .ref qn10, .ref qn11, .int 15, .int 0, .int 0, .int 0, .ref qn12, .ref qn13, .ref qn14, .ref qn15, .int 0])), (qn9, .inl (cI, 10, .inl (zg (fun _ => 0) (fun p => 1000 - 100 * nI p) 10))), (qn10, .inl (cI, 10, .inl (zg (fun _ => 0) (fun p => 1000 * nI p) 10))), (qn11, .inl (cI, 9, .inl (upd (zg (fun _ => 0) (fun _ => 1000) k) (nI k).toNatClampNeg 1000))), (qn12, .inl (cI, 36, .inl (fun _ => 0))), (qn13, .inl (cI, 36, .inl (fun _ => 0))), (qn14, .inl (cI, 36, .inl (fun _ => 0))), (qn15, .inl (cZ, 36, .inl (fun _ => 0)))] := hD
          refine lv_iinc (v := nI (k + 1)) (lv' := [(1, .int (nI (k + 1))), (0, .ref qg)]) hx hb dX5_init_122 hl (k := 0) rfl (nI_succ k).symm (by decide) rfl (fun ls hl => ?_)
          refine lv_goto (tgt := 107) hx hb dX5_init_125 (by decide) ?_
          have hk8 : k < 9 := z_ctl rfl (by omega) c19
          have hc8 := z_cl36 (k := k) (by omega)
          have e_0 : upd (zg (fun _ => 0) (fun _ => 1000) k) (nI k).toNatClampNeg 1000 = zg (fun _ => 0) (fun _ => 1000) (k + 1) := zg_put hc8 rfl
          rw [e_0] at hP hD
          exact ih17 (k + 1) (by omega) (by omega) _ _ hP hD hS _ (lv_sub hl [0, 1] rfl)
    have e0_0 := zg_0 (fun _ => 0) (fun _ => 1000)
    have hP : va_P D vwCl [(qg, .inr (5, [.ref qn9, .ref qn10, .ref qn11, .int 15, .int 0, .int 0, .int 0, .ref qn12, .ref qn13, .ref qn14, .ref qn15, .int 0])), (qn9, .inl (cI, 10, .inl (zg (fun _ => 0) (fun p => 1000 - 100 * nI p) 10))), (qn10, .inl (cI, 10, .inl (zg (fun _ => 0) (fun p => 1000 * nI p) 10))), (qn11, .inl (cI, 9, .inl (zg (fun _ => 0) (fun _ => 1000) 0))), (qn12, .inl (cI, 36, .inl (fun _ => 0))), (qn13, .inl (cI, 36, .inl (fun _ => 0))), (qn14, .inl (cI, 36, .inl (fun _ => 0))), (qn15, .inl (cZ, 36, .inl (fun _ => 0)))] H := by rw [e0_0]; exact hP
    have hD : va_D A [(qg, .inr (5, [.ref qn9, .ref qn10, .ref qn11, .int 15, .int 0, .int 0, .int 0, .ref qn12, .ref qn13, .ref qn14, .ref qn15, .int 0])), (qn9, .inl (cI, 10, .inl (zg (fun _ => 0) (fun p => 1000 - 100 * nI p) 10))), (qn10, .inl (cI, 10, .inl (zg (fun _ => 0) (fun p => 1000 * nI p) 10))), (qn11, .inl (cI, 9, .inl (zg (fun _ => 0) (fun _ => 1000) 0))), (qn12, .inl (cI, 36, .inl (fun _ => 0))), (qn13, .inl (cI, 36, .inl (fun _ => 0))), (qn14, .inl (cI, 36, .inl (fun _ => 0))), (qn15, .inl (cZ, 36, .inl (fun _ => 0)))] := by rw [e0_0]; exact hD
    exact L17 (9 + 1) 0 (by omega) (by omega) _ _ hP hD hS _ (zlv (lv_sub (l' := [(1, .int 0), (0, .ref qg)]) hl [0, 1] rfl) (by rfl))
  have L16 : ∀ (n16 : Nat) (k : Nat), (k ≤ 10) → (10 < k + n16) → ∀ (H : Heap) (locs : List Loc), va_P D vwCl [(qg, .inr (5, [.ref qn9, .ref qn10, .ref qn11, .int 15, .int 0, .int 0, .int 0, .ref qn12, .ref qn13, .ref qn14, .ref qn15, .int 0])), (qn9, .inl (cI, 10, .inl (zg (fun _ => 0) (fun p => 1000 - 100 * nI p) k))), (qn10, .inl (cI, 10, .inl (zg (fun _ => 0) (fun p => 1000 * nI p) k))), (qn11, .inl (cI, 9, .inl (fun _ => 0))), (qn12, .inl (cI, 36, .inl (fun _ => 0))), (qn13, .inl (cI, 36, .inl (fun _ => 0))), (qn14, .inl (cI, 36, .inl (fun _ => 0))), (qn15, .inl (cZ, 36, .inl (fun _ => 0)))] H → va_D A [(qg, .inr (5, [.ref qn9, .ref qn10, .ref qn11, .int 15, .int 0, .int 0, .int 0, .ref qn12, .ref qn13, .ref qn14, .ref qn15, .int 0])), (qn9, .inl (cI, 10, .inl (zg (fun _ => 0) (fun p => 1000 - 100 * nI p) k))), (qn10, .inl (cI, 10, .inl (zg (fun _ => 0) (fun p => 1000 * nI p) k))), (qn11, .inl (cI, 9, .inl (fun _ => 0))), (qn12, .inl (cI, 36, .inl (fun _ => 0))), (qn13, .inl (cI, 36, .inl (fun _ => 0))), (qn14, .inl (cI, 36, .inl (fun _ => 0))), (qn15, .inl (cZ, 36, .inl (fun _ => 0)))] → va_S A s.heap H locs → ∀ (ls : Array Slot), lv_has ls 2 [(1, .int (nI k)), (0, .ref qg)] → W p l e (headSpec wsX5_init rm_X5_init).room s m ([.ref qg]).toArray below meth c H locs 7 173 (MQ below (Qc_X5_init D cI cZ cJ cD qg A) ([.ref qg]).toArray s 7 173 A) (F0 m 68 ls []) := by
    intro n16
    induction n16 with
    | zero =>
      intro k hk hf16
      exact absurd hf16 (by omega)
    | succ n16 ih16 =>
      intro k hk hf16 H locs hP hD hS ls hl
      refine lv_iload_n hx hb dX5_init_68 rfl (lv_at hl 0 rfl) ?_
      refine lv_bipush (v := 10) hx hb dX5_init_69 (by decide) ?_
      refine lv_icmp_ge (tgt := 105) hx hb dX5_init_71 (by decide) (fun c20 => ?_) (fun c20 => ?_)
      · have ek9 : k = 10 := z_ctr rfl (by omega) hk c20
        subst ek9
        exact X16  _ _ hP hD hS _ (lv_sub hl [1] rfl)
      · refine lv_aload_n hx hb dX5_init_74 rfl (lv_at hl 1 rfl) ?_
        refine va_get (D := D) (ci := 5) (v := .ref qn9) (C := RX5) (T := TX5) (N := 12) hx hb hts (fun w h => List.mem_cons_of_mem _ (List.mem_append_right _ h)) hown hK hP 0 rfl rfl 0 (by decide) (hts (.fieldLink RX5 7 "AtlasFolderModel" "width" "[I") (List.mem_cons_of_mem _ (List.mem_append_left _ (List.mem_of_getElem? (i := 4) rfl)))) (fun _ h9 => h9) rfl dX5_init_75 ?_
        refine lv_iload_n hx hb dX5_init_78 rfl (lv_at hl 0 rfl) ?_
        refine lv_sipush (v := 1000) hx hb dX5_init_79 (by decide) ?_
        refine lv_bipush (v := 100) hx hb dX5_init_82 (by decide) ?_
        refine lv_iload_n hx hb dX5_init_84 rfl (lv_at hl 0 rfl) ?_
        refine lv_imul hx hb dX5_init_85 ?_
        refine lv_isub hx hb dX5_init_86 ?_
        refine va_iast hx hb hK hP hD hS 1 0 rfl rfl (vp_in_nI (z_ctl (n := 10) rfl (by omega) c20) (by omega)) dX5_init_87 (fun H locs hP hD hS => ?_)
        have hP : va_P D vwCl [(qg, .inr (5, [.ref qn9, .ref qn10, .ref qn11, .int 15, .int 0, .int 0, .int 0, .ref qn12, .ref qn13, .ref qn14, .ref qn15, .int 0])), (qn9, .inl (cI, 10, .inl (upd (zg (fun _ => 0) (fun p => 1000 - 100 * nI p) k) (nI k).toNatClampNeg (1000 - (100 * (nI k)))))), (qn10, .inl (cI, 10, .inl (zg (fun _ => 0) (fun p => 1000 * nI p) k))), (qn11, .inl (cI, 9, .inl (fun _ => 0))), (qn12, .inl (cI, 36, .inl (fun _ => 0))), (qn13, .inl (cI, 36, .inl (fun _ => 0))), (qn14, .inl (cI, 36, .inl (fun _ => 0))), (qn15, .inl (cZ, 36, .inl (fun _ => 0)))] H := hP
        have hD : va_D A [(qg, .inr (5, [.ref qn9, .ref qn10, .ref qn11, .int 15, .int 0, .int 0, .int 0, .ref qn12, .ref qn13, .ref qn14, .ref qn15, .int 0])), (qn9, .inl (cI, 10, .inl (upd (zg (fun _ => 0) (fun p => 1000 - 100 * nI p) k) (nI k).toNatClampNeg (1000 - (100 * (nI k)))))), (qn10, .inl (cI, 10, .inl (zg (fun _ => 0) (fun p => 1000 * nI p) k))), (qn11, .inl (cI, 9, .inl (fun _ => 0))), (qn12, .inl (cI, 36, .inl (fun _ => 0))), (qn13, .inl (cI, 36, .inl (fun _ => 0))), (qn14, .inl (cI, 36, .inl (fun _ => 0))), (qn15, .inl (cZ, 36, .inl (fun _ => 0)))] := hD
        refine lv_aload_n hx hb dX5_init_88 rfl (lv_at hl 1 rfl) ?_
        refine va_get (D := D) (ci := 5) (v := .ref qn10) (C := RX5) (T := TX5) (N := 12) hx hb hts (fun w h => List.mem_cons_of_mem _ (List.mem_append_right _ h)) hown hK hP 0 rfl rfl 1 (by decide) (hts (.fieldLink RX5 13 "AtlasFolderModel" "height" "[I") (List.mem_cons_of_mem _ (List.mem_append_left _ (List.mem_of_getElem? (i := 5) rfl)))) (fun _ h9 => h9) rfl dX5_init_89 ?_
        refine lv_iload_n hx hb dX5_init_92 rfl (lv_at hl 0 rfl) ?_
        refine lv_sipush (v := 1000) hx hb dX5_init_93 (by decide) ?_
        refine lv_iload_n hx hb dX5_init_96 rfl (lv_at hl 0 rfl) ?_
        refine lv_imul hx hb dX5_init_97 ?_
        refine va_iast hx hb hK hP hD hS 2 0 rfl rfl (vp_in_nI (z_ctl (n := 10) rfl (by omega) c20) (by omega)) dX5_init_98 (fun H locs hP hD hS => ?_)
        have hP : va_P D vwCl [(qg, .inr (5, [.ref qn9, .ref qn10, .ref qn11, .int 15, .int 0, .int 0, .int 0, .ref qn12, .ref qn13, .ref qn14, .ref qn15, .int 0])), (qn9, .inl (cI, 10, .inl (upd (zg (fun _ => 0) (fun p => 1000 - 100 * nI p) k) (nI k).toNatClampNeg (1000 - (100 * (nI k)))))), (qn10, .inl (cI, 10, .inl (upd (zg (fun _ => 0) (fun p => 1000 * nI p) k) (nI k).toNatClampNeg (1000 * (nI k))))), (qn11, .inl (cI, 9, .inl (fun _ => 0))), (qn12, .inl (cI, 36, .inl (fun _ => 0))), (qn13, .inl (cI, 36, .inl (fun _ => 0))), (qn14, .inl (cI, 36, .inl (fun _ => 0))), (qn15, .inl (cZ, 36, .inl (fun _ => 0)))] H := hP
        have hD : va_D A [(qg, .inr (5, [.ref qn9, .ref qn10, .ref qn11, .int 15, .int 0, .int 0, .int 0, .ref qn12, .ref qn13, .ref qn14, .ref qn15, .int 0])), (qn9, .inl (cI, 10, .inl (upd (zg (fun _ => 0) (fun p => 1000 - 100 * nI p) k) (nI k).toNatClampNeg (1000 - (100 * (nI k)))))), (qn10, .inl (cI, 10, .inl (upd (zg (fun _ => 0) (fun p => 1000 * nI p) k) (nI k).toNatClampNeg (1000 * (nI k))))), (qn11, .inl (cI, 9, .inl (fun _ => 0))), (qn12, .inl (cI, 36, .inl (fun _ => 0))), (qn13, .inl (cI, 36, .inl (fun _ => 0))), (qn14, .inl (cI, 36, .inl (fun _ => 0))), (qn15, .inl (cZ, 36, .inl (fun _ => 0)))] := hD
        refine lv_iinc (v := nI (k + 1)) (lv' := [(1, .int (nI (k + 1))), (0, .ref qg)]) hx hb dX5_init_99 hl (k := 0) rfl (nI_succ k).symm (by decide) rfl (fun ls hl => ?_)
        refine lv_goto (tgt := 68) hx hb dX5_init_102 (by decide) ?_
        have hk8 : k < 10 := z_ctl rfl (by omega) c20
        have hc8 := z_cl36 (k := k) (by omega)
        have e_0 : upd (zg (fun _ => 0) (fun p => 1000 - 100 * nI p) k) (nI k).toNatClampNeg (1000 - (100 * (nI k))) = zg (fun _ => 0) (fun p => 1000 - 100 * nI p) (k + 1) := zg_put hc8 rfl
        have e_1 : upd (zg (fun _ => 0) (fun p => 1000 * nI p) k) (nI k).toNatClampNeg (1000 * (nI k)) = zg (fun _ => 0) (fun p => 1000 * nI p) (k + 1) := zg_put hc8 rfl
        rw [e_0, e_1] at hP hD
        exact ih16 (k + 1) (by omega) (by omega) _ _ hP hD hS _ (lv_sub hl [0, 1] rfl)
  have e0_0 := zg_0 (fun _ => 0) (fun p => 1000 - 100 * nI p)
  have e0_1 := zg_0 (fun _ => 0) (fun p => 1000 * nI p)
  have hP : va_P D vwCl [(qg, .inr (5, [.ref qn9, .ref qn10, .ref qn11, .int 15, .int 0, .int 0, .int 0, .ref qn12, .ref qn13, .ref qn14, .ref qn15, .int 0])), (qn9, .inl (cI, 10, .inl (zg (fun _ => 0) (fun p => 1000 - 100 * nI p) 0))), (qn10, .inl (cI, 10, .inl (zg (fun _ => 0) (fun p => 1000 * nI p) 0))), (qn11, .inl (cI, 9, .inl (fun _ => 0))), (qn12, .inl (cI, 36, .inl (fun _ => 0))), (qn13, .inl (cI, 36, .inl (fun _ => 0))), (qn14, .inl (cI, 36, .inl (fun _ => 0))), (qn15, .inl (cZ, 36, .inl (fun _ => 0)))] H := by rw [e0_0, e0_1]; exact hP
  have hD : va_D A [(qg, .inr (5, [.ref qn9, .ref qn10, .ref qn11, .int 15, .int 0, .int 0, .int 0, .ref qn12, .ref qn13, .ref qn14, .ref qn15, .int 0])), (qn9, .inl (cI, 10, .inl (zg (fun _ => 0) (fun p => 1000 - 100 * nI p) 0))), (qn10, .inl (cI, 10, .inl (zg (fun _ => 0) (fun p => 1000 * nI p) 0))), (qn11, .inl (cI, 9, .inl (fun _ => 0))), (qn12, .inl (cI, 36, .inl (fun _ => 0))), (qn13, .inl (cI, 36, .inl (fun _ => 0))), (qn14, .inl (cI, 36, .inl (fun _ => 0))), (qn15, .inl (cZ, 36, .inl (fun _ => 0)))] := by rw [e0_0, e0_1]; exact hD
  exact L16 (10 + 1) 0 (by omega) (by omega) _ _ hP hD hS _ (zlv (lv_sub (l' := [(1, .int 0), (0, .ref qg)]) hl [0, 1] rfl) (by rfl))
