theorem z_ctr {k n : Nat} {N : Int32} (hN : N = nI n) (hn : n < 2 ^ 31) (hk : k ≤ n) (h : N ≤ nI k) : k = n := by
  rw [hN] at h
  exact z_nge hn hk h
theorem z_ctl {k n : Nat} {N : Int32} (hN : N = nI n) (hn : k < 2 ^ 31) (h : ¬ N ≤ nI k) : k < n := by
  rw [hN] at h
  exact z_nlt hn h
theorem z_cl36 {k : Nat} (hk : k < 36) : (nI k).toNatClampNeg = k := nI_clamp (by omega)
abbrev rm_X2_init : Room := { frames := 1, cells := 2, slots := 20, locals := 20 }
abbrev Qc_X2_init (D : va_G) (cI cZ cJ cD : ClassId) (qm : Nat) (A : Nat → Prop) : Array Value → State → Outcome → State → Prop := va_Qv (fun u : Nat × Nat => True) (fun (u : Nat × Nat) (t : State) => zPost D cI cZ cJ cD A [(qm, .inr (2, [.ref u.1, .ref u.2])), (u.1, .inl (cI, 10, .inl (zg (fun _ => 0) (fun p => 1000 - 100 * nI p) 10))), (u.2, .inl (cI, 10, .inl (zg (fun _ => 0) (fun p => 1000 * nI p) 10)))] () t) A
set_option maxHeartbeats 4000000 in
set_option maxRecDepth 100000 in
theorem c_X2_init (l : Launch) (D : va_G) (cI cZ cJ cD : ClassId) (qm : Nat) (sz : Nat)  : Met l yX2_init wsX2_init rm_X2_init (va_Pc [.ref qm] (zPreW D cI cZ cJ cD [(qm, .inr (2, [.null, .null]))] sz)) (Qc_X2_init D cI cZ cJ cD qm (va_A [(qm, .inr (2, [.null, .null]))] sz)) 2 20 (va_A [(qm, .inr (2, [.null, .null]))] sz) := by
  refine Met.ofW (cc := cX2_init) (maxL := 2) (ret := none) (by decide) rfl ?_
  intro p e s m args below meth c s₁ B hml hv
  obtain ⟨rfl, hsz, hP, hK, hD0⟩ := hv
  have hx := B.exec
  have hb := B.bytes
  have hr := B.returns
  have hts := atoms_spec (ws := wsX2_init) B.pre
  have hown : s.vm.findClass RX2 = some m.cls := findClass_of_methodNamed B.named
  have hlocks := B.notSynchronized
  have hin : meth.name = "<init>" := (name_of_methodNamed B.named B.method).1
  subst hsz
  have hD := hD0.self (sz := s.heap.size)
  generalize hAe : va_A [(qm, .inr (2, [.null, .null]))] s.heap.size = A at hD ⊢
  have hA : ∀ q : Nat, s.heap.size ≤ q → A q := fun q h => by rw [← hAe]; exact Or.inr h
  have hS : va_S A s.heap s.heap [] := va_S.rf
  have hl := lv_entry ([.ref qm]) (n := 2) (Nat.le_of_ble_eq_true rfl)
  rw [lg_entry_eq]
  generalize (lg_sl ([.ref qm]) ++ List.replicate (2 - (lg_sl ([.ref qm])).length) Slot.unset).toArray = ls at hl ⊢
  have hl : lv_has ls 2 [(0, .ref qm)] := hl
  have hP : va_P D vwCl [(qm, .inr (2, [.null, .null]))] s.heap := hP
  have hP := hP
  refine lv_aload_n hx hb dX2_init_0 rfl (lv_at hl 0 rfl) ?_
  refine W.objInit hx hb hown (hts (.methodLink RX2 3 objectInit) (List.mem_cons_of_mem _ (List.mem_append_left _ (List.mem_of_getElem? (i := 0) rfl)))) (hts (.instanceMethod objectInit) (List.mem_cons_of_mem _ (List.mem_append_left _ (List.mem_of_getElem? (i := 1) rfl)))) (hts (.code objectInit ⟨#[0xb1]⟩ 1 none) (List.mem_cons_of_mem _ (List.mem_append_left _ (List.mem_of_getElem? (i := 2) rfl)))) rfl (by rw [hml]; exact hl.1) rfl dX2_init_1 (Nat.le_of_ble_eq_true rfl) (Nat.le_of_ble_eq_true rfl) ?_
  refine W.eq (g2 := F0 m 4 ls []) rfl ?_
  refine lv_aload_n hx hb dX2_init_4 rfl (lv_at hl 0 rfl) ?_
  refine lv_bipush (v := 10) hx hb dX2_init_5 (by decide) ?_
  refine va_newa (atype := .int) (a0 := (10, .inl (fun _ => 0))) hx hb (hts (.arrayClass .int) (List.mem_cons_of_mem _ (List.mem_append_left _ (List.mem_of_getElem? (i := 3) rfl)))) rfl hK hP hD hS hA (fun cA => rfl) (by decide) rfl (by decide) (Nat.le_of_ble_eq_true rfl) (Nat.le_of_ble_eq_true rfl) dX2_init_7 (fun qn3 cA H hK hP hD hS => ?_)
  obtain rfl : cI = cA := Option.some.inj ((hK.2 0 _ rfl).2.symm.trans (hK.2 2 _ rfl).2)
  have hK := hK.sub (tys' := zT cI cZ cJ cD) [0, 1] rfl
  have hP : va_P D vwCl [(qm, .inr (2, [.null, .null])), (qn3, .inl (cI, 10, .inl (fun _ => 0)))] H := hP
  have hD : va_D A [(qm, .inr (2, [.null, .null])), (qn3, .inl (cI, 10, .inl (fun _ => 0)))] := hD
  refine W.widen (k := 1) (n := 10) (by decide) (by decide) ?_
  refine va_putF (D := D) (ci := 2) (v := .ref qn3) (ty := (.array .int)) (C := RX2) (T := TX2) (N := 2) hx hb hts (fun w h => List.mem_cons_of_mem _ (List.mem_append_right _ h)) tyX2 tyX2_ok nmX2 hown hK hP hD hS 0 rfl rfl 0 (by decide) (hts (.fieldLink RX2 9 "AtlasFolder$MapTable" "widths" "[I") (List.mem_cons_of_mem _ (List.mem_append_left _ (List.mem_of_getElem? (i := 4) rfl)))) (fun _ h9 => h9) rfl hin rfl (by decide +kernel) rfl rfl (Nat.le_of_ble_eq_true rfl) dX2_init_9 (fun H locs hP hD hS => ?_)
  have hP : va_P D vwCl [(qm, .inr (2, [.ref qn3, .null])), (qn3, .inl (cI, 10, .inl (fun _ => 0)))] H := hP
  have hD : va_D A [(qm, .inr (2, [.ref qn3, .null])), (qn3, .inl (cI, 10, .inl (fun _ => 0)))] := hD
  refine lv_aload_n hx hb dX2_init_12 rfl (lv_at hl 0 rfl) ?_
  refine lv_bipush (v := 10) hx hb dX2_init_13 (by decide) ?_
  refine va_newa (atype := .int) (a0 := (10, .inl (fun _ => 0))) hx hb (hts (.arrayClass .int) (List.mem_cons_of_mem _ (List.mem_append_left _ (List.mem_of_getElem? (i := 3) rfl)))) rfl hK hP hD hS hA (fun cA => rfl) (by decide) rfl (by decide) (Nat.le_of_ble_eq_true rfl) (Nat.le_of_ble_eq_true rfl) dX2_init_15 (fun qn4 cA H hK hP hD hS => ?_)
  obtain rfl : cI = cA := Option.some.inj ((hK.2 0 _ rfl).2.symm.trans (hK.2 2 _ rfl).2)
  have hK := hK.sub (tys' := zT cI cZ cJ cD) [0, 1] rfl
  have hP : va_P D vwCl [(qm, .inr (2, [.ref qn3, .null])), (qn3, .inl (cI, 10, .inl (fun _ => 0))), (qn4, .inl (cI, 10, .inl (fun _ => 0)))] H := hP
  have hD : va_D A [(qm, .inr (2, [.ref qn3, .null])), (qn3, .inl (cI, 10, .inl (fun _ => 0))), (qn4, .inl (cI, 10, .inl (fun _ => 0)))] := hD
  refine W.widen (k := 2) (n := 20) (by decide) (by decide) ?_
  refine va_putF (D := D) (ci := 2) (v := .ref qn4) (ty := (.array .int)) (C := RX2) (T := TX2) (N := 2) hx hb hts (fun w h => List.mem_cons_of_mem _ (List.mem_append_right _ h)) tyX2 tyX2_ok nmX2 hown hK hP hD hS 0 rfl rfl 1 (by decide) (hts (.fieldLink RX2 15 "AtlasFolder$MapTable" "heights" "[I") (List.mem_cons_of_mem _ (List.mem_append_left _ (List.mem_of_getElem? (i := 5) rfl)))) (fun _ h9 => h9) rfl hin rfl (by decide +kernel) rfl rfl (Nat.le_of_ble_eq_true rfl) dX2_init_17 (fun H locs hP hD hS => ?_)
  have hP : va_P D vwCl [(qm, .inr (2, [.ref qn3, .ref qn4])), (qn3, .inl (cI, 10, .inl (fun _ => 0))), (qn4, .inl (cI, 10, .inl (fun _ => 0)))] H := hP
  have hD : va_D A [(qm, .inr (2, [.ref qn3, .ref qn4])), (qn3, .inl (cI, 10, .inl (fun _ => 0))), (qn4, .inl (cI, 10, .inl (fun _ => 0)))] := hD
  refine lv_iconst (v := 0) hx hb dX2_init_20 (by decide) ?_
  refine lv_istore_n (lv' := [(1, .int 0), (0, .ref qm)]) hx hb dX2_init_21 rfl hl (by decide) rfl (fun ls hl => ?_)
  have X5 : ∀ (H : Heap) (locs : List Loc), va_P D vwCl [(qm, .inr (2, [.ref qn3, .ref qn4])), (qn3, .inl (cI, 10, .inl (zg (fun _ => 0) (fun p => 1000 - 100 * nI p) 10))), (qn4, .inl (cI, 10, .inl (zg (fun _ => 0) (fun p => 1000 * nI p) 10)))] H → va_D A [(qm, .inr (2, [.ref qn3, .ref qn4])), (qn3, .inl (cI, 10, .inl (zg (fun _ => 0) (fun p => 1000 - 100 * nI p) 10))), (qn4, .inl (cI, 10, .inl (zg (fun _ => 0) (fun p => 1000 * nI p) 10)))] → va_S A s.heap H locs → ∀ (ls : Array Slot), lv_has ls 2 [(0, .ref qm)] → W p l e (headSpec wsX2_init rm_X2_init).room s m ([.ref qm]).toArray below meth c H locs 2 20 (MQ below (Qc_X2_init D cI cZ cJ cD qm A) ([.ref qm]).toArray s 2 20 A) (F0 m 59 ls []) := by
    intro  H locs hP hD hS ls hl
    have hP := hP.sub (ws' := [(qm, .inr (2, [.ref qn3, .ref qn4])), (qn3, .inl (cI, 10, .inl (zg (fun _ => 0) (fun p => 1000 - 100 * nI p) 10))), (qn4, .inl (cI, 10, .inl (zg (fun _ => 0) (fun p => 1000 * nI p) 10)))]) [0, 1, 2] rfl
    have hD := hD.sub (ws' := [(qm, .inr (2, [.ref qn3, .ref qn4])), (qn3, .inl (cI, 10, .inl (zg (fun _ => 0) (fun p => 1000 - 100 * nI p) 10))), (qn4, .inl (cI, 10, .inl (zg (fun _ => 0) (fun p => 1000 * nI p) 10)))]) [0, 1, 2] (by decide) rfl
    exact W.vret hx hb hr (fun t ht hW => ⟨⟨(qn3, qn4), rfl, trivial, ⟨by rw [ht]; exact hP, va_K.moved hW.alike hK, hD⟩⟩, hS.F ht⟩) hS.2.2 dX2_init_59
  have L5 : ∀ (n5 : Nat) (k : Nat), (k ≤ 10) → (10 < k + n5) → ∀ (H : Heap) (locs : List Loc), va_P D vwCl [(qm, .inr (2, [.ref qn3, .ref qn4])), (qn3, .inl (cI, 10, .inl (zg (fun _ => 0) (fun p => 1000 - 100 * nI p) k))), (qn4, .inl (cI, 10, .inl (zg (fun _ => 0) (fun p => 1000 * nI p) k)))] H → va_D A [(qm, .inr (2, [.ref qn3, .ref qn4])), (qn3, .inl (cI, 10, .inl (zg (fun _ => 0) (fun p => 1000 - 100 * nI p) k))), (qn4, .inl (cI, 10, .inl (zg (fun _ => 0) (fun p => 1000 * nI p) k)))] → va_S A s.heap H locs → ∀ (ls : Array Slot), lv_has ls 2 [(1, .int (nI k)), (0, .ref qm)] → W p l e (headSpec wsX2_init rm_X2_init).room s m ([.ref qm]).toArray below meth c H locs 2 20 (MQ below (Qc_X2_init D cI cZ cJ cD qm A) ([.ref qm]).toArray s 2 20 A) (F0 m 22 ls []) := by
    intro n5
    induction n5 with
    | zero =>
      intro k hk hf5
      exact absurd hf5 (by omega)
    | succ n5 ih5 =>
      intro k hk hf5 H locs hP hD hS ls hl
      refine lv_iload_n hx hb dX2_init_22 rfl (lv_at hl 0 rfl) ?_
      refine lv_bipush (v := 10) hx hb dX2_init_23 (by decide) ?_
      refine lv_icmp_ge (tgt := 59) hx hb dX2_init_25 (by decide) (fun c6 => ?_) (fun c6 => ?_)
      · have ek9 : k = 10 := z_ctr rfl (by omega) hk c6
        subst ek9
        exact X5  _ _ hP hD hS _ (lv_sub hl [1] rfl)
      · refine lv_aload_n hx hb dX2_init_28 rfl (lv_at hl 1 rfl) ?_
        refine va_get (D := D) (ci := 2) (v := .ref qn3) (C := RX2) (T := TX2) (N := 2) hx hb hts (fun w h => List.mem_cons_of_mem _ (List.mem_append_right _ h)) hown hK hP 0 rfl rfl 0 (by decide) (hts (.fieldLink RX2 9 "AtlasFolder$MapTable" "widths" "[I") (List.mem_cons_of_mem _ (List.mem_append_left _ (List.mem_of_getElem? (i := 4) rfl)))) (fun _ h9 => h9) rfl dX2_init_29 ?_
        refine lv_iload_n hx hb dX2_init_32 rfl (lv_at hl 0 rfl) ?_
        refine lv_sipush (v := 1000) hx hb dX2_init_33 (by decide) ?_
        refine lv_bipush (v := 100) hx hb dX2_init_36 (by decide) ?_
        refine lv_iload_n hx hb dX2_init_38 rfl (lv_at hl 0 rfl) ?_
        refine lv_imul hx hb dX2_init_39 ?_
        refine lv_isub hx hb dX2_init_40 ?_
        refine va_iast hx hb hK hP hD hS 1 0 rfl rfl (vp_in_nI (z_ctl (n := 10) rfl (by omega) c6) (by omega)) dX2_init_41 (fun H locs hP hD hS => ?_)
        have hP : va_P D vwCl [(qm, .inr (2, [.ref qn3, .ref qn4])), (qn3, .inl (cI, 10, .inl (upd (zg (fun _ => 0) (fun p => 1000 - 100 * nI p) k) (nI k).toNatClampNeg (1000 - (100 * (nI k)))))), (qn4, .inl (cI, 10, .inl (zg (fun _ => 0) (fun p => 1000 * nI p) k)))] H := hP
        have hD : va_D A [(qm, .inr (2, [.ref qn3, .ref qn4])), (qn3, .inl (cI, 10, .inl (upd (zg (fun _ => 0) (fun p => 1000 - 100 * nI p) k) (nI k).toNatClampNeg (1000 - (100 * (nI k)))))), (qn4, .inl (cI, 10, .inl (zg (fun _ => 0) (fun p => 1000 * nI p) k)))] := hD
        refine lv_aload_n hx hb dX2_init_42 rfl (lv_at hl 1 rfl) ?_
        refine va_get (D := D) (ci := 2) (v := .ref qn4) (C := RX2) (T := TX2) (N := 2) hx hb hts (fun w h => List.mem_cons_of_mem _ (List.mem_append_right _ h)) hown hK hP 0 rfl rfl 1 (by decide) (hts (.fieldLink RX2 15 "AtlasFolder$MapTable" "heights" "[I") (List.mem_cons_of_mem _ (List.mem_append_left _ (List.mem_of_getElem? (i := 5) rfl)))) (fun _ h9 => h9) rfl dX2_init_43 ?_
        refine lv_iload_n hx hb dX2_init_46 rfl (lv_at hl 0 rfl) ?_
        refine lv_sipush (v := 1000) hx hb dX2_init_47 (by decide) ?_
        refine lv_iload_n hx hb dX2_init_50 rfl (lv_at hl 0 rfl) ?_
        refine lv_imul hx hb dX2_init_51 ?_
        refine va_iast hx hb hK hP hD hS 2 0 rfl rfl (vp_in_nI (z_ctl (n := 10) rfl (by omega) c6) (by omega)) dX2_init_52 (fun H locs hP hD hS => ?_)
        have hP : va_P D vwCl [(qm, .inr (2, [.ref qn3, .ref qn4])), (qn3, .inl (cI, 10, .inl (upd (zg (fun _ => 0) (fun p => 1000 - 100 * nI p) k) (nI k).toNatClampNeg (1000 - (100 * (nI k)))))), (qn4, .inl (cI, 10, .inl (upd (zg (fun _ => 0) (fun p => 1000 * nI p) k) (nI k).toNatClampNeg (1000 * (nI k)))))] H := hP
        have hD : va_D A [(qm, .inr (2, [.ref qn3, .ref qn4])), (qn3, .inl (cI, 10, .inl (upd (zg (fun _ => 0) (fun p => 1000 - 100 * nI p) k) (nI k).toNatClampNeg (1000 - (100 * (nI k)))))), (qn4, .inl (cI, 10, .inl (upd (zg (fun _ => 0) (fun p => 1000 * nI p) k) (nI k).toNatClampNeg (1000 * (nI k)))))] := hD
        refine lv_iinc (v := nI (k + 1)) (lv' := [(1, .int (nI (k + 1))), (0, .ref qm)]) hx hb dX2_init_53 hl (k := 0) rfl (nI_succ k).symm (by decide) rfl (fun ls hl => ?_)
        refine lv_goto (tgt := 22) hx hb dX2_init_56 (by decide) ?_
        have hk8 : k < 10 := z_ctl rfl (by omega) c6
        have hc8 := z_cl36 (k := k) (by omega)
        have e_0 : upd (zg (fun _ => 0) (fun p => 1000 - 100 * nI p) k) (nI k).toNatClampNeg (1000 - (100 * (nI k))) = zg (fun _ => 0) (fun p => 1000 - 100 * nI p) (k + 1) := zg_put hc8 rfl
        have e_1 : upd (zg (fun _ => 0) (fun p => 1000 * nI p) k) (nI k).toNatClampNeg (1000 * (nI k)) = zg (fun _ => 0) (fun p => 1000 * nI p) (k + 1) := zg_put hc8 rfl
        rw [e_0, e_1] at hP hD
        exact ih5 (k + 1) (by omega) (by omega) _ _ hP hD hS _ (lv_sub hl [0, 1] rfl)
  have e0_0 := zg_0 (fun _ => 0) (fun p => 1000 - 100 * nI p)
  have e0_1 := zg_0 (fun _ => 0) (fun p => 1000 * nI p)
  have hP : va_P D vwCl [(qm, .inr (2, [.ref qn3, .ref qn4])), (qn3, .inl (cI, 10, .inl (zg (fun _ => 0) (fun p => 1000 - 100 * nI p) 0))), (qn4, .inl (cI, 10, .inl (zg (fun _ => 0) (fun p => 1000 * nI p) 0)))] H := by rw [e0_0, e0_1]; exact hP
  have hD : va_D A [(qm, .inr (2, [.ref qn3, .ref qn4])), (qn3, .inl (cI, 10, .inl (zg (fun _ => 0) (fun p => 1000 - 100 * nI p) 0))), (qn4, .inl (cI, 10, .inl (zg (fun _ => 0) (fun p => 1000 * nI p) 0)))] := by rw [e0_0, e0_1]; exact hD
  exact L5 (10 + 1) 0 (by omega) (by omega) _ _ hP hD hS _ (zlv (lv_sub (l' := [(1, .int 0), (0, .ref qm)]) hl [0, 1] rfl) (by rfl))
abbrev rm_X0_init : Room := { frames := 1, cells := 1, slots := 9, locals := 20 }
abbrev Qc_X0_init (D : va_G) (cI cZ cJ cD : ClassId) (qb : Nat) (A : Nat → Prop) : Array Value → State → Outcome → State → Prop := va_Qv (fun u : Nat => True) (fun (u : Nat) (t : State) => zPost D cI cZ cJ cD A [(qb, .inr (0, [.ref u])), (u, .inl (cI, 9, .inl (zg (fun _ => 0) (fun _ => 1000) 9)))] () t) A
set_option maxHeartbeats 4000000 in
set_option maxRecDepth 100000 in
theorem c_X0_init (l : Launch) (D : va_G) (cI cZ cJ cD : ClassId) (qb : Nat) (sz : Nat)  : Met l yX0_init wsX0_init rm_X0_init (va_Pc [.ref qb] (zPreW D cI cZ cJ cD [(qb, .inr (0, [.null]))] sz)) (Qc_X0_init D cI cZ cJ cD qb (va_A [(qb, .inr (0, [.null]))] sz)) 1 9 (va_A [(qb, .inr (0, [.null]))] sz) := by
  refine Met.ofW (cc := cX0_init) (maxL := 2) (ret := none) (by decide) rfl ?_
  intro p e s m args below meth c s₁ B hml hv
  obtain ⟨rfl, hsz, hP, hK, hD0⟩ := hv
  have hx := B.exec
  have hb := B.bytes
  have hr := B.returns
  have hts := atoms_spec (ws := wsX0_init) B.pre
  have hown : s.vm.findClass RX0 = some m.cls := findClass_of_methodNamed B.named
  have hlocks := B.notSynchronized
  have hin : meth.name = "<init>" := (name_of_methodNamed B.named B.method).1
  subst hsz
  have hD := hD0.self (sz := s.heap.size)
  generalize hAe : va_A [(qb, .inr (0, [.null]))] s.heap.size = A at hD ⊢
  have hA : ∀ q : Nat, s.heap.size ≤ q → A q := fun q h => by rw [← hAe]; exact Or.inr h
  have hS : va_S A s.heap s.heap [] := va_S.rf
  have hl := lv_entry ([.ref qb]) (n := 2) (Nat.le_of_ble_eq_true rfl)
  rw [lg_entry_eq]
  generalize (lg_sl ([.ref qb]) ++ List.replicate (2 - (lg_sl ([.ref qb])).length) Slot.unset).toArray = ls at hl ⊢
  have hl : lv_has ls 2 [(0, .ref qb)] := hl
  have hP : va_P D vwCl [(qb, .inr (0, [.null]))] s.heap := hP
  have hP := hP
  refine lv_aload_n hx hb dX0_init_0 rfl (lv_at hl 0 rfl) ?_
  refine W.objInit hx hb hown (hts (.methodLink RX0 3 objectInit) (List.mem_cons_of_mem _ (List.mem_append_left _ (List.mem_of_getElem? (i := 0) rfl)))) (hts (.instanceMethod objectInit) (List.mem_cons_of_mem _ (List.mem_append_left _ (List.mem_of_getElem? (i := 1) rfl)))) (hts (.code objectInit ⟨#[0xb1]⟩ 1 none) (List.mem_cons_of_mem _ (List.mem_append_left _ (List.mem_of_getElem? (i := 2) rfl)))) rfl (by rw [hml]; exact hl.1) rfl dX0_init_1 (Nat.le_of_ble_eq_true rfl) (Nat.le_of_ble_eq_true rfl) ?_
  refine W.eq (g2 := F0 m 4 ls []) rfl ?_
  refine lv_aload_n hx hb dX0_init_4 rfl (lv_at hl 0 rfl) ?_
  refine lv_bipush (v := 9) hx hb dX0_init_5 (by decide) ?_
  refine va_newa (atype := .int) (a0 := (9, .inl (fun _ => 0))) hx hb (hts (.arrayClass .int) (List.mem_cons_of_mem _ (List.mem_append_left _ (List.mem_of_getElem? (i := 3) rfl)))) rfl hK hP hD hS hA (fun cA => rfl) (by decide) rfl (by decide) (Nat.le_of_ble_eq_true rfl) (Nat.le_of_ble_eq_true rfl) dX0_init_7 (fun qn2 cA H hK hP hD hS => ?_)
  obtain rfl : cI = cA := Option.some.inj ((hK.2 0 _ rfl).2.symm.trans (hK.2 2 _ rfl).2)
  have hK := hK.sub (tys' := zT cI cZ cJ cD) [0, 1] rfl
  have hP : va_P D vwCl [(qb, .inr (0, [.null])), (qn2, .inl (cI, 9, .inl (fun _ => 0)))] H := hP
  have hD : va_D A [(qb, .inr (0, [.null])), (qn2, .inl (cI, 9, .inl (fun _ => 0)))] := hD
  refine W.widen (k := 1) (n := 9) (by decide) (by decide) ?_
  refine va_putF (D := D) (ci := 0) (v := .ref qn2) (ty := (.array .int)) (C := RX0) (T := TX0) (N := 1) hx hb hts (fun w h => List.mem_cons_of_mem _ (List.mem_append_right _ h)) tyX0 tyX0_ok nmX0 hown hK hP hD hS 0 rfl rfl 0 (by decide) (hts (.fieldLink RX0 9 "AtlasFolder$BandTruths" "truths" "[I") (List.mem_cons_of_mem _ (List.mem_append_left _ (List.mem_of_getElem? (i := 4) rfl)))) (fun _ h9 => h9) rfl hin rfl (by decide +kernel) rfl rfl (Nat.le_of_ble_eq_true rfl) dX0_init_9 (fun H locs hP hD hS => ?_)
  have hP : va_P D vwCl [(qb, .inr (0, [.ref qn2])), (qn2, .inl (cI, 9, .inl (fun _ => 0)))] H := hP
  have hD : va_D A [(qb, .inr (0, [.ref qn2])), (qn2, .inl (cI, 9, .inl (fun _ => 0)))] := hD
  refine lv_iconst (v := 0) hx hb dX0_init_12 (by decide) ?_
  refine lv_istore_n (lv' := [(1, .int 0), (0, .ref qb)]) hx hb dX0_init_13 rfl hl (by decide) rfl (fun ls hl => ?_)
  have X3 : ∀ (H : Heap) (locs : List Loc), va_P D vwCl [(qb, .inr (0, [.ref qn2])), (qn2, .inl (cI, 9, .inl (zg (fun _ => 0) (fun _ => 1000) 9)))] H → va_D A [(qb, .inr (0, [.ref qn2])), (qn2, .inl (cI, 9, .inl (zg (fun _ => 0) (fun _ => 1000) 9)))] → va_S A s.heap H locs → ∀ (ls : Array Slot), lv_has ls 2 [(0, .ref qb)] → W p l e (headSpec wsX0_init rm_X0_init).room s m ([.ref qb]).toArray below meth c H locs 1 9 (MQ below (Qc_X0_init D cI cZ cJ cD qb A) ([.ref qb]).toArray s 1 9 A) (F0 m 35 ls []) := by
    intro  H locs hP hD hS ls hl
    have hP := hP.sub (ws' := [(qb, .inr (0, [.ref qn2])), (qn2, .inl (cI, 9, .inl (zg (fun _ => 0) (fun _ => 1000) 9)))]) [0, 1] rfl
    have hD := hD.sub (ws' := [(qb, .inr (0, [.ref qn2])), (qn2, .inl (cI, 9, .inl (zg (fun _ => 0) (fun _ => 1000) 9)))]) [0, 1] (by decide) rfl
    exact W.vret hx hb hr (fun t ht hW => ⟨⟨(qn2), rfl, trivial, ⟨by rw [ht]; exact hP, va_K.moved hW.alike hK, hD⟩⟩, hS.F ht⟩) hS.2.2 dX0_init_35
  have L3 : ∀ (n3 : Nat) (k : Nat), (k ≤ 9) → (9 < k + n3) → ∀ (H : Heap) (locs : List Loc), va_P D vwCl [(qb, .inr (0, [.ref qn2])), (qn2, .inl (cI, 9, .inl (zg (fun _ => 0) (fun _ => 1000) k)))] H → va_D A [(qb, .inr (0, [.ref qn2])), (qn2, .inl (cI, 9, .inl (zg (fun _ => 0) (fun _ => 1000) k)))] → va_S A s.heap H locs → ∀ (ls : Array Slot), lv_has ls 2 [(1, .int (nI k)), (0, .ref qb)] → W p l e (headSpec wsX0_init rm_X0_init).room s m ([.ref qb]).toArray below meth c H locs 1 9 (MQ below (Qc_X0_init D cI cZ cJ cD qb A) ([.ref qb]).toArray s 1 9 A) (F0 m 14 ls []) := by
    intro n3
    induction n3 with
    | zero =>
      intro k hk hf3
      exact absurd hf3 (by omega)
    | succ n3 ih3 =>
      intro k hk hf3 H locs hP hD hS ls hl
      refine lv_iload_n hx hb dX0_init_14 rfl (lv_at hl 0 rfl) ?_
      refine lv_bipush (v := 9) hx hb dX0_init_15 (by decide) ?_
      refine lv_icmp_ge (tgt := 35) hx hb dX0_init_17 (by decide) (fun c4 => ?_) (fun c4 => ?_)
      · have ek9 : k = 9 := z_ctr rfl (by omega) hk c4
        subst ek9
        exact X3  _ _ hP hD hS _ (lv_sub hl [1] rfl)
      · refine lv_aload_n hx hb dX0_init_20 rfl (lv_at hl 1 rfl) ?_
        refine va_get (D := D) (ci := 0) (v := .ref qn2) (C := RX0) (T := TX0) (N := 1) hx hb hts (fun w h => List.mem_cons_of_mem _ (List.mem_append_right _ h)) hown hK hP 0 rfl rfl 0 (by decide) (hts (.fieldLink RX0 9 "AtlasFolder$BandTruths" "truths" "[I") (List.mem_cons_of_mem _ (List.mem_append_left _ (List.mem_of_getElem? (i := 4) rfl)))) (fun _ h9 => h9) rfl dX0_init_21 ?_
        refine lv_iload_n hx hb dX0_init_24 rfl (lv_at hl 0 rfl) ?_
        refine lv_sipush (v := 1000) hx hb dX0_init_25 (by decide) ?_
        refine va_iast hx hb hK hP hD hS 1 0 rfl rfl (vp_in_nI (z_ctl (n := 9) rfl (by omega) c4) (by omega)) dX0_init_28 (fun H locs hP hD hS => ?_)
        have hP : va_P D vwCl [(qb, .inr (0, [.ref qn2])), (qn2, .inl (cI, 9, .inl (upd (zg (fun _ => 0) (fun _ => 1000) k) (nI k).toNatClampNeg 1000)))] H := hP
        have hD : va_D A [(qb, .inr (0, [.ref qn2])), (qn2, .inl (cI, 9, .inl (upd (zg (fun _ => 0) (fun _ => 1000) k) (nI k).toNatClampNeg 1000)))] := hD
        refine lv_iinc (v := nI (k + 1)) (lv' := [(1, .int (nI (k + 1))), (0, .ref qb)]) hx hb dX0_init_29 hl (k := 0) rfl (nI_succ k).symm (by decide) rfl (fun ls hl => ?_)
        refine lv_goto (tgt := 14) hx hb dX0_init_32 (by decide) ?_
        have hk8 : k < 9 := z_ctl rfl (by omega) c4
        have hc8 := z_cl36 (k := k) (by omega)
        have e_0 : upd (zg (fun _ => 0) (fun _ => 1000) k) (nI k).toNatClampNeg 1000 = zg (fun _ => 0) (fun _ => 1000) (k + 1) := zg_put hc8 rfl
        rw [e_0] at hP hD
        exact ih3 (k + 1) (by omega) (by omega) _ _ hP hD hS _ (lv_sub hl [0, 1] rfl)
  have e0_0 := zg_0 (fun _ => 0) (fun _ => 1000)
  have hP : va_P D vwCl [(qb, .inr (0, [.ref qn2])), (qn2, .inl (cI, 9, .inl (zg (fun _ => 0) (fun _ => 1000) 0)))] H := by rw [e0_0]; exact hP
  have hD : va_D A [(qb, .inr (0, [.ref qn2])), (qn2, .inl (cI, 9, .inl (zg (fun _ => 0) (fun _ => 1000) 0)))] := by rw [e0_0]; exact hD
  exact L3 (9 + 1) 0 (by omega) (by omega) _ _ hP hD hS _ (zlv (lv_sub (l' := [(1, .int 0), (0, .ref qb)]) hl [0, 1] rfl) (by rfl))
def n_X3_init_qz_0 (br : Int32) : Int32 := 15
abbrev rm_X3_init : Room := { frames := 1, cells := 0, slots := 0, locals := 20 }
abbrev Qc_X3_init (D : va_G) (cI cZ cJ cD : ClassId) (qz : Nat) (br : Int32) (A : Nat → Prop) : Array Value → State → Outcome → State → Prop := va_Qv (fun _ : Unit => True) (zPost D cI cZ cJ cD A [(qz, .inr (3, [.int (n_X3_init_qz_0 br)]))]) A
set_option maxHeartbeats 4000000 in
set_option maxRecDepth 100000 in
theorem c_X3_init (l : Launch) (D : va_G) (cI cZ cJ cD : ClassId) (qz : Nat) (br : Int32) (sz : Nat)  : Met l yX3_init wsX3_init rm_X3_init (va_Pc [.ref qz] (zPreW D cI cZ cJ cD [(qz, .inr (3, [.int br]))] sz)) (Qc_X3_init D cI cZ cJ cD qz br (va_A [(qz, .inr (3, [.int br]))] sz)) 0 0 (va_A [(qz, .inr (3, [.int br]))] sz) := by
  refine Met.ofW (cc := cX3_init) (maxL := 1) (ret := none) (by decide) rfl ?_
  intro p e s m args below meth c s₁ B hml hv
  obtain ⟨rfl, hsz, hP, hK, hD0⟩ := hv
  have hx := B.exec
  have hb := B.bytes
  have hr := B.returns
  have hts := atoms_spec (ws := wsX3_init) B.pre
  have hown : s.vm.findClass RX3 = some m.cls := findClass_of_methodNamed B.named
  have hlocks := B.notSynchronized
  have hin : meth.name = "<init>" := (name_of_methodNamed B.named B.method).1
  subst hsz
  have hD := hD0.self (sz := s.heap.size)
  generalize hAe : va_A [(qz, .inr (3, [.int br]))] s.heap.size = A at hD ⊢
  have hA : ∀ q : Nat, s.heap.size ≤ q → A q := fun q h => by rw [← hAe]; exact Or.inr h
  have hS : va_S A s.heap s.heap [] := va_S.rf
  have hl := lv_entry ([.ref qz]) (n := 1) (Nat.le_of_ble_eq_true rfl)
  rw [lg_entry_eq]
  generalize (lg_sl ([.ref qz]) ++ List.replicate (1 - (lg_sl ([.ref qz])).length) Slot.unset).toArray = ls at hl ⊢
  have hl : lv_has ls 1 [(0, .ref qz)] := hl
  have hP : va_P D vwCl [(qz, .inr (3, [.int br]))] s.heap := hP
  have hP := hP
  refine lv_aload_n hx hb dX3_init_0 rfl (lv_at hl 0 rfl) ?_
  refine W.objInit hx hb hown (hts (.methodLink RX3 3 objectInit) (List.mem_cons_of_mem _ (List.mem_append_left _ (List.mem_of_getElem? (i := 0) rfl)))) (hts (.instanceMethod objectInit) (List.mem_cons_of_mem _ (List.mem_append_left _ (List.mem_of_getElem? (i := 1) rfl)))) (hts (.code objectInit ⟨#[0xb1]⟩ 1 none) (List.mem_cons_of_mem _ (List.mem_append_left _ (List.mem_of_getElem? (i := 2) rfl)))) rfl (by rw [hml]; exact hl.1) rfl dX3_init_1 (Nat.le_of_ble_eq_true rfl) (Nat.le_of_ble_eq_true rfl) ?_
  refine W.eq (g2 := F0 m 4 ls []) rfl ?_
  refine lv_aload_n hx hb dX3_init_4 rfl (lv_at hl 0 rfl) ?_
  refine lv_bipush (v := 15) hx hb dX3_init_5 (by decide) ?_
  refine va_put (D := D) (ci := 3) (v := .int 15) (ty := .int) (C := RX3) (T := TX3) (N := 1) hx hb hts (fun w h => List.mem_cons_of_mem _ (List.mem_append_right _ h)) tyX3 tyX3_ok nmX3 hown hK hP hD hS 0 rfl rfl 0 (by decide) (hts (.fieldLink RX3 9 "AtlasFolder$ZoneRing" "breadth" "I") (List.mem_cons_of_mem _ (List.mem_append_left _ (List.mem_of_getElem? (i := 3) rfl)))) (fun _ h9 => h9) rfl (by decide +kernel) rfl rfl (Nat.le_of_ble_eq_true rfl) dX3_init_7 (fun H locs hP hD hS => ?_)
  have hP : va_P D vwCl [(qz, .inr (3, [.int 15]))] H := hP
  have hD : va_D A [(qz, .inr (3, [.int 15]))] := hD
  have e1 : n_X3_init_qz_0 br = 15 := rfl
  exact W.vret hx hb hr (fun t ht hW => ⟨⟨(), rfl, trivial, ⟨(by rw [e1]; rw [ht]; exact hP), va_K.moved hW.alike hK, (by rw [e1]; exact hD)⟩⟩, hS.F ht⟩) hS.2.2 dX3_init_10
abbrev rm_X1_init : Room := { frames := 3, cells := 4, slots := 144, locals := 67 }
abbrev Qc_X1_init (D : va_G) (cI cZ cJ cD : ClassId) (qf : Nat) (A : Nat → Prop) : Array Value → State → Outcome → State → Prop := va_Qv (fun u : Nat × Nat × Nat × Nat => True) (fun (u : Nat × Nat × Nat × Nat) (t : State) => zPost D cI cZ cJ cD A [(qf, .inr (1, [.ref u.1, .ref u.2.1, .ref u.2.2.1, .ref u.2.2.2, .int (n_X1_layOut_qf_4 0 0 0 (fun _ => 0) (fun _ => 0) (fun _ => 0) (fun _ => 0) 1 1), .int (n_X1_layOut_qf_5 0 0 0 (fun _ => 0) (fun _ => 0) (fun _ => 0) (fun _ => 0) 1 1), .int (n_X1_layOut_qf_6 0 0 0 (fun _ => 0) (fun _ => 0) (fun _ => 0) (fun _ => 0) 1 1)])), (u.1, .inl (cI, 36, .inl (n_X1_layOut_qx 0 0 0 (fun _ => 0) (fun _ => 0) (fun _ => 0) (fun _ => 0) 1 1))), (u.2.1, .inl (cI, 36, .inl (n_X1_layOut_qy 0 0 0 (fun _ => 0) (fun _ => 0) (fun _ => 0) (fun _ => 0) 1 1))), (u.2.2.1, .inl (cI, 36, .inl (n_X1_layOut_qz 0 0 0 (fun _ => 0) (fun _ => 0) (fun _ => 0) (fun _ => 0) 1 1))), (u.2.2.2, .inl (cZ, 36, .inl (n_X1_layOut_qu 0 0 0 (fun _ => 0) (fun _ => 0) (fun _ => 0) (fun _ => 0) 1 1)))] () t) A
set_option maxHeartbeats 4000000 in
set_option maxRecDepth 100000 in
theorem c_X1_init (l : Launch) (D : va_G) (cI cZ cJ cD : ClassId) (qf : Nat) (sz : Nat)  : Met l yX1_init wsX1_init rm_X1_init (va_Pc [.ref qf] (zPreW D cI cZ cJ cD [(qf, .inr (1, [.null, .null, .null, .null, .int 0, .int 0, .int 0]))] sz)) (Qc_X1_init D cI cZ cJ cD qf (va_A [(qf, .inr (1, [.null, .null, .null, .null, .int 0, .int 0, .int 0]))] sz)) 4 144 (va_A [(qf, .inr (1, [.null, .null, .null, .null, .int 0, .int 0, .int 0]))] sz) := by
  refine Met.ofW (cc := cX1_init) (maxL := 2) (ret := none) (by decide) rfl ?_
  intro p e s m args below meth c s₁ B hml hv
  obtain ⟨rfl, hsz, hP, hK, hD0⟩ := hv
  have hx := B.exec
  have hb := B.bytes
  have hr := B.returns
  have hts := atoms_spec (ws := wsX1_init) B.pre
  have hown : s.vm.findClass RX1 = some m.cls := findClass_of_methodNamed B.named
  have hlocks := B.notSynchronized
  have hin : meth.name = "<init>" := (name_of_methodNamed B.named B.method).1
  subst hsz
  have hD := hD0.self (sz := s.heap.size)
  generalize hAe : va_A [(qf, .inr (1, [.null, .null, .null, .null, .int 0, .int 0, .int 0]))] s.heap.size = A at hD ⊢
  have hA : ∀ q : Nat, s.heap.size ≤ q → A q := fun q h => by rw [← hAe]; exact Or.inr h
  have hS : va_S A s.heap s.heap [] := va_S.rf
  have hl := lv_entry ([.ref qf]) (n := 2) (Nat.le_of_ble_eq_true rfl)
  rw [lg_entry_eq]
  generalize (lg_sl ([.ref qf]) ++ List.replicate (2 - (lg_sl ([.ref qf])).length) Slot.unset).toArray = ls at hl ⊢
  have hl : lv_has ls 2 [(0, .ref qf)] := hl
  have hP : va_P D vwCl [(qf, .inr (1, [.null, .null, .null, .null, .int 0, .int 0, .int 0]))] s.heap := hP
  have hP := hP
  refine lv_aload_n hx hb dX1_init_0 rfl (lv_at hl 0 rfl) ?_
  refine W.objInit hx hb hown (hts (.methodLink RX1 3 objectInit) (List.mem_cons_of_mem _ (List.mem_append_left _ (List.mem_append_left _ (List.mem_of_getElem? (i := 0) rfl))))) (hts (.instanceMethod objectInit) (List.mem_cons_of_mem _ (List.mem_append_left _ (List.mem_append_left _ (List.mem_of_getElem? (i := 1) rfl))))) (hts (.code objectInit ⟨#[0xb1]⟩ 1 none) (List.mem_cons_of_mem _ (List.mem_append_left _ (List.mem_append_left _ (List.mem_of_getElem? (i := 2) rfl))))) rfl (by rw [hml]; exact hl.1) rfl dX1_init_1 (Nat.le_of_ble_eq_true rfl) (Nat.le_of_ble_eq_true rfl) ?_
  refine W.eq (g2 := F0 m 4 ls []) rfl ?_
  refine lv_bipush (v := 36) hx hb dX1_init_4 (by decide) ?_
  refine lv_istore_n (lv' := [(1, .int 36), (0, .ref qf)]) hx hb dX1_init_6 rfl hl (by decide) rfl (fun ls hl => ?_)
  refine lv_aload_n hx hb dX1_init_7 rfl (lv_at hl 1 rfl) ?_
  refine lv_iload_n hx hb dX1_init_8 rfl (lv_at hl 0 rfl) ?_
  refine va_newa (atype := .int) (a0 := (36, .inl (fun _ => 0))) hx hb (hts (.arrayClass .int) (List.mem_cons_of_mem _ (List.mem_append_left _ (List.mem_append_left _ (List.mem_of_getElem? (i := 3) rfl))))) rfl hK hP hD hS hA (fun cA => rfl) (by decide) rfl (by decide) (Nat.le_of_ble_eq_true rfl) (Nat.le_of_ble_eq_true rfl) dX1_init_9 (fun qn6 cA H hK hP hD hS => ?_)
  obtain rfl : cI = cA := Option.some.inj ((hK.2 0 _ rfl).2.symm.trans (hK.2 2 _ rfl).2)
  have hK := hK.sub (tys' := zT cI cZ cJ cD) [0, 1] rfl
  have hP : va_P D vwCl [(qf, .inr (1, [.null, .null, .null, .null, .int 0, .int 0, .int 0])), (qn6, .inl (cI, 36, .inl (fun _ => 0)))] H := hP
  have hD : va_D A [(qf, .inr (1, [.null, .null, .null, .null, .int 0, .int 0, .int 0])), (qn6, .inl (cI, 36, .inl (fun _ => 0)))] := hD
  refine W.widen (k := 1) (n := 36) (by decide) (by decide) ?_
  refine va_putF (D := D) (ci := 1) (v := .ref qn6) (ty := (.array .int)) (C := RX1) (T := TX1) (N := 7) hx hb hts (fun w h => List.mem_cons_of_mem _ (List.mem_append_right _ h)) tyX1 tyX1_ok nmX1 hown hK hP hD hS 0 rfl rfl 0 (by decide) (hts (.fieldLink RX1 9 "AtlasFolder$FoldedSheet" "columnPlaces" "[I") (List.mem_cons_of_mem _ (List.mem_append_left _ (List.mem_append_left _ (List.mem_of_getElem? (i := 4) rfl))))) (fun _ h9 => h9) rfl hin rfl (by decide +kernel) rfl rfl (Nat.le_of_ble_eq_true rfl) dX1_init_11 (fun H locs hP hD hS => ?_)
  have hP : va_P D vwCl [(qf, .inr (1, [.ref qn6, .null, .null, .null, .int 0, .int 0, .int 0])), (qn6, .inl (cI, 36, .inl (fun _ => 0)))] H := hP
  have hD : va_D A [(qf, .inr (1, [.ref qn6, .null, .null, .null, .int 0, .int 0, .int 0])), (qn6, .inl (cI, 36, .inl (fun _ => 0)))] := hD
  refine lv_aload_n hx hb dX1_init_14 rfl (lv_at hl 1 rfl) ?_
  refine lv_iload_n hx hb dX1_init_15 rfl (lv_at hl 0 rfl) ?_
  refine va_newa (atype := .int) (a0 := (36, .inl (fun _ => 0))) hx hb (hts (.arrayClass .int) (List.mem_cons_of_mem _ (List.mem_append_left _ (List.mem_append_left _ (List.mem_of_getElem? (i := 3) rfl))))) rfl hK hP hD hS hA (fun cA => rfl) (by decide) rfl (by decide) (Nat.le_of_ble_eq_true rfl) (Nat.le_of_ble_eq_true rfl) dX1_init_16 (fun qn7 cA H hK hP hD hS => ?_)
  obtain rfl : cI = cA := Option.some.inj ((hK.2 0 _ rfl).2.symm.trans (hK.2 2 _ rfl).2)
  have hK := hK.sub (tys' := zT cI cZ cJ cD) [0, 1] rfl
  have hP : va_P D vwCl [(qf, .inr (1, [.ref qn6, .null, .null, .null, .int 0, .int 0, .int 0])), (qn6, .inl (cI, 36, .inl (fun _ => 0))), (qn7, .inl (cI, 36, .inl (fun _ => 0)))] H := hP
  have hD : va_D A [(qf, .inr (1, [.ref qn6, .null, .null, .null, .int 0, .int 0, .int 0])), (qn6, .inl (cI, 36, .inl (fun _ => 0))), (qn7, .inl (cI, 36, .inl (fun _ => 0)))] := hD
  refine W.widen (k := 2) (n := 72) (by decide) (by decide) ?_
  refine va_putF (D := D) (ci := 1) (v := .ref qn7) (ty := (.array .int)) (C := RX1) (T := TX1) (N := 7) hx hb hts (fun w h => List.mem_cons_of_mem _ (List.mem_append_right _ h)) tyX1 tyX1_ok nmX1 hown hK hP hD hS 0 rfl rfl 1 (by decide) (hts (.fieldLink RX1 15 "AtlasFolder$FoldedSheet" "rowPlaces" "[I") (List.mem_cons_of_mem _ (List.mem_append_left _ (List.mem_append_left _ (List.mem_of_getElem? (i := 5) rfl))))) (fun _ h9 => h9) rfl hin rfl (by decide +kernel) rfl rfl (Nat.le_of_ble_eq_true rfl) dX1_init_18 (fun H locs hP hD hS => ?_)
  have hP : va_P D vwCl [(qf, .inr (1, [.ref qn6, .ref qn7, .null, .null, .int 0, .int 0, .int 0])), (qn6, .inl (cI, 36, .inl (fun _ => 0))), (qn7, .inl (cI, 36, .inl (fun _ => 0)))] H := hP
  have hD : va_D A [(qf, .inr (1, [.ref qn6, .ref qn7, .null, .null, .int 0, .int 0, .int 0])), (qn6, .inl (cI, 36, .inl (fun _ => 0))), (qn7, .inl (cI, 36, .inl (fun _ => 0)))] := hD
  refine lv_aload_n hx hb dX1_init_21 rfl (lv_at hl 1 rfl) ?_
  refine lv_iload_n hx hb dX1_init_22 rfl (lv_at hl 0 rfl) ?_
  refine va_newa (atype := .int) (a0 := (36, .inl (fun _ => 0))) hx hb (hts (.arrayClass .int) (List.mem_cons_of_mem _ (List.mem_append_left _ (List.mem_append_left _ (List.mem_of_getElem? (i := 3) rfl))))) rfl hK hP hD hS hA (fun cA => rfl) (by decide) rfl (by decide) (Nat.le_of_ble_eq_true rfl) (Nat.le_of_ble_eq_true rfl) dX1_init_23 (fun qn8 cA H hK hP hD hS => ?_)
  obtain rfl : cI = cA := Option.some.inj ((hK.2 0 _ rfl).2.symm.trans (hK.2 2 _ rfl).2)
  have hK := hK.sub (tys' := zT cI cZ cJ cD) [0, 1] rfl
  have hP : va_P D vwCl [(qf, .inr (1, [.ref qn6, .ref qn7, .null, .null, .int 0, .int 0, .int 0])), (qn6, .inl (cI, 36, .inl (fun _ => 0))), (qn7, .inl (cI, 36, .inl (fun _ => 0))), (qn8, .inl (cI, 36, .inl (fun _ => 0)))] H := hP
  have hD : va_D A [(qf, .inr (1, [.ref qn6, .ref qn7, .null, .null, .int 0, .int 0, .int 0])), (qn6, .inl (cI, 36, .inl (fun _ => 0))), (qn7, .inl (cI, 36, .inl (fun _ => 0))), (qn8, .inl (cI, 36, .inl (fun _ => 0)))] := hD
  refine W.widen (k := 3) (n := 108) (by decide) (by decide) ?_
  refine va_putF (D := D) (ci := 1) (v := .ref qn8) (ty := (.array .int)) (C := RX1) (T := TX1) (N := 7) hx hb hts (fun w h => List.mem_cons_of_mem _ (List.mem_append_right _ h)) tyX1 tyX1_ok nmX1 hown hK hP hD hS 0 rfl rfl 2 (by decide) (hts (.fieldLink RX1 18 "AtlasFolder$FoldedSheet" "layers" "[I") (List.mem_cons_of_mem _ (List.mem_append_left _ (List.mem_append_left _ (List.mem_of_getElem? (i := 6) rfl))))) (fun _ h9 => h9) rfl hin rfl (by decide +kernel) rfl rfl (Nat.le_of_ble_eq_true rfl) dX1_init_25 (fun H locs hP hD hS => ?_)
  have hP : va_P D vwCl [(qf, .inr (1, [.ref qn6, .ref qn7, .ref qn8, .null, .int 0, .int 0, .int 0])), (qn6, .inl (cI, 36, .inl (fun _ => 0))), (qn7, .inl (cI, 36, .inl (fun _ => 0))), (qn8, .inl (cI, 36, .inl (fun _ => 0)))] H := hP
  have hD : va_D A [(qf, .inr (1, [.ref qn6, .ref qn7, .ref qn8, .null, .int 0, .int 0, .int 0])), (qn6, .inl (cI, 36, .inl (fun _ => 0))), (qn7, .inl (cI, 36, .inl (fun _ => 0))), (qn8, .inl (cI, 36, .inl (fun _ => 0)))] := hD
  refine lv_aload_n hx hb dX1_init_28 rfl (lv_at hl 1 rfl) ?_
  refine lv_iload_n hx hb dX1_init_29 rfl (lv_at hl 0 rfl) ?_
  refine va_newa (atype := .boolean) (a0 := (36, .inl (fun _ => 0))) hx hb (hts (.arrayClass .boolean) (List.mem_cons_of_mem _ (List.mem_append_left _ (List.mem_append_left _ (List.mem_of_getElem? (i := 7) rfl))))) rfl hK hP hD hS hA (fun cA => rfl) (by decide) rfl (by decide) (Nat.le_of_ble_eq_true rfl) (Nat.le_of_ble_eq_true rfl) dX1_init_30 (fun qn9 cA H hK hP hD hS => ?_)
  obtain rfl : cZ = cA := Option.some.inj ((hK.2 1 _ rfl).2.symm.trans (hK.2 2 _ rfl).2)
  have hK := hK.sub (tys' := zT cI cZ cJ cD) [0, 1] rfl
  have hP : va_P D vwCl [(qf, .inr (1, [.ref qn6, .ref qn7, .ref qn8, .null, .int 0, .int 0, .int 0])), (qn6, .inl (cI, 36, .inl (fun _ => 0))), (qn7, .inl (cI, 36, .inl (fun _ => 0))), (qn8, .inl (cI, 36, .inl (fun _ => 0))), (qn9, .inl (cZ, 36, .inl (fun _ => 0)))] H := hP
  have hD : va_D A [(qf, .inr (1, [.ref qn6, .ref qn7, .ref qn8, .null, .int 0, .int 0, .int 0])), (qn6, .inl (cI, 36, .inl (fun _ => 0))), (qn7, .inl (cI, 36, .inl (fun _ => 0))), (qn8, .inl (cI, 36, .inl (fun _ => 0))), (qn9, .inl (cZ, 36, .inl (fun _ => 0)))] := hD
  refine W.widen (k := 4) (n := 144) (by decide) (by decide) ?_
  refine va_putF (D := D) (ci := 1) (v := .ref qn9) (ty := (.array .boolean)) (C := RX1) (T := TX1) (N := 7) hx hb hts (fun w h => List.mem_cons_of_mem _ (List.mem_append_right _ h)) tyX1 tyX1_ok nmX1 hown hK hP hD hS 0 rfl rfl 3 (by decide) (hts (.fieldLink RX1 21 "AtlasFolder$FoldedSheet" "faceUp" "[Z") (List.mem_cons_of_mem _ (List.mem_append_left _ (List.mem_append_left _ (List.mem_of_getElem? (i := 8) rfl))))) (fun _ h9 => h9) rfl hin rfl (by decide +kernel) rfl rfl (Nat.le_of_ble_eq_true rfl) dX1_init_32 (fun H locs hP hD hS => ?_)
  have hP : va_P D vwCl [(qf, .inr (1, [.ref qn6, .ref qn7, .ref qn8, .ref qn9, .int 0, .int 0, .int 0])), (qn6, .inl (cI, 36, .inl (fun _ => 0))), (qn7, .inl (cI, 36, .inl (fun _ => 0))), (qn8, .inl (cI, 36, .inl (fun _ => 0))), (qn9, .inl (cZ, 36, .inl (fun _ => 0)))] H := hP
  have hD : va_D A [(qf, .inr (1, [.ref qn6, .ref qn7, .ref qn8, .ref qn9, .int 0, .int 0, .int 0])), (qn6, .inl (cI, 36, .inl (fun _ => 0))), (qn7, .inl (cI, 36, .inl (fun _ => 0))), (qn8, .inl (cI, 36, .inl (fun _ => 0))), (qn9, .inl (cZ, 36, .inl (fun _ => 0)))] := hD
  refine lv_aload_n hx hb dX1_init_35 rfl (lv_at hl 1 rfl) ?_
  refine lv_iconst (v := 1) hx hb dX1_init_36 (by decide) ?_
  refine lv_iconst (v := 1) hx hb dX1_init_37 (by decide) ?_
  have hPc := hP.sub (ws' := [(qf, .inr (1, [.ref qn6, .ref qn7, .ref qn8, .ref qn9, .int 0, .int 0, .int 0])), (qn6, .inl (cI, 36, .inl (fun _ => 0))), (qn7, .inl (cI, 36, .inl (fun _ => 0))), (qn8, .inl (cI, 36, .inl (fun _ => 0))), (qn9, .inl (cZ, 36, .inl (fun _ => 0)))]) [0, 1, 2, 3, 4] rfl
  have hDc := hD.sub (ws' := [(qf, .inr (1, [.ref qn6, .ref qn7, .ref qn8, .ref qn9, .int 0, .int 0, .int 0])), (qn6, .inl (cI, 36, .inl (fun _ => 0))), (qn7, .inl (cI, 36, .inl (fun _ => 0))), (qn8, .inl (cI, 36, .inl (fun _ => 0))), (qn9, .inl (cZ, 36, .inl (fun _ => 0)))]) [0, 1, 2, 3, 4] (by decide) rfl
  have hFc := va_free (wc := [(qf, .inr (1, [.ref qn6, .ref qn7, .ref qn8, .ref qn9, .int 0, .int 0, .int 0])), (qn6, .inl (cI, 36, .inl (fun _ => 0))), (qn7, .inl (cI, 36, .inl (fun _ => 0))), (qn8, .inl (cI, 36, .inl (fun _ => 0))), (qn9, .inl (cZ, 36, .inl (fun _ => 0)))]) hD hS hA [0, 1, 2, 3, 4] rfl
  refine va_callv (va_runV (As := [.int 1, .int 1]) (rest := []) ⟨hx, hb, hml, hown, hts⟩ (c_X1_layOut l D cI cZ cJ cD qf qn6 qn7 qn8 qn9 0 0 0 (fun _ => 0) (fun _ => 0) (fun _ => 0) (fun _ => 0) 1 1 1 1 H.size (by decide) (by decide) (by decide) rfl rfl) (cwV 2 hts gX1_init_X1_layOut rfl rfl rfl (by decide +kernel) ⟨Nat.le_of_ble_eq_true rfl, Nat.le_of_ble_eq_true rfl⟩) ⟨zblindW, va_recv hK hP (ci := 1) (q0 := 0) rfl rfl, (fun U hU hW => ⟨rfl, by rw [hU], by rw [hU]; exact hPc, va_K.moved hW.alike hK, hDc.weaken (fun _ _ _ _ => trivial)⟩)⟩ rfl rfl hl.1 rfl (lv_room (Nat.le_of_ble_eq_true rfl)) dX1_init_38 ⟨Nat.le_of_ble_eq_true rfl, Nat.le_of_ble_eq_true rfl⟩) hS (fun q _ h => hFc q h) hFc (fun u t H locs ht hvm hw hB hz1 hk1 hS => ?_)
  obtain ⟨hP1, hK1, hD1⟩ := hB
  rw [ht] at hP1
  obtain ⟨hP, hD⟩ := va_join (wr := []) (w1 := [(qf, .inr (1, [.ref qn6, .ref qn7, .ref qn8, .ref qn9, .int (n_X1_layOut_qf_4 0 0 0 (fun _ => 0) (fun _ => 0) (fun _ => 0) (fun _ => 0) 1 1), .int (n_X1_layOut_qf_5 0 0 0 (fun _ => 0) (fun _ => 0) (fun _ => 0) (fun _ => 0) 1 1), .int (n_X1_layOut_qf_6 0 0 0 (fun _ => 0) (fun _ => 0) (fun _ => 0) (fun _ => 0) 1 1)])), (qn6, .inl (cI, 36, .inl (n_X1_layOut_qx 0 0 0 (fun _ => 0) (fun _ => 0) (fun _ => 0) (fun _ => 0) 1 1))), (qn7, .inl (cI, 36, .inl (n_X1_layOut_qy 0 0 0 (fun _ => 0) (fun _ => 0) (fun _ => 0) (fun _ => 0) 1 1))), (qn8, .inl (cI, 36, .inl (n_X1_layOut_qz 0 0 0 (fun _ => 0) (fun _ => 0) (fun _ => 0) (fun _ => 0) 1 1))), (qn9, .inl (cZ, 36, .inl (n_X1_layOut_qu 0 0 0 (fun _ => 0) (fun _ => 0) (fun _ => 0) (fun _ => 0) 1 1)))]) hP hD [0, 1, 2, 3, 4] [] rfl rfl (by decide) (by decide) hk1 hFc hP1 hD1
  have hP := hP.sub (ws' := [(qf, .inr (1, [.ref qn6, .ref qn7, .ref qn8, .ref qn9, .int (n_X1_layOut_qf_4 0 0 0 (fun _ => 0) (fun _ => 0) (fun _ => 0) (fun _ => 0) 1 1), .int (n_X1_layOut_qf_5 0 0 0 (fun _ => 0) (fun _ => 0) (fun _ => 0) (fun _ => 0) 1 1), .int (n_X1_layOut_qf_6 0 0 0 (fun _ => 0) (fun _ => 0) (fun _ => 0) (fun _ => 0) 1 1)])), (qn6, .inl (cI, 36, .inl (n_X1_layOut_qx 0 0 0 (fun _ => 0) (fun _ => 0) (fun _ => 0) (fun _ => 0) 1 1))), (qn7, .inl (cI, 36, .inl (n_X1_layOut_qy 0 0 0 (fun _ => 0) (fun _ => 0) (fun _ => 0) (fun _ => 0) 1 1))), (qn8, .inl (cI, 36, .inl (n_X1_layOut_qz 0 0 0 (fun _ => 0) (fun _ => 0) (fun _ => 0) (fun _ => 0) 1 1))), (qn9, .inl (cZ, 36, .inl (n_X1_layOut_qu 0 0 0 (fun _ => 0) (fun _ => 0) (fun _ => 0) (fun _ => 0) 1 1)))]) [0, 1, 2, 3, 4] rfl
  have hD := hD.sub (ws' := [(qf, .inr (1, [.ref qn6, .ref qn7, .ref qn8, .ref qn9, .int (n_X1_layOut_qf_4 0 0 0 (fun _ => 0) (fun _ => 0) (fun _ => 0) (fun _ => 0) 1 1), .int (n_X1_layOut_qf_5 0 0 0 (fun _ => 0) (fun _ => 0) (fun _ => 0) (fun _ => 0) 1 1), .int (n_X1_layOut_qf_6 0 0 0 (fun _ => 0) (fun _ => 0) (fun _ => 0) (fun _ => 0) 1 1)])), (qn6, .inl (cI, 36, .inl (n_X1_layOut_qx 0 0 0 (fun _ => 0) (fun _ => 0) (fun _ => 0) (fun _ => 0) 1 1))), (qn7, .inl (cI, 36, .inl (n_X1_layOut_qy 0 0 0 (fun _ => 0) (fun _ => 0) (fun _ => 0) (fun _ => 0) 1 1))), (qn8, .inl (cI, 36, .inl (n_X1_layOut_qz 0 0 0 (fun _ => 0) (fun _ => 0) (fun _ => 0) (fun _ => 0) 1 1))), (qn9, .inl (cZ, 36, .inl (n_X1_layOut_qu 0 0 0 (fun _ => 0) (fun _ => 0) (fun _ => 0) (fun _ => 0) 1 1)))]) [0, 1, 2, 3, 4] (by decide) rfl
  have hP := hP.sub (ws' := [(qf, .inr (1, [.ref qn6, .ref qn7, .ref qn8, .ref qn9, .int (n_X1_layOut_qf_4 0 0 0 (fun _ => 0) (fun _ => 0) (fun _ => 0) (fun _ => 0) 1 1), .int (n_X1_layOut_qf_5 0 0 0 (fun _ => 0) (fun _ => 0) (fun _ => 0) (fun _ => 0) 1 1), .int (n_X1_layOut_qf_6 0 0 0 (fun _ => 0) (fun _ => 0) (fun _ => 0) (fun _ => 0) 1 1)])), (qn6, .inl (cI, 36, .inl (n_X1_layOut_qx 0 0 0 (fun _ => 0) (fun _ => 0) (fun _ => 0) (fun _ => 0) 1 1))), (qn7, .inl (cI, 36, .inl (n_X1_layOut_qy 0 0 0 (fun _ => 0) (fun _ => 0) (fun _ => 0) (fun _ => 0) 1 1))), (qn8, .inl (cI, 36, .inl (n_X1_layOut_qz 0 0 0 (fun _ => 0) (fun _ => 0) (fun _ => 0) (fun _ => 0) 1 1))), (qn9, .inl (cZ, 36, .inl (n_X1_layOut_qu 0 0 0 (fun _ => 0) (fun _ => 0) (fun _ => 0) (fun _ => 0) 1 1)))]) [0, 1, 2, 3, 4] rfl
  have hD := hD.sub (ws' := [(qf, .inr (1, [.ref qn6, .ref qn7, .ref qn8, .ref qn9, .int (n_X1_layOut_qf_4 0 0 0 (fun _ => 0) (fun _ => 0) (fun _ => 0) (fun _ => 0) 1 1), .int (n_X1_layOut_qf_5 0 0 0 (fun _ => 0) (fun _ => 0) (fun _ => 0) (fun _ => 0) 1 1), .int (n_X1_layOut_qf_6 0 0 0 (fun _ => 0) (fun _ => 0) (fun _ => 0) (fun _ => 0) 1 1)])), (qn6, .inl (cI, 36, .inl (n_X1_layOut_qx 0 0 0 (fun _ => 0) (fun _ => 0) (fun _ => 0) (fun _ => 0) 1 1))), (qn7, .inl (cI, 36, .inl (n_X1_layOut_qy 0 0 0 (fun _ => 0) (fun _ => 0) (fun _ => 0) (fun _ => 0) 1 1))), (qn8, .inl (cI, 36, .inl (n_X1_layOut_qz 0 0 0 (fun _ => 0) (fun _ => 0) (fun _ => 0) (fun _ => 0) 1 1))), (qn9, .inl (cZ, 36, .inl (n_X1_layOut_qu 0 0 0 (fun _ => 0) (fun _ => 0) (fun _ => 0) (fun _ => 0) 1 1)))]) [0, 1, 2, 3, 4] (by decide) rfl
  exact W.vret hx hb hr (fun t ht hW => ⟨⟨(qn6, qn7, qn8, qn9), rfl, trivial, ⟨by rw [ht]; exact hP, va_K.moved hW.alike hK, hD⟩⟩, hS.F ht⟩) hS.2.2 dX1_init_41
abbrev rm_X4_init : Room := { frames := 4, cells := 11, slots := 184, locals := 88 }
abbrev Qc_X4_init (D : va_G) (cI cZ cJ cD : ClassId) (qo : Nat) (A : Nat → Prop) : Array Value → State → Outcome → State → Prop := va_Qv (fun u : Nat × Nat × Nat × Nat × Nat × Nat × Nat × Nat × Nat × Nat × Nat => True) (fun (u : Nat × Nat × Nat × Nat × Nat × Nat × Nat × Nat × Nat × Nat × Nat) (t : State) => zPost D cI cZ cJ cD A [(qo, .inr (4, [.ref u.1, .ref u.2.1, .ref u.2.2.1, .ref u.2.2.2.1])), (u.1, .inr (2, [.ref u.2.2.2.2.1, .ref u.2.2.2.2.2.1])), (u.2.2.2.2.1, .inl (cI, 10, .inl (zg (fun _ => 0) (fun p => 1000 - 100 * nI p) 10))), (u.2.2.2.2.2.1, .inl (cI, 10, .inl (zg (fun _ => 0) (fun p => 1000 * nI p) 10))), (u.2.1, .inr (0, [.ref u.2.2.2.2.2.2.1])), (u.2.2.2.2.2.2.1, .inl (cI, 9, .inl (zg (fun _ => 0) (fun _ => 1000) 9))), (u.2.2.1, .inr (3, [.int (n_X3_init_qz_0 0)])), (u.2.2.2.1, .inr (1, [.ref u.2.2.2.2.2.2.2.1, .ref u.2.2.2.2.2.2.2.2.1, .ref u.2.2.2.2.2.2.2.2.2.1, .ref u.2.2.2.2.2.2.2.2.2.2, .int (n_X1_layOut_qf_4 0 0 0 (fun _ => 0) (fun _ => 0) (fun _ => 0) (fun _ => 0) 1 1), .int (n_X1_layOut_qf_5 0 0 0 (fun _ => 0) (fun _ => 0) (fun _ => 0) (fun _ => 0) 1 1), .int (n_X1_layOut_qf_6 0 0 0 (fun _ => 0) (fun _ => 0) (fun _ => 0) (fun _ => 0) 1 1)])), (u.2.2.2.2.2.2.2.1, .inl (cI, 36, .inl (n_X1_layOut_qx 0 0 0 (fun _ => 0) (fun _ => 0) (fun _ => 0) (fun _ => 0) 1 1))), (u.2.2.2.2.2.2.2.2.1, .inl (cI, 36, .inl (n_X1_layOut_qy 0 0 0 (fun _ => 0) (fun _ => 0) (fun _ => 0) (fun _ => 0) 1 1))), (u.2.2.2.2.2.2.2.2.2.1, .inl (cI, 36, .inl (n_X1_layOut_qz 0 0 0 (fun _ => 0) (fun _ => 0) (fun _ => 0) (fun _ => 0) 1 1))), (u.2.2.2.2.2.2.2.2.2.2, .inl (cZ, 36, .inl (n_X1_layOut_qu 0 0 0 (fun _ => 0) (fun _ => 0) (fun _ => 0) (fun _ => 0) 1 1)))] () t) A
set_option maxHeartbeats 4000000 in
set_option maxRecDepth 100000 in
theorem c_X4_init (l : Launch) (D : va_G) (cI cZ cJ cD : ClassId) (qo : Nat) (sz : Nat)  : Met l yX4_init wsX4_init rm_X4_init (va_Pc [.ref qo] (zPreW D cI cZ cJ cD [(qo, .inr (4, [.null, .null, .null, .null]))] sz)) (Qc_X4_init D cI cZ cJ cD qo (va_A [(qo, .inr (4, [.null, .null, .null, .null]))] sz)) 11 184 (va_A [(qo, .inr (4, [.null, .null, .null, .null]))] sz) := by
  refine Met.ofW (cc := cX4_init) (maxL := 1) (ret := none) (by decide) rfl ?_
  intro p e s m args below meth c s₁ B hml hv
  obtain ⟨rfl, hsz, hP, hK, hD0⟩ := hv
  have hx := B.exec
  have hb := B.bytes
  have hr := B.returns
  have hts := atoms_spec (ws := wsX4_init) B.pre
  have hown : s.vm.findClass RX4 = some m.cls := findClass_of_methodNamed B.named
  have hlocks := B.notSynchronized
  have hin : meth.name = "<init>" := (name_of_methodNamed B.named B.method).1
  subst hsz
  have hD := hD0.self (sz := s.heap.size)
  generalize hAe : va_A [(qo, .inr (4, [.null, .null, .null, .null]))] s.heap.size = A at hD ⊢
  have hA : ∀ q : Nat, s.heap.size ≤ q → A q := fun q h => by rw [← hAe]; exact Or.inr h
  have hS : va_S A s.heap s.heap [] := va_S.rf
  have hl := lv_entry ([.ref qo]) (n := 1) (Nat.le_of_ble_eq_true rfl)
  rw [lg_entry_eq]
  generalize (lg_sl ([.ref qo]) ++ List.replicate (1 - (lg_sl ([.ref qo])).length) Slot.unset).toArray = ls at hl ⊢
  have hl : lv_has ls 1 [(0, .ref qo)] := hl
  have hP : va_P D vwCl [(qo, .inr (4, [.null, .null, .null, .null]))] s.heap := hP
  have hP := hP
  refine lv_aload_n hx hb dX4_init_0 rfl (lv_at hl 0 rfl) ?_
  refine W.objInit hx hb hown (hts (.methodLink RX4 1 objectInit) (List.mem_cons_of_mem _ (List.mem_append_left _ (List.mem_append_left _ (List.mem_append_left _ (List.mem_append_left _ (List.mem_append_left _ (List.mem_append_left _ (List.mem_of_getElem? (i := 0) rfl))))))))) (hts (.instanceMethod objectInit) (List.mem_cons_of_mem _ (List.mem_append_left _ (List.mem_append_left _ (List.mem_append_left _ (List.mem_append_left _ (List.mem_append_left _ (List.mem_append_left _ (List.mem_of_getElem? (i := 1) rfl))))))))) (hts (.code objectInit ⟨#[0xb1]⟩ 1 none) (List.mem_cons_of_mem _ (List.mem_append_left _ (List.mem_append_left _ (List.mem_append_left _ (List.mem_append_left _ (List.mem_append_left _ (List.mem_append_left _ (List.mem_of_getElem? (i := 2) rfl))))))))) rfl (by rw [hml]; exact hl.1) rfl dX4_init_1 (Nat.le_of_ble_eq_true rfl) (Nat.le_of_ble_eq_true rfl) ?_
  refine W.eq (g2 := F0 m 4 ls []) rfl ?_
  refine lv_aload_n hx hb dX4_init_4 rfl (lv_at hl 0 rfl) ?_
  refine va_new (ci := 2) (fs := [.null, .null]) (C := RX2) (T := TX2) (N := 2) hx hb hts (fun w h => List.mem_cons_of_mem _ (List.mem_append_left _ (List.mem_append_left _ (List.mem_append_left _ (List.mem_append_left _ (List.mem_append_right _ h)))))) tyX2 tyX2_ok hown (hts (.classLink RX4 7 RX2) (List.mem_cons_of_mem _ (List.mem_append_left _ (List.mem_append_left _ (List.mem_append_left _ (List.mem_append_left _ (List.mem_append_left _ (List.mem_append_left _ (List.mem_of_getElem? (i := 3) rfl))))))))) (hts (.instantiable RX2 2) (List.mem_cons_of_mem _ (List.mem_append_left _ (List.mem_append_left _ (List.mem_append_left _ (List.mem_append_left _ (List.mem_append_left _ (List.mem_append_left _ (List.mem_of_getElem? (i := 4) rfl))))))))) (hts (.initialized RX2) (List.mem_cons_of_mem _ (List.mem_append_left _ (List.mem_append_left _ (List.mem_append_left _ (List.mem_append_left _ (List.mem_append_left _ (List.mem_append_left _ (List.mem_of_getElem? (i := 5) rfl))))))))) hK hP hD hS hA rfl (fun j hj => by rcases (show j = 0 ∨ j = 1 by omega) with rfl | rfl <;> rfl) (Nat.le_of_ble_eq_true rfl) (Nat.le_of_ble_eq_true rfl) dX4_init_5 (fun qn9 H hP hD hS => ?_)
  have hP : va_P D vwCl [(qo, .inr (4, [.null, .null, .null, .null])), (qn9, .inr (2, [.null, .null]))] H := hP
  have hD : va_D A [(qo, .inr (4, [.null, .null, .null, .null])), (qn9, .inr (2, [.null, .null]))] := hD
  refine W.widen (k := 1) (n := 2) (by decide) (by decide) ?_
  refine lv_dup hx hb dX4_init_8 rfl ?_
  have hPc := hP.sub (ws' := [(qn9, .inr (2, [.null, .null]))]) [1] rfl
  have hDc := hD.sub (ws' := [(qn9, .inr (2, [.null, .null]))]) [1] (by decide) rfl
  have hFc := va_free (wc := [(qn9, .inr (2, [.null, .null]))]) hD hS hA [1] rfl
  refine va_callv (va_runI (As := []) (rest := [.ref qn9, .ref qo]) ⟨hx, hb, hml, hown, hts⟩ (c_X2_init l D cI cZ cJ cD qn9 H.size ) (cwI 0 hts gX4_init_X2_init rfl rfl rfl (hts (.initialized RX2) (List.mem_cons_of_mem _ (List.mem_append_left _ (List.mem_append_left _ (List.mem_append_left _ (List.mem_append_left _ (List.mem_append_left _ (List.mem_append_left _ (List.mem_of_getElem? (i := 5) rfl))))))))) (hts (.methodLink RX4 9 yX2_init) (List.mem_cons_of_mem _ (List.mem_append_left _ (List.mem_append_left _ (List.mem_append_left _ (List.mem_append_left _ (List.mem_append_left _ (List.mem_append_left _ (List.mem_of_getElem? (i := 19) rfl))))))))) (hts (.instanceMethod yX2_init) (List.mem_cons_of_mem _ (List.mem_append_left _ (List.mem_append_left _ (List.mem_append_left _ (List.mem_append_left _ (List.mem_append_left _ (List.mem_append_left _ (List.mem_of_getElem? (i := 20) rfl))))))))) rfl (by decide +kernel) ⟨Nat.le_of_ble_eq_true rfl, Nat.le_of_ble_eq_true rfl⟩) ⟨zblindW, (fun U hU hW => ⟨rfl, by rw [hU], by rw [hU]; exact hPc, va_K.moved hW.alike hK, hDc.weaken (fun _ _ _ _ => trivial)⟩)⟩ rfl rfl hl.1 rfl (lv_room (Nat.le_of_ble_eq_true rfl)) dX4_init_9 ⟨Nat.le_of_ble_eq_true rfl, Nat.le_of_ble_eq_true rfl⟩) hS (fun q _ h => hFc q h) hFc (fun u t H locs ht hvm hw hB hz1 hk1 hS => ?_)
  obtain ⟨qw_10, qh_10⟩ := u
  obtain ⟨hP1, hK1, hD1⟩ := hB
  rw [ht] at hP1
  obtain ⟨hP, hD⟩ := va_join (wr := [(qo, .inr (4, [.null, .null, .null, .null]))]) (w1 := [(qn9, .inr (2, [.ref qw_10, .ref qh_10])), (qw_10, .inl (cI, 10, .inl (zg (fun _ => 0) (fun p => 1000 - 100 * nI p) 10))), (qh_10, .inl (cI, 10, .inl (zg (fun _ => 0) (fun p => 1000 * nI p) 10)))]) hP hD [1] [0] rfl rfl (by decide) (by decide) hk1 hFc hP1 hD1
  have hP := hP.sub (ws' := [(qo, .inr (4, [.null, .null, .null, .null])), (qn9, .inr (2, [.ref qw_10, .ref qh_10])), (qw_10, .inl (cI, 10, .inl (zg (fun _ => 0) (fun p => 1000 - 100 * nI p) 10))), (qh_10, .inl (cI, 10, .inl (zg (fun _ => 0) (fun p => 1000 * nI p) 10)))]) [0, 1, 2, 3] rfl
  have hD := hD.sub (ws' := [(qo, .inr (4, [.null, .null, .null, .null])), (qn9, .inr (2, [.ref qw_10, .ref qh_10])), (qw_10, .inl (cI, 10, .inl (zg (fun _ => 0) (fun p => 1000 - 100 * nI p) 10))), (qh_10, .inl (cI, 10, .inl (zg (fun _ => 0) (fun p => 1000 * nI p) 10)))]) [0, 1, 2, 3] (by decide) rfl
  refine W.widen (k := 3) (n := 22) (by decide) (by decide) ?_
  refine va_putF (D := D) (ci := 4) (v := .ref qn9) (ty := (.object "AtlasFolder$MapTable")) (C := RX4) (T := TX4) (N := 4) hx hb hts (fun w h => List.mem_cons_of_mem _ (List.mem_append_left _ (List.mem_append_left _ (List.mem_append_left _ (List.mem_append_right _ h))))) tyX4 tyX4_ok nmX4 hown hK hP hD hS 0 rfl rfl 0 (by decide) (hts (.fieldLink RX4 10 "AtlasFolder" "map" "LAtlasFolder$MapTable;") (List.mem_cons_of_mem _ (List.mem_append_left _ (List.mem_append_left _ (List.mem_append_left _ (List.mem_append_left _ (List.mem_append_left _ (List.mem_append_left _ (List.mem_of_getElem? (i := 6) rfl))))))))) (fun _ h9 => h9) rfl hin rfl (by decide +kernel) rfl rfl (Nat.le_of_ble_eq_true rfl) dX4_init_12 (fun H locs hP hD hS => ?_)
  have hP : va_P D vwCl [(qo, .inr (4, [.ref qn9, .null, .null, .null])), (qn9, .inr (2, [.ref qw_10, .ref qh_10])), (qw_10, .inl (cI, 10, .inl (zg (fun _ => 0) (fun p => 1000 - 100 * nI p) 10))), (qh_10, .inl (cI, 10, .inl (zg (fun _ => 0) (fun p => 1000 * nI p) 10)))] H := hP
  have hD : va_D A [(qo, .inr (4, [.ref qn9, .null, .null, .null])), (qn9, .inr (2, [.ref qw_10, .ref qh_10])), (qw_10, .inl (cI, 10, .inl (zg (fun _ => 0) (fun p => 1000 - 100 * nI p) 10))), (qh_10, .inl (cI, 10, .inl (zg (fun _ => 0) (fun p => 1000 * nI p) 10)))] := hD
  refine lv_aload_n hx hb dX4_init_15 rfl (lv_at hl 0 rfl) ?_
  refine va_new (ci := 0) (fs := [.null]) (C := RX0) (T := TX0) (N := 1) hx hb hts (fun w h => List.mem_cons_of_mem _ (List.mem_append_left _ (List.mem_append_left _ (List.mem_append_right _ h)))) tyX0 tyX0_ok hown (hts (.classLink RX4 16 RX0) (List.mem_cons_of_mem _ (List.mem_append_left _ (List.mem_append_left _ (List.mem_append_left _ (List.mem_append_left _ (List.mem_append_left _ (List.mem_append_left _ (List.mem_of_getElem? (i := 7) rfl))))))))) (hts (.instantiable RX0 1) (List.mem_cons_of_mem _ (List.mem_append_left _ (List.mem_append_left _ (List.mem_append_left _ (List.mem_append_left _ (List.mem_append_left _ (List.mem_append_left _ (List.mem_of_getElem? (i := 8) rfl))))))))) (hts (.initialized RX0) (List.mem_cons_of_mem _ (List.mem_append_left _ (List.mem_append_left _ (List.mem_append_left _ (List.mem_append_left _ (List.mem_append_left _ (List.mem_append_left _ (List.mem_of_getElem? (i := 9) rfl))))))))) hK hP hD hS hA rfl (fun j hj => by rcases (show j = 0 by omega) with rfl <;> rfl) (Nat.le_of_ble_eq_true rfl) (Nat.le_of_ble_eq_true rfl) dX4_init_16 (fun qn11 H hP hD hS => ?_)
  have hP : va_P D vwCl [(qo, .inr (4, [.ref qn9, .null, .null, .null])), (qn9, .inr (2, [.ref qw_10, .ref qh_10])), (qw_10, .inl (cI, 10, .inl (zg (fun _ => 0) (fun p => 1000 - 100 * nI p) 10))), (qh_10, .inl (cI, 10, .inl (zg (fun _ => 0) (fun p => 1000 * nI p) 10))), (qn11, .inr (0, [.null]))] H := hP
  have hD : va_D A [(qo, .inr (4, [.ref qn9, .null, .null, .null])), (qn9, .inr (2, [.ref qw_10, .ref qh_10])), (qw_10, .inl (cI, 10, .inl (zg (fun _ => 0) (fun p => 1000 - 100 * nI p) 10))), (qh_10, .inl (cI, 10, .inl (zg (fun _ => 0) (fun p => 1000 * nI p) 10))), (qn11, .inr (0, [.null]))] := hD
  refine W.widen (k := 4) (n := 23) (by decide) (by decide) ?_
  refine lv_dup hx hb dX4_init_19 rfl ?_
  have hPc := hP.sub (ws' := [(qn11, .inr (0, [.null]))]) [4] rfl
  have hDc := hD.sub (ws' := [(qn11, .inr (0, [.null]))]) [4] (by decide) rfl
  have hFc := va_free (wc := [(qn11, .inr (0, [.null]))]) hD hS hA [4] rfl
  refine va_callv (va_runI (As := []) (rest := [.ref qn11, .ref qo]) ⟨hx, hb, hml, hown, hts⟩ (c_X0_init l D cI cZ cJ cD qn11 H.size ) (cwI 0 hts gX4_init_X0_init rfl rfl rfl (hts (.initialized RX0) (List.mem_cons_of_mem _ (List.mem_append_left _ (List.mem_append_left _ (List.mem_append_left _ (List.mem_append_left _ (List.mem_append_left _ (List.mem_append_left _ (List.mem_of_getElem? (i := 9) rfl))))))))) (hts (.methodLink RX4 18 yX0_init) (List.mem_cons_of_mem _ (List.mem_append_left _ (List.mem_append_left _ (List.mem_append_left _ (List.mem_append_left _ (List.mem_append_left _ (List.mem_append_right _ (List.mem_append_left _ (List.mem_of_getElem? (i := 2) rfl)))))))))) (hts (.instanceMethod yX0_init) (List.mem_cons_of_mem _ (List.mem_append_left _ (List.mem_append_left _ (List.mem_append_left _ (List.mem_append_left _ (List.mem_append_left _ (List.mem_append_right _ (List.mem_append_left _ (List.mem_of_getElem? (i := 3) rfl)))))))))) rfl (by decide +kernel) ⟨Nat.le_of_ble_eq_true rfl, Nat.le_of_ble_eq_true rfl⟩) ⟨zblindW, (fun U hU hW => ⟨rfl, by rw [hU], by rw [hU]; exact hPc, va_K.moved hW.alike hK, hDc.weaken (fun _ _ _ _ => trivial)⟩)⟩ rfl rfl hl.1 rfl (lv_room (Nat.le_of_ble_eq_true rfl)) dX4_init_20 ⟨Nat.le_of_ble_eq_true rfl, Nat.le_of_ble_eq_true rfl⟩) hS (fun q _ h => hFc q h) hFc (fun u t H locs ht hvm hw hB hz1 hk1 hS => ?_)
  obtain ⟨qt_12, rfl⟩ : ∃ z, z = u := ⟨_, rfl⟩
  obtain ⟨hP1, hK1, hD1⟩ := hB
  rw [ht] at hP1
  obtain ⟨hP, hD⟩ := va_join (wr := [(qo, .inr (4, [.ref qn9, .null, .null, .null])), (qn9, .inr (2, [.ref qw_10, .ref qh_10])), (qw_10, .inl (cI, 10, .inl (zg (fun _ => 0) (fun p => 1000 - 100 * nI p) 10))), (qh_10, .inl (cI, 10, .inl (zg (fun _ => 0) (fun p => 1000 * nI p) 10)))]) (w1 := [(qn11, .inr (0, [.ref qt_12])), (qt_12, .inl (cI, 9, .inl (zg (fun _ => 0) (fun _ => 1000) 9)))]) hP hD [4] [0, 1, 2, 3] rfl rfl (by decide) (by decide) hk1 hFc hP1 hD1
  have hP := hP.sub (ws' := [(qo, .inr (4, [.ref qn9, .null, .null, .null])), (qn9, .inr (2, [.ref qw_10, .ref qh_10])), (qw_10, .inl (cI, 10, .inl (zg (fun _ => 0) (fun p => 1000 - 100 * nI p) 10))), (qh_10, .inl (cI, 10, .inl (zg (fun _ => 0) (fun p => 1000 * nI p) 10))), (qn11, .inr (0, [.ref qt_12])), (qt_12, .inl (cI, 9, .inl (zg (fun _ => 0) (fun _ => 1000) 9)))]) [0, 1, 2, 3, 4, 5] rfl
  have hD := hD.sub (ws' := [(qo, .inr (4, [.ref qn9, .null, .null, .null])), (qn9, .inr (2, [.ref qw_10, .ref qh_10])), (qw_10, .inl (cI, 10, .inl (zg (fun _ => 0) (fun p => 1000 - 100 * nI p) 10))), (qh_10, .inl (cI, 10, .inl (zg (fun _ => 0) (fun p => 1000 * nI p) 10))), (qn11, .inr (0, [.ref qt_12])), (qt_12, .inl (cI, 9, .inl (zg (fun _ => 0) (fun _ => 1000) 9)))]) [0, 1, 2, 3, 4, 5] (by decide) rfl
  refine W.widen (k := 5) (n := 32) (by decide) (by decide) ?_
  refine va_putF (D := D) (ci := 4) (v := .ref qn11) (ty := (.object "AtlasFolder$BandTruths")) (C := RX4) (T := TX4) (N := 4) hx hb hts (fun w h => List.mem_cons_of_mem _ (List.mem_append_left _ (List.mem_append_left _ (List.mem_append_left _ (List.mem_append_right _ h))))) tyX4 tyX4_ok nmX4 hown hK hP hD hS 0 rfl rfl 1 (by decide) (hts (.fieldLink RX4 19 "AtlasFolder" "bands" "LAtlasFolder$BandTruths;") (List.mem_cons_of_mem _ (List.mem_append_left _ (List.mem_append_left _ (List.mem_append_left _ (List.mem_append_left _ (List.mem_append_left _ (List.mem_append_left _ (List.mem_of_getElem? (i := 10) rfl))))))))) (fun _ h9 => h9) rfl hin rfl (by decide +kernel) rfl rfl (Nat.le_of_ble_eq_true rfl) dX4_init_23 (fun H locs hP hD hS => ?_)
  have hP : va_P D vwCl [(qo, .inr (4, [.ref qn9, .ref qn11, .null, .null])), (qn9, .inr (2, [.ref qw_10, .ref qh_10])), (qw_10, .inl (cI, 10, .inl (zg (fun _ => 0) (fun p => 1000 - 100 * nI p) 10))), (qh_10, .inl (cI, 10, .inl (zg (fun _ => 0) (fun p => 1000 * nI p) 10))), (qn11, .inr (0, [.ref qt_12])), (qt_12, .inl (cI, 9, .inl (zg (fun _ => 0) (fun _ => 1000) 9)))] H := hP
  have hD : va_D A [(qo, .inr (4, [.ref qn9, .ref qn11, .null, .null])), (qn9, .inr (2, [.ref qw_10, .ref qh_10])), (qw_10, .inl (cI, 10, .inl (zg (fun _ => 0) (fun p => 1000 - 100 * nI p) 10))), (qh_10, .inl (cI, 10, .inl (zg (fun _ => 0) (fun p => 1000 * nI p) 10))), (qn11, .inr (0, [.ref qt_12])), (qt_12, .inl (cI, 9, .inl (zg (fun _ => 0) (fun _ => 1000) 9)))] := hD
  refine lv_aload_n hx hb dX4_init_26 rfl (lv_at hl 0 rfl) ?_
  refine va_new (ci := 3) (fs := [.int 0]) (C := RX3) (T := TX3) (N := 1) hx hb hts (fun w h => List.mem_cons_of_mem _ (List.mem_append_left _ (List.mem_append_right _ h))) tyX3 tyX3_ok hown (hts (.classLink RX4 23 RX3) (List.mem_cons_of_mem _ (List.mem_append_left _ (List.mem_append_left _ (List.mem_append_left _ (List.mem_append_left _ (List.mem_append_left _ (List.mem_append_left _ (List.mem_of_getElem? (i := 11) rfl))))))))) (hts (.instantiable RX3 1) (List.mem_cons_of_mem _ (List.mem_append_left _ (List.mem_append_left _ (List.mem_append_left _ (List.mem_append_left _ (List.mem_append_left _ (List.mem_append_left _ (List.mem_of_getElem? (i := 12) rfl))))))))) (hts (.initialized RX3) (List.mem_cons_of_mem _ (List.mem_append_left _ (List.mem_append_left _ (List.mem_append_left _ (List.mem_append_left _ (List.mem_append_left _ (List.mem_append_left _ (List.mem_of_getElem? (i := 13) rfl))))))))) hK hP hD hS hA rfl (fun j hj => by rcases (show j = 0 by omega) with rfl <;> rfl) (Nat.le_of_ble_eq_true rfl) (Nat.le_of_ble_eq_true rfl) dX4_init_27 (fun qn13 H hP hD hS => ?_)
  have hP : va_P D vwCl [(qo, .inr (4, [.ref qn9, .ref qn11, .null, .null])), (qn9, .inr (2, [.ref qw_10, .ref qh_10])), (qw_10, .inl (cI, 10, .inl (zg (fun _ => 0) (fun p => 1000 - 100 * nI p) 10))), (qh_10, .inl (cI, 10, .inl (zg (fun _ => 0) (fun p => 1000 * nI p) 10))), (qn11, .inr (0, [.ref qt_12])), (qt_12, .inl (cI, 9, .inl (zg (fun _ => 0) (fun _ => 1000) 9))), (qn13, .inr (3, [.int 0]))] H := hP
  have hD : va_D A [(qo, .inr (4, [.ref qn9, .ref qn11, .null, .null])), (qn9, .inr (2, [.ref qw_10, .ref qh_10])), (qw_10, .inl (cI, 10, .inl (zg (fun _ => 0) (fun p => 1000 - 100 * nI p) 10))), (qh_10, .inl (cI, 10, .inl (zg (fun _ => 0) (fun p => 1000 * nI p) 10))), (qn11, .inr (0, [.ref qt_12])), (qt_12, .inl (cI, 9, .inl (zg (fun _ => 0) (fun _ => 1000) 9))), (qn13, .inr (3, [.int 0]))] := hD
  refine W.widen (k := 6) (n := 33) (by decide) (by decide) ?_
  refine lv_dup hx hb dX4_init_30 rfl ?_
  have hPc := hP.sub (ws' := [(qn13, .inr (3, [.int 0]))]) [6] rfl
  have hDc := hD.sub (ws' := [(qn13, .inr (3, [.int 0]))]) [6] (by decide) rfl
  have hFc := va_free (wc := [(qn13, .inr (3, [.int 0]))]) hD hS hA [6] rfl
  refine va_callv (va_runI (As := []) (rest := [.ref qn13, .ref qo]) ⟨hx, hb, hml, hown, hts⟩ (c_X3_init l D cI cZ cJ cD qn13 0 H.size ) (cwI 0 hts gX4_init_X3_init rfl rfl rfl (hts (.initialized RX3) (List.mem_cons_of_mem _ (List.mem_append_left _ (List.mem_append_left _ (List.mem_append_left _ (List.mem_append_left _ (List.mem_append_left _ (List.mem_append_left _ (List.mem_of_getElem? (i := 13) rfl))))))))) (hts (.methodLink RX4 25 yX3_init) (List.mem_cons_of_mem _ (List.mem_append_left _ (List.mem_append_left _ (List.mem_append_left _ (List.mem_append_left _ (List.mem_append_left _ (List.mem_append_right _ (List.mem_append_left _ (List.mem_of_getElem? (i := 7) rfl)))))))))) (hts (.instanceMethod yX3_init) (List.mem_cons_of_mem _ (List.mem_append_left _ (List.mem_append_left _ (List.mem_append_left _ (List.mem_append_left _ (List.mem_append_left _ (List.mem_append_right _ (List.mem_append_left _ (List.mem_of_getElem? (i := 8) rfl)))))))))) rfl (by decide +kernel) ⟨Nat.le_of_ble_eq_true rfl, Nat.le_of_ble_eq_true rfl⟩) ⟨zblindW, (fun U hU hW => ⟨rfl, by rw [hU], by rw [hU]; exact hPc, va_K.moved hW.alike hK, hDc.weaken (fun _ _ _ _ => trivial)⟩)⟩ rfl rfl hl.1 rfl (lv_room (Nat.le_of_ble_eq_true rfl)) dX4_init_31 ⟨Nat.le_of_ble_eq_true rfl, Nat.le_of_ble_eq_true rfl⟩) hS (fun q _ h => hFc q h) hFc (fun u t H locs ht hvm hw hB hz1 hk1 hS => ?_)
  obtain ⟨hP1, hK1, hD1⟩ := hB
  rw [ht] at hP1
  obtain ⟨hP, hD⟩ := va_join (wr := [(qo, .inr (4, [.ref qn9, .ref qn11, .null, .null])), (qn9, .inr (2, [.ref qw_10, .ref qh_10])), (qw_10, .inl (cI, 10, .inl (zg (fun _ => 0) (fun p => 1000 - 100 * nI p) 10))), (qh_10, .inl (cI, 10, .inl (zg (fun _ => 0) (fun p => 1000 * nI p) 10))), (qn11, .inr (0, [.ref qt_12])), (qt_12, .inl (cI, 9, .inl (zg (fun _ => 0) (fun _ => 1000) 9)))]) (w1 := [(qn13, .inr (3, [.int (n_X3_init_qz_0 0)]))]) hP hD [6] [0, 1, 2, 3, 4, 5] rfl rfl (by decide) (by decide) hk1 hFc hP1 hD1
  have hP := hP.sub (ws' := [(qo, .inr (4, [.ref qn9, .ref qn11, .null, .null])), (qn9, .inr (2, [.ref qw_10, .ref qh_10])), (qw_10, .inl (cI, 10, .inl (zg (fun _ => 0) (fun p => 1000 - 100 * nI p) 10))), (qh_10, .inl (cI, 10, .inl (zg (fun _ => 0) (fun p => 1000 * nI p) 10))), (qn11, .inr (0, [.ref qt_12])), (qt_12, .inl (cI, 9, .inl (zg (fun _ => 0) (fun _ => 1000) 9))), (qn13, .inr (3, [.int (n_X3_init_qz_0 0)]))]) [0, 1, 2, 3, 4, 5, 6] rfl
  have hD := hD.sub (ws' := [(qo, .inr (4, [.ref qn9, .ref qn11, .null, .null])), (qn9, .inr (2, [.ref qw_10, .ref qh_10])), (qw_10, .inl (cI, 10, .inl (zg (fun _ => 0) (fun p => 1000 - 100 * nI p) 10))), (qh_10, .inl (cI, 10, .inl (zg (fun _ => 0) (fun p => 1000 * nI p) 10))), (qn11, .inr (0, [.ref qt_12])), (qt_12, .inl (cI, 9, .inl (zg (fun _ => 0) (fun _ => 1000) 9))), (qn13, .inr (3, [.int (n_X3_init_qz_0 0)]))]) [0, 1, 2, 3, 4, 5, 6] (by decide) rfl
  refine va_putF (D := D) (ci := 4) (v := .ref qn13) (ty := (.object "AtlasFolder$ZoneRing")) (C := RX4) (T := TX4) (N := 4) hx hb hts (fun w h => List.mem_cons_of_mem _ (List.mem_append_left _ (List.mem_append_left _ (List.mem_append_left _ (List.mem_append_right _ h))))) tyX4 tyX4_ok nmX4 hown hK hP hD hS 0 rfl rfl 2 (by decide) (hts (.fieldLink RX4 26 "AtlasFolder" "ring" "LAtlasFolder$ZoneRing;") (List.mem_cons_of_mem _ (List.mem_append_left _ (List.mem_append_left _ (List.mem_append_left _ (List.mem_append_left _ (List.mem_append_left _ (List.mem_append_left _ (List.mem_of_getElem? (i := 14) rfl))))))))) (fun _ h9 => h9) rfl hin rfl (by decide +kernel) rfl rfl (Nat.le_of_ble_eq_true rfl) dX4_init_34 (fun H locs hP hD hS => ?_)
  have hP : va_P D vwCl [(qo, .inr (4, [.ref qn9, .ref qn11, .ref qn13, .null])), (qn9, .inr (2, [.ref qw_10, .ref qh_10])), (qw_10, .inl (cI, 10, .inl (zg (fun _ => 0) (fun p => 1000 - 100 * nI p) 10))), (qh_10, .inl (cI, 10, .inl (zg (fun _ => 0) (fun p => 1000 * nI p) 10))), (qn11, .inr (0, [.ref qt_12])), (qt_12, .inl (cI, 9, .inl (zg (fun _ => 0) (fun _ => 1000) 9))), (qn13, .inr (3, [.int (n_X3_init_qz_0 0)]))] H := hP
  have hD : va_D A [(qo, .inr (4, [.ref qn9, .ref qn11, .ref qn13, .null])), (qn9, .inr (2, [.ref qw_10, .ref qh_10])), (qw_10, .inl (cI, 10, .inl (zg (fun _ => 0) (fun p => 1000 - 100 * nI p) 10))), (qh_10, .inl (cI, 10, .inl (zg (fun _ => 0) (fun p => 1000 * nI p) 10))), (qn11, .inr (0, [.ref qt_12])), (qt_12, .inl (cI, 9, .inl (zg (fun _ => 0) (fun _ => 1000) 9))), (qn13, .inr (3, [.int (n_X3_init_qz_0 0)]))] := hD
  refine lv_aload_n hx hb dX4_init_37 rfl (lv_at hl 0 rfl) ?_
  refine va_new (ci := 1) (fs := [.null, .null, .null, .null, .int 0, .int 0, .int 0]) (C := RX1) (T := TX1) (N := 7) hx hb hts (fun w h => List.mem_cons_of_mem _ (List.mem_append_right _ h)) tyX1 tyX1_ok hown (hts (.classLink RX4 30 RX1) (List.mem_cons_of_mem _ (List.mem_append_left _ (List.mem_append_left _ (List.mem_append_left _ (List.mem_append_left _ (List.mem_append_left _ (List.mem_append_left _ (List.mem_of_getElem? (i := 15) rfl))))))))) (hts (.instantiable RX1 7) (List.mem_cons_of_mem _ (List.mem_append_left _ (List.mem_append_left _ (List.mem_append_left _ (List.mem_append_left _ (List.mem_append_left _ (List.mem_append_left _ (List.mem_of_getElem? (i := 16) rfl))))))))) (hts (.initialized RX1) (List.mem_cons_of_mem _ (List.mem_append_left _ (List.mem_append_left _ (List.mem_append_left _ (List.mem_append_left _ (List.mem_append_left _ (List.mem_append_left _ (List.mem_of_getElem? (i := 17) rfl))))))))) hK hP hD hS hA rfl (fun j hj => by rcases (show j = 0 ∨ j = 1 ∨ j = 2 ∨ j = 3 ∨ j = 4 ∨ j = 5 ∨ j = 6 by omega) with rfl | rfl | rfl | rfl | rfl | rfl | rfl <;> rfl) (Nat.le_of_ble_eq_true rfl) (Nat.le_of_ble_eq_true rfl) dX4_init_38 (fun qn15 H hP hD hS => ?_)
  have hP : va_P D vwCl [(qo, .inr (4, [.ref qn9, .ref qn11, .ref qn13, .null])), (qn9, .inr (2, [.ref qw_10, .ref qh_10])), (qw_10, .inl (cI, 10, .inl (zg (fun _ => 0) (fun p => 1000 - 100 * nI p) 10))), (qh_10, .inl (cI, 10, .inl (zg (fun _ => 0) (fun p => 1000 * nI p) 10))), (qn11, .inr (0, [.ref qt_12])), (qt_12, .inl (cI, 9, .inl (zg (fun _ => 0) (fun _ => 1000) 9))), (qn13, .inr (3, [.int (n_X3_init_qz_0 0)])), (qn15, .inr (1, [.null, .null, .null, .null, .int 0, .int 0, .int 0]))] H := hP
  have hD : va_D A [(qo, .inr (4, [.ref qn9, .ref qn11, .ref qn13, .null])), (qn9, .inr (2, [.ref qw_10, .ref qh_10])), (qw_10, .inl (cI, 10, .inl (zg (fun _ => 0) (fun p => 1000 - 100 * nI p) 10))), (qh_10, .inl (cI, 10, .inl (zg (fun _ => 0) (fun p => 1000 * nI p) 10))), (qn11, .inr (0, [.ref qt_12])), (qt_12, .inl (cI, 9, .inl (zg (fun _ => 0) (fun _ => 1000) 9))), (qn13, .inr (3, [.int (n_X3_init_qz_0 0)])), (qn15, .inr (1, [.null, .null, .null, .null, .int 0, .int 0, .int 0]))] := hD
  refine W.widen (k := 7) (n := 40) (by decide) (by decide) ?_
  refine lv_dup hx hb dX4_init_41 rfl ?_
  have hPc := hP.sub (ws' := [(qn15, .inr (1, [.null, .null, .null, .null, .int 0, .int 0, .int 0]))]) [7] rfl
  have hDc := hD.sub (ws' := [(qn15, .inr (1, [.null, .null, .null, .null, .int 0, .int 0, .int 0]))]) [7] (by decide) rfl
  have hFc := va_free (wc := [(qn15, .inr (1, [.null, .null, .null, .null, .int 0, .int 0, .int 0]))]) hD hS hA [7] rfl
  refine va_callv (va_runI (As := []) (rest := [.ref qn15, .ref qo]) ⟨hx, hb, hml, hown, hts⟩ (c_X1_init l D cI cZ cJ cD qn15 H.size ) (cwI 0 hts gX4_init_X1_init rfl rfl rfl (hts (.initialized RX1) (List.mem_cons_of_mem _ (List.mem_append_left _ (List.mem_append_left _ (List.mem_append_left _ (List.mem_append_left _ (List.mem_append_left _ (List.mem_append_left _ (List.mem_of_getElem? (i := 17) rfl))))))))) (hts (.methodLink RX4 32 yX1_init) (List.mem_cons_of_mem _ (List.mem_append_left _ (List.mem_append_left _ (List.mem_append_left _ (List.mem_append_left _ (List.mem_append_left _ (List.mem_append_right _ (List.mem_append_left _ (List.mem_of_getElem? (i := 12) rfl)))))))))) (hts (.instanceMethod yX1_init) (List.mem_cons_of_mem _ (List.mem_append_left _ (List.mem_append_left _ (List.mem_append_left _ (List.mem_append_left _ (List.mem_append_left _ (List.mem_append_right _ (List.mem_append_left _ (List.mem_of_getElem? (i := 13) rfl)))))))))) rfl (by decide +kernel) ⟨Nat.le_of_ble_eq_true rfl, Nat.le_of_ble_eq_true rfl⟩) ⟨zblindW, (fun U hU hW => ⟨rfl, by rw [hU], by rw [hU]; exact hPc, va_K.moved hW.alike hK, hDc.weaken (fun _ _ _ _ => trivial)⟩)⟩ rfl rfl hl.1 rfl (lv_room (Nat.le_of_ble_eq_true rfl)) dX4_init_42 ⟨Nat.le_of_ble_eq_true rfl, Nat.le_of_ble_eq_true rfl⟩) hS (fun q _ h => hFc q h) hFc (fun u t H locs ht hvm hw hB hz1 hk1 hS => ?_)
  obtain ⟨qx_16, qy_16, qz_16, qu_16⟩ := u
  obtain ⟨hP1, hK1, hD1⟩ := hB
  rw [ht] at hP1
  obtain ⟨hP, hD⟩ := va_join (wr := [(qo, .inr (4, [.ref qn9, .ref qn11, .ref qn13, .null])), (qn9, .inr (2, [.ref qw_10, .ref qh_10])), (qw_10, .inl (cI, 10, .inl (zg (fun _ => 0) (fun p => 1000 - 100 * nI p) 10))), (qh_10, .inl (cI, 10, .inl (zg (fun _ => 0) (fun p => 1000 * nI p) 10))), (qn11, .inr (0, [.ref qt_12])), (qt_12, .inl (cI, 9, .inl (zg (fun _ => 0) (fun _ => 1000) 9))), (qn13, .inr (3, [.int (n_X3_init_qz_0 0)]))]) (w1 := [(qn15, .inr (1, [.ref qx_16, .ref qy_16, .ref qz_16, .ref qu_16, .int (n_X1_layOut_qf_4 0 0 0 (fun _ => 0) (fun _ => 0) (fun _ => 0) (fun _ => 0) 1 1), .int (n_X1_layOut_qf_5 0 0 0 (fun _ => 0) (fun _ => 0) (fun _ => 0) (fun _ => 0) 1 1), .int (n_X1_layOut_qf_6 0 0 0 (fun _ => 0) (fun _ => 0) (fun _ => 0) (fun _ => 0) 1 1)])), (qx_16, .inl (cI, 36, .inl (n_X1_layOut_qx 0 0 0 (fun _ => 0) (fun _ => 0) (fun _ => 0) (fun _ => 0) 1 1))), (qy_16, .inl (cI, 36, .inl (n_X1_layOut_qy 0 0 0 (fun _ => 0) (fun _ => 0) (fun _ => 0) (fun _ => 0) 1 1))), (qz_16, .inl (cI, 36, .inl (n_X1_layOut_qz 0 0 0 (fun _ => 0) (fun _ => 0) (fun _ => 0) (fun _ => 0) 1 1))), (qu_16, .inl (cZ, 36, .inl (n_X1_layOut_qu 0 0 0 (fun _ => 0) (fun _ => 0) (fun _ => 0) (fun _ => 0) 1 1)))]) hP hD [7] [0, 1, 2, 3, 4, 5, 6] rfl rfl (by decide) (by decide) hk1 hFc hP1 hD1
  have hP := hP.sub (ws' := [(qo, .inr (4, [.ref qn9, .ref qn11, .ref qn13, .null])), (qn9, .inr (2, [.ref qw_10, .ref qh_10])), (qw_10, .inl (cI, 10, .inl (zg (fun _ => 0) (fun p => 1000 - 100 * nI p) 10))), (qh_10, .inl (cI, 10, .inl (zg (fun _ => 0) (fun p => 1000 * nI p) 10))), (qn11, .inr (0, [.ref qt_12])), (qt_12, .inl (cI, 9, .inl (zg (fun _ => 0) (fun _ => 1000) 9))), (qn13, .inr (3, [.int (n_X3_init_qz_0 0)])), (qn15, .inr (1, [.ref qx_16, .ref qy_16, .ref qz_16, .ref qu_16, .int (n_X1_layOut_qf_4 0 0 0 (fun _ => 0) (fun _ => 0) (fun _ => 0) (fun _ => 0) 1 1), .int (n_X1_layOut_qf_5 0 0 0 (fun _ => 0) (fun _ => 0) (fun _ => 0) (fun _ => 0) 1 1), .int (n_X1_layOut_qf_6 0 0 0 (fun _ => 0) (fun _ => 0) (fun _ => 0) (fun _ => 0) 1 1)])), (qx_16, .inl (cI, 36, .inl (n_X1_layOut_qx 0 0 0 (fun _ => 0) (fun _ => 0) (fun _ => 0) (fun _ => 0) 1 1))), (qy_16, .inl (cI, 36, .inl (n_X1_layOut_qy 0 0 0 (fun _ => 0) (fun _ => 0) (fun _ => 0) (fun _ => 0) 1 1))), (qz_16, .inl (cI, 36, .inl (n_X1_layOut_qz 0 0 0 (fun _ => 0) (fun _ => 0) (fun _ => 0) (fun _ => 0) 1 1))), (qu_16, .inl (cZ, 36, .inl (n_X1_layOut_qu 0 0 0 (fun _ => 0) (fun _ => 0) (fun _ => 0) (fun _ => 0) 1 1)))]) [0, 1, 2, 3, 4, 5, 6, 7, 8, 9, 10, 11] rfl
  have hD := hD.sub (ws' := [(qo, .inr (4, [.ref qn9, .ref qn11, .ref qn13, .null])), (qn9, .inr (2, [.ref qw_10, .ref qh_10])), (qw_10, .inl (cI, 10, .inl (zg (fun _ => 0) (fun p => 1000 - 100 * nI p) 10))), (qh_10, .inl (cI, 10, .inl (zg (fun _ => 0) (fun p => 1000 * nI p) 10))), (qn11, .inr (0, [.ref qt_12])), (qt_12, .inl (cI, 9, .inl (zg (fun _ => 0) (fun _ => 1000) 9))), (qn13, .inr (3, [.int (n_X3_init_qz_0 0)])), (qn15, .inr (1, [.ref qx_16, .ref qy_16, .ref qz_16, .ref qu_16, .int (n_X1_layOut_qf_4 0 0 0 (fun _ => 0) (fun _ => 0) (fun _ => 0) (fun _ => 0) 1 1), .int (n_X1_layOut_qf_5 0 0 0 (fun _ => 0) (fun _ => 0) (fun _ => 0) (fun _ => 0) 1 1), .int (n_X1_layOut_qf_6 0 0 0 (fun _ => 0) (fun _ => 0) (fun _ => 0) (fun _ => 0) 1 1)])), (qx_16, .inl (cI, 36, .inl (n_X1_layOut_qx 0 0 0 (fun _ => 0) (fun _ => 0) (fun _ => 0) (fun _ => 0) 1 1))), (qy_16, .inl (cI, 36, .inl (n_X1_layOut_qy 0 0 0 (fun _ => 0) (fun _ => 0) (fun _ => 0) (fun _ => 0) 1 1))), (qz_16, .inl (cI, 36, .inl (n_X1_layOut_qz 0 0 0 (fun _ => 0) (fun _ => 0) (fun _ => 0) (fun _ => 0) 1 1))), (qu_16, .inl (cZ, 36, .inl (n_X1_layOut_qu 0 0 0 (fun _ => 0) (fun _ => 0) (fun _ => 0) (fun _ => 0) 1 1)))]) [0, 1, 2, 3, 4, 5, 6, 7, 8, 9, 10, 11] (by decide) rfl
  refine W.widen (k := 11) (n := 184) (by decide) (by decide) ?_
  refine va_putF (D := D) (ci := 4) (v := .ref qn15) (ty := (.object "AtlasFolder$FoldedSheet")) (C := RX4) (T := TX4) (N := 4) hx hb hts (fun w h => List.mem_cons_of_mem _ (List.mem_append_left _ (List.mem_append_left _ (List.mem_append_left _ (List.mem_append_right _ h))))) tyX4 tyX4_ok nmX4 hown hK hP hD hS 0 rfl rfl 3 (by decide) (hts (.fieldLink RX4 33 "AtlasFolder" "stack" "LAtlasFolder$FoldedSheet;") (List.mem_cons_of_mem _ (List.mem_append_left _ (List.mem_append_left _ (List.mem_append_left _ (List.mem_append_left _ (List.mem_append_left _ (List.mem_append_left _ (List.mem_of_getElem? (i := 18) rfl))))))))) (fun _ h9 => h9) rfl hin rfl (by decide +kernel) rfl rfl (Nat.le_of_ble_eq_true rfl) dX4_init_45 (fun H locs hP hD hS => ?_)
  have hP : va_P D vwCl [(qo, .inr (4, [.ref qn9, .ref qn11, .ref qn13, .ref qn15])), (qn9, .inr (2, [.ref qw_10, .ref qh_10])), (qw_10, .inl (cI, 10, .inl (zg (fun _ => 0) (fun p => 1000 - 100 * nI p) 10))), (qh_10, .inl (cI, 10, .inl (zg (fun _ => 0) (fun p => 1000 * nI p) 10))), (qn11, .inr (0, [.ref qt_12])), (qt_12, .inl (cI, 9, .inl (zg (fun _ => 0) (fun _ => 1000) 9))), (qn13, .inr (3, [.int (n_X3_init_qz_0 0)])), (qn15, .inr (1, [.ref qx_16, .ref qy_16, .ref qz_16, .ref qu_16, .int (n_X1_layOut_qf_4 0 0 0 (fun _ => 0) (fun _ => 0) (fun _ => 0) (fun _ => 0) 1 1), .int (n_X1_layOut_qf_5 0 0 0 (fun _ => 0) (fun _ => 0) (fun _ => 0) (fun _ => 0) 1 1), .int (n_X1_layOut_qf_6 0 0 0 (fun _ => 0) (fun _ => 0) (fun _ => 0) (fun _ => 0) 1 1)])), (qx_16, .inl (cI, 36, .inl (n_X1_layOut_qx 0 0 0 (fun _ => 0) (fun _ => 0) (fun _ => 0) (fun _ => 0) 1 1))), (qy_16, .inl (cI, 36, .inl (n_X1_layOut_qy 0 0 0 (fun _ => 0) (fun _ => 0) (fun _ => 0) (fun _ => 0) 1 1))), (qz_16, .inl (cI, 36, .inl (n_X1_layOut_qz 0 0 0 (fun _ => 0) (fun _ => 0) (fun _ => 0) (fun _ => 0) 1 1))), (qu_16, .inl (cZ, 36, .inl (n_X1_layOut_qu 0 0 0 (fun _ => 0) (fun _ => 0) (fun _ => 0) (fun _ => 0) 1 1)))] H := hP
  have hD : va_D A [(qo, .inr (4, [.ref qn9, .ref qn11, .ref qn13, .ref qn15])), (qn9, .inr (2, [.ref qw_10, .ref qh_10])), (qw_10, .inl (cI, 10, .inl (zg (fun _ => 0) (fun p => 1000 - 100 * nI p) 10))), (qh_10, .inl (cI, 10, .inl (zg (fun _ => 0) (fun p => 1000 * nI p) 10))), (qn11, .inr (0, [.ref qt_12])), (qt_12, .inl (cI, 9, .inl (zg (fun _ => 0) (fun _ => 1000) 9))), (qn13, .inr (3, [.int (n_X3_init_qz_0 0)])), (qn15, .inr (1, [.ref qx_16, .ref qy_16, .ref qz_16, .ref qu_16, .int (n_X1_layOut_qf_4 0 0 0 (fun _ => 0) (fun _ => 0) (fun _ => 0) (fun _ => 0) 1 1), .int (n_X1_layOut_qf_5 0 0 0 (fun _ => 0) (fun _ => 0) (fun _ => 0) (fun _ => 0) 1 1), .int (n_X1_layOut_qf_6 0 0 0 (fun _ => 0) (fun _ => 0) (fun _ => 0) (fun _ => 0) 1 1)])), (qx_16, .inl (cI, 36, .inl (n_X1_layOut_qx 0 0 0 (fun _ => 0) (fun _ => 0) (fun _ => 0) (fun _ => 0) 1 1))), (qy_16, .inl (cI, 36, .inl (n_X1_layOut_qy 0 0 0 (fun _ => 0) (fun _ => 0) (fun _ => 0) (fun _ => 0) 1 1))), (qz_16, .inl (cI, 36, .inl (n_X1_layOut_qz 0 0 0 (fun _ => 0) (fun _ => 0) (fun _ => 0) (fun _ => 0) 1 1))), (qu_16, .inl (cZ, 36, .inl (n_X1_layOut_qu 0 0 0 (fun _ => 0) (fun _ => 0) (fun _ => 0) (fun _ => 0) 1 1)))] := hD
  have hP := hP.sub (ws' := [(qo, .inr (4, [.ref qn9, .ref qn11, .ref qn13, .ref qn15])), (qn9, .inr (2, [.ref qw_10, .ref qh_10])), (qw_10, .inl (cI, 10, .inl (zg (fun _ => 0) (fun p => 1000 - 100 * nI p) 10))), (qh_10, .inl (cI, 10, .inl (zg (fun _ => 0) (fun p => 1000 * nI p) 10))), (qn11, .inr (0, [.ref qt_12])), (qt_12, .inl (cI, 9, .inl (zg (fun _ => 0) (fun _ => 1000) 9))), (qn13, .inr (3, [.int (n_X3_init_qz_0 0)])), (qn15, .inr (1, [.ref qx_16, .ref qy_16, .ref qz_16, .ref qu_16, .int (n_X1_layOut_qf_4 0 0 0 (fun _ => 0) (fun _ => 0) (fun _ => 0) (fun _ => 0) 1 1), .int (n_X1_layOut_qf_5 0 0 0 (fun _ => 0) (fun _ => 0) (fun _ => 0) (fun _ => 0) 1 1), .int (n_X1_layOut_qf_6 0 0 0 (fun _ => 0) (fun _ => 0) (fun _ => 0) (fun _ => 0) 1 1)])), (qx_16, .inl (cI, 36, .inl (n_X1_layOut_qx 0 0 0 (fun _ => 0) (fun _ => 0) (fun _ => 0) (fun _ => 0) 1 1))), (qy_16, .inl (cI, 36, .inl (n_X1_layOut_qy 0 0 0 (fun _ => 0) (fun _ => 0) (fun _ => 0) (fun _ => 0) 1 1))), (qz_16, .inl (cI, 36, .inl (n_X1_layOut_qz 0 0 0 (fun _ => 0) (fun _ => 0) (fun _ => 0) (fun _ => 0) 1 1))), (qu_16, .inl (cZ, 36, .inl (n_X1_layOut_qu 0 0 0 (fun _ => 0) (fun _ => 0) (fun _ => 0) (fun _ => 0) 1 1)))]) [0, 1, 2, 3, 4, 5, 6, 7, 8, 9, 10, 11] rfl
  have hD := hD.sub (ws' := [(qo, .inr (4, [.ref qn9, .ref qn11, .ref qn13, .ref qn15])), (qn9, .inr (2, [.ref qw_10, .ref qh_10])), (qw_10, .inl (cI, 10, .inl (zg (fun _ => 0) (fun p => 1000 - 100 * nI p) 10))), (qh_10, .inl (cI, 10, .inl (zg (fun _ => 0) (fun p => 1000 * nI p) 10))), (qn11, .inr (0, [.ref qt_12])), (qt_12, .inl (cI, 9, .inl (zg (fun _ => 0) (fun _ => 1000) 9))), (qn13, .inr (3, [.int (n_X3_init_qz_0 0)])), (qn15, .inr (1, [.ref qx_16, .ref qy_16, .ref qz_16, .ref qu_16, .int (n_X1_layOut_qf_4 0 0 0 (fun _ => 0) (fun _ => 0) (fun _ => 0) (fun _ => 0) 1 1), .int (n_X1_layOut_qf_5 0 0 0 (fun _ => 0) (fun _ => 0) (fun _ => 0) (fun _ => 0) 1 1), .int (n_X1_layOut_qf_6 0 0 0 (fun _ => 0) (fun _ => 0) (fun _ => 0) (fun _ => 0) 1 1)])), (qx_16, .inl (cI, 36, .inl (n_X1_layOut_qx 0 0 0 (fun _ => 0) (fun _ => 0) (fun _ => 0) (fun _ => 0) 1 1))), (qy_16, .inl (cI, 36, .inl (n_X1_layOut_qy 0 0 0 (fun _ => 0) (fun _ => 0) (fun _ => 0) (fun _ => 0) 1 1))), (qz_16, .inl (cI, 36, .inl (n_X1_layOut_qz 0 0 0 (fun _ => 0) (fun _ => 0) (fun _ => 0) (fun _ => 0) 1 1))), (qu_16, .inl (cZ, 36, .inl (n_X1_layOut_qu 0 0 0 (fun _ => 0) (fun _ => 0) (fun _ => 0) (fun _ => 0) 1 1)))]) [0, 1, 2, 3, 4, 5, 6, 7, 8, 9, 10, 11] (by decide) rfl
  exact W.vret hx hb hr (fun t ht hW => ⟨⟨(qn9, qn11, qn13, qn15, qw_10, qh_10, qt_12, qx_16, qy_16, qz_16, qu_16), rfl, trivial, ⟨by rw [ht]; exact hP, va_K.moved hW.alike hK, hD⟩⟩, hS.F ht⟩) hS.2.2 dX4_init_48
