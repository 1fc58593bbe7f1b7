theorem z_n1 {p : Prop} [Decidable p] {x : Int32} (h : ¬ (if p then 0 else x) = 0) : ¬ p := fun hp => h (if_pos hp)
theorem z_n2 {p : Prop} [Decidable p] {x : Int32} (h : ¬ (if p then 0 else x) = 0) : ¬ x = 0 := fun hx => by
  by_cases hp : p
  · exact h (if_pos hp)
  · exact h ((if_neg hp).trans hx)
theorem z_m01 {p : Prop} [Decidable p] {x : Int32} (h : x = 0 ∨ x = 1) : (if p then 0 else x) = 0 ∨ (if p then 0 else x) = 1 := by
  by_cases hp : p
  · exact Or.inl (if_pos hp)
  · rw [if_neg hp]
    exact h
theorem z_abs {lat : Int32} (h : -90 ≤ lat.toInt ∧ lat.toInt ≤ 90) : ∃ n : Nat, n ≤ 90 ∧ n = lat.toInt.natAbs ∧ (if 0 ≤ lat then lat else -lat) = nI n := by
  refine ⟨lat.toInt.natAbs, by omega, rfl, ?_⟩
  have e0 : (0 : Int32).toInt = 0 := rfl
  apply Int32.toInt_inj.mp
  rw [nI_toInt (by omega)]
  by_cases c : 0 ≤ lat
  · rw [if_pos c]
    rw [Int32.le_iff_toInt_le] at c
    omega
  · rw [if_neg c]
    rw [Int32.le_iff_toInt_le] at c
    rw [Int32.toInt_neg, z_bm (by omega) (by omega)]
    omega
theorem z_d10 (n : Nat) (h : n ≤ 90) : nI n / 10 = nI (n / 10) := pk_div (a := n) (d := 10) (by omega) (by omega) (by omega)
theorem z_r10 (n : Nat) (h : n ≤ 90) : nI n - nI n / 10 * 10 = nI (n % 10) := pk_rem (a := n) (d := 10) (by omega) (by omega) (by omega)
theorem z_wk {lat : Int32} (h : -90 ≤ lat.toInt ∧ lat.toInt ≤ 90) : vp_in ((if 0 ≤ lat then lat else -lat) / 10) 10 := by
  obtain ⟨n, hn, -, e⟩ := z_abs h
  rw [e, z_d10 n hn]
  exact vp_in_nI (by omega) (by omega)
theorem z_wk1 {lat : Int32} (h : -90 ≤ lat.toInt ∧ lat.toInt ≤ 90) (hr : ¬ (if 0 ≤ lat then lat else -lat) - (if 0 ≤ lat then lat else -lat) / 10 * 10 ≤ 0) : vp_in ((if 0 ≤ lat then lat else -lat) / 10 + 1) 10 := by
  obtain ⟨n, hn, -, e⟩ := z_abs h
  rw [e, z_r10 n hn] at hr
  rw [e, z_d10 n hn, nI_1]
  have h0 : 0 < n % 10 := by
    rcases Nat.eq_zero_or_pos (n % 10) with q | q
    · rw [q] at hr
      exact absurd (by decide) hr
    · exact q
  exact vp_in_nI (by omega) (by omega)
def s_X5_thrown (th : Int32) : Int32 := th
abbrev rm_X5_thrown : Room := { frames := 0, cells := 0, slots := 0, locals := 0 }
abbrev Qc_X5_thrown (D : va_G) (cI cZ cJ cD : ClassId) (qg : Nat) (qgw : Nat) (qgh : Nat) (qgt : Nat) (br : Int32) (jC : Int32) (jR : Int32) (nf : Int32) (qgx : Nat) (qgy : Nat) (qgz : Nat) (qgu : Nat) (th : Int32) : Array Value → State → Outcome → State → Prop := va_Qi (fun (r : Int32) (_ : Unit) => r = s_X5_thrown th) (fun _ _ => True) (fun _ : Nat => False)
set_option maxHeartbeats 4000000 in
set_option maxRecDepth 100000 in
theorem c_X5_thrown (l : Launch) (D : va_G) (cI cZ cJ cD : ClassId) (qg : Nat) (qgw : Nat) (qgh : Nat) (qgt : Nat) (br : Int32) (jC : Int32) (jR : Int32) (nf : Int32) (qgx : Nat) (qgy : Nat) (qgz : Nat) (qgu : Nat) (th : Int32)  : Met l yX5_thrown wsX5_thrown rm_X5_thrown (va_Pc [.ref qg] (zPre D cI cZ cJ cD [(qg, .inr (5, [.ref qgw, .ref qgh, .ref qgt, .int br, .int jC, .int jR, .int nf, .ref qgx, .ref qgy, .ref qgz, .ref qgu, .int th]))])) (Qc_X5_thrown D cI cZ cJ cD qg qgw qgh qgt br jC jR nf qgx qgy qgz qgu th ) 0 0 (fun _ : Nat => False) := by
  refine Met.ofW (cc := cX5_thrown) (maxL := 1) (ret := (some .int)) (by decide) rfl ?_
  intro p e s m args below meth c s₁ B hml hv
  obtain ⟨rfl, hP, hK⟩ := hv
  have hx := B.exec
  have hb := B.bytes
  have hr := B.returns
  have hts := atoms_spec (ws := wsX5_thrown) B.pre
  have hown : s.vm.findClass RX5 = some m.cls := findClass_of_methodNamed B.named
  have hlocks := B.notSynchronized
  have hS : va_S (fun _ : Nat => False) s.heap s.heap [] := va_S.rf
  have hl := lv_entry ([.ref qg]) (n := 1) (Nat.le_of_ble_eq_true rfl)
  rw [lg_entry_eq]
  generalize (lg_sl ([.ref qg]) ++ List.replicate (1 - (lg_sl ([.ref qg])).length) Slot.unset).toArray = ls at hl ⊢
  have hl : lv_has ls 1 [(0, .ref qg)] := hl
  have hP : va_P D vwCl [(qg, .inr (5, [.ref qgw, .ref qgh, .ref qgt, .int br, .int jC, .int jR, .int nf, .ref qgx, .ref qgy, .ref qgz, .ref qgu, .int th]))] s.heap := hP
  have hP := hP
  refine lv_aload_n hx hb dX5_thrown_0 rfl (lv_at hl 0 rfl) ?_
  refine va_get (D := D) (ci := 5) (v := .int th) (C := RX5) (T := TX5) (N := 12) hx hb hts (fun w h => List.mem_cons_of_mem _ (List.mem_append_right _ h)) hown hK hP 0 rfl rfl 11 (by decide) (hts (.fieldLink RX5 45 "AtlasFolderModel" "thrown" "I") (List.mem_cons_of_mem _ (List.mem_append_left _ (List.mem_of_getElem? (i := 0) rfl)))) (fun _ h9 => h9) rfl dX5_thrown_1 ?_
  have e1 : s_X5_thrown th = th := rfl
  exact W.iret (v := th) hx hb hr (fun t ht hW => ⟨⟨_, (), rfl, e1.symm, trivial⟩, hS.F ht⟩) hS.2.2 dX5_thrown_4
def s_X5_may (v : Int32) : Int32 := v
def n_X5_may_qg_11 (v : Int32) : Int32 := (if v = 0 then 1 else 0)
abbrev rm_X5_may : Room := { frames := 0, cells := 0, slots := 0, locals := 0 }
abbrev Qc_X5_may (D : va_G) (cI cZ cJ cD : ClassId) (qg : Nat) (qgw : Nat) (qgh : Nat) (qgt : Nat) (br : Int32) (jC : Int32) (jR : Int32) (nf : Int32) (qgx : Nat) (qgy : Nat) (qgz : Nat) (qgu : Nat) (th : Int32) (v : Int32) (A : Nat → Prop) : Array Value → State → Outcome → State → Prop := va_Qi (fun (r : Int32) (_ : Unit) => r = s_X5_may v) (zPost D cI cZ cJ cD A [(qg, .inr (5, [.ref qgw, .ref qgh, .ref qgt, .int br, .int jC, .int jR, .int nf, .ref qgx, .ref qgy, .ref qgz, .ref qgu, .int (n_X5_may_qg_11 v)]))]) A
set_option maxHeartbeats 4000000 in
set_option maxRecDepth 100000 in
theorem c_X5_may (l : Launch) (D : va_G) (cI cZ cJ cD : ClassId) (qg : Nat) (qgw : Nat) (qgh : Nat) (qgt : Nat) (br : Int32) (jC : Int32) (jR : Int32) (nf : Int32) (qgx : Nat) (qgy : Nat) (qgz : Nat) (qgu : Nat) (th : Int32) (v : Int32) (sz : Nat) (hv : v = 0 ∨ v = 1) : Met l yX5_may wsX5_may rm_X5_may (va_Pc [.ref qg, .int v] (zPreW D cI cZ cJ cD [(qg, .inr (5, [.ref qgw, .ref qgh, .ref qgt, .int br, .int jC, .int jR, .int nf, .ref qgx, .ref qgy, .ref qgz, .ref qgu, .int th]))] sz)) (Qc_X5_may D cI cZ cJ cD qg qgw qgh qgt br jC jR nf qgx qgy qgz qgu th v (va_A [(qg, .inr (5, [.ref qgw, .ref qgh, .ref qgt, .int br, .int jC, .int jR, .int nf, .ref qgx, .ref qgy, .ref qgz, .ref qgu, .int th]))] sz)) 0 0 (va_A [(qg, .inr (5, [.ref qgw, .ref qgh, .ref qgt, .int br, .int jC, .int jR, .int nf, .ref qgx, .ref qgy, .ref qgz, .ref qgu, .int th]))] sz) := by
  refine Met.ofW (cc := cX5_may) (maxL := 2) (ret := (some .boolean)) (by decide) rfl ?_
  intro p e s m args below meth c s₁ B hml hv
  obtain ⟨rfl, hsz, hP, hK, hD0⟩ := hv
  have hx := B.exec
  have hb := B.bytes
  have hr := B.returns
  have hts := atoms_spec (ws := wsX5_may) B.pre
  have hown : s.vm.findClass RX5 = some m.cls := findClass_of_methodNamed B.named
  have hlocks := B.notSynchronized
  subst hsz
  have hD := hD0.self (sz := s.heap.size)
  generalize hAe : va_A [(qg, .inr (5, [.ref qgw, .ref qgh, .ref qgt, .int br, .int jC, .int jR, .int nf, .ref qgx, .ref qgy, .ref qgz, .ref qgu, .int th]))] s.heap.size = A at hD ⊢
  have hA : ∀ q : Nat, s.heap.size ≤ q → A q := fun q h => by rw [← hAe]; exact Or.inr h
  have hS : va_S A s.heap s.heap [] := va_S.rf
  have hl := lv_entry ([.ref qg, .int v]) (n := 2) (Nat.le_of_ble_eq_true rfl)
  rw [lg_entry_eq]
  generalize (lg_sl ([.ref qg, .int v]) ++ List.replicate (2 - (lg_sl ([.ref qg, .int v])).length) Slot.unset).toArray = ls at hl ⊢
  have hl : lv_has ls 2 [(0, .ref qg), (1, .int v)] := hl
  have hP : va_P D vwCl [(qg, .inr (5, [.ref qgw, .ref qgh, .ref qgt, .int br, .int jC, .int jR, .int nf, .ref qgx, .ref qgy, .ref qgz, .ref qgu, .int th]))] s.heap := hP
  have hP := hP
  refine lv_aload_n hx hb dX5_may_0 rfl (lv_at hl 0 rfl) ?_
  refine lv_iload_n hx hb dX5_may_1 rfl (lv_at hl 1 rfl) ?_
  have K5 : ∀ v5_0 : Int32, v5_0 = (if v = 0 then 1 else 0) → ∀ (H : Heap) (locs : List Loc), va_P D vwCl [(qg, .inr (5, [.ref qgw, .ref qgh, .ref qgt, .int br, .int jC, .int jR, .int nf, .ref qgx, .ref qgy, .ref qgz, .ref qgu, .int th]))] H → va_D A [(qg, .inr (5, [.ref qgw, .ref qgh, .ref qgt, .int br, .int jC, .int jR, .int nf, .ref qgx, .ref qgy, .ref qgz, .ref qgu, .int th]))] → va_S A s.heap H locs → ∀ (ls : Array Slot), lv_has ls 2 [(0, .ref qg), (1, .int v)] → W p l e (headSpec wsX5_may rm_X5_may).room s m ([.ref qg, .int v]).toArray below meth c H locs 0 0 (MQ below (Qc_X5_may D cI cZ cJ cD qg qgw qgh qgt br jC jR nf qgx qgy qgz qgu th v A) ([.ref qg, .int v]).toArray s 0 0 A) (F0 m 10 ls [.int v5_0, .ref qg]) := by
    intro v5_0 hv5_0 H locs hP hD hS ls hl
    subst hv5_0
    refine va_put (D := D) (ci := 5) (v := .int (if v = 0 then 1 else 0)) (ty := .int) (C := RX5) (T := TX5) (N := 12) hx hb hts (fun w h => List.mem_cons_of_mem _ (List.mem_append_right _ h)) tyX5 tyX5_ok nmX5 hown hK hP hD hS 0 rfl rfl 11 (by decide) (hts (.fieldLink RX5 45 "AtlasFolderModel" "thrown" "I") (List.mem_cons_of_mem _ (List.mem_append_left _ (List.mem_of_getElem? (i := 0) rfl)))) (fun _ h9 => h9) rfl (by decide +kernel) rfl rfl (Nat.le_of_ble_eq_true rfl) dX5_may_10 (fun H locs hP hD hS => ?_)
    have hP : va_P D vwCl [(qg, .inr (5, [.ref qgw, .ref qgh, .ref qgt, .int br, .int jC, .int jR, .int nf, .ref qgx, .ref qgy, .ref qgz, .ref qgu, .int (if v = 0 then 1 else 0)]))] H := hP
    have hD : va_D A [(qg, .inr (5, [.ref qgw, .ref qgh, .ref qgt, .int br, .int jC, .int jR, .int nf, .ref qgx, .ref qgy, .ref qgz, .ref qgu, .int (if v = 0 then 1 else 0)]))] := hD
    refine lv_iload_n hx hb dX5_may_13 rfl (lv_at hl 1 rfl) ?_
    have e6 : s_X5_may v = v := rfl
    have e7 : n_X5_may_qg_11 v = (if v = 0 then 1 else 0) := rfl
    exact W.zret (v := v) hx hb hr (z_b hv) (fun t ht hW => ⟨⟨_, (), rfl, e6.symm, ⟨(by rw [e7]; rw [ht]; exact hP), va_K.moved hW.alike hK, (by rw [e7]; exact hD)⟩⟩, hS.F ht⟩) hS.2.2 dX5_may_14
  refine lv_if_eq (tgt := 9) hx hb dX5_may_2 (by decide) (fun c8 => ?_) (fun c8 => ?_)
  · refine lv_iconst (v := 1) hx hb dX5_may_9 (by decide) ?_
    exact K5 _ (if_pos c8).symm _ _ hP hD hS _ (lv_sub hl [0, 1] rfl)
  · refine lv_iconst (v := 0) hx hb dX5_may_5 (by decide) ?_
    refine lv_goto (tgt := 10) hx hb dX5_may_6 (by decide) ?_
    exact K5 _ (if_neg c8).symm _ _ hP hD hS _ (lv_sub hl [0, 1] rfl)
def s_X5_mayBoth (v1 : Int32) (v2 : Int32) : Int32 := (if (if v1 = 0 then 1 else (if v2 = 0 then 2 else 0)) = (0 : Int32) then 1 else 0)
def n_X5_mayBoth_qg_11 (v1 : Int32) (v2 : Int32) : Int32 := (if v1 = 0 then 1 else (if v2 = 0 then 2 else 0))
abbrev rm_X5_mayBoth : Room := { frames := 0, cells := 0, slots := 0, locals := 0 }
abbrev Qc_X5_mayBoth (D : va_G) (cI cZ cJ cD : ClassId) (qg : Nat) (qgw : Nat) (qgh : Nat) (qgt : Nat) (br : Int32) (jC : Int32) (jR : Int32) (nf : Int32) (qgx : Nat) (qgy : Nat) (qgz : Nat) (qgu : Nat) (th : Int32) (v1 : Int32) (v2 : Int32) (A : Nat → Prop) : Array Value → State → Outcome → State → Prop := va_Qi (fun (r : Int32) (_ : Unit) => r = s_X5_mayBoth v1 v2) (zPost D cI cZ cJ cD A [(qg, .inr (5, [.ref qgw, .ref qgh, .ref qgt, .int br, .int jC, .int jR, .int nf, .ref qgx, .ref qgy, .ref qgz, .ref qgu, .int (n_X5_mayBoth_qg_11 v1 v2)]))]) A
set_option maxHeartbeats 4000000 in
set_option maxRecDepth 100000 in
theorem c_X5_mayBoth (l : Launch) (D : va_G) (cI cZ cJ cD : ClassId) (qg : Nat) (qgw : Nat) (qgh : Nat) (qgt : Nat) (br : Int32) (jC : Int32) (jR : Int32) (nf : Int32) (qgx : Nat) (qgy : Nat) (qgz : Nat) (qgu : Nat) (th : Int32) (v1 : Int32) (v2 : Int32) (sz : Nat)  : Met l yX5_mayBoth wsX5_mayBoth rm_X5_mayBoth (va_Pc [.ref qg, .int v1, .int v2] (zPreW D cI cZ cJ cD [(qg, .inr (5, [.ref qgw, .ref qgh, .ref qgt, .int br, .int jC, .int jR, .int nf, .ref qgx, .ref qgy, .ref qgz, .ref qgu, .int th]))] sz)) (Qc_X5_mayBoth D cI cZ cJ cD qg qgw qgh qgt br jC jR nf qgx qgy qgz qgu th v1 v2 (va_A [(qg, .inr (5, [.ref qgw, .ref qgh, .ref qgt, .int br, .int jC, .int jR, .int nf, .ref qgx, .ref qgy, .ref qgz, .ref qgu, .int th]))] sz)) 0 0 (va_A [(qg, .inr (5, [.ref qgw, .ref qgh, .ref qgt, .int br, .int jC, .int jR, .int nf, .ref qgx, .ref qgy, .ref qgz, .ref qgu, .int th]))] sz) := by
  refine Met.ofW (cc := cX5_mayBoth) (maxL := 3) (ret := (some .boolean)) (by decide) rfl ?_
  intro p e s m args below meth c s₁ B hml hv
  obtain ⟨rfl, hsz, hP, hK, hD0⟩ := hv
  have hx := B.exec
  have hb := B.bytes
  have hr := B.returns
  have hts := atoms_spec (ws := wsX5_mayBoth) B.pre
  have hown : s.vm.findClass RX5 = some m.cls := findClass_of_methodNamed B.named
  have hlocks := B.notSynchronized
  subst hsz
  have hD := hD0.self (sz := s.heap.size)
  generalize hAe : va_A [(qg, .inr (5, [.ref qgw, .ref qgh, .ref qgt, .int br, .int jC, .int jR, .int nf, .ref qgx, .ref qgy, .ref qgz, .ref qgu, .int th]))] s.heap.size = A at hD ⊢
  have hA : ∀ q : Nat, s.heap.size ≤ q → A q := fun q h => by rw [← hAe]; exact Or.inr h
  have hS : va_S A s.heap s.heap [] := va_S.rf
  have hl := lv_entry ([.ref qg, .int v1, .int v2]) (n := 3) (Nat.le_of_ble_eq_true rfl)
  rw [lg_entry_eq]
  generalize (lg_sl ([.ref qg, .int v1, .int v2]) ++ List.replicate (3 - (lg_sl ([.ref qg, .int v1, .int v2])).length) Slot.unset).toArray = ls at hl ⊢
  have hl : lv_has ls 3 [(0, .ref qg), (1, .int v1), (2, .int v2)] := hl
  have hP : va_P D vwCl [(qg, .inr (5, [.ref qgw, .ref qgh, .ref qgt, .int br, .int jC, .int jR, .int nf, .ref qgx, .ref qgy, .ref qgz, .ref qgu, .int th]))] s.heap := hP
  have hP := hP
  refine lv_aload_n hx hb dX5_mayBoth_0 rfl (lv_at hl 0 rfl) ?_
  refine lv_iload_n hx hb dX5_mayBoth_1 rfl (lv_at hl 1 rfl) ?_
  have K9 : ∀ v9_0 : Int32, v9_0 = (if v1 = 0 then 1 else (if v2 = 0 then 2 else 0)) → ∀ (H : Heap) (locs : List Loc), va_P D vwCl [(qg, .inr (5, [.ref qgw, .ref qgh, .ref qgt, .int br, .int jC, .int jR, .int nf, .ref qgx, .ref qgy, .ref qgz, .ref qgu, .int th]))] H → va_D A [(qg, .inr (5, [.ref qgw, .ref qgh, .ref qgt, .int br, .int jC, .int jR, .int nf, .ref qgx, .ref qgy, .ref qgz, .ref qgu, .int th]))] → va_S A s.heap H locs → ∀ (ls : Array Slot), lv_has ls 3 [(0, .ref qg), (1, .int v1), (2, .int v2)] → W p l e (headSpec wsX5_mayBoth rm_X5_mayBoth).room s m ([.ref qg, .int v1, .int v2]).toArray below meth c H locs 0 0 (MQ below (Qc_X5_mayBoth D cI cZ cJ cD qg qgw qgh qgt br jC jR nf qgx qgy qgz qgu th v1 v2 A) ([.ref qg, .int v1, .int v2]).toArray s 0 0 A) (F0 m 18 ls [.int v9_0, .ref qg]) := by
    intro v9_0 hv9_0 H locs hP hD hS ls hl
    subst hv9_0
    refine va_put (D := D) (ci := 5) (v := .int (if v1 = 0 then 1 else (if v2 = 0 then 2 else 0))) (ty := .int) (C := RX5) (T := TX5) (N := 12) hx hb hts (fun w h => List.mem_cons_of_mem _ (List.mem_append_right _ h)) tyX5 tyX5_ok nmX5 hown hK hP hD hS 0 rfl rfl 11 (by decide) (hts (.fieldLink RX5 45 "AtlasFolderModel" "thrown" "I") (List.mem_cons_of_mem _ (List.mem_append_left _ (List.mem_of_getElem? (i := 0) rfl)))) (fun _ h9 => h9) rfl (by decide +kernel) rfl rfl (Nat.le_of_ble_eq_true rfl) dX5_mayBoth_18 (fun H locs hP hD hS => ?_)
    have hP : va_P D vwCl [(qg, .inr (5, [.ref qgw, .ref qgh, .ref qgt, .int br, .int jC, .int jR, .int nf, .ref qgx, .ref qgy, .ref qgz, .ref qgu, .int (if v1 = 0 then 1 else (if v2 = 0 then 2 else 0))]))] H := hP
    have hD : va_D A [(qg, .inr (5, [.ref qgw, .ref qgh, .ref qgt, .int br, .int jC, .int jR, .int nf, .ref qgx, .ref qgy, .ref qgz, .ref qgu, .int (if v1 = 0 then 1 else (if v2 = 0 then 2 else 0))]))] := hD
    refine lv_aload_n hx hb dX5_mayBoth_21 rfl (lv_at hl 0 rfl) ?_
    refine va_get (D := D) (ci := 5) (v := .int (if v1 = 0 then 1 else (if v2 = 0 then 2 else 0))) (C := RX5) (T := TX5) (N := 12) hx hb hts (fun w h => List.mem_cons_of_mem _ (List.mem_append_right _ h)) hown hK hP 0 rfl rfl 11 (by decide) (hts (.fieldLink RX5 45 "AtlasFolderModel" "thrown" "I") (List.mem_cons_of_mem _ (List.mem_append_left _ (List.mem_of_getElem? (i := 0) rfl)))) (fun _ h9 => h9) rfl dX5_mayBoth_22 ?_
    have K11 : ∀ v11_0 : Int32, v11_0 = (if (if v1 = 0 then 1 else (if v2 = 0 then 2 else 0)) = (0 : Int32) then 1 else 0) → ∀ (H : Heap) (locs : List Loc), va_P D vwCl [(qg, .inr (5, [.ref qgw, .ref qgh, .ref qgt, .int br, .int jC, .int jR, .int nf, .ref qgx, .ref qgy, .ref qgz, .ref qgu, .int (if v1 = 0 then 1 else (if v2 = 0 then 2 else 0))]))] H → va_D A [(qg, .inr (5, [.ref qgw, .ref qgh, .ref qgt, .int br, .int jC, .int jR, .int nf, .ref qgx, .ref qgy, .ref qgz, .ref qgu, .int (if v1 = 0 then 1 else (if v2 = 0 then 2 else 0))]))] → va_S A s.heap H locs → ∀ (ls : Array Slot), lv_has ls 3 [(0, .ref qg), (1, .int v1), (2, .int v2)] → W p l e (headSpec wsX5_mayBoth rm_X5_mayBoth).room s m ([.ref qg, .int v1, .int v2]).toArray below meth c H locs 0 0 (MQ below (Qc_X5_mayBoth D cI cZ cJ cD qg qgw qgh qgt br jC jR nf qgx qgy qgz qgu th v1 v2 A) ([.ref qg, .int v1, .int v2]).toArray s 0 0 A) (F0 m 33 ls [.int v11_0]) := by
      intro v11_0 hv11_0 H locs hP hD hS ls hl
      subst hv11_0
      have e12 : s_X5_mayBoth v1 v2 = (if (if v1 = 0 then 1 else (if v2 = 0 then 2 else 0)) = (0 : Int32) then 1 else 0) := rfl
      have e13 : n_X5_mayBoth_qg_11 v1 v2 = (if v1 = 0 then 1 else (if v2 = 0 then 2 else 0)) := rfl
      exact W.zret (v := (if (if v1 = 0 then 1 else (if v2 = 0 then 2 else 0)) = (0 : Int32) then 1 else 0)) hx hb hr (z_b (by (repeat' split) <;> simp)) (fun t ht hW => ⟨⟨_, (), rfl, e12.symm, ⟨(by rw [e13]; rw [ht]; exact hP), va_K.moved hW.alike hK, (by rw [e13]; exact hD)⟩⟩, hS.F ht⟩) hS.2.2 dX5_mayBoth_33
    refine lv_if_ne (tgt := 32) hx hb dX5_mayBoth_25 (by decide) (fun c14 => ?_) (fun c14 => ?_)
    · refine lv_iconst (v := 0) hx hb dX5_mayBoth_32 (by decide) ?_
      exact K11 _ (if_neg c14).symm _ _ hP hD hS _ (lv_sub hl [0, 1, 2] rfl)
    · refine lv_iconst (v := 1) hx hb dX5_mayBoth_28 (by decide) ?_
      refine lv_goto (tgt := 33) hx hb dX5_mayBoth_29 (by decide) ?_
      exact K11 _ (if_pos c14).symm _ _ hP hD hS _ (lv_sub hl [0, 1, 2] rfl)
  refine lv_if_ne (tgt := 9) hx hb dX5_mayBoth_2 (by decide) (fun c15 => ?_) (fun c15 => ?_)
  · refine lv_iload_n hx hb dX5_mayBoth_9 rfl (lv_at hl 2 rfl) ?_
    refine lv_if_ne (tgt := 17) hx hb dX5_mayBoth_10 (by decide) (fun c16 => ?_) (fun c16 => ?_)
    · refine lv_iconst (v := 0) hx hb dX5_mayBoth_17 (by decide) ?_
      exact K9 _ ((if_neg c15).trans (if_neg c16)).symm _ _ hP hD hS _ (lv_sub hl [0, 1, 2] rfl)
    · refine lv_iconst (v := 2) hx hb dX5_mayBoth_13 (by decide) ?_
      refine lv_goto (tgt := 18) hx hb dX5_mayBoth_14 (by decide) ?_
      exact K9 _ ((if_neg c15).trans (if_pos c16)).symm _ _ hP hD hS _ (lv_sub hl [0, 1, 2] rfl)
  · refine lv_iconst (v := 1) hx hb dX5_mayBoth_5 (by decide) ?_
    refine lv_goto (tgt := 18) hx hb dX5_mayBoth_6 (by decide) ?_
    exact K9 _ (if_pos c15).symm _ _ hP hD hS _ (lv_sub hl [0, 1, 2] rfl)
def s_X5_mayAll (v1 : Int32) (v2 : Int32) (v3 : Int32) : Int32 := (if (if v1 = 0 then 1 else (if v2 = 0 then 2 else (if v3 = 0 then 3 else 0))) = (0 : Int32) then 1 else 0)
def n_X5_mayAll_qg_11 (v1 : Int32) (v2 : Int32) (v3 : Int32) : Int32 := (if v1 = 0 then 1 else (if v2 = 0 then 2 else (if v3 = 0 then 3 else 0)))
abbrev rm_X5_mayAll : Room := { frames := 0, cells := 0, slots := 0, locals := 0 }
abbrev Qc_X5_mayAll (D : va_G) (cI cZ cJ cD : ClassId) (qg : Nat) (qgw : Nat) (qgh : Nat) (qgt : Nat) (br : Int32) (jC : Int32) (jR : Int32) (nf : Int32) (qgx : Nat) (qgy : Nat) (qgz : Nat) (qgu : Nat) (th : Int32) (v1 : Int32) (v2 : Int32) (v3 : Int32) (A : Nat → Prop) : Array Value → State → Outcome → State → Prop := va_Qi (fun (r : Int32) (_ : Unit) => r = s_X5_mayAll v1 v2 v3) (zPost D cI cZ cJ cD A [(qg, .inr (5, [.ref qgw, .ref qgh, .ref qgt, .int br, .int jC, .int jR, .int nf, .ref qgx, .ref qgy, .ref qgz, .ref qgu, .int (n_X5_mayAll_qg_11 v1 v2 v3)]))]) A
set_option maxHeartbeats 4000000 in
set_option maxRecDepth 100000 in
theorem c_X5_mayAll (l : Launch) (D : va_G) (cI cZ cJ cD : ClassId) (qg : Nat) (qgw : Nat) (qgh : Nat) (qgt : Nat) (br : Int32) (jC : Int32) (jR : Int32) (nf : Int32) (qgx : Nat) (qgy : Nat) (qgz : Nat) (qgu : Nat) (th : Int32) (v1 : Int32) (v2 : Int32) (v3 : Int32) (sz : Nat)  : Met l yX5_mayAll wsX5_mayAll rm_X5_mayAll (va_Pc [.ref qg, .int v1, .int v2, .int v3] (zPreW D cI cZ cJ cD [(qg, .inr (5, [.ref qgw, .ref qgh, .ref qgt, .int br, .int jC, .int jR, .int nf, .ref qgx, .ref qgy, .ref qgz, .ref qgu, .int th]))] sz)) (Qc_X5_mayAll D cI cZ cJ cD qg qgw qgh qgt br jC jR nf qgx qgy qgz qgu th v1 v2 v3 (va_A [(qg, .inr (5, [.ref qgw, .ref qgh, .ref qgt, .int br, .int jC, .int jR, .int nf, .ref qgx, .ref qgy, .ref qgz, .ref qgu, .int th]))] sz)) 0 0 (va_A [(qg, .inr (5, [.ref qgw, .ref qgh, .ref qgt, .int br, .int jC, .int jR, .int nf, .ref qgx, .ref qgy, .ref qgz, .ref qgu, .int th]))] sz) := by
  refine Met.ofW (cc := cX5_mayAll) (maxL := 4) (ret := (some .boolean)) (by decide) rfl ?_
  intro p e s m args below meth c s₁ B hml hv
  obtain ⟨rfl, hsz, hP, hK, hD0⟩ := hv
  have hx := B.exec
  have hb := B.bytes
  have hr := B.returns
  have hts := atoms_spec (ws := wsX5_mayAll) B.pre
  have hown : s.vm.findClass RX5 = some m.cls := findClass_of_methodNamed B.named
  have hlocks := B.notSynchronized
  subst hsz
  have hD := hD0.self (sz := s.heap.size)
  generalize hAe : va_A [(qg, .inr (5, [.ref qgw, .ref qgh, .ref qgt, .int br, .int jC, .int jR, .int nf, .ref qgx, .ref qgy, .ref qgz, .ref qgu, .int th]))] s.heap.size = A at hD ⊢
  have hA : ∀ q : Nat, s.heap.size ≤ q → A q := fun q h => by rw [← hAe]; exact Or.inr h
  have hS : va_S A s.heap s.heap [] := va_S.rf
  have hl := lv_entry ([.ref qg, .int v1, .int v2, .int v3]) (n := 4) (Nat.le_of_ble_eq_true rfl)
  rw [lg_entry_eq]
  generalize (lg_sl ([.ref qg, .int v1, .int v2, .int v3]) ++ List.replicate (4 - (lg_sl ([.ref qg, .int v1, .int v2, .int v3])).length) Slot.unset).toArray = ls at hl ⊢
  have hl : lv_has ls 4 [(0, .ref qg), (1, .int v1), (2, .int v2), (3, .int v3)] := hl
  have hP : va_P D vwCl [(qg, .inr (5, [.ref qgw, .ref qgh, .ref qgt, .int br, .int jC, .int jR, .int nf, .ref qgx, .ref qgy, .ref qgz, .ref qgu, .int th]))] s.heap := hP
  have hP := hP
  refine lv_aload_n hx hb dX5_mayAll_0 rfl (lv_at hl 0 rfl) ?_
  refine lv_iload_n hx hb dX5_mayAll_1 rfl (lv_at hl 1 rfl) ?_
  have K10 : ∀ v10_0 : Int32, v10_0 = (if v1 = 0 then 1 else (if v2 = 0 then 2 else (if v3 = 0 then 3 else 0))) → ∀ (H : Heap) (locs : List Loc), va_P D vwCl [(qg, .inr (5, [.ref qgw, .ref qgh, .ref qgt, .int br, .int jC, .int jR, .int nf, .ref qgx, .ref qgy, .ref qgz, .ref qgu, .int th]))] H → va_D A [(qg, .inr (5, [.ref qgw, .ref qgh, .ref qgt, .int br, .int jC, .int jR, .int nf, .ref qgx, .ref qgy, .ref qgz, .ref qgu, .int th]))] → va_S A s.heap H locs → ∀ (ls : Array Slot), lv_has ls 4 [(0, .ref qg), (1, .int v1), (2, .int v2), (3, .int v3)] → W p l e (headSpec wsX5_mayAll rm_X5_mayAll).room s m ([.ref qg, .int v1, .int v2, .int v3]).toArray below meth c H locs 0 0 (MQ below (Qc_X5_mayAll D cI cZ cJ cD qg qgw qgh qgt br jC jR nf qgx qgy qgz qgu th v1 v2 v3 A) ([.ref qg, .int v1, .int v2, .int v3]).toArray s 0 0 A) (F0 m 26 ls [.int v10_0, .ref qg]) := by
    intro v10_0 hv10_0 H locs hP hD hS ls hl
    subst hv10_0
    refine va_put (D := D) (ci := 5) (v := .int (if v1 = 0 then 1 else (if v2 = 0 then 2 else (if v3 = 0 then 3 else 0)))) (ty := .int) (C := RX5) (T := TX5) (N := 12) hx hb hts (fun w h => List.mem_cons_of_mem _ (List.mem_append_right _ h)) tyX5 tyX5_ok nmX5 hown hK hP hD hS 0 rfl rfl 11 (by decide) (hts (.fieldLink RX5 45 "AtlasFolderModel" "thrown" "I") (List.mem_cons_of_mem _ (List.mem_append_left _ (List.mem_of_getElem? (i := 0) rfl)))) (fun _ h9 => h9) rfl (by decide +kernel) rfl rfl (Nat.le_of_ble_eq_true rfl) dX5_mayAll_26 (fun H locs hP hD hS => ?_)
    have hP : va_P D vwCl [(qg, .inr (5, [.ref qgw, .ref qgh, .ref qgt, .int br, .int jC, .int jR, .int nf, .ref qgx, .ref qgy, .ref qgz, .ref qgu, .int (if v1 = 0 then 1 else (if v2 = 0 then 2 else (if v3 = 0 then 3 else 0)))]))] H := hP
    have hD : va_D A [(qg, .inr (5, [.ref qgw, .ref qgh, .ref qgt, .int br, .int jC, .int jR, .int nf, .ref qgx, .ref qgy, .ref qgz, .ref qgu, .int (if v1 = 0 then 1 else (if v2 = 0 then 2 else (if v3 = 0 then 3 else 0)))]))] := hD
    refine lv_aload_n hx hb dX5_mayAll_29 rfl (lv_at hl 0 rfl) ?_
    refine va_get (D := D) (ci := 5) (v := .int (if v1 = 0 then 1 else (if v2 = 0 then 2 else (if v3 = 0 then 3 else 0)))) (C := RX5) (T := TX5) (N := 12) hx hb hts (fun w h => List.mem_cons_of_mem _ (List.mem_append_right _ h)) hown hK hP 0 rfl rfl 11 (by decide) (hts (.fieldLink RX5 45 "AtlasFolderModel" "thrown" "I") (List.mem_cons_of_mem _ (List.mem_append_left _ (List.mem_of_getElem? (i := 0) rfl)))) (fun _ h9 => h9) rfl dX5_mayAll_30 ?_
    have K12 : ∀ v12_0 : Int32, v12_0 = (if (if v1 = 0 then 1 else (if v2 = 0 then 2 else (if v3 = 0 then 3 else 0))) = (0 : Int32) then 1 else 0) → ∀ (H : Heap) (locs : List Loc), va_P D vwCl [(qg, .inr (5, [.ref qgw, .ref qgh, .ref qgt, .int br, .int jC, .int jR, .int nf, .ref qgx, .ref qgy, .ref qgz, .ref qgu, .int (if v1 = 0 then 1 else (if v2 = 0 then 2 else (if v3 = 0 then 3 else 0)))]))] H → va_D A [(qg, .inr (5, [.ref qgw, .ref qgh, .ref qgt, .int br, .int jC, .int jR, .int nf, .ref qgx, .ref qgy, .ref qgz, .ref qgu, .int (if v1 = 0 then 1 else (if v2 = 0 then 2 else (if v3 = 0 then 3 else 0)))]))] → va_S A s.heap H locs → ∀ (ls : Array Slot), lv_has ls 4 [(0, .ref qg), (1, .int v1), (2, .int v2), (3, .int v3)] → W p l e (headSpec wsX5_mayAll rm_X5_mayAll).room s m ([.ref qg, .int v1, .int v2, .int v3]).toArray below meth c H locs 0 0 (MQ below (Qc_X5_mayAll D cI cZ cJ cD qg qgw qgh qgt br jC jR nf qgx qgy qgz qgu th v1 v2 v3 A) ([.ref qg, .int v1, .int v2, .int v3]).toArray s 0 0 A) (F0 m 41 ls [.int v12_0]) := by
      intro v12_0 hv12_0 H locs hP hD hS ls hl
      subst hv12_0
      have e13 : s_X5_mayAll v1 v2 v3 = (if (if v1 = 0 then 1 else (if v2 = 0 then 2 else (if v3 = 0 then 3 else 0))) = (0 : Int32) then 1 else 0) := rfl
      have e14 : n_X5_mayAll_qg_11 v1 v2 v3 = (if v1 = 0 then 1 else (if v2 = 0 then 2 else (if v3 = 0 then 3 else 0))) := rfl
      exact W.zret (v := (if (if v1 = 0 then 1 else (if v2 = 0 then 2 else (if v3 = 0 then 3 else 0))) = (0 : Int32) then 1 else 0)) hx hb hr (z_b (by (repeat' split) <;> simp)) (fun t ht hW => ⟨⟨_, (), rfl, e13.symm, ⟨(by rw [e14]; rw [ht]; exact hP), va_K.moved hW.alike hK, (by rw [e14]; exact hD)⟩⟩, hS.F ht⟩) hS.2.2 dX5_mayAll_41
    refine lv_if_ne (tgt := 40) hx hb dX5_mayAll_33 (by decide) (fun c15 => ?_) (fun c15 => ?_)
    · refine lv_iconst (v := 0) hx hb dX5_mayAll_40 (by decide) ?_
      exact K12 _ (if_neg c15).symm _ _ hP hD hS _ (lv_sub hl [0, 1, 2, 3] rfl)
    · refine lv_iconst (v := 1) hx hb dX5_mayAll_36 (by decide) ?_
      refine lv_goto (tgt := 41) hx hb dX5_mayAll_37 (by decide) ?_
      exact K12 _ (if_pos c15).symm _ _ hP hD hS _ (lv_sub hl [0, 1, 2, 3] rfl)
  refine lv_if_ne (tgt := 9) hx hb dX5_mayAll_2 (by decide) (fun c16 => ?_) (fun c16 => ?_)
  · refine lv_iload_n hx hb dX5_mayAll_9 rfl (lv_at hl 2 rfl) ?_
    refine lv_if_ne (tgt := 17) hx hb dX5_mayAll_10 (by decide) (fun c17 => ?_) (fun c17 => ?_)
    · refine lv_iload_n hx hb dX5_mayAll_17 rfl (lv_at hl 3 rfl) ?_
      refine lv_if_ne (tgt := 25) hx hb dX5_mayAll_18 (by decide) (fun c18 => ?_) (fun c18 => ?_)
      · refine lv_iconst (v := 0) hx hb dX5_mayAll_25 (by decide) ?_
        exact K10 _ ((if_neg c16).trans ((if_neg c17).trans (if_neg c18))).symm _ _ hP hD hS _ (lv_sub hl [0, 1, 2, 3] rfl)
      · refine lv_iconst (v := 3) hx hb dX5_mayAll_21 (by decide) ?_
        refine lv_goto (tgt := 26) hx hb dX5_mayAll_22 (by decide) ?_
        exact K10 _ ((if_neg c16).trans ((if_neg c17).trans (if_pos c18))).symm _ _ hP hD hS _ (lv_sub hl [0, 1, 2, 3] rfl)
    · refine lv_iconst (v := 2) hx hb dX5_mayAll_13 (by decide) ?_
      refine lv_goto (tgt := 26) hx hb dX5_mayAll_14 (by decide) ?_
      exact K10 _ ((if_neg c16).trans (if_pos c17)).symm _ _ hP hD hS _ (lv_sub hl [0, 1, 2, 3] rfl)
  · refine lv_iconst (v := 1) hx hb dX5_mayAll_5 (by decide) ?_
    refine lv_goto (tgt := 26) hx hb dX5_mayAll_6 (by decide) ?_
    exact K10 _ (if_pos c16).symm _ _ hP hD hS _ (lv_sub hl [0, 1, 2, 3] rfl)
def s_X5_isLatitude (lat : Int32) : Int32 := (if lat < (-90) then 0 else (if 90 < lat then 0 else 1))
abbrev rm_X5_isLatitude : Room := { frames := 0, cells := 0, slots := 0, locals := 0 }
abbrev Qc_X5_isLatitude (D : va_G) (cI cZ cJ cD : ClassId) (lat : Int32) : Array Value → State → Outcome → State → Prop := va_Qi (fun (r : Int32) (_ : Unit) => r = s_X5_isLatitude lat) (fun _ _ => True) (fun _ : Nat => False)
set_option maxHeartbeats 4000000 in
set_option maxRecDepth 100000 in
theorem c_X5_isLatitude (l : Launch) (D : va_G) (cI cZ cJ cD : ClassId) (lat : Int32)  : Met l yX5_isLatitude wsX5_isLatitude rm_X5_isLatitude (va_Pc [.int lat] (zPre D cI cZ cJ cD [])) (Qc_X5_isLatitude D cI cZ cJ cD lat ) 0 0 (fun _ : Nat => False) := by
  refine Met.ofW (cc := cX5_isLatitude) (maxL := 1) (ret := (some .boolean)) (by decide) rfl ?_
  intro p e s m args below meth c s₁ B hml hv
  obtain ⟨rfl, hP, hK⟩ := hv
  have hx := B.exec
  have hb := B.bytes
  have hr := B.returns
  have hts := atoms_spec (ws := wsX5_isLatitude) B.pre
  have hown : s.vm.findClass RX5 = some m.cls := findClass_of_methodNamed B.named
  have hlocks := B.notSynchronized
  have hS : va_S (fun _ : Nat => False) s.heap s.heap [] := va_S.rf
  have hl := lv_entry ([.int lat]) (n := 1) (Nat.le_of_ble_eq_true rfl)
  rw [lg_entry_eq]
  generalize (lg_sl ([.int lat]) ++ List.replicate (1 - (lg_sl ([.int lat])).length) Slot.unset).toArray = ls at hl ⊢
  have hl : lv_has ls 1 [(0, .int lat)] := hl
  have hP : va_P D vwCl [] s.heap := hP
  have hP := hP
  refine lv_iload_n hx hb dX5_isLatitude_0 rfl (lv_at hl 0 rfl) ?_
  refine lv_bipush (v := (-90)) hx hb dX5_isLatitude_1 (by decide) ?_
  have K6 : ∀ v6_0 : Int32, v6_0 = (if lat < (-90) then 0 else (if 90 < lat then 0 else 1)) → ∀ (H : Heap) (locs : List Loc), va_P D vwCl [] H → va_S (fun _ : Nat => False) s.heap H locs → ∀ (ls : Array Slot), lv_has ls 1 [(0, .int lat)] → W p l e (headSpec wsX5_isLatitude rm_X5_isLatitude).room s m ([.int lat]).toArray below meth c H locs 0 0 (MQ below (Qc_X5_isLatitude D cI cZ cJ cD lat) ([.int lat]).toArray s 0 0 (fun _ : Nat => False)) (F0 m 17 ls [.int v6_0]) := by
    intro v6_0 hv6_0 H locs hP hS ls hl
    subst hv6_0
    have e7 : s_X5_isLatitude lat = (if lat < (-90) then 0 else (if 90 < lat then 0 else 1)) := rfl
    exact W.zret (v := (if lat < (-90) then 0 else (if 90 < lat then 0 else 1))) hx hb hr (z_b (by (repeat' split) <;> simp)) (fun t ht hW => ⟨⟨_, (), rfl, e7.symm, trivial⟩, hS.F ht⟩) hS.2.2 dX5_isLatitude_17
  refine lv_icmp_lt (tgt := 16) hx hb dX5_isLatitude_3 (by decide) (fun c8 => ?_) (fun c8 => ?_)
  · refine lv_iconst (v := 0) hx hb dX5_isLatitude_16 (by decide) ?_
    exact K6 _ (if_pos c8).symm _ _ hP hS _ (lv_sub hl [0] rfl)
  · refine lv_iload_n hx hb dX5_isLatitude_6 rfl (lv_at hl 0 rfl) ?_
    refine lv_bipush (v := 90) hx hb dX5_isLatitude_7 (by decide) ?_
    refine lv_icmp_gt (tgt := 16) hx hb dX5_isLatitude_9 (by decide) (fun c9 => ?_) (fun c9 => ?_)
    · refine lv_iconst (v := 0) hx hb dX5_isLatitude_16 (by decide) ?_
      exact K6 _ ((if_neg c8).trans (if_pos c9)).symm _ _ hP hS _ (lv_sub hl [0] rfl)
    · refine lv_iconst (v := 1) hx hb dX5_isLatitude_12 (by decide) ?_
      refine lv_goto (tgt := 17) hx hb dX5_isLatitude_13 (by decide) ?_
      exact K6 _ ((if_neg c8).trans (if_neg c9)).symm _ _ hP hS _ (lv_sub hl [0] rfl)
def s_X5_isLongitude (lon : Int32) : Int32 := (if lon < (-180) then 0 else (if 179 < lon then 0 else 1))
abbrev rm_X5_isLongitude : Room := { frames := 0, cells := 0, slots := 0, locals := 0 }
abbrev Qc_X5_isLongitude (D : va_G) (cI cZ cJ cD : ClassId) (lon : Int32) : Array Value → State → Outcome → State → Prop := va_Qi (fun (r : Int32) (_ : Unit) => r = s_X5_isLongitude lon) (fun _ _ => True) (fun _ : Nat => False)
set_option maxHeartbeats 4000000 in
set_option maxRecDepth 100000 in
theorem c_X5_isLongitude (l : Launch) (D : va_G) (cI cZ cJ cD : ClassId) (lon : Int32)  : Met l yX5_isLongitude wsX5_isLongitude rm_X5_isLongitude (va_Pc [.int lon] (zPre D cI cZ cJ cD [])) (Qc_X5_isLongitude D cI cZ cJ cD lon ) 0 0 (fun _ : Nat => False) := by
  refine Met.ofW (cc := cX5_isLongitude) (maxL := 1) (ret := (some .boolean)) (by decide) rfl ?_
  intro p e s m args below meth c s₁ B hml hv
  obtain ⟨rfl, hP, hK⟩ := hv
  have hx := B.exec
  have hb := B.bytes
  have hr := B.returns
  have hts := atoms_spec (ws := wsX5_isLongitude) B.pre
  have hown : s.vm.findClass RX5 = some m.cls := findClass_of_methodNamed B.named
  have hlocks := B.notSynchronized
  have hS : va_S (fun _ : Nat => False) s.heap s.heap [] := va_S.rf
  have hl := lv_entry ([.int lon]) (n := 1) (Nat.le_of_ble_eq_true rfl)
  rw [lg_entry_eq]
  generalize (lg_sl ([.int lon]) ++ List.replicate (1 - (lg_sl ([.int lon])).length) Slot.unset).toArray = ls at hl ⊢
  have hl : lv_has ls 1 [(0, .int lon)] := hl
  have hP : va_P D vwCl [] s.heap := hP
  have hP := hP
  refine lv_iload_n hx hb dX5_isLongitude_0 rfl (lv_at hl 0 rfl) ?_
  refine lv_sipush (v := (-180)) hx hb dX5_isLongitude_1 (by decide) ?_
  have K6 : ∀ v6_0 : Int32, v6_0 = (if lon < (-180) then 0 else (if 179 < lon then 0 else 1)) → ∀ (H : Heap) (locs : List Loc), va_P D vwCl [] H → va_S (fun _ : Nat => False) s.heap H locs → ∀ (ls : Array Slot), lv_has ls 1 [(0, .int lon)] → W p l e (headSpec wsX5_isLongitude rm_X5_isLongitude).room s m ([.int lon]).toArray below meth c H locs 0 0 (MQ below (Qc_X5_isLongitude D cI cZ cJ cD lon) ([.int lon]).toArray s 0 0 (fun _ : Nat => False)) (F0 m 19 ls [.int v6_0]) := by
    intro v6_0 hv6_0 H locs hP hS ls hl
    subst hv6_0
    have e7 : s_X5_isLongitude lon = (if lon < (-180) then 0 else (if 179 < lon then 0 else 1)) := rfl
    exact W.zret (v := (if lon < (-180) then 0 else (if 179 < lon then 0 else 1))) hx hb hr (z_b (by (repeat' split) <;> simp)) (fun t ht hW => ⟨⟨_, (), rfl, e7.symm, trivial⟩, hS.F ht⟩) hS.2.2 dX5_isLongitude_19
  refine lv_icmp_lt (tgt := 18) hx hb dX5_isLongitude_4 (by decide) (fun c8 => ?_) (fun c8 => ?_)
  · refine lv_iconst (v := 0) hx hb dX5_isLongitude_18 (by decide) ?_
    exact K6 _ (if_pos c8).symm _ _ hP hS _ (lv_sub hl [0] rfl)
  · refine lv_iload_n hx hb dX5_isLongitude_7 rfl (lv_at hl 0 rfl) ?_
    refine lv_sipush (v := 179) hx hb dX5_isLongitude_8 (by decide) ?_
    refine lv_icmp_gt (tgt := 18) hx hb dX5_isLongitude_11 (by decide) (fun c9 => ?_) (fun c9 => ?_)
    · refine lv_iconst (v := 0) hx hb dX5_isLongitude_18 (by decide) ?_
      exact K6 _ ((if_neg c8).trans (if_pos c9)).symm _ _ hP hS _ (lv_sub hl [0] rfl)
    · refine lv_iconst (v := 1) hx hb dX5_isLongitude_14 (by decide) ?_
      refine lv_goto (tgt := 19) hx hb dX5_isLongitude_15 (by decide) ?_
      exact K6 _ ((if_neg c8).trans (if_neg c9)).symm _ _ hP hS _ (lv_sub hl [0] rfl)
def s_X5_isBand (bd : Int32) : Int32 := (if bd < 0 then 0 else (if 8 < bd then 0 else 1))
abbrev rm_X5_isBand : Room := { frames := 0, cells := 0, slots := 0, locals := 0 }
abbrev Qc_X5_isBand (D : va_G) (cI cZ cJ cD : ClassId) (bd : Int32) : Array Value → State → Outcome → State → Prop := va_Qi (fun (r : Int32) (_ : Unit) => r = s_X5_isBand bd) (fun _ _ => True) (fun _ : Nat => False)
set_option maxHeartbeats 4000000 in
set_option maxRecDepth 100000 in
theorem c_X5_isBand (l : Launch) (D : va_G) (cI cZ cJ cD : ClassId) (bd : Int32)  : Met l yX5_isBand wsX5_isBand rm_X5_isBand (va_Pc [.int bd] (zPre D cI cZ cJ cD [])) (Qc_X5_isBand D cI cZ cJ cD bd ) 0 0 (fun _ : Nat => False) := by
  refine Met.ofW (cc := cX5_isBand) (maxL := 1) (ret := (some .boolean)) (by decide) rfl ?_
  intro p e s m args below meth c s₁ B hml hv
  obtain ⟨rfl, hP, hK⟩ := hv
  have hx := B.exec
  have hb := B.bytes
  have hr := B.returns
  have hts := atoms_spec (ws := wsX5_isBand) B.pre
  have hown : s.vm.findClass RX5 = some m.cls := findClass_of_methodNamed B.named
  have hlocks := B.notSynchronized
  have hS : va_S (fun _ : Nat => False) s.heap s.heap [] := va_S.rf
  have hl := lv_entry ([.int bd]) (n := 1) (Nat.le_of_ble_eq_true rfl)
  rw [lg_entry_eq]
  generalize (lg_sl ([.int bd]) ++ List.replicate (1 - (lg_sl ([.int bd])).length) Slot.unset).toArray = ls at hl ⊢
  have hl : lv_has ls 1 [(0, .int bd)] := hl
  have hP : va_P D vwCl [] s.heap := hP
  have hP := hP
  refine lv_iload_n hx hb dX5_isBand_0 rfl (lv_at hl 0 rfl) ?_
  have K6 : ∀ v6_0 : Int32, v6_0 = (if bd < 0 then 0 else (if 8 < bd then 0 else 1)) → ∀ (H : Heap) (locs : List Loc), va_P D vwCl [] H → va_S (fun _ : Nat => False) s.heap H locs → ∀ (ls : Array Slot), lv_has ls 1 [(0, .int bd)] → W p l e (headSpec wsX5_isBand rm_X5_isBand).room s m ([.int bd]).toArray below meth c H locs 0 0 (MQ below (Qc_X5_isBand D cI cZ cJ cD bd) ([.int bd]).toArray s 0 0 (fun _ : Nat => False)) (F0 m 15 ls [.int v6_0]) := by
    intro v6_0 hv6_0 H locs hP hS ls hl
    subst hv6_0
    have e7 : s_X5_isBand bd = (if bd < 0 then 0 else (if 8 < bd then 0 else 1)) := rfl
    exact W.zret (v := (if bd < 0 then 0 else (if 8 < bd then 0 else 1))) hx hb hr (z_b (by (repeat' split) <;> simp)) (fun t ht hW => ⟨⟨_, (), rfl, e7.symm, trivial⟩, hS.F ht⟩) hS.2.2 dX5_isBand_15
  refine lv_if_lt (tgt := 14) hx hb dX5_isBand_1 (by decide) (fun c8 => ?_) (fun c8 => ?_)
  · refine lv_iconst (v := 0) hx hb dX5_isBand_14 (by decide) ?_
    exact K6 _ (if_pos c8).symm _ _ hP hS _ (lv_sub hl [0] rfl)
  · refine lv_iload_n hx hb dX5_isBand_4 rfl (lv_at hl 0 rfl) ?_
    refine lv_bipush (v := 8) hx hb dX5_isBand_5 (by decide) ?_
    refine lv_icmp_gt (tgt := 14) hx hb dX5_isBand_7 (by decide) (fun c9 => ?_) (fun c9 => ?_)
    · refine lv_iconst (v := 0) hx hb dX5_isBand_14 (by decide) ?_
      exact K6 _ ((if_neg c8).trans (if_pos c9)).symm _ _ hP hS _ (lv_sub hl [0] rfl)
    · refine lv_iconst (v := 1) hx hb dX5_isBand_10 (by decide) ?_
      refine lv_goto (tgt := 15) hx hb dX5_isBand_11 (by decide) ?_
      exact K6 _ ((if_neg c8).trans (if_neg c9)).symm _ _ hP hS _ (lv_sub hl [0] rfl)
theorem z_lat {lat : Int32} (h : ¬ s_X5_isLatitude lat = 0) : -90 ≤ lat.toInt ∧ lat.toInt ≤ 90 := by
  unfold s_X5_isLatitude at h
  have h1 := z_n1 h
  have h2 := z_n1 (z_n2 h)
  rw [Int32.lt_iff_toInt_lt] at h1 h2
  have e1 : (-90 : Int32).toInt = -90 := rfl
  have e2 : (90 : Int32).toInt = 90 := rfl
  omega
theorem z_lon {lon : Int32} (h : ¬ s_X5_isLongitude lon = 0) : -180 ≤ lon.toInt ∧ lon.toInt ≤ 179 := by
  unfold s_X5_isLongitude at h
  have h1 := z_n1 h
  have h2 := z_n1 (z_n2 h)
  rw [Int32.lt_iff_toInt_lt] at h1 h2
  have e1 : (-180 : Int32).toInt = -180 := rfl
  have e2 : (179 : Int32).toInt = 179 := rfl
  omega
theorem z_bnd {bd : Int32} (h : ¬ s_X5_isBand bd = 0) : vp_in bd 9 := by
  unfold s_X5_isBand at h
  have h1 := z_n1 h
  have h2 := z_n1 (z_n2 h)
  refine z_in (N := 9) rfl h1 ?_
  rw [Int32.lt_iff_toInt_lt] at h2
  rw [Int32.le_iff_toInt_le]
  have e1 : (9 : Int32).toInt = 9 := rfl
  have e2 : (8 : Int32).toInt = 8 := rfl
  omega
def s_X5_wide (fw : Nat → Int32) (lat : Int32) : Int32 := ((10 - ((if 0 ≤ lat then lat else -lat) - (if 0 ≤ lat then lat else -lat) / 10 * 10)) * (fw ((if 0 ≤ lat then lat else -lat) / 10).toNatClampNeg)) + (if ((if 0 ≤ lat then lat else -lat) - (if 0 ≤ lat then lat else -lat) / 10 * 10) ≤ 0 then 0 else ((if 0 ≤ lat then lat else -lat) - (if 0 ≤ lat then lat else -lat) / 10 * 10) * (fw (((if 0 ≤ lat then lat else -lat) / 10) + 1).toNatClampNeg))
abbrev rm_X5_wide : Room := { frames := 0, cells := 0, slots := 0, locals := 0 }
abbrev Qc_X5_wide (D : va_G) (cI cZ cJ cD : ClassId) (qg : Nat) (qgw : Nat) (qgh : Nat) (qgt : Nat) (br : Int32) (jC : Int32) (jR : Int32) (nf : Int32) (qgx : Nat) (qgy : Nat) (qgz : Nat) (qgu : Nat) (th : Int32) (fw : Nat → Int32) (lat : Int32) : Array Value → State → Outcome → State → Prop := va_Qi (fun (r : Int32) (_ : Unit) => r = s_X5_wide fw lat) (fun _ _ => True) (fun _ : Nat => False)
set_option maxHeartbeats 4000000 in
set_option maxRecDepth 100000 in
theorem c_X5_wide (l : Launch) (D : va_G) (cI cZ cJ cD : ClassId) (qg : Nat) (qgw : Nat) (qgh : Nat) (qgt : Nat) (br : Int32) (jC : Int32) (jR : Int32) (nf : Int32) (qgx : Nat) (qgy : Nat) (qgz : Nat) (qgu : Nat) (th : Int32) (fw : Nat → Int32) (lat : Int32) (hlat : -90 ≤ lat.toInt ∧ lat.toInt ≤ 90) : Met l yX5_wide wsX5_wide rm_X5_wide (va_Pc [.ref qg, .int lat] (zPre D cI cZ cJ cD [(qg, .inr (5, [.ref qgw, .ref qgh, .ref qgt, .int br, .int jC, .int jR, .int nf, .ref qgx, .ref qgy, .ref qgz, .ref qgu, .int th])), (qgw, .inl (cI, 10, .inl fw))])) (Qc_X5_wide D cI cZ cJ cD qg qgw qgh qgt br jC jR nf qgx qgy qgz qgu th fw lat ) 0 0 (fun _ : Nat => False) := by
  refine Met.ofW (cc := cX5_wide) (maxL := 5) (ret := (some .int)) (by decide) rfl ?_
  intro p e s m args below meth c s₁ B hml hv
  obtain ⟨rfl, hP, hK⟩ := hv
  have hx := B.exec
  have hb := B.bytes
  have hr := B.returns
  have hts := atoms_spec (ws := wsX5_wide) B.pre
  have hown : s.vm.findClass RX5 = some m.cls := findClass_of_methodNamed B.named
  have hlocks := B.notSynchronized
  have hS : va_S (fun _ : Nat => False) s.heap s.heap [] := va_S.rf
  have hl := lv_entry ([.ref qg, .int lat]) (n := 5) (Nat.le_of_ble_eq_true rfl)
  rw [lg_entry_eq]
  generalize (lg_sl ([.ref qg, .int lat]) ++ List.replicate (5 - (lg_sl ([.ref qg, .int lat])).length) Slot.unset).toArray = ls at hl ⊢
  have hl : lv_has ls 5 [(0, .ref qg), (1, .int lat)] := hl
  have hP : va_P D vwCl [(qg, .inr (5, [.ref qgw, .ref qgh, .ref qgt, .int br, .int jC, .int jR, .int nf, .ref qgx, .ref qgy, .ref qgz, .ref qgu, .int th])), (qgw, .inl (cI, 10, .inl fw))] s.heap := hP
  have hP := hP
  refine lv_iload_n hx hb dX5_wide_0 rfl (lv_at hl 1 rfl) ?_
  have K8 : ∀ v8_0 : Int32, v8_0 = (if 0 ≤ lat then lat else -lat) → ∀ (H : Heap) (locs : List Loc), va_P D vwCl [(qg, .inr (5, [.ref qgw, .ref qgh, .ref qgt, .int br, .int jC, .int jR, .int nf, .ref qgx, .ref qgy, .ref qgz, .ref qgu, .int th])), (qgw, .inl (cI, 10, .inl fw))] H → va_S (fun _ : Nat => False) s.heap H locs → ∀ (ls : Array Slot), lv_has ls 5 [(0, .ref qg), (1, .int lat)] → W p l e (headSpec wsX5_wide rm_X5_wide).room s m ([.ref qg, .int lat]).toArray below meth c H locs 0 0 (MQ below (Qc_X5_wide D cI cZ cJ cD qg qgw qgh qgt br jC jR nf qgx qgy qgz qgu th fw lat) ([.ref qg, .int lat]).toArray s 0 0 (fun _ : Nat => False)) (F0 m 10 ls [.int v8_0]) := by
    intro v8_0 hv8_0 H locs hP hS ls hl
    subst hv8_0
    refine lv_istore_n (lv' := [(2, .int (if 0 ≤ lat then lat else -lat)), (0, .ref qg), (1, .int lat)]) hx hb dX5_wide_10 rfl hl (by decide) rfl (fun ls hl => ?_)
    refine lv_iload_n hx hb dX5_wide_11 rfl (lv_at hl 0 rfl) ?_
    refine lv_bipush (v := 10) hx hb dX5_wide_12 (by decide) ?_
    refine lv_idiv hx hb dX5_wide_14 (by decide) ?_
    refine lv_istore_n (lv' := [(3, .int ((if 0 ≤ lat then lat else -lat) / 10)), (2, .int (if 0 ≤ lat then lat else -lat)), (0, .ref qg), (1, .int lat)]) hx hb dX5_wide_15 rfl hl (by decide) rfl (fun ls hl => ?_)
    refine lv_iload_n hx hb dX5_wide_16 rfl (lv_at hl 1 rfl) ?_
    refine lv_bipush (v := 10) hx hb dX5_wide_17 (by decide) ?_
    refine lv_irem hx hb dX5_wide_19 (by decide) ?_
    refine lv_istore (lv' := [(4, .int ((if 0 ≤ lat then lat else -lat) - (if 0 ≤ lat then lat else -lat) / 10 * 10)), (3, .int ((if 0 ≤ lat then lat else -lat) / 10)), (2, .int (if 0 ≤ lat then lat else -lat)), (0, .ref qg), (1, .int lat)]) hx hb dX5_wide_20 hl (by decide) rfl (fun ls hl => ?_)
    refine lv_bipush (v := 10) hx hb dX5_wide_22 (by decide) ?_
    refine lv_iload hx hb dX5_wide_24 (lv_at hl 0 rfl) ?_
    refine lv_isub hx hb dX5_wide_26 ?_
    refine lv_aload_n hx hb dX5_wide_27 rfl (lv_at hl 3 rfl) ?_
    refine va_get (D := D) (ci := 5) (v := .ref qgw) (C := RX5) (T := TX5) (N := 12) hx hb hts (fun w h => List.mem_cons_of_mem _ (List.mem_append_right _ h)) hown hK hP 0 rfl rfl 0 (by decide) (hts (.fieldLink RX5 7 "AtlasFolderModel" "width" "[I") (List.mem_cons_of_mem _ (List.mem_append_left _ (List.mem_of_getElem? (i := 0) rfl)))) (fun _ h9 => h9) rfl dX5_wide_28 ?_
    refine lv_iload_n hx hb dX5_wide_31 rfl (lv_at hl 1 rfl) ?_
    refine va_iald hx hb hK hP 1 0 rfl rfl (z_wk hlat) dX5_wide_32 ?_
    refine lv_imul hx hb dX5_wide_33 ?_
    refine lv_iload hx hb dX5_wide_34 (lv_at hl 0 rfl) ?_
    have K10 : ∀ v10_0 : Int32, v10_0 = (if ((if 0 ≤ lat then lat else -lat) - (if 0 ≤ lat then lat else -lat) / 10 * 10) ≤ 0 then 0 else ((if 0 ≤ lat then lat else -lat) - (if 0 ≤ lat then lat else -lat) / 10 * 10) * (fw (((if 0 ≤ lat then lat else -lat) / 10) + 1).toNatClampNeg)) → ∀ (H : Heap) (locs : List Loc), va_P D vwCl [(qg, .inr (5, [.ref qgw, .ref qgh, .ref qgt, .int br, .int jC, .int jR, .int nf, .ref qgx, .ref qgy, .ref qgz, .ref qgu, .int th])), (qgw, .inl (cI, 10, .inl fw))] H → va_S (fun _ : Nat => False) s.heap H locs → ∀ (ls : Array Slot), lv_has ls 5 [(4, .int ((if 0 ≤ lat then lat else -lat) - (if 0 ≤ lat then lat else -lat) / 10 * 10)), (3, .int ((if 0 ≤ lat then lat else -lat) / 10)), (2, .int (if 0 ≤ lat then lat else -lat)), (0, .ref qg), (1, .int lat)] → W p l e (headSpec wsX5_wide rm_X5_wide).room s m ([.ref qg, .int lat]).toArray below meth c H locs 0 0 (MQ below (Qc_X5_wide D cI cZ cJ cD qg qgw qgh qgt br jC jR nf qgx qgy qgz qgu th fw lat) ([.ref qg, .int lat]).toArray s 0 0 (fun _ : Nat => False)) (F0 m 54 ls [.int v10_0, .int ((10 - ((if 0 ≤ lat then lat else -lat) - (if 0 ≤ lat then lat else -lat) / 10 * 10)) * (fw ((if 0 ≤ lat then lat else -lat) / 10).toNatClampNeg))]) := by
      intro v10_0 hv10_0 H locs hP hS ls hl
      subst hv10_0
      refine lv_iadd hx hb dX5_wide_54 ?_
      have e11 : s_X5_wide fw lat = ((10 - ((if 0 ≤ lat then lat else -lat) - (if 0 ≤ lat then lat else -lat) / 10 * 10)) * (fw ((if 0 ≤ lat then lat else -lat) / 10).toNatClampNeg)) + (if ((if 0 ≤ lat then lat else -lat) - (if 0 ≤ lat then lat else -lat) / 10 * 10) ≤ 0 then 0 else ((if 0 ≤ lat then lat else -lat) - (if 0 ≤ lat then lat else -lat) / 10 * 10) * (fw (((if 0 ≤ lat then lat else -lat) / 10) + 1).toNatClampNeg)) := rfl
      exact W.iret (v := (((10 - ((if 0 ≤ lat then lat else -lat) - (if 0 ≤ lat then lat else -lat) / 10 * 10)) * (fw ((if 0 ≤ lat then lat else -lat) / 10).toNatClampNeg)) + (if ((if 0 ≤ lat then lat else -lat) - (if 0 ≤ lat then lat else -lat) / 10 * 10) ≤ 0 then 0 else ((if 0 ≤ lat then lat else -lat) - (if 0 ≤ lat then lat else -lat) / 10 * 10) * (fw (((if 0 ≤ lat then lat else -lat) / 10) + 1).toNatClampNeg)))) hx hb hr (fun t ht hW => ⟨⟨_, (), rfl, e11.symm, trivial⟩, hS.F ht⟩) hS.2.2 dX5_wide_55
    refine lv_if_le (tgt := 53) hx hb dX5_wide_36 (by decide) (fun c12 => ?_) (fun c12 => ?_)
    · refine lv_iconst (v := 0) hx hb dX5_wide_53 (by decide) ?_
      exact K10 _ (if_pos c12).symm _ _ hP hS _ (lv_sub hl [0, 1, 2, 3, 4] rfl)
    · refine lv_iload hx hb dX5_wide_39 (lv_at hl 0 rfl) ?_
      refine lv_aload_n hx hb dX5_wide_41 rfl (lv_at hl 3 rfl) ?_
      refine va_get (D := D) (ci := 5) (v := .ref qgw) (C := RX5) (T := TX5) (N := 12) hx hb hts (fun w h => List.mem_cons_of_mem _ (List.mem_append_right _ h)) hown hK hP 0 rfl rfl 0 (by decide) (hts (.fieldLink RX5 7 "AtlasFolderModel" "width" "[I") (List.mem_cons_of_mem _ (List.mem_append_left _ (List.mem_of_getElem? (i := 0) rfl)))) (fun _ h9 => h9) rfl dX5_wide_42 ?_
      refine lv_iload_n hx hb dX5_wide_45 rfl (lv_at hl 1 rfl) ?_
      refine lv_iconst (v := 1) hx hb dX5_wide_46 (by decide) ?_
      refine lv_iadd hx hb dX5_wide_47 ?_
      refine va_iald hx hb hK hP 1 0 rfl rfl (z_wk1 hlat c12) dX5_wide_48 ?_
      refine lv_imul hx hb dX5_wide_49 ?_
      refine lv_goto (tgt := 54) hx hb dX5_wide_50 (by decide) ?_
      exact K10 _ (if_neg c12).symm _ _ hP hS _ (lv_sub hl [0, 1, 2, 3, 4] rfl)
  refine lv_if_ge (tgt := 9) hx hb dX5_wide_1 (by decide) (fun c13 => ?_) (fun c13 => ?_)
  · refine lv_iload_n hx hb dX5_wide_9 rfl (lv_at hl 1 rfl) ?_
    exact K8 _ (if_pos c13).symm _ _ hP hS _ (lv_sub hl [0, 1] rfl)
  · refine lv_iload_n hx hb dX5_wide_4 rfl (lv_at hl 1 rfl) ?_
    refine lv_ineg hx hb dX5_wide_5 ?_
    refine lv_goto (tgt := 10) hx hb dX5_wide_6 (by decide) ?_
    exact K8 _ (if_neg c13).symm _ _ hP hS _ (lv_sub hl [0, 1] rfl)
def s_X5_high (fh : Nat → Int32) (lat : Int32) : Int32 := (if 0 ≤ lat then ((10 - ((if 0 ≤ lat then lat else -lat) - (if 0 ≤ lat then lat else -lat) / 10 * 10)) * (fh ((if 0 ≤ lat then lat else -lat) / 10).toNatClampNeg)) + (if ((if 0 ≤ lat then lat else -lat) - (if 0 ≤ lat then lat else -lat) / 10 * 10) ≤ 0 then 0 else ((if 0 ≤ lat then lat else -lat) - (if 0 ≤ lat then lat else -lat) / 10 * 10) * (fh (((if 0 ≤ lat then lat else -lat) / 10) + 1).toNatClampNeg)) else -(((10 - ((if 0 ≤ lat then lat else -lat) - (if 0 ≤ lat then lat else -lat) / 10 * 10)) * (fh ((if 0 ≤ lat then lat else -lat) / 10).toNatClampNeg)) + (if ((if 0 ≤ lat then lat else -lat) - (if 0 ≤ lat then lat else -lat) / 10 * 10) ≤ 0 then 0 else ((if 0 ≤ lat then lat else -lat) - (if 0 ≤ lat then lat else -lat) / 10 * 10) * (fh (((if 0 ≤ lat then lat else -lat) / 10) + 1).toNatClampNeg))))
abbrev rm_X5_high : Room := { frames := 0, cells := 0, slots := 0, locals := 0 }
abbrev Qc_X5_high (D : va_G) (cI cZ cJ cD : ClassId) (qg : Nat) (qgw : Nat) (qgh : Nat) (qgt : Nat) (br : Int32) (jC : Int32) (jR : Int32) (nf : Int32) (qgx : Nat) (qgy : Nat) (qgz : Nat) (qgu : Nat) (th : Int32) (fh : Nat → Int32) (lat : Int32) : Array Value → State → Outcome → State → Prop := va_Qi (fun (r : Int32) (_ : Unit) => r = s_X5_high fh lat) (fun _ _ => True) (fun _ : Nat => False)
set_option maxHeartbeats 4000000 in
set_option maxRecDepth 100000 in
theorem c_X5_high (l : Launch) (D : va_G) (cI cZ cJ cD : ClassId) (qg : Nat) (qgw : Nat) (qgh : Nat) (qgt : Nat) (br : Int32) (jC : Int32) (jR : Int32) (nf : Int32) (qgx : Nat) (qgy : Nat) (qgz : Nat) (qgu : Nat) (th : Int32) (fh : Nat → Int32) (lat : Int32) (hlat : -90 ≤ lat.toInt ∧ lat.toInt ≤ 90) : Met l yX5_high wsX5_high rm_X5_high (va_Pc [.ref qg, .int lat] (zPre D cI cZ cJ cD [(qg, .inr (5, [.ref qgw, .ref qgh, .ref qgt, .int br, .int jC, .int jR, .int nf, .ref qgx, .ref qgy, .ref qgz, .ref qgu, .int th])), (qgh, .inl (cI, 10, .inl fh))])) (Qc_X5_high D cI cZ cJ cD qg qgw qgh qgt br jC jR nf qgx qgy qgz qgu th fh lat ) 0 0 (fun _ : Nat => False) := by
  refine Met.ofW (cc := cX5_high) (maxL := 6) (ret := (some .int)) (by decide) rfl ?_
  intro p e s m args below meth c s₁ B hml hv
  obtain ⟨rfl, hP, hK⟩ := hv
  have hx := B.exec
  have hb := B.bytes
  have hr := B.returns
  have hts := atoms_spec (ws := wsX5_high) B.pre
  have hown : s.vm.findClass RX5 = some m.cls := findClass_of_methodNamed B.named
  have hlocks := B.notSynchronized
  have hS : va_S (fun _ : Nat => False) s.heap s.heap [] := va_S.rf
  have hl := lv_entry ([.ref qg, .int lat]) (n := 6) (Nat.le_of_ble_eq_true rfl)
  rw [lg_entry_eq]
  generalize (lg_sl ([.ref qg, .int lat]) ++ List.replicate (6 - (lg_sl ([.ref qg, .int lat])).length) Slot.unset).toArray = ls at hl ⊢
  have hl : lv_has ls 6 [(0, .ref qg), (1, .int lat)] := hl
  have hP : va_P D vwCl [(qg, .inr (5, [.ref qgw, .ref qgh, .ref qgt, .int br, .int jC, .int jR, .int nf, .ref qgx, .ref qgy, .ref qgz, .ref qgu, .int th])), (qgh, .inl (cI, 10, .inl fh))] s.heap := hP
  have hP := hP
  refine lv_iload_n hx hb dX5_high_0 rfl (lv_at hl 1 rfl) ?_
  have K11 : ∀ v11_0 : Int32, v11_0 = (if 0 ≤ lat then lat else -lat) → ∀ (H : Heap) (locs : List Loc), va_P D vwCl [(qg, .inr (5, [.ref qgw, .ref qgh, .ref qgt, .int br, .int jC, .int jR, .int nf, .ref qgx, .ref qgy, .ref qgz, .ref qgu, .int th])), (qgh, .inl (cI, 10, .inl fh))] H → va_S (fun _ : Nat => False) s.heap H locs → ∀ (ls : Array Slot), lv_has ls 6 [(0, .ref qg), (1, .int lat)] → W p l e (headSpec wsX5_high rm_X5_high).room s m ([.ref qg, .int lat]).toArray below meth c H locs 0 0 (MQ below (Qc_X5_high D cI cZ cJ cD qg qgw qgh qgt br jC jR nf qgx qgy qgz qgu th fh lat) ([.ref qg, .int lat]).toArray s 0 0 (fun _ : Nat => False)) (F0 m 10 ls [.int v11_0]) := by
    intro v11_0 hv11_0 H locs hP hS ls hl
    subst hv11_0
    refine lv_istore_n (lv' := [(2, .int (if 0 ≤ lat then lat else -lat)), (0, .ref qg), (1, .int lat)]) hx hb dX5_high_10 rfl hl (by decide) rfl (fun ls hl => ?_)
    refine lv_iload_n hx hb dX5_high_11 rfl (lv_at hl 0 rfl) ?_
    refine lv_bipush (v := 10) hx hb dX5_high_12 (by decide) ?_
    refine lv_idiv hx hb dX5_high_14 (by decide) ?_
    refine lv_istore_n (lv' := [(3, .int ((if 0 ≤ lat then lat else -lat) / 10)), (2, .int (if 0 ≤ lat then lat else -lat)), (0, .ref qg), (1, .int lat)]) hx hb dX5_high_15 rfl hl (by decide) rfl (fun ls hl => ?_)
    refine lv_iload_n hx hb dX5_high_16 rfl (lv_at hl 1 rfl) ?_
    refine lv_bipush (v := 10) hx hb dX5_high_17 (by decide) ?_
    refine lv_irem hx hb dX5_high_19 (by decide) ?_
    refine lv_istore (lv' := [(4, .int ((if 0 ≤ lat then lat else -lat) - (if 0 ≤ lat then lat else -lat) / 10 * 10)), (3, .int ((if 0 ≤ lat then lat else -lat) / 10)), (2, .int (if 0 ≤ lat then lat else -lat)), (0, .ref qg), (1, .int lat)]) hx hb dX5_high_20 hl (by decide) rfl (fun ls hl => ?_)
    refine lv_bipush (v := 10) hx hb dX5_high_22 (by decide) ?_
    refine lv_iload hx hb dX5_high_24 (lv_at hl 0 rfl) ?_
    refine lv_isub hx hb dX5_high_26 ?_
    refine lv_aload_n hx hb dX5_high_27 rfl (lv_at hl 3 rfl) ?_
    refine va_get (D := D) (ci := 5) (v := .ref qgh) (C := RX5) (T := TX5) (N := 12) hx hb hts (fun w h => List.mem_cons_of_mem _ (List.mem_append_right _ h)) hown hK hP 0 rfl rfl 1 (by decide) (hts (.fieldLink RX5 13 "AtlasFolderModel" "height" "[I") (List.mem_cons_of_mem _ (List.mem_append_left _ (List.mem_of_getElem? (i := 0) rfl)))) (fun _ h9 => h9) rfl dX5_high_28 ?_
    refine lv_iload_n hx hb dX5_high_31 rfl (lv_at hl 1 rfl) ?_
    refine va_iald hx hb hK hP 1 0 rfl rfl (z_wk hlat) dX5_high_32 ?_
    refine lv_imul hx hb dX5_high_33 ?_
    refine lv_iload hx hb dX5_high_34 (lv_at hl 0 rfl) ?_
    have K13 : ∀ v13_0 : Int32, v13_0 = (if ((if 0 ≤ lat then lat else -lat) - (if 0 ≤ lat then lat else -lat) / 10 * 10) ≤ 0 then 0 else ((if 0 ≤ lat then lat else -lat) - (if 0 ≤ lat then lat else -lat) / 10 * 10) * (fh (((if 0 ≤ lat then lat else -lat) / 10) + 1).toNatClampNeg)) → ∀ (H : Heap) (locs : List Loc), va_P D vwCl [(qg, .inr (5, [.ref qgw, .ref qgh, .ref qgt, .int br, .int jC, .int jR, .int nf, .ref qgx, .ref qgy, .ref qgz, .ref qgu, .int th])), (qgh, .inl (cI, 10, .inl fh))] H → va_S (fun _ : Nat => False) s.heap H locs → ∀ (ls : Array Slot), lv_has ls 6 [(4, .int ((if 0 ≤ lat then lat else -lat) - (if 0 ≤ lat then lat else -lat) / 10 * 10)), (3, .int ((if 0 ≤ lat then lat else -lat) / 10)), (2, .int (if 0 ≤ lat then lat else -lat)), (0, .ref qg), (1, .int lat)] → W p l e (headSpec wsX5_high rm_X5_high).room s m ([.ref qg, .int lat]).toArray below meth c H locs 0 0 (MQ below (Qc_X5_high D cI cZ cJ cD qg qgw qgh qgt br jC jR nf qgx qgy qgz qgu th fh lat) ([.ref qg, .int lat]).toArray s 0 0 (fun _ : Nat => False)) (F0 m 54 ls [.int v13_0, .int ((10 - ((if 0 ≤ lat then lat else -lat) - (if 0 ≤ lat then lat else -lat) / 10 * 10)) * (fh ((if 0 ≤ lat then lat else -lat) / 10).toNatClampNeg))]) := by
      intro v13_0 hv13_0 H locs hP hS ls hl
      subst hv13_0
      refine lv_iadd hx hb dX5_high_54 ?_
      refine lv_istore (lv' := [(5, .int (((10 - ((if 0 ≤ lat then lat else -lat) - (if 0 ≤ lat then lat else -lat) / 10 * 10)) * (fh ((if 0 ≤ lat then lat else -lat) / 10).toNatClampNeg)) + (if ((if 0 ≤ lat then lat else -lat) - (if 0 ≤ lat then lat else -lat) / 10 * 10) ≤ 0 then 0 else ((if 0 ≤ lat then lat else -lat) - (if 0 ≤ lat then lat else -lat) / 10 * 10) * (fh (((if 0 ≤ lat then lat else -lat) / 10) + 1).toNatClampNeg)))), (4, .int ((if 0 ≤ lat then lat else -lat) - (if 0 ≤ lat then lat else -lat) / 10 * 10)), (3, .int ((if 0 ≤ lat then lat else -lat) / 10)), (2, .int (if 0 ≤ lat then lat else -lat)), (0, .ref qg), (1, .int lat)]) hx hb dX5_high_55 hl (by decide) rfl (fun ls hl => ?_)
      refine lv_iload_n hx hb dX5_high_57 rfl (lv_at hl 5 rfl) ?_
      have K15 : ∀ v15_0 : Int32, v15_0 = (if 0 ≤ lat then ((10 - ((if 0 ≤ lat then lat else -lat) - (if 0 ≤ lat then lat else -lat) / 10 * 10)) * (fh ((if 0 ≤ lat then lat else -lat) / 10).toNatClampNeg)) + (if ((if 0 ≤ lat then lat else -lat) - (if 0 ≤ lat then lat else -lat) / 10 * 10) ≤ 0 then 0 else ((if 0 ≤ lat then lat else -lat) - (if 0 ≤ lat then lat else -lat) / 10 * 10) * (fh (((if 0 ≤ lat then lat else -lat) / 10) + 1).toNatClampNeg)) else -(((10 - ((if 0 ≤ lat then lat else -lat) - (if 0 ≤ lat then lat else -lat) / 10 * 10)) * (fh ((if 0 ≤ lat then lat else -lat) / 10).toNatClampNeg)) + (if ((if 0 ≤ lat then lat else -lat) - (if 0 ≤ lat then lat else -lat) / 10 * 10) ≤ 0 then 0 else ((if 0 ≤ lat then lat else -lat) - (if 0 ≤ lat then lat else -lat) / 10 * 10) * (fh (((if 0 ≤ lat then lat else -lat) / 10) + 1).toNatClampNeg)))) → ∀ (H : Heap) (locs : List Loc), va_P D vwCl [(qg, .inr (5, [.ref qgw, .ref qgh, .ref qgt, .int br, .int jC, .int jR, .int nf, .ref qgx, .ref qgy, .ref qgz, .ref qgu, .int th])), (qgh, .inl (cI, 10, .inl fh))] H → va_S (fun _ : Nat => False) s.heap H locs → ∀ (ls : Array Slot), lv_has ls 6 [(5, .int (((10 - ((if 0 ≤ lat then lat else -lat) - (if 0 ≤ lat then lat else -lat) / 10 * 10)) * (fh ((if 0 ≤ lat then lat else -lat) / 10).toNatClampNeg)) + (if ((if 0 ≤ lat then lat else -lat) - (if 0 ≤ lat then lat else -lat) / 10 * 10) ≤ 0 then 0 else ((if 0 ≤ lat then lat else -lat) - (if 0 ≤ lat then lat else -lat) / 10 * 10) * (fh (((if 0 ≤ lat then lat else -lat) / 10) + 1).toNatClampNeg)))), (4, .int ((if 0 ≤ lat then lat else -lat) - (if 0 ≤ lat then lat else -lat) / 10 * 10)), (3, .int ((if 0 ≤ lat then lat else -lat) / 10)), (2, .int (if 0 ≤ lat then lat else -lat)), (0, .ref qg), (1, .int lat)] → W p l e (headSpec wsX5_high rm_X5_high).room s m ([.ref qg, .int lat]).toArray below meth c H locs 0 0 (MQ below (Qc_X5_high D cI cZ cJ cD qg qgw qgh qgt br jC jR nf qgx qgy qgz qgu th fh lat) ([.ref qg, .int lat]).toArray s 0 0 (fun _ : Nat => False)) (F0 m 69 ls [.int v15_0]) := by
        intro v15_0 hv15_0 H locs hP hS ls hl
        subst hv15_0
        have e16 : s_X5_high fh lat = (if 0 ≤ lat then ((10 - ((if 0 ≤ lat then lat else -lat) - (if 0 ≤ lat then lat else -lat) / 10 * 10)) * (fh ((if 0 ≤ lat then lat else -lat) / 10).toNatClampNeg)) + (if ((if 0 ≤ lat then lat else -lat) - (if 0 ≤ lat then lat else -lat) / 10 * 10) ≤ 0 then 0 else ((if 0 ≤ lat then lat else -lat) - (if 0 ≤ lat then lat else -lat) / 10 * 10) * (fh (((if 0 ≤ lat then lat else -lat) / 10) + 1).toNatClampNeg)) else -(((10 - ((if 0 ≤ lat then lat else -lat) - (if 0 ≤ lat then lat else -lat) / 10 * 10)) * (fh ((if 0 ≤ lat then lat else -lat) / 10).toNatClampNeg)) + (if ((if 0 ≤ lat then lat else -lat) - (if 0 ≤ lat then lat else -lat) / 10 * 10) ≤ 0 then 0 else ((if 0 ≤ lat then lat else -lat) - (if 0 ≤ lat then lat else -lat) / 10 * 10) * (fh (((if 0 ≤ lat then lat else -lat) / 10) + 1).toNatClampNeg)))) := rfl
        exact W.iret (v := (if 0 ≤ lat then ((10 - ((if 0 ≤ lat then lat else -lat) - (if 0 ≤ lat then lat else -lat) / 10 * 10)) * (fh ((if 0 ≤ lat then lat else -lat) / 10).toNatClampNeg)) + (if ((if 0 ≤ lat then lat else -lat) - (if 0 ≤ lat then lat else -lat) / 10 * 10) ≤ 0 then 0 else ((if 0 ≤ lat then lat else -lat) - (if 0 ≤ lat then lat else -lat) / 10 * 10) * (fh (((if 0 ≤ lat then lat else -lat) / 10) + 1).toNatClampNeg)) else -(((10 - ((if 0 ≤ lat then lat else -lat) - (if 0 ≤ lat then lat else -lat) / 10 * 10)) * (fh ((if 0 ≤ lat then lat else -lat) / 10).toNatClampNeg)) + (if ((if 0 ≤ lat then lat else -lat) - (if 0 ≤ lat then lat else -lat) / 10 * 10) ≤ 0 then 0 else ((if 0 ≤ lat then lat else -lat) - (if 0 ≤ lat then lat else -lat) / 10 * 10) * (fh (((if 0 ≤ lat then lat else -lat) / 10) + 1).toNatClampNeg))))) hx hb hr (fun t ht hW => ⟨⟨_, (), rfl, e16.symm, trivial⟩, hS.F ht⟩) hS.2.2 dX5_high_69
      refine lv_if_ge (tgt := 67) hx hb dX5_high_58 (by decide) (fun c17 => ?_) (fun c17 => ?_)
      · refine lv_iload hx hb dX5_high_67 (lv_at hl 0 rfl) ?_
        exact K15 _ (if_pos c17).symm _ _ hP hS _ (lv_sub hl [0, 1, 2, 3, 4, 5] rfl)
      · refine lv_iload hx hb dX5_high_61 (lv_at hl 0 rfl) ?_
        refine lv_ineg hx hb dX5_high_63 ?_
        refine lv_goto (tgt := 69) hx hb dX5_high_64 (by decide) ?_
        exact K15 _ (if_neg c17).symm _ _ hP hS _ (lv_sub hl [0, 1, 2, 3, 4, 5] rfl)
    refine lv_if_le (tgt := 53) hx hb dX5_high_36 (by decide) (fun c18 => ?_) (fun c18 => ?_)
    · refine lv_iconst (v := 0) hx hb dX5_high_53 (by decide) ?_
      exact K13 _ (if_pos c18).symm _ _ hP hS _ (lv_sub hl [0, 1, 2, 3, 4] rfl)
    · refine lv_iload hx hb dX5_high_39 (lv_at hl 0 rfl) ?_
      refine lv_aload_n hx hb dX5_high_41 rfl (lv_at hl 3 rfl) ?_
      refine va_get (D := D) (ci := 5) (v := .ref qgh) (C := RX5) (T := TX5) (N := 12) hx hb hts (fun w h => List.mem_cons_of_mem _ (List.mem_append_right _ h)) hown hK hP 0 rfl rfl 1 (by decide) (hts (.fieldLink RX5 13 "AtlasFolderModel" "height" "[I") (List.mem_cons_of_mem _ (List.mem_append_left _ (List.mem_of_getElem? (i := 0) rfl)))) (fun _ h9 => h9) rfl dX5_high_42 ?_
      refine lv_iload_n hx hb dX5_high_45 rfl (lv_at hl 1 rfl) ?_
      refine lv_iconst (v := 1) hx hb dX5_high_46 (by decide) ?_
      refine lv_iadd hx hb dX5_high_47 ?_
      refine va_iald hx hb hK hP 1 0 rfl rfl (z_wk1 hlat c18) dX5_high_48 ?_
      refine lv_imul hx hb dX5_high_49 ?_
      refine lv_goto (tgt := 54) hx hb dX5_high_50 (by decide) ?_
      exact K13 _ (if_neg c18).symm _ _ hP hS _ (lv_sub hl [0, 1, 2, 3, 4] rfl)
  refine lv_if_ge (tgt := 9) hx hb dX5_high_1 (by decide) (fun c19 => ?_) (fun c19 => ?_)
  · refine lv_iload_n hx hb dX5_high_9 rfl (lv_at hl 1 rfl) ?_
    exact K11 _ (if_pos c19).symm _ _ hP hS _ (lv_sub hl [0, 1] rfl)
  · refine lv_iload_n hx hb dX5_high_4 rfl (lv_at hl 1 rfl) ?_
    refine lv_ineg hx hb dX5_high_5 ?_
    refine lv_goto (tgt := 10) hx hb dX5_high_6 (by decide) ?_
    exact K11 _ (if_neg c19).symm _ _ hP hS _ (lv_sub hl [0, 1] rfl)
def s_X5_x (fw : Nat → Int32) (lat : Int32) (lon : Int32) : Int32 := (if (s_X5_may (if (s_X5_isLatitude lat) = 0 then 0 else (if (s_X5_isLongitude lon) = 0 then 0 else 1))) = 0 then 0 else lon * (s_X5_wide fw lat))
def n_X5_x_qg_11 (lat : Int32) (lon : Int32) : Int32 := n_X5_may_qg_11 (if (s_X5_isLatitude lat) = 0 then 0 else (if (s_X5_isLongitude lon) = 0 then 0 else 1))
abbrev rm_X5_x : Room := { frames := 1, cells := 0, slots := 0, locals := 24 }
abbrev Qc_X5_x (D : va_G) (cI cZ cJ cD : ClassId) (qg : Nat) (qgw : Nat) (qgh : Nat) (qgt : Nat) (br : Int32) (jC : Int32) (jR : Int32) (nf : Int32) (qgx : Nat) (qgy : Nat) (qgz : Nat) (qgu : Nat) (th : Int32) (fw : Nat → Int32) (lat : Int32) (lon : Int32) (A : Nat → Prop) : Array Value → State → Outcome → State → Prop := va_Qi (fun (r : Int32) (_ : Unit) => r = s_X5_x fw lat lon) (zPost D cI cZ cJ cD A [(qg, .inr (5, [.ref qgw, .ref qgh, .ref qgt, .int br, .int jC, .int jR, .int nf, .ref qgx, .ref qgy, .ref qgz, .ref qgu, .int (n_X5_x_qg_11 lat lon)])), (qgw, .inl (cI, 10, .inl fw))]) A
set_option maxHeartbeats 4000000 in
set_option maxRecDepth 100000 in
theorem c_X5_x (l : Launch) (D : va_G) (cI cZ cJ cD : ClassId) (qg : Nat) (qgw : Nat) (qgh : Nat) (qgt : Nat) (br : Int32) (jC : Int32) (jR : Int32) (nf : Int32) (qgx : Nat) (qgy : Nat) (qgz : Nat) (qgu : Nat) (th : Int32) (fw : Nat → Int32) (lat : Int32) (lon : Int32) (sz : Nat)  : Met l yX5_x wsX5_x rm_X5_x (va_Pc [.ref qg, .int lat, .int lon] (zPreW D cI cZ cJ cD [(qg, .inr (5, [.ref qgw, .ref qgh, .ref qgt, .int br, .int jC, .int jR, .int nf, .ref qgx, .ref qgy, .ref qgz, .ref qgu, .int th])), (qgw, .inl (cI, 10, .inl fw))] sz)) (Qc_X5_x D cI cZ cJ cD qg qgw qgh qgt br jC jR nf qgx qgy qgz qgu th fw lat lon (va_A [(qg, .inr (5, [.ref qgw, .ref qgh, .ref qgt, .int br, .int jC, .int jR, .int nf, .ref qgx, .ref qgy, .ref qgz, .ref qgu, .int th])), (qgw, .inl (cI, 10, .inl fw))] sz)) 0 0 (va_A [(qg, .inr (5, [.ref qgw, .ref qgh, .ref qgt, .int br, .int jC, .int jR, .int nf, .ref qgx, .ref qgy, .ref qgz, .ref qgu, .int th])), (qgw, .inl (cI, 10, .inl fw))] sz) := by
  refine Met.ofW (cc := cX5_x) (maxL := 3) (ret := (some .int)) (by decide) rfl ?_
  intro p e s m args below meth c s₁ B hml hv
  obtain ⟨rfl, hsz, hP, hK, hD0⟩ := hv
  have hx := B.exec
  have hb := B.bytes
  have hr := B.returns
  have hts := atoms_spec (ws := wsX5_x) B.pre
  have hown : s.vm.findClass RX5 = some m.cls := findClass_of_methodNamed B.named
  have hlocks := B.notSynchronized
  subst hsz
  have hD := hD0.self (sz := s.heap.size)
  generalize hAe : va_A [(qg, .inr (5, [.ref qgw, .ref qgh, .ref qgt, .int br, .int jC, .int jR, .int nf, .ref qgx, .ref qgy, .ref qgz, .ref qgu, .int th])), (qgw, .inl (cI, 10, .inl fw))] s.heap.size = A at hD ⊢
  have hA : ∀ q : Nat, s.heap.size ≤ q → A q := fun q h => by rw [← hAe]; exact Or.inr h
  have hS : va_S A s.heap s.heap [] := va_S.rf
  have hl := lv_entry ([.ref qg, .int lat, .int lon]) (n := 3) (Nat.le_of_ble_eq_true rfl)
  rw [lg_entry_eq]
  generalize (lg_sl ([.ref qg, .int lat, .int lon]) ++ List.replicate (3 - (lg_sl ([.ref qg, .int lat, .int lon])).length) Slot.unset).toArray = ls at hl ⊢
  have hl : lv_has ls 3 [(0, .ref qg), (1, .int lat), (2, .int lon)] := hl
  have hP : va_P D vwCl [(qg, .inr (5, [.ref qgw, .ref qgh, .ref qgt, .int br, .int jC, .int jR, .int nf, .ref qgx, .ref qgy, .ref qgz, .ref qgu, .int th])), (qgw, .inl (cI, 10, .inl fw))] s.heap := hP
  have hP := hP
  refine lv_aload_n hx hb dX5_x_0 rfl (lv_at hl 0 rfl) ?_
  refine lv_iload_n hx hb dX5_x_1 rfl (lv_at hl 1 rfl) ?_
  refine va_calli (va_runS (As := [.int lat]) (rest := [.ref qg]) ⟨hx, hb, hml, hown, hts⟩ (c_X5_isLatitude l D cI cZ cJ cD lat ) (va_cwS 1 hts gX5_x_X5_isLatitude rfl rfl rfl (by decide +kernel) ⟨Nat.le_of_ble_eq_true rfl, Nat.le_of_ble_eq_true rfl⟩) ⟨zblind, (fun U hU hW => ⟨rfl, by rw [hU]; exact hP.sub (ws' := []) [] rfl, va_K.moved hW.alike hK⟩)⟩ rfl rfl hl.1 rfl (lv_room (Nat.le_of_ble_eq_true rfl)) dX5_x_2 ⟨Nat.le_of_ble_eq_true rfl, Nat.le_of_ble_eq_true rfl⟩) hS (fun q _ h => h.elim) (fun q h => h.elim) (fun r12 u t H locs ht hvm hw hB hz1 hk1 hS => ?_)
  rw [hw]
  have hP := zk hP hk1
  have K14 : ∀ v14_0 : Int32, v14_0 = (if (s_X5_isLatitude lat) = 0 then 0 else (if (s_X5_isLongitude lon) = 0 then 0 else 1)) → ∀ (H : Heap) (locs : List Loc), va_P D vwCl [(qg, .inr (5, [.ref qgw, .ref qgh, .ref qgt, .int br, .int jC, .int jR, .int nf, .ref qgx, .ref qgy, .ref qgz, .ref qgu, .int th])), (qgw, .inl (cI, 10, .inl fw))] H → va_D A [(qg, .inr (5, [.ref qgw, .ref qgh, .ref qgt, .int br, .int jC, .int jR, .int nf, .ref qgx, .ref qgy, .ref qgz, .ref qgu, .int th])), (qgw, .inl (cI, 10, .inl fw))] → va_S A s.heap H locs → ∀ (ls : Array Slot), lv_has ls 3 [(0, .ref qg), (1, .int lat), (2, .int lon)] → W p l e (headSpec wsX5_x rm_X5_x).room s m ([.ref qg, .int lat, .int lon]).toArray below meth c H locs 0 0 (MQ below (Qc_X5_x D cI cZ cJ cD qg qgw qgh qgt br jC jR nf qgx qgy qgz qgu th fw lat lon A) ([.ref qg, .int lat, .int lon]).toArray s 0 0 A) (F0 m 20 ls [.int v14_0, .ref qg]) := by
    intro v14_0 hv14_0 H locs hP hD hS ls hl
    subst hv14_0
    have hPc := hP.sub (ws' := [(qg, .inr (5, [.ref qgw, .ref qgh, .ref qgt, .int br, .int jC, .int jR, .int nf, .ref qgx, .ref qgy, .ref qgz, .ref qgu, .int th]))]) [0] rfl
    have hDc := hD.sub (ws' := [(qg, .inr (5, [.ref qgw, .ref qgh, .ref qgt, .int br, .int jC, .int jR, .int nf, .ref qgx, .ref qgy, .ref qgz, .ref qgu, .int th]))]) [0] (by decide) rfl
    have hFc := va_free (wc := [(qg, .inr (5, [.ref qgw, .ref qgh, .ref qgt, .int br, .int jC, .int jR, .int nf, .ref qgx, .ref qgy, .ref qgz, .ref qgu, .int th]))]) hD hS hA [0] rfl
    refine va_calli (va_runV (As := [.int (if (s_X5_isLatitude lat) = 0 then 0 else (if (s_X5_isLongitude lon) = 0 then 0 else 1))]) (rest := []) ⟨hx, hb, hml, hown, hts⟩ (c_X5_may l D cI cZ cJ cD qg qgw qgh qgt br jC jR nf qgx qgy qgz qgu th (if (s_X5_isLatitude lat) = 0 then 0 else (if (s_X5_isLongitude lon) = 0 then 0 else 1)) H.size (by (repeat' split) <;> simp)) (cwV 1 hts gX5_x_X5_may rfl rfl rfl (by decide +kernel) ⟨Nat.le_of_ble_eq_true rfl, Nat.le_of_ble_eq_true rfl⟩) ⟨zblindW, va_recv hK hP (ci := 5) (q0 := 0) rfl rfl, (fun U hU hW => ⟨rfl, by rw [hU], by rw [hU]; exact hPc, va_K.moved hW.alike hK, hDc.weaken (fun _ _ _ _ => trivial)⟩)⟩ rfl rfl hl.1 rfl (lv_room (Nat.le_of_ble_eq_true rfl)) dX5_x_20 ⟨Nat.le_of_ble_eq_true rfl, Nat.le_of_ble_eq_true rfl⟩) hS (fun q _ h => hFc q h) hFc (fun r15 u t H locs ht hvm hw hB hz1 hk1 hS => ?_)
    rw [hw]
    obtain ⟨hP1, hK1, hD1⟩ := hB
    rw [ht] at hP1
    obtain ⟨hP, hD⟩ := va_join (wr := [(qgw, .inl (cI, 10, .inl fw))]) (w1 := [(qg, .inr (5, [.ref qgw, .ref qgh, .ref qgt, .int br, .int jC, .int jR, .int nf, .ref qgx, .ref qgy, .ref qgz, .ref qgu, .int (n_X5_may_qg_11 (if (s_X5_isLatitude lat) = 0 then 0 else (if (s_X5_isLongitude lon) = 0 then 0 else 1)))]))]) hP hD [0] [1] rfl rfl (by decide) (by decide) hk1 hFc hP1 hD1
    have hP := hP.sub (ws' := [(qg, .inr (5, [.ref qgw, .ref qgh, .ref qgt, .int br, .int jC, .int jR, .int nf, .ref qgx, .ref qgy, .ref qgz, .ref qgu, .int (n_X5_may_qg_11 (if (s_X5_isLatitude lat) = 0 then 0 else (if (s_X5_isLongitude lon) = 0 then 0 else 1)))])), (qgw, .inl (cI, 10, .inl fw))]) [1, 0] rfl
    have hD := hD.sub (ws' := [(qg, .inr (5, [.ref qgw, .ref qgh, .ref qgt, .int br, .int jC, .int jR, .int nf, .ref qgx, .ref qgy, .ref qgz, .ref qgu, .int (n_X5_may_qg_11 (if (s_X5_isLatitude lat) = 0 then 0 else (if (s_X5_isLongitude lon) = 0 then 0 else 1)))])), (qgw, .inl (cI, 10, .inl fw))]) [1, 0] (by decide) rfl
    have K17 : ∀ v17_0 : Int32, v17_0 = (if (s_X5_may (if (s_X5_isLatitude lat) = 0 then 0 else (if (s_X5_isLongitude lon) = 0 then 0 else 1))) = 0 then 0 else lon * (s_X5_wide fw lat)) → ∀ (H : Heap) (locs : List Loc), va_P D vwCl [(qg, .inr (5, [.ref qgw, .ref qgh, .ref qgt, .int br, .int jC, .int jR, .int nf, .ref qgx, .ref qgy, .ref qgz, .ref qgu, .int (n_X5_may_qg_11 (if (s_X5_isLatitude lat) = 0 then 0 else (if (s_X5_isLongitude lon) = 0 then 0 else 1)))])), (qgw, .inl (cI, 10, .inl fw))] H → va_D A [(qg, .inr (5, [.ref qgw, .ref qgh, .ref qgt, .int br, .int jC, .int jR, .int nf, .ref qgx, .ref qgy, .ref qgz, .ref qgu, .int (n_X5_may_qg_11 (if (s_X5_isLatitude lat) = 0 then 0 else (if (s_X5_isLongitude lon) = 0 then 0 else 1)))])), (qgw, .inl (cI, 10, .inl fw))] → va_S A s.heap H locs → ∀ (ls : Array Slot), lv_has ls 3 [(0, .ref qg), (1, .int lat), (2, .int lon)] → W p l e (headSpec wsX5_x rm_X5_x).room s m ([.ref qg, .int lat, .int lon]).toArray below meth c H locs 0 0 (MQ below (Qc_X5_x D cI cZ cJ cD qg qgw qgh qgt br jC jR nf qgx qgy qgz qgu th fw lat lon A) ([.ref qg, .int lat, .int lon]).toArray s 0 0 A) (F0 m 37 ls [.int v17_0]) := by
      intro v17_0 hv17_0 H locs hP hD hS ls hl
      subst hv17_0
      have e18 : s_X5_x fw lat lon = (if (s_X5_may (if (s_X5_isLatitude lat) = 0 then 0 else (if (s_X5_isLongitude lon) = 0 then 0 else 1))) = 0 then 0 else lon * (s_X5_wide fw lat)) := rfl
      have e19 : n_X5_x_qg_11 lat lon = n_X5_may_qg_11 (if (s_X5_isLatitude lat) = 0 then 0 else (if (s_X5_isLongitude lon) = 0 then 0 else 1)) := rfl
      exact W.iret (v := (if (s_X5_may (if (s_X5_isLatitude lat) = 0 then 0 else (if (s_X5_isLongitude lon) = 0 then 0 else 1))) = 0 then 0 else lon * (s_X5_wide fw lat))) hx hb hr (fun t ht hW => ⟨⟨_, (), rfl, e18.symm, ⟨(by rw [e19]; rw [ht]; exact hP), va_K.moved hW.alike hK, (by rw [e19]; exact hD)⟩⟩, hS.F ht⟩) hS.2.2 dX5_x_37
    refine lv_if_eq (tgt := 36) hx hb dX5_x_23 (by decide) (fun c20 => ?_) (fun c20 => ?_)
    · refine lv_iconst (v := 0) hx hb dX5_x_36 (by decide) ?_
      exact K17 _ (if_pos c20).symm _ _ hP hD hS _ (lv_sub hl [0, 1, 2] rfl)
    · refine lv_iload_n hx hb dX5_x_26 rfl (lv_at hl 2 rfl) ?_
      refine lv_aload_n hx hb dX5_x_27 rfl (lv_at hl 0 rfl) ?_
      refine lv_iload_n hx hb dX5_x_28 rfl (lv_at hl 1 rfl) ?_
      refine va_calli (va_runV (As := [.int lat]) (rest := [.int lon]) ⟨hx, hb, hml, hown, hts⟩ (c_X5_wide l D cI cZ cJ cD qg qgw qgh qgt br jC jR nf qgx qgy qgz qgu (n_X5_may_qg_11 (if (s_X5_isLatitude lat) = 0 then 0 else (if (s_X5_isLongitude lon) = 0 then 0 else 1))) fw lat (z_lat (z_n1 c20))) (cwV 1 hts gX5_x_X5_wide rfl rfl rfl (by decide +kernel) ⟨Nat.le_of_ble_eq_true rfl, Nat.le_of_ble_eq_true rfl⟩) ⟨zblind, va_recv hK hP (ci := 5) (q0 := 0) rfl rfl, (fun U hU hW => ⟨rfl, by rw [hU]; exact hP.sub (ws' := [(qg, .inr (5, [.ref qgw, .ref qgh, .ref qgt, .int br, .int jC, .int jR, .int nf, .ref qgx, .ref qgy, .ref qgz, .ref qgu, .int (n_X5_may_qg_11 (if (s_X5_isLatitude lat) = 0 then 0 else (if (s_X5_isLongitude lon) = 0 then 0 else 1)))])), (qgw, .inl (cI, 10, .inl fw))]) [0, 1] rfl, va_K.moved hW.alike hK⟩)⟩ rfl rfl hl.1 rfl (lv_room (Nat.le_of_ble_eq_true rfl)) dX5_x_29 ⟨Nat.le_of_ble_eq_true rfl, Nat.le_of_ble_eq_true rfl⟩) hS (fun q _ h => h.elim) (fun q h => h.elim) (fun r21 u t H locs ht hvm hw hB hz1 hk1 hS => ?_)
      rw [hw]
      have hP := zk hP hk1
      refine lv_imul hx hb dX5_x_32 ?_
      refine lv_goto (tgt := 37) hx hb dX5_x_33 (by decide) ?_
      exact K17 _ (if_neg c20).symm _ _ hP hD hS _ (lv_sub hl [0, 1, 2] rfl)
  refine lv_if_eq (tgt := 19) hx hb dX5_x_5 (by decide) (fun c22 => ?_) (fun c22 => ?_)
  · refine lv_iconst (v := 0) hx hb dX5_x_19 (by decide) ?_
    exact K14 _ (if_pos c22).symm _ _ hP hD hS _ (lv_sub hl [0, 1, 2] rfl)
  · refine lv_iload_n hx hb dX5_x_8 rfl (lv_at hl 2 rfl) ?_
    refine va_calli (va_runS (As := [.int lon]) (rest := [.ref qg]) ⟨hx, hb, hml, hown, hts⟩ (c_X5_isLongitude l D cI cZ cJ cD lon ) (va_cwS 1 hts gX5_x_X5_isLongitude rfl rfl rfl (by decide +kernel) ⟨Nat.le_of_ble_eq_true rfl, Nat.le_of_ble_eq_true rfl⟩) ⟨zblind, (fun U hU hW => ⟨rfl, by rw [hU]; exact hP.sub (ws' := []) [] rfl, va_K.moved hW.alike hK⟩)⟩ rfl rfl hl.1 rfl (lv_room (Nat.le_of_ble_eq_true rfl)) dX5_x_9 ⟨Nat.le_of_ble_eq_true rfl, Nat.le_of_ble_eq_true rfl⟩) hS (fun q _ h => h.elim) (fun q h => h.elim) (fun r23 u t H locs ht hvm hw hB hz1 hk1 hS => ?_)
    rw [hw]
    have hP := zk hP hk1
    refine lv_if_eq (tgt := 19) hx hb dX5_x_12 (by decide) (fun c24 => ?_) (fun c24 => ?_)
    · refine lv_iconst (v := 0) hx hb dX5_x_19 (by decide) ?_
      exact K14 _ ((if_neg c22).trans (if_pos c24)).symm _ _ hP hD hS _ (lv_sub hl [0, 1, 2] rfl)
    · refine lv_iconst (v := 1) hx hb dX5_x_15 (by decide) ?_
      refine lv_goto (tgt := 20) hx hb dX5_x_16 (by decide) ?_
      exact K14 _ ((if_neg c22).trans (if_neg c24)).symm _ _ hP hD hS _ (lv_sub hl [0, 1, 2] rfl)
def s_X5_y (fh : Nat → Int32) (lat : Int32) : Int32 := (if (s_X5_may (s_X5_isLatitude lat)) = 0 then 0 else s_X5_high fh lat)
def n_X5_y_qg_11 (lat : Int32) : Int32 := n_X5_may_qg_11 (s_X5_isLatitude lat)
abbrev rm_X5_y : Room := { frames := 1, cells := 0, slots := 0, locals := 25 }
abbrev Qc_X5_y (D : va_G) (cI cZ cJ cD : ClassId) (qg : Nat) (qgw : Nat) (qgh : Nat) (qgt : Nat) (br : Int32) (jC : Int32) (jR : Int32) (nf : Int32) (qgx : Nat) (qgy : Nat) (qgz : Nat) (qgu : Nat) (th : Int32) (fh : Nat → Int32) (lat : Int32) (A : Nat → Prop) : Array Value → State → Outcome → State → Prop := va_Qi (fun (r : Int32) (_ : Unit) => r = s_X5_y fh lat) (zPost D cI cZ cJ cD A [(qg, .inr (5, [.ref qgw, .ref qgh, .ref qgt, .int br, .int jC, .int jR, .int nf, .ref qgx, .ref qgy, .ref qgz, .ref qgu, .int (n_X5_y_qg_11 lat)])), (qgh, .inl (cI, 10, .inl fh))]) A
set_option maxHeartbeats 4000000 in
set_option maxRecDepth 100000 in
theorem c_X5_y (l : Launch) (D : va_G) (cI cZ cJ cD : ClassId) (qg : Nat) (qgw : Nat) (qgh : Nat) (qgt : Nat) (br : Int32) (jC : Int32) (jR : Int32) (nf : Int32) (qgx : Nat) (qgy : Nat) (qgz : Nat) (qgu : Nat) (th : Int32) (fh : Nat → Int32) (lat : Int32) (sz : Nat)  : Met l yX5_y wsX5_y rm_X5_y (va_Pc [.ref qg, .int lat] (zPreW D cI cZ cJ cD [(qg, .inr (5, [.ref qgw, .ref qgh, .ref qgt, .int br, .int jC, .int jR, .int nf, .ref qgx, .ref qgy, .ref qgz, .ref qgu, .int th])), (qgh, .inl (cI, 10, .inl fh))] sz)) (Qc_X5_y D cI cZ cJ cD qg qgw qgh qgt br jC jR nf qgx qgy qgz qgu th fh lat (va_A [(qg, .inr (5, [.ref qgw, .ref qgh, .ref qgt, .int br, .int jC, .int jR, .int nf, .ref qgx, .ref qgy, .ref qgz, .ref qgu, .int th])), (qgh, .inl (cI, 10, .inl fh))] sz)) 0 0 (va_A [(qg, .inr (5, [.ref qgw, .ref qgh, .ref qgt, .int br, .int jC, .int jR, .int nf, .ref qgx, .ref qgy, .ref qgz, .ref qgu, .int th])), (qgh, .inl (cI, 10, .inl fh))] sz) := by
  refine Met.ofW (cc := cX5_y) (maxL := 2) (ret := (some .int)) (by decide) rfl ?_
  intro p e s m args below meth c s₁ B hml hv
  obtain ⟨rfl, hsz, hP, hK, hD0⟩ := hv
  have hx := B.exec
  have hb := B.bytes
  have hr := B.returns
  have hts := atoms_spec (ws := wsX5_y) B.pre
  have hown : s.vm.findClass RX5 = some m.cls := findClass_of_methodNamed B.named
  have hlocks := B.notSynchronized
  subst hsz
  have hD := hD0.self (sz := s.heap.size)
  generalize hAe : va_A [(qg, .inr (5, [.ref qgw, .ref qgh, .ref qgt, .int br, .int jC, .int jR, .int nf, .ref qgx, .ref qgy, .ref qgz, .ref qgu, .int th])), (qgh, .inl (cI, 10, .inl fh))] s.heap.size = A at hD ⊢
  have hA : ∀ q : Nat, s.heap.size ≤ q → A q := fun q h => by rw [← hAe]; exact Or.inr h
  have hS : va_S A s.heap s.heap [] := va_S.rf
  have hl := lv_entry ([.ref qg, .int lat]) (n := 2) (Nat.le_of_ble_eq_true rfl)
  rw [lg_entry_eq]
  generalize (lg_sl ([.ref qg, .int lat]) ++ List.replicate (2 - (lg_sl ([.ref qg, .int lat])).length) Slot.unset).toArray = ls at hl ⊢
  have hl : lv_has ls 2 [(0, .ref qg), (1, .int lat)] := hl
  have hP : va_P D vwCl [(qg, .inr (5, [.ref qgw, .ref qgh, .ref qgt, .int br, .int jC, .int jR, .int nf, .ref qgx, .ref qgy, .ref qgz, .ref qgu, .int th])), (qgh, .inl (cI, 10, .inl fh))] s.heap := hP
  have hP := hP
  refine lv_aload_n hx hb dX5_y_0 rfl (lv_at hl 0 rfl) ?_
  refine lv_iload_n hx hb dX5_y_1 rfl (lv_at hl 1 rfl) ?_
  refine va_calli (va_runS (As := [.int lat]) (rest := [.ref qg]) ⟨hx, hb, hml, hown, hts⟩ (c_X5_isLatitude l D cI cZ cJ cD lat ) (va_cwS 1 hts gX5_y_X5_isLatitude rfl rfl rfl (by decide +kernel) ⟨Nat.le_of_ble_eq_true rfl, Nat.le_of_ble_eq_true rfl⟩) ⟨zblind, (fun U hU hW => ⟨rfl, by rw [hU]; exact hP.sub (ws' := []) [] rfl, va_K.moved hW.alike hK⟩)⟩ rfl rfl hl.1 rfl (lv_room (Nat.le_of_ble_eq_true rfl)) dX5_y_2 ⟨Nat.le_of_ble_eq_true rfl, Nat.le_of_ble_eq_true rfl⟩) hS (fun q _ h => h.elim) (fun q h => h.elim) (fun r7 u t H locs ht hvm hw hB hz1 hk1 hS => ?_)
  rw [hw]
  have hP := zk hP hk1
  have hPc := hP.sub (ws' := [(qg, .inr (5, [.ref qgw, .ref qgh, .ref qgt, .int br, .int jC, .int jR, .int nf, .ref qgx, .ref qgy, .ref qgz, .ref qgu, .int th]))]) [0] rfl
  have hDc := hD.sub (ws' := [(qg, .inr (5, [.ref qgw, .ref qgh, .ref qgt, .int br, .int jC, .int jR, .int nf, .ref qgx, .ref qgy, .ref qgz, .ref qgu, .int th]))]) [0] (by decide) rfl
  have hFc := va_free (wc := [(qg, .inr (5, [.ref qgw, .ref qgh, .ref qgt, .int br, .int jC, .int jR, .int nf, .ref qgx, .ref qgy, .ref qgz, .ref qgu, .int th]))]) hD hS hA [0] rfl
  refine va_calli (va_runV (As := [.int (s_X5_isLatitude lat)]) (rest := []) ⟨hx, hb, hml, hown, hts⟩ (c_X5_may l D cI cZ cJ cD qg qgw qgh qgt br jC jR nf qgx qgy qgz qgu th (s_X5_isLatitude lat) H.size (by unfold s_X5_isLatitude; (repeat' split) <;> simp)) (cwV 1 hts gX5_y_X5_may rfl rfl rfl (by decide +kernel) ⟨Nat.le_of_ble_eq_true rfl, Nat.le_of_ble_eq_true rfl⟩) ⟨zblindW, va_recv hK hP (ci := 5) (q0 := 0) rfl rfl, (fun U hU hW => ⟨rfl, by rw [hU], by rw [hU]; exact hPc, va_K.moved hW.alike hK, hDc.weaken (fun _ _ _ _ => trivial)⟩)⟩ rfl rfl hl.1 rfl (lv_room (Nat.le_of_ble_eq_true rfl)) dX5_y_5 ⟨Nat.le_of_ble_eq_true rfl, Nat.le_of_ble_eq_true rfl⟩) hS (fun q _ h => hFc q h) hFc (fun r8 u t H locs ht hvm hw hB hz1 hk1 hS => ?_)
  rw [hw]
  obtain ⟨hP1, hK1, hD1⟩ := hB
  rw [ht] at hP1
  obtain ⟨hP, hD⟩ := va_join (wr := [(qgh, .inl (cI, 10, .inl fh))]) (w1 := [(qg, .inr (5, [.ref qgw, .ref qgh, .ref qgt, .int br, .int jC, .int jR, .int nf, .ref qgx, .ref qgy, .ref qgz, .ref qgu, .int (n_X5_may_qg_11 (s_X5_isLatitude lat))]))]) hP hD [0] [1] rfl rfl (by decide) (by decide) hk1 hFc hP1 hD1
  have hP := hP.sub (ws' := [(qg, .inr (5, [.ref qgw, .ref qgh, .ref qgt, .int br, .int jC, .int jR, .int nf, .ref qgx, .ref qgy, .ref qgz, .ref qgu, .int (n_X5_may_qg_11 (s_X5_isLatitude lat))])), (qgh, .inl (cI, 10, .inl fh))]) [1, 0] rfl
  have hD := hD.sub (ws' := [(qg, .inr (5, [.ref qgw, .ref qgh, .ref qgt, .int br, .int jC, .int jR, .int nf, .ref qgx, .ref qgy, .ref qgz, .ref qgu, .int (n_X5_may_qg_11 (s_X5_isLatitude lat))])), (qgh, .inl (cI, 10, .inl fh))]) [1, 0] (by decide) rfl
  have K10 : ∀ v10_0 : Int32, v10_0 = (if (s_X5_may (s_X5_isLatitude lat)) = 0 then 0 else s_X5_high fh lat) → ∀ (H : Heap) (locs : List Loc), va_P D vwCl [(qg, .inr (5, [.ref qgw, .ref qgh, .ref qgt, .int br, .int jC, .int jR, .int nf, .ref qgx, .ref qgy, .ref qgz, .ref qgu, .int (n_X5_may_qg_11 (s_X5_isLatitude lat))])), (qgh, .inl (cI, 10, .inl fh))] H → va_D A [(qg, .inr (5, [.ref qgw, .ref qgh, .ref qgt, .int br, .int jC, .int jR, .int nf, .ref qgx, .ref qgy, .ref qgz, .ref qgu, .int (n_X5_may_qg_11 (s_X5_isLatitude lat))])), (qgh, .inl (cI, 10, .inl fh))] → va_S A s.heap H locs → ∀ (ls : Array Slot), lv_has ls 2 [(0, .ref qg), (1, .int lat)] → W p l e (headSpec wsX5_y rm_X5_y).room s m ([.ref qg, .int lat]).toArray below meth c H locs 0 0 (MQ below (Qc_X5_y D cI cZ cJ cD qg qgw qgh qgt br jC jR nf qgx qgy qgz qgu th fh lat A) ([.ref qg, .int lat]).toArray s 0 0 A) (F0 m 20 ls [.int v10_0]) := by
    intro v10_0 hv10_0 H locs hP hD hS ls hl
    subst hv10_0
    have e11 : s_X5_y fh lat = (if (s_X5_may (s_X5_isLatitude lat)) = 0 then 0 else s_X5_high fh lat) := rfl
    have e12 : n_X5_y_qg_11 lat = n_X5_may_qg_11 (s_X5_isLatitude lat) := rfl
    exact W.iret (v := (if (s_X5_may (s_X5_isLatitude lat)) = 0 then 0 else s_X5_high fh lat)) hx hb hr (fun t ht hW => ⟨⟨_, (), rfl, e11.symm, ⟨(by rw [e12]; rw [ht]; exact hP), va_K.moved hW.alike hK, (by rw [e12]; exact hD)⟩⟩, hS.F ht⟩) hS.2.2 dX5_y_20
  refine lv_if_eq (tgt := 19) hx hb dX5_y_8 (by decide) (fun c13 => ?_) (fun c13 => ?_)
  · refine lv_iconst (v := 0) hx hb dX5_y_19 (by decide) ?_
    exact K10 _ (if_pos c13).symm _ _ hP hD hS _ (lv_sub hl [0, 1] rfl)
  · refine lv_aload_n hx hb dX5_y_11 rfl (lv_at hl 0 rfl) ?_
    refine lv_iload_n hx hb dX5_y_12 rfl (lv_at hl 1 rfl) ?_
    refine va_calli (va_runV (As := [.int lat]) (rest := []) ⟨hx, hb, hml, hown, hts⟩ (c_X5_high l D cI cZ cJ cD qg qgw qgh qgt br jC jR nf qgx qgy qgz qgu (n_X5_may_qg_11 (s_X5_isLatitude lat)) fh lat (z_lat c13)) (cwV 1 hts gX5_y_X5_high rfl rfl rfl (by decide +kernel) ⟨Nat.le_of_ble_eq_true rfl, Nat.le_of_ble_eq_true rfl⟩) ⟨zblind, va_recv hK hP (ci := 5) (q0 := 0) rfl rfl, (fun U hU hW => ⟨rfl, by rw [hU]; exact hP.sub (ws' := [(qg, .inr (5, [.ref qgw, .ref qgh, .ref qgt, .int br, .int jC, .int jR, .int nf, .ref qgx, .ref qgy, .ref qgz, .ref qgu, .int (n_X5_may_qg_11 (s_X5_isLatitude lat))])), (qgh, .inl (cI, 10, .inl fh))]) [0, 1] rfl, va_K.moved hW.alike hK⟩)⟩ rfl rfl hl.1 rfl (lv_room (Nat.le_of_ble_eq_true rfl)) dX5_y_13 ⟨Nat.le_of_ble_eq_true rfl, Nat.le_of_ble_eq_true rfl⟩) hS (fun q _ h => h.elim) (fun q h => h.elim) (fun r14 u t H locs ht hvm hw hB hz1 hk1 hS => ?_)
    rw [hw]
    have hP := zk hP hk1
    refine lv_goto (tgt := 20) hx hb dX5_y_16 (by decide) ?_
    exact K10 _ (if_neg c13).symm _ _ hP hD hS _ (lv_sub hl [0, 1] rfl)
def s_X5_east (o1 : Int32) (o2 : Int32) : Int32 := (if o1 ≤ o2 then o2 - o1 else (o2 - o1) + 360)
abbrev rm_X5_east : Room := { frames := 0, cells := 0, slots := 0, locals := 0 }
abbrev Qc_X5_east (D : va_G) (cI cZ cJ cD : ClassId) (o1 : Int32) (o2 : Int32) : Array Value → State → Outcome → State → Prop := va_Qi (fun (r : Int32) (_ : Unit) => r = s_X5_east o1 o2) (fun _ _ => True) (fun _ : Nat => False)
set_option maxHeartbeats 4000000 in
set_option maxRecDepth 100000 in
theorem c_X5_east (l : Launch) (D : va_G) (cI cZ cJ cD : ClassId) (o1 : Int32) (o2 : Int32)  : Met l yX5_east wsX5_east rm_X5_east (va_Pc [.int o1, .int o2] (zPre D cI cZ cJ cD [])) (Qc_X5_east D cI cZ cJ cD o1 o2 ) 0 0 (fun _ : Nat => False) := by
  refine Met.ofW (cc := cX5_east) (maxL := 2) (ret := (some .int)) (by decide) rfl ?_
  intro p e s m args below meth c s₁ B hml hv
  obtain ⟨rfl, hP, hK⟩ := hv
  have hx := B.exec
  have hb := B.bytes
  have hr := B.returns
  have hts := atoms_spec (ws := wsX5_east) B.pre
  have hown : s.vm.findClass RX5 = some m.cls := findClass_of_methodNamed B.named
  have hlocks := B.notSynchronized
  have hS : va_S (fun _ : Nat => False) s.heap s.heap [] := va_S.rf
  have hl := lv_entry ([.int o1, .int o2]) (n := 2) (Nat.le_of_ble_eq_true rfl)
  rw [lg_entry_eq]
  generalize (lg_sl ([.int o1, .int o2]) ++ List.replicate (2 - (lg_sl ([.int o1, .int o2])).length) Slot.unset).toArray = ls at hl ⊢
  have hl : lv_has ls 2 [(0, .int o1), (1, .int o2)] := hl
  have hP : va_P D vwCl [] s.heap := hP
  have hP := hP
  refine lv_iload_n hx hb dX5_east_0 rfl (lv_at hl 1 rfl) ?_
  refine lv_iload_n hx hb dX5_east_1 rfl (lv_at hl 0 rfl) ?_
  have K5 : ∀ v5_0 : Int32, v5_0 = (if o1 ≤ o2 then o2 - o1 else (o2 - o1) + 360) → ∀ (H : Heap) (locs : List Loc), va_P D vwCl [] H → va_S (fun _ : Nat => False) s.heap H locs → ∀ (ls : Array Slot), lv_has ls 2 [(0, .int o1), (1, .int o2)] → W p l e (headSpec wsX5_east rm_X5_east).room s m ([.int o1, .int o2]).toArray below meth c H locs 0 0 (MQ below (Qc_X5_east D cI cZ cJ cD o1 o2) ([.int o1, .int o2]).toArray s 0 0 (fun _ : Nat => False)) (F0 m 18 ls [.int v5_0]) := by
    intro v5_0 hv5_0 H locs hP hS ls hl
    subst hv5_0
    have e6 : s_X5_east o1 o2 = (if o1 ≤ o2 then o2 - o1 else (o2 - o1) + 360) := rfl
    exact W.iret (v := (if o1 ≤ o2 then o2 - o1 else (o2 - o1) + 360)) hx hb hr (fun t ht hW => ⟨⟨_, (), rfl, e6.symm, trivial⟩, hS.F ht⟩) hS.2.2 dX5_east_18
  refine lv_icmp_ge (tgt := 15) hx hb dX5_east_2 (by decide) (fun c7 => ?_) (fun c7 => ?_)
  · refine lv_iload_n hx hb dX5_east_15 rfl (lv_at hl 1 rfl) ?_
    refine lv_iload_n hx hb dX5_east_16 rfl (lv_at hl 0 rfl) ?_
    refine lv_isub hx hb dX5_east_17 ?_
    exact K5 _ (if_pos c7).symm _ _ hP hS _ (lv_sub hl [0, 1] rfl)
  · refine lv_iload_n hx hb dX5_east_5 rfl (lv_at hl 1 rfl) ?_
    refine lv_iload_n hx hb dX5_east_6 rfl (lv_at hl 0 rfl) ?_
    refine lv_isub hx hb dX5_east_7 ?_
    refine lv_sipush (v := 360) hx hb dX5_east_8 (by decide) ?_
    refine lv_iadd hx hb dX5_east_11 ?_
    refine lv_goto (tgt := 18) hx hb dX5_east_12 (by decide) ?_
    exact K5 _ (if_neg c7).symm _ _ hP hS _ (lv_sub hl [0, 1] rfl)
def s_X5_shorter (o1 : Int32) (o2 : Int32) : Int32 := (if 180 < (s_X5_east o1 o2) then 360 - (s_X5_east o1 o2) else s_X5_east o1 o2)
abbrev rm_X5_shorter : Room := { frames := 1, cells := 0, slots := 0, locals := 21 }
abbrev Qc_X5_shorter (D : va_G) (cI cZ cJ cD : ClassId) (o1 : Int32) (o2 : Int32) : Array Value → State → Outcome → State → Prop := va_Qi (fun (r : Int32) (_ : Unit) => r = s_X5_shorter o1 o2) (fun _ _ => True) (fun _ : Nat => False)
set_option maxHeartbeats 4000000 in
set_option maxRecDepth 100000 in
theorem c_X5_shorter (l : Launch) (D : va_G) (cI cZ cJ cD : ClassId) (o1 : Int32) (o2 : Int32)  : Met l yX5_shorter wsX5_shorter rm_X5_shorter (va_Pc [.int o1, .int o2] (zPre D cI cZ cJ cD [])) (Qc_X5_shorter D cI cZ cJ cD o1 o2 ) 0 0 (fun _ : Nat => False) := by
  refine Met.ofW (cc := cX5_shorter) (maxL := 3) (ret := (some .int)) (by decide) rfl ?_
  intro p e s m args below meth c s₁ B hml hv
  obtain ⟨rfl, hP, hK⟩ := hv
  have hx := B.exec
  have hb := B.bytes
  have hr := B.returns
  have hts := atoms_spec (ws := wsX5_shorter) B.pre
  have hown : s.vm.findClass RX5 = some m.cls := findClass_of_methodNamed B.named
  have hlocks := B.notSynchronized
  have hS : va_S (fun _ : Nat => False) s.heap s.heap [] := va_S.rf
  have hl := lv_entry ([.int o1, .int o2]) (n := 3) (Nat.le_of_ble_eq_true rfl)
  rw [lg_entry_eq]
  generalize (lg_sl ([.int o1, .int o2]) ++ List.replicate (3 - (lg_sl ([.int o1, .int o2])).length) Slot.unset).toArray = ls at hl ⊢
  have hl : lv_has ls 3 [(0, .int o1), (1, .int o2)] := hl
  have hP : va_P D vwCl [] s.heap := hP
  have hP := hP
  refine lv_iload_n hx hb dX5_shorter_0 rfl (lv_at hl 0 rfl) ?_
  refine lv_iload_n hx hb dX5_shorter_1 rfl (lv_at hl 1 rfl) ?_
  refine va_calli (va_runS (As := [.int o1, .int o2]) (rest := []) ⟨hx, hb, hml, hown, hts⟩ (c_X5_east l D cI cZ cJ cD o1 o2 ) (va_cwS 2 hts gX5_shorter_X5_east rfl rfl rfl (by decide +kernel) ⟨Nat.le_of_ble_eq_true rfl, Nat.le_of_ble_eq_true rfl⟩) ⟨zblind, (fun U hU hW => ⟨rfl, by rw [hU]; exact hP.sub (ws' := []) [] rfl, va_K.moved hW.alike hK⟩)⟩ rfl rfl hl.1 rfl (lv_room (Nat.le_of_ble_eq_true rfl)) dX5_shorter_2 ⟨Nat.le_of_ble_eq_true rfl, Nat.le_of_ble_eq_true rfl⟩) hS (fun q _ h => h.elim) (fun q h => h.elim) (fun r5 u t H locs ht hvm hw hB hz1 hk1 hS => ?_)
  rw [hw]
  have hP := zk hP hk1
  refine lv_istore_n (lv' := [(2, .int (s_X5_east o1 o2)), (0, .int o1), (1, .int o2)]) hx hb dX5_shorter_5 rfl hl (by decide) rfl (fun ls hl => ?_)
  refine lv_iload_n hx hb dX5_shorter_6 rfl (lv_at hl 0 rfl) ?_
  refine lv_sipush (v := 180) hx hb dX5_shorter_7 (by decide) ?_
  have K7 : ∀ v7_0 : Int32, v7_0 = (if 180 < (s_X5_east o1 o2) then 360 - (s_X5_east o1 o2) else s_X5_east o1 o2) → ∀ (H : Heap) (locs : List Loc), va_P D vwCl [] H → va_S (fun _ : Nat => False) s.heap H locs → ∀ (ls : Array Slot), lv_has ls 3 [(2, .int (s_X5_east o1 o2)), (0, .int o1), (1, .int o2)] → W p l e (headSpec wsX5_shorter rm_X5_shorter).room s m ([.int o1, .int o2]).toArray below meth c H locs 0 0 (MQ below (Qc_X5_shorter D cI cZ cJ cD o1 o2) ([.int o1, .int o2]).toArray s 0 0 (fun _ : Nat => False)) (F0 m 22 ls [.int v7_0]) := by
    intro v7_0 hv7_0 H locs hP hS ls hl
    subst hv7_0
    have e8 : s_X5_shorter o1 o2 = (if 180 < (s_X5_east o1 o2) then 360 - (s_X5_east o1 o2) else s_X5_east o1 o2) := rfl
    exact W.iret (v := (if 180 < (s_X5_east o1 o2) then 360 - (s_X5_east o1 o2) else s_X5_east o1 o2)) hx hb hr (fun t ht hW => ⟨⟨_, (), rfl, e8.symm, trivial⟩, hS.F ht⟩) hS.2.2 dX5_shorter_22
  refine lv_icmp_gt (tgt := 17) hx hb dX5_shorter_10 (by decide) (fun c9 => ?_) (fun c9 => ?_)
  · refine lv_sipush (v := 360) hx hb dX5_shorter_17 (by decide) ?_
    refine lv_iload_n hx hb dX5_shorter_20 rfl (lv_at hl 0 rfl) ?_
    refine lv_isub hx hb dX5_shorter_21 ?_
    exact K7 _ (if_pos c9).symm _ _ hP hS _ (lv_sub hl [0, 1, 2] rfl)
  · refine lv_iload_n hx hb dX5_shorter_13 rfl (lv_at hl 0 rfl) ?_
    refine lv_goto (tgt := 22) hx hb dX5_shorter_14 (by decide) ?_
    exact K7 _ (if_neg c9).symm _ _ hP hS _ (lv_sub hl [0, 1, 2] rfl)
def s_X5_apart (o1 : Int32) (o2 : Int32) : Int32 := (if (s_X5_may (if (s_X5_isLongitude o1) = 0 then 0 else (if (s_X5_isLongitude o2) = 0 then 0 else 1))) = 0 then 0 else s_X5_shorter o1 o2)
def n_X5_apart_qg_11 (o1 : Int32) (o2 : Int32) : Int32 := n_X5_may_qg_11 (if (s_X5_isLongitude o1) = 0 then 0 else (if (s_X5_isLongitude o2) = 0 then 0 else 1))
abbrev rm_X5_apart : Room := { frames := 2, cells := 0, slots := 0, locals := 43 }
abbrev Qc_X5_apart (D : va_G) (cI cZ cJ cD : ClassId) (qg : Nat) (qgw : Nat) (qgh : Nat) (qgt : Nat) (br : Int32) (jC : Int32) (jR : Int32) (nf : Int32) (qgx : Nat) (qgy : Nat) (qgz : Nat) (qgu : Nat) (th : Int32) (o1 : Int32) (o2 : Int32) (A : Nat → Prop) : Array Value → State → Outcome → State → Prop := va_Qi (fun (r : Int32) (_ : Unit) => r = s_X5_apart o1 o2) (zPost D cI cZ cJ cD A [(qg, .inr (5, [.ref qgw, .ref qgh, .ref qgt, .int br, .int jC, .int jR, .int nf, .ref qgx, .ref qgy, .ref qgz, .ref qgu, .int (n_X5_apart_qg_11 o1 o2)]))]) A
set_option maxHeartbeats 4000000 in
set_option maxRecDepth 100000 in
theorem c_X5_apart (l : Launch) (D : va_G) (cI cZ cJ cD : ClassId) (qg : Nat) (qgw : Nat) (qgh : Nat) (qgt : Nat) (br : Int32) (jC : Int32) (jR : Int32) (nf : Int32) (qgx : Nat) (qgy : Nat) (qgz : Nat) (qgu : Nat) (th : Int32) (o1 : Int32) (o2 : Int32) (sz : Nat)  : Met l yX5_apart wsX5_apart rm_X5_apart (va_Pc [.ref qg, .int o1, .int o2] (zPreW D cI cZ cJ cD [(qg, .inr (5, [.ref qgw, .ref qgh, .ref qgt, .int br, .int jC, .int jR, .int nf, .ref qgx, .ref qgy, .ref qgz, .ref qgu, .int th]))] sz)) (Qc_X5_apart D cI cZ cJ cD qg qgw qgh qgt br jC jR nf qgx qgy qgz qgu th o1 o2 (va_A [(qg, .inr (5, [.ref qgw, .ref qgh, .ref qgt, .int br, .int jC, .int jR, .int nf, .ref qgx, .ref qgy, .ref qgz, .ref qgu, .int th]))] sz)) 0 0 (va_A [(qg, .inr (5, [.ref qgw, .ref qgh, .ref qgt, .int br, .int jC, .int jR, .int nf, .ref qgx, .ref qgy, .ref qgz, .ref qgu, .int th]))] sz) := by
  refine Met.ofW (cc := cX5_apart) (maxL := 3) (ret := (some .int)) (by decide) rfl ?_
  intro p e s m args below meth c s₁ B hml hv
  obtain ⟨rfl, hsz, hP, hK, hD0⟩ := hv
  have hx := B.exec
  have hb := B.bytes
  have hr := B.returns
  have hts := atoms_spec (ws := wsX5_apart) B.pre
  have hown : s.vm.findClass RX5 = some m.cls := findClass_of_methodNamed B.named
  have hlocks := B.notSynchronized
  subst hsz
  have hD := hD0.self (sz := s.heap.size)
  generalize hAe : va_A [(qg, .inr (5, [.ref qgw, .ref qgh, .ref qgt, .int br, .int jC, .int jR, .int nf, .ref qgx, .ref qgy, .ref qgz, .ref qgu, .int th]))] s.heap.size = A at hD ⊢
  have hA : ∀ q : Nat, s.heap.size ≤ q → A q := fun q h => by rw [← hAe]; exact Or.inr h
  have hS : va_S A s.heap s.heap [] := va_S.rf
  have hl := lv_entry ([.ref qg, .int o1, .int o2]) (n := 3) (Nat.le_of_ble_eq_true rfl)
  rw [lg_entry_eq]
  generalize (lg_sl ([.ref qg, .int o1, .int o2]) ++ List.replicate (3 - (lg_sl ([.ref qg, .int o1, .int o2])).length) Slot.unset).toArray = ls at hl ⊢
  have hl : lv_has ls 3 [(0, .ref qg), (1, .int o1), (2, .int o2)] := hl
  have hP : va_P D vwCl [(qg, .inr (5, [.ref qgw, .ref qgh, .ref qgt, .int br, .int jC, .int jR, .int nf, .ref qgx, .ref qgy, .ref qgz, .ref qgu, .int th]))] s.heap := hP
  have hP := hP
  refine lv_aload_n hx hb dX5_apart_0 rfl (lv_at hl 0 rfl) ?_
  refine lv_iload_n hx hb dX5_apart_1 rfl (lv_at hl 1 rfl) ?_
  refine va_calli (va_runS (As := [.int o1]) (rest := [.ref qg]) ⟨hx, hb, hml, hown, hts⟩ (c_X5_isLongitude l D cI cZ cJ cD o1 ) (va_cwS 1 hts gX5_apart_X5_isLongitude rfl rfl rfl (by decide +kernel) ⟨Nat.le_of_ble_eq_true rfl, Nat.le_of_ble_eq_true rfl⟩) ⟨zblind, (fun U hU hW => ⟨rfl, by rw [hU]; exact hP.sub (ws' := []) [] rfl, va_K.moved hW.alike hK⟩)⟩ rfl rfl hl.1 rfl (lv_room (Nat.le_of_ble_eq_true rfl)) dX5_apart_2 ⟨Nat.le_of_ble_eq_true rfl, Nat.le_of_ble_eq_true rfl⟩) hS (fun q _ h => h.elim) (fun q h => h.elim) (fun r12 u t H locs ht hvm hw hB hz1 hk1 hS => ?_)
  rw [hw]
  have hP := zk hP hk1
  have K14 : ∀ v14_0 : Int32, v14_0 = (if (s_X5_isLongitude o1) = 0 then 0 else (if (s_X5_isLongitude o2) = 0 then 0 else 1)) → ∀ (H : Heap) (locs : List Loc), va_P D vwCl [(qg, .inr (5, [.ref qgw, .ref qgh, .ref qgt, .int br, .int jC, .int jR, .int nf, .ref qgx, .ref qgy, .ref qgz, .ref qgu, .int th]))] H → va_D A [(qg, .inr (5, [.ref qgw, .ref qgh, .ref qgt, .int br, .int jC, .int jR, .int nf, .ref qgx, .ref qgy, .ref qgz, .ref qgu, .int th]))] → va_S A s.heap H locs → ∀ (ls : Array Slot), lv_has ls 3 [(0, .ref qg), (1, .int o1), (2, .int o2)] → W p l e (headSpec wsX5_apart rm_X5_apart).room s m ([.ref qg, .int o1, .int o2]).toArray below meth c H locs 0 0 (MQ below (Qc_X5_apart D cI cZ cJ cD qg qgw qgh qgt br jC jR nf qgx qgy qgz qgu th o1 o2 A) ([.ref qg, .int o1, .int o2]).toArray s 0 0 A) (F0 m 20 ls [.int v14_0, .ref qg]) := by
    intro v14_0 hv14_0 H locs hP hD hS ls hl
    subst hv14_0
    have hPc := hP.sub (ws' := [(qg, .inr (5, [.ref qgw, .ref qgh, .ref qgt, .int br, .int jC, .int jR, .int nf, .ref qgx, .ref qgy, .ref qgz, .ref qgu, .int th]))]) [0] rfl
    have hDc := hD.sub (ws' := [(qg, .inr (5, [.ref qgw, .ref qgh, .ref qgt, .int br, .int jC, .int jR, .int nf, .ref qgx, .ref qgy, .ref qgz, .ref qgu, .int th]))]) [0] (by decide) rfl
    have hFc := va_free (wc := [(qg, .inr (5, [.ref qgw, .ref qgh, .ref qgt, .int br, .int jC, .int jR, .int nf, .ref qgx, .ref qgy, .ref qgz, .ref qgu, .int th]))]) hD hS hA [0] rfl
    refine va_calli (va_runV (As := [.int (if (s_X5_isLongitude o1) = 0 then 0 else (if (s_X5_isLongitude o2) = 0 then 0 else 1))]) (rest := []) ⟨hx, hb, hml, hown, hts⟩ (c_X5_may l D cI cZ cJ cD qg qgw qgh qgt br jC jR nf qgx qgy qgz qgu th (if (s_X5_isLongitude o1) = 0 then 0 else (if (s_X5_isLongitude o2) = 0 then 0 else 1)) H.size (by (repeat' split) <;> simp)) (cwV 1 hts gX5_apart_X5_may rfl rfl rfl (by decide +kernel) ⟨Nat.le_of_ble_eq_true rfl, Nat.le_of_ble_eq_true rfl⟩) ⟨zblindW, va_recv hK hP (ci := 5) (q0 := 0) rfl rfl, (fun U hU hW => ⟨rfl, by rw [hU], by rw [hU]; exact hPc, va_K.moved hW.alike hK, hDc.weaken (fun _ _ _ _ => trivial)⟩)⟩ rfl rfl hl.1 rfl (lv_room (Nat.le_of_ble_eq_true rfl)) dX5_apart_20 ⟨Nat.le_of_ble_eq_true rfl, Nat.le_of_ble_eq_true rfl⟩) hS (fun q _ h => hFc q h) hFc (fun r15 u t H locs ht hvm hw hB hz1 hk1 hS => ?_)
    rw [hw]
    obtain ⟨hP1, hK1, hD1⟩ := hB
    rw [ht] at hP1
    obtain ⟨hP, hD⟩ := va_join (wr := []) (w1 := [(qg, .inr (5, [.ref qgw, .ref qgh, .ref qgt, .int br, .int jC, .int jR, .int nf, .ref qgx, .ref qgy, .ref qgz, .ref qgu, .int (n_X5_may_qg_11 (if (s_X5_isLongitude o1) = 0 then 0 else (if (s_X5_isLongitude o2) = 0 then 0 else 1)))]))]) hP hD [0] [] rfl rfl (by decide) (by decide) hk1 hFc hP1 hD1
    have hP := hP.sub (ws' := [(qg, .inr (5, [.ref qgw, .ref qgh, .ref qgt, .int br, .int jC, .int jR, .int nf, .ref qgx, .ref qgy, .ref qgz, .ref qgu, .int (n_X5_may_qg_11 (if (s_X5_isLongitude o1) = 0 then 0 else (if (s_X5_isLongitude o2) = 0 then 0 else 1)))]))]) [0] rfl
    have hD := hD.sub (ws' := [(qg, .inr (5, [.ref qgw, .ref qgh, .ref qgt, .int br, .int jC, .int jR, .int nf, .ref qgx, .ref qgy, .ref qgz, .ref qgu, .int (n_X5_may_qg_11 (if (s_X5_isLongitude o1) = 0 then 0 else (if (s_X5_isLongitude o2) = 0 then 0 else 1)))]))]) [0] (by decide) rfl
    have K17 : ∀ v17_0 : Int32, v17_0 = (if (s_X5_may (if (s_X5_isLongitude o1) = 0 then 0 else (if (s_X5_isLongitude o2) = 0 then 0 else 1))) = 0 then 0 else s_X5_shorter o1 o2) → ∀ (H : Heap) (locs : List Loc), va_P D vwCl [(qg, .inr (5, [.ref qgw, .ref qgh, .ref qgt, .int br, .int jC, .int jR, .int nf, .ref qgx, .ref qgy, .ref qgz, .ref qgu, .int (n_X5_may_qg_11 (if (s_X5_isLongitude o1) = 0 then 0 else (if (s_X5_isLongitude o2) = 0 then 0 else 1)))]))] H → va_D A [(qg, .inr (5, [.ref qgw, .ref qgh, .ref qgt, .int br, .int jC, .int jR, .int nf, .ref qgx, .ref qgy, .ref qgz, .ref qgu, .int (n_X5_may_qg_11 (if (s_X5_isLongitude o1) = 0 then 0 else (if (s_X5_isLongitude o2) = 0 then 0 else 1)))]))] → va_S A s.heap H locs → ∀ (ls : Array Slot), lv_has ls 3 [(0, .ref qg), (1, .int o1), (2, .int o2)] → W p l e (headSpec wsX5_apart rm_X5_apart).room s m ([.ref qg, .int o1, .int o2]).toArray below meth c H locs 0 0 (MQ below (Qc_X5_apart D cI cZ cJ cD qg qgw qgh qgt br jC jR nf qgx qgy qgz qgu th o1 o2 A) ([.ref qg, .int o1, .int o2]).toArray s 0 0 A) (F0 m 35 ls [.int v17_0]) := by
      intro v17_0 hv17_0 H locs hP hD hS ls hl
      subst hv17_0
      have e18 : s_X5_apart o1 o2 = (if (s_X5_may (if (s_X5_isLongitude o1) = 0 then 0 else (if (s_X5_isLongitude o2) = 0 then 0 else 1))) = 0 then 0 else s_X5_shorter o1 o2) := rfl
      have e19 : n_X5_apart_qg_11 o1 o2 = n_X5_may_qg_11 (if (s_X5_isLongitude o1) = 0 then 0 else (if (s_X5_isLongitude o2) = 0 then 0 else 1)) := rfl
      exact W.iret (v := (if (s_X5_may (if (s_X5_isLongitude o1) = 0 then 0 else (if (s_X5_isLongitude o2) = 0 then 0 else 1))) = 0 then 0 else s_X5_shorter o1 o2)) hx hb hr (fun t ht hW => ⟨⟨_, (), rfl, e18.symm, ⟨(by rw [e19]; rw [ht]; exact hP), va_K.moved hW.alike hK, (by rw [e19]; exact hD)⟩⟩, hS.F ht⟩) hS.2.2 dX5_apart_35
    refine lv_if_eq (tgt := 34) hx hb dX5_apart_23 (by decide) (fun c20 => ?_) (fun c20 => ?_)
    · refine lv_iconst (v := 0) hx hb dX5_apart_34 (by decide) ?_
      exact K17 _ (if_pos c20).symm _ _ hP hD hS _ (lv_sub hl [0, 1, 2] rfl)
    · refine lv_iload_n hx hb dX5_apart_26 rfl (lv_at hl 1 rfl) ?_
      refine lv_iload_n hx hb dX5_apart_27 rfl (lv_at hl 2 rfl) ?_
      refine va_calli (va_runS (As := [.int o1, .int o2]) (rest := []) ⟨hx, hb, hml, hown, hts⟩ (c_X5_shorter l D cI cZ cJ cD o1 o2 ) (va_cwS 2 hts gX5_apart_X5_shorter rfl rfl rfl (by decide +kernel) ⟨Nat.le_of_ble_eq_true rfl, Nat.le_of_ble_eq_true rfl⟩) ⟨zblind, (fun U hU hW => ⟨rfl, by rw [hU]; exact hP.sub (ws' := []) [] rfl, va_K.moved hW.alike hK⟩)⟩ rfl rfl hl.1 rfl (lv_room (Nat.le_of_ble_eq_true rfl)) dX5_apart_28 ⟨Nat.le_of_ble_eq_true rfl, Nat.le_of_ble_eq_true rfl⟩) hS (fun q _ h => h.elim) (fun q h => h.elim) (fun r21 u t H locs ht hvm hw hB hz1 hk1 hS => ?_)
      rw [hw]
      have hP := zk hP hk1
      refine lv_goto (tgt := 35) hx hb dX5_apart_31 (by decide) ?_
      exact K17 _ (if_neg c20).symm _ _ hP hD hS _ (lv_sub hl [0, 1, 2] rfl)
  refine lv_if_eq (tgt := 19) hx hb dX5_apart_5 (by decide) (fun c22 => ?_) (fun c22 => ?_)
  · refine lv_iconst (v := 0) hx hb dX5_apart_19 (by decide) ?_
    exact K14 _ (if_pos c22).symm _ _ hP hD hS _ (lv_sub hl [0, 1, 2] rfl)
  · refine lv_iload_n hx hb dX5_apart_8 rfl (lv_at hl 2 rfl) ?_
    refine va_calli (va_runS (As := [.int o2]) (rest := [.ref qg]) ⟨hx, hb, hml, hown, hts⟩ (c_X5_isLongitude l D cI cZ cJ cD o2 ) (va_cwS 1 hts gX5_apart_X5_isLongitude rfl rfl rfl (by decide +kernel) ⟨Nat.le_of_ble_eq_true rfl, Nat.le_of_ble_eq_true rfl⟩) ⟨zblind, (fun U hU hW => ⟨rfl, by rw [hU]; exact hP.sub (ws' := []) [] rfl, va_K.moved hW.alike hK⟩)⟩ rfl rfl hl.1 rfl (lv_room (Nat.le_of_ble_eq_true rfl)) dX5_apart_9 ⟨Nat.le_of_ble_eq_true rfl, Nat.le_of_ble_eq_true rfl⟩) hS (fun q _ h => h.elim) (fun q h => h.elim) (fun r23 u t H locs ht hvm hw hB hz1 hk1 hS => ?_)
    rw [hw]
    have hP := zk hP hk1
    refine lv_if_eq (tgt := 19) hx hb dX5_apart_12 (by decide) (fun c24 => ?_) (fun c24 => ?_)
    · refine lv_iconst (v := 0) hx hb dX5_apart_19 (by decide) ?_
      exact K14 _ ((if_neg c22).trans (if_pos c24)).symm _ _ hP hD hS _ (lv_sub hl [0, 1, 2] rfl)
    · refine lv_iconst (v := 1) hx hb dX5_apart_15 (by decide) ?_
      refine lv_goto (tgt := 20) hx hb dX5_apart_16 (by decide) ?_
      exact K14 _ ((if_neg c22).trans (if_neg c24)).symm _ _ hP hD hS _ (lv_sub hl [0, 1, 2] rfl)
def s_X5_ringWay (fw : Nat → Int32) (lat : Int32) (o1 : Int32) (o2 : Int32) : Int32 := (if (s_X5_may (if (s_X5_isLatitude lat) = 0 then 0 else (if (s_X5_isLongitude o1) = 0 then 0 else (if (s_X5_isLongitude o2) = 0 then 0 else 1)))) = 0 then 0 else (s_X5_shorter o1 o2) * (s_X5_wide fw lat))
def n_X5_ringWay_qg_11 (lat : Int32) (o1 : Int32) (o2 : Int32) : Int32 := n_X5_may_qg_11 (if (s_X5_isLatitude lat) = 0 then 0 else (if (s_X5_isLongitude o1) = 0 then 0 else (if (s_X5_isLongitude o2) = 0 then 0 else 1)))
abbrev rm_X5_ringWay : Room := { frames := 2, cells := 0, slots := 0, locals := 43 }
abbrev Qc_X5_ringWay (D : va_G) (cI cZ cJ cD : ClassId) (qg : Nat) (qgw : Nat) (qgh : Nat) (qgt : Nat) (br : Int32) (jC : Int32) (jR : Int32) (nf : Int32) (qgx : Nat) (qgy : Nat) (qgz : Nat) (qgu : Nat) (th : Int32) (fw : Nat → Int32) (lat : Int32) (o1 : Int32) (o2 : Int32) (A : Nat → Prop) : Array Value → State → Outcome → State → Prop := va_Qi (fun (r : Int32) (_ : Unit) => r = s_X5_ringWay fw lat o1 o2) (zPost D cI cZ cJ cD A [(qg, .inr (5, [.ref qgw, .ref qgh, .ref qgt, .int br, .int jC, .int jR, .int nf, .ref qgx, .ref qgy, .ref qgz, .ref qgu, .int (n_X5_ringWay_qg_11 lat o1 o2)])), (qgw, .inl (cI, 10, .inl fw))]) A
set_option maxHeartbeats 4000000 in
set_option maxRecDepth 100000 in
theorem c_X5_ringWay (l : Launch) (D : va_G) (cI cZ cJ cD : ClassId) (qg : Nat) (qgw : Nat) (qgh : Nat) (qgt : Nat) (br : Int32) (jC : Int32) (jR : Int32) (nf : Int32) (qgx : Nat) (qgy : Nat) (qgz : Nat) (qgu : Nat) (th : Int32) (fw : Nat → Int32) (lat : Int32) (o1 : Int32) (o2 : Int32) (sz : Nat)  : Met l yX5_ringWay wsX5_ringWay rm_X5_ringWay (va_Pc [.ref qg, .int lat, .int o1, .int o2] (zPreW D cI cZ cJ cD [(qg, .inr (5, [.ref qgw, .ref qgh, .ref qgt, .int br, .int jC, .int jR, .int nf, .ref qgx, .ref qgy, .ref qgz, .ref qgu, .int th])), (qgw, .inl (cI, 10, .inl fw))] sz)) (Qc_X5_ringWay D cI cZ cJ cD qg qgw qgh qgt br jC jR nf qgx qgy qgz qgu th fw lat o1 o2 (va_A [(qg, .inr (5, [.ref qgw, .ref qgh, .ref qgt, .int br, .int jC, .int jR, .int nf, .ref qgx, .ref qgy, .ref qgz, .ref qgu, .int th])), (qgw, .inl (cI, 10, .inl fw))] sz)) 0 0 (va_A [(qg, .inr (5, [.ref qgw, .ref qgh, .ref qgt, .int br, .int jC, .int jR, .int nf, .ref qgx, .ref qgy, .ref qgz, .ref qgu, .int th])), (qgw, .inl (cI, 10, .inl fw))] sz) := by
  refine Met.ofW (cc := cX5_ringWay) (maxL := 4) (ret := (some .int)) (by decide) rfl ?_
  intro p e s m args below meth c s₁ B hml hv
  obtain ⟨rfl, hsz, hP, hK, hD0⟩ := hv
  have hx := B.exec
  have hb := B.bytes
  have hr := B.returns
  have hts := atoms_spec (ws := wsX5_ringWay) B.pre
  have hown : s.vm.findClass RX5 = some m.cls := findClass_of_methodNamed B.named
  have hlocks := B.notSynchronized
  subst hsz
  have hD := hD0.self (sz := s.heap.size)
  generalize hAe : va_A [(qg, .inr (5, [.ref qgw, .ref qgh, .ref qgt, .int br, .int jC, .int jR, .int nf, .ref qgx, .ref qgy, .ref qgz, .ref qgu, .int th])), (qgw, .inl (cI, 10, .inl fw))] s.heap.size = A at hD ⊢
  have hA : ∀ q : Nat, s.heap.size ≤ q → A q := fun q h => by rw [← hAe]; exact Or.inr h
  have hS : va_S A s.heap s.heap [] := va_S.rf
  have hl := lv_entry ([.ref qg, .int lat, .int o1, .int o2]) (n := 4) (Nat.le_of_ble_eq_true rfl)
  rw [lg_entry_eq]
  generalize (lg_sl ([.ref qg, .int lat, .int o1, .int o2]) ++ List.replicate (4 - (lg_sl ([.ref qg, .int lat, .int o1, .int o2])).length) Slot.unset).toArray = ls at hl ⊢
  have hl : lv_has ls 4 [(0, .ref qg), (1, .int lat), (2, .int o1), (3, .int o2)] := hl
  have hP : va_P D vwCl [(qg, .inr (5, [.ref qgw, .ref qgh, .ref qgt, .int br, .int jC, .int jR, .int nf, .ref qgx, .ref qgy, .ref qgz, .ref qgu, .int th])), (qgw, .inl (cI, 10, .inl fw))] s.heap := hP
  have hP := hP
  refine lv_aload_n hx hb dX5_ringWay_0 rfl (lv_at hl 0 rfl) ?_
  refine lv_iload_n hx hb dX5_ringWay_1 rfl (lv_at hl 1 rfl) ?_
  refine va_calli (va_runS (As := [.int lat]) (rest := [.ref qg]) ⟨hx, hb, hml, hown, hts⟩ (c_X5_isLatitude l D cI cZ cJ cD lat ) (va_cwS 1 hts gX5_ringWay_X5_isLatitude rfl rfl rfl (by decide +kernel) ⟨Nat.le_of_ble_eq_true rfl, Nat.le_of_ble_eq_true rfl⟩) ⟨zblind, (fun U hU hW => ⟨rfl, by rw [hU]; exact hP.sub (ws' := []) [] rfl, va_K.moved hW.alike hK⟩)⟩ rfl rfl hl.1 rfl (lv_room (Nat.le_of_ble_eq_true rfl)) dX5_ringWay_2 ⟨Nat.le_of_ble_eq_true rfl, Nat.le_of_ble_eq_true rfl⟩) hS (fun q _ h => h.elim) (fun q h => h.elim) (fun r15 u t H locs ht hvm hw hB hz1 hk1 hS => ?_)
  rw [hw]
  have hP := zk hP hk1
  have K17 : ∀ v17_0 : Int32, v17_0 = (if (s_X5_isLatitude lat) = 0 then 0 else (if (s_X5_isLongitude o1) = 0 then 0 else (if (s_X5_isLongitude o2) = 0 then 0 else 1))) → ∀ (H : Heap) (locs : List Loc), va_P D vwCl [(qg, .inr (5, [.ref qgw, .ref qgh, .ref qgt, .int br, .int jC, .int jR, .int nf, .ref qgx, .ref qgy, .ref qgz, .ref qgu, .int th])), (qgw, .inl (cI, 10, .inl fw))] H → va_D A [(qg, .inr (5, [.ref qgw, .ref qgh, .ref qgt, .int br, .int jC, .int jR, .int nf, .ref qgx, .ref qgy, .ref qgz, .ref qgu, .int th])), (qgw, .inl (cI, 10, .inl fw))] → va_S A s.heap H locs → ∀ (ls : Array Slot), lv_has ls 4 [(0, .ref qg), (1, .int lat), (2, .int o1), (3, .int o2)] → W p l e (headSpec wsX5_ringWay rm_X5_ringWay).room s m ([.ref qg, .int lat, .int o1, .int o2]).toArray below meth c H locs 0 0 (MQ below (Qc_X5_ringWay D cI cZ cJ cD qg qgw qgh qgt br jC jR nf qgx qgy qgz qgu th fw lat o1 o2 A) ([.ref qg, .int lat, .int o1, .int o2]).toArray s 0 0 A) (F0 m 27 ls [.int v17_0, .ref qg]) := by
    intro v17_0 hv17_0 H locs hP hD hS ls hl
    subst hv17_0
    have hPc := hP.sub (ws' := [(qg, .inr (5, [.ref qgw, .ref qgh, .ref qgt, .int br, .int jC, .int jR, .int nf, .ref qgx, .ref qgy, .ref qgz, .ref qgu, .int th]))]) [0] rfl
    have hDc := hD.sub (ws' := [(qg, .inr (5, [.ref qgw, .ref qgh, .ref qgt, .int br, .int jC, .int jR, .int nf, .ref qgx, .ref qgy, .ref qgz, .ref qgu, .int th]))]) [0] (by decide) rfl
    have hFc := va_free (wc := [(qg, .inr (5, [.ref qgw, .ref qgh, .ref qgt, .int br, .int jC, .int jR, .int nf, .ref qgx, .ref qgy, .ref qgz, .ref qgu, .int th]))]) hD hS hA [0] rfl
    refine va_calli (va_runV (As := [.int (if (s_X5_isLatitude lat) = 0 then 0 else (if (s_X5_isLongitude o1) = 0 then 0 else (if (s_X5_isLongitude o2) = 0 then 0 else 1)))]) (rest := []) ⟨hx, hb, hml, hown, hts⟩ (c_X5_may l D cI cZ cJ cD qg qgw qgh qgt br jC jR nf qgx qgy qgz qgu th (if (s_X5_isLatitude lat) = 0 then 0 else (if (s_X5_isLongitude o1) = 0 then 0 else (if (s_X5_isLongitude o2) = 0 then 0 else 1))) H.size (by (repeat' split) <;> simp)) (cwV 1 hts gX5_ringWay_X5_may rfl rfl rfl (by decide +kernel) ⟨Nat.le_of_ble_eq_true rfl, Nat.le_of_ble_eq_true rfl⟩) ⟨zblindW, va_recv hK hP (ci := 5) (q0 := 0) rfl rfl, (fun U hU hW => ⟨rfl, by rw [hU], by rw [hU]; exact hPc, va_K.moved hW.alike hK, hDc.weaken (fun _ _ _ _ => trivial)⟩)⟩ rfl rfl hl.1 rfl (lv_room (Nat.le_of_ble_eq_true rfl)) dX5_ringWay_27 ⟨Nat.le_of_ble_eq_true rfl, Nat.le_of_ble_eq_true rfl⟩) hS (fun q _ h => hFc q h) hFc (fun r18 u t H locs ht hvm hw hB hz1 hk1 hS => ?_)
    rw [hw]
    obtain ⟨hP1, hK1, hD1⟩ := hB
    rw [ht] at hP1
    obtain ⟨hP, hD⟩ := va_join (wr := [(qgw, .inl (cI, 10, .inl fw))]) (w1 := [(qg, .inr (5, [.ref qgw, .ref qgh, .ref qgt, .int br, .int jC, .int jR, .int nf, .ref qgx, .ref qgy, .ref qgz, .ref qgu, .int (n_X5_may_qg_11 (if (s_X5_isLatitude lat) = 0 then 0 else (if (s_X5_isLongitude o1) = 0 then 0 else (if (s_X5_isLongitude o2) = 0 then 0 else 1))))]))]) hP hD [0] [1] rfl rfl (by decide) (by decide) hk1 hFc hP1 hD1
    have hP := hP.sub (ws' := [(qg, .inr (5, [.ref qgw, .ref qgh, .ref qgt, .int br, .int jC, .int jR, .int nf, .ref qgx, .ref qgy, .ref qgz, .ref qgu, .int (n_X5_may_qg_11 (if (s_X5_isLatitude lat) = 0 then 0 else (if (s_X5_isLongitude o1) = 0 then 0 else (if (s_X5_isLongitude o2) = 0 then 0 else 1))))])), (qgw, .inl (cI, 10, .inl fw))]) [1, 0] rfl
    have hD := hD.sub (ws' := [(qg, .inr (5, [.ref qgw, .ref qgh, .ref qgt, .int br, .int jC, .int jR, .int nf, .ref qgx, .ref qgy, .ref qgz, .ref qgu, .int (n_X5_may_qg_11 (if (s_X5_isLatitude lat) = 0 then 0 else (if (s_X5_isLongitude o1) = 0 then 0 else (if (s_X5_isLongitude o2) = 0 then 0 else 1))))])), (qgw, .inl (cI, 10, .inl fw))]) [1, 0] (by decide) rfl
    have K20 : ∀ v20_0 : Int32, v20_0 = (if (s_X5_may (if (s_X5_isLatitude lat) = 0 then 0 else (if (s_X5_isLongitude o1) = 0 then 0 else (if (s_X5_isLongitude o2) = 0 then 0 else 1)))) = 0 then 0 else (s_X5_shorter o1 o2) * (s_X5_wide fw lat)) → ∀ (H : Heap) (locs : List Loc), va_P D vwCl [(qg, .inr (5, [.ref qgw, .ref qgh, .ref qgt, .int br, .int jC, .int jR, .int nf, .ref qgx, .ref qgy, .ref qgz, .ref qgu, .int (n_X5_may_qg_11 (if (s_X5_isLatitude lat) = 0 then 0 else (if (s_X5_isLongitude o1) = 0 then 0 else (if (s_X5_isLongitude o2) = 0 then 0 else 1))))])), (qgw, .inl (cI, 10, .inl fw))] H → va_D A [(qg, .inr (5, [.ref qgw, .ref qgh, .ref qgt, .int br, .int jC, .int jR, .int nf, .ref qgx, .ref qgy, .ref qgz, .ref qgu, .int (n_X5_may_qg_11 (if (s_X5_isLatitude lat) = 0 then 0 else (if (s_X5_isLongitude o1) = 0 then 0 else (if (s_X5_isLongitude o2) = 0 then 0 else 1))))])), (qgw, .inl (cI, 10, .inl fw))] → va_S A s.heap H locs → ∀ (ls : Array Slot), lv_has ls 4 [(0, .ref qg), (1, .int lat), (2, .int o1), (3, .int o2)] → W p l e (headSpec wsX5_ringWay rm_X5_ringWay).room s m ([.ref qg, .int lat, .int o1, .int o2]).toArray below meth c H locs 0 0 (MQ below (Qc_X5_ringWay D cI cZ cJ cD qg qgw qgh qgt br jC jR nf qgx qgy qgz qgu th fw lat o1 o2 A) ([.ref qg, .int lat, .int o1, .int o2]).toArray s 0 0 A) (F0 m 48 ls [.int v20_0]) := by
      intro v20_0 hv20_0 H locs hP hD hS ls hl
      subst hv20_0
      have e21 : s_X5_ringWay fw lat o1 o2 = (if (s_X5_may (if (s_X5_isLatitude lat) = 0 then 0 else (if (s_X5_isLongitude o1) = 0 then 0 else (if (s_X5_isLongitude o2) = 0 then 0 else 1)))) = 0 then 0 else (s_X5_shorter o1 o2) * (s_X5_wide fw lat)) := rfl
      have e22 : n_X5_ringWay_qg_11 lat o1 o2 = n_X5_may_qg_11 (if (s_X5_isLatitude lat) = 0 then 0 else (if (s_X5_isLongitude o1) = 0 then 0 else (if (s_X5_isLongitude o2) = 0 then 0 else 1))) := rfl
      exact W.iret (v := (if (s_X5_may (if (s_X5_isLatitude lat) = 0 then 0 else (if (s_X5_isLongitude o1) = 0 then 0 else (if (s_X5_isLongitude o2) = 0 then 0 else 1)))) = 0 then 0 else (s_X5_shorter o1 o2) * (s_X5_wide fw lat))) hx hb hr (fun t ht hW => ⟨⟨_, (), rfl, e21.symm, ⟨(by rw [e22]; rw [ht]; exact hP), va_K.moved hW.alike hK, (by rw [e22]; exact hD)⟩⟩, hS.F ht⟩) hS.2.2 dX5_ringWay_48
    refine lv_if_eq (tgt := 47) hx hb dX5_ringWay_30 (by decide) (fun c23 => ?_) (fun c23 => ?_)
    · refine lv_iconst (v := 0) hx hb dX5_ringWay_47 (by decide) ?_
      exact K20 _ (if_pos c23).symm _ _ hP hD hS _ (lv_sub hl [0, 1, 2, 3] rfl)
    · refine lv_iload_n hx hb dX5_ringWay_33 rfl (lv_at hl 2 rfl) ?_
      refine lv_iload_n hx hb dX5_ringWay_34 rfl (lv_at hl 3 rfl) ?_
      refine va_calli (va_runS (As := [.int o1, .int o2]) (rest := []) ⟨hx, hb, hml, hown, hts⟩ (c_X5_shorter l D cI cZ cJ cD o1 o2 ) (va_cwS 2 hts gX5_ringWay_X5_shorter rfl rfl rfl (by decide +kernel) ⟨Nat.le_of_ble_eq_true rfl, Nat.le_of_ble_eq_true rfl⟩) ⟨zblind, (fun U hU hW => ⟨rfl, by rw [hU]; exact hP.sub (ws' := []) [] rfl, va_K.moved hW.alike hK⟩)⟩ rfl rfl hl.1 rfl (lv_room (Nat.le_of_ble_eq_true rfl)) dX5_ringWay_35 ⟨Nat.le_of_ble_eq_true rfl, Nat.le_of_ble_eq_true rfl⟩) hS (fun q _ h => h.elim) (fun q h => h.elim) (fun r24 u t H locs ht hvm hw hB hz1 hk1 hS => ?_)
      rw [hw]
      have hP := zk hP hk1
      refine lv_aload_n hx hb dX5_ringWay_38 rfl (lv_at hl 0 rfl) ?_
      refine lv_iload_n hx hb dX5_ringWay_39 rfl (lv_at hl 1 rfl) ?_
      refine va_calli (va_runV (As := [.int lat]) (rest := [.int (s_X5_shorter o1 o2)]) ⟨hx, hb, hml, hown, hts⟩ (c_X5_wide l D cI cZ cJ cD qg qgw qgh qgt br jC jR nf qgx qgy qgz qgu (n_X5_may_qg_11 (if (s_X5_isLatitude lat) = 0 then 0 else (if (s_X5_isLongitude o1) = 0 then 0 else (if (s_X5_isLongitude o2) = 0 then 0 else 1)))) fw lat (z_lat (z_n1 c23))) (cwV 1 hts gX5_ringWay_X5_wide rfl rfl rfl (by decide +kernel) ⟨Nat.le_of_ble_eq_true rfl, Nat.le_of_ble_eq_true rfl⟩) ⟨zblind, va_recv hK hP (ci := 5) (q0 := 0) rfl rfl, (fun U hU hW => ⟨rfl, by rw [hU]; exact hP.sub (ws' := [(qg, .inr (5, [.ref qgw, .ref qgh, .ref qgt, .int br, .int jC, .int jR, .int nf, .ref qgx, .ref qgy, .ref qgz, .ref qgu, .int (n_X5_may_qg_11 (if (s_X5_isLatitude lat) = 0 then 0 else (if (s_X5_isLongitude o1) = 0 then 0 else (if (s_X5_isLongitude o2) = 0 then 0 else 1))))])), (qgw, .inl (cI, 10, .inl fw))]) [0, 1] rfl, va_K.moved hW.alike hK⟩)⟩ rfl rfl hl.1 rfl (lv_room (Nat.le_of_ble_eq_true rfl)) dX5_ringWay_40 ⟨Nat.le_of_ble_eq_true rfl, Nat.le_of_ble_eq_true rfl⟩) hS (fun q _ h => h.elim) (fun q h => h.elim) (fun r25 u t H locs ht hvm hw hB hz1 hk1 hS => ?_)
      rw [hw]
      have hP := zk hP hk1
      refine lv_imul hx hb dX5_ringWay_43 ?_
      refine lv_goto (tgt := 48) hx hb dX5_ringWay_44 (by decide) ?_
      exact K20 _ (if_neg c23).symm _ _ hP hD hS _ (lv_sub hl [0, 1, 2, 3] rfl)
  refine lv_if_eq (tgt := 26) hx hb dX5_ringWay_5 (by decide) (fun c26 => ?_) (fun c26 => ?_)
  · refine lv_iconst (v := 0) hx hb dX5_ringWay_26 (by decide) ?_
    exact K17 _ (if_pos c26).symm _ _ hP hD hS _ (lv_sub hl [0, 1, 2, 3] rfl)
  · refine lv_iload_n hx hb dX5_ringWay_8 rfl (lv_at hl 2 rfl) ?_
    refine va_calli (va_runS (As := [.int o1]) (rest := [.ref qg]) ⟨hx, hb, hml, hown, hts⟩ (c_X5_isLongitude l D cI cZ cJ cD o1 ) (va_cwS 1 hts gX5_ringWay_X5_isLongitude rfl rfl rfl (by decide +kernel) ⟨Nat.le_of_ble_eq_true rfl, Nat.le_of_ble_eq_true rfl⟩) ⟨zblind, (fun U hU hW => ⟨rfl, by rw [hU]; exact hP.sub (ws' := []) [] rfl, va_K.moved hW.alike hK⟩)⟩ rfl rfl hl.1 rfl (lv_room (Nat.le_of_ble_eq_true rfl)) dX5_ringWay_9 ⟨Nat.le_of_ble_eq_true rfl, Nat.le_of_ble_eq_true rfl⟩) hS (fun q _ h => h.elim) (fun q h => h.elim) (fun r27 u t H locs ht hvm hw hB hz1 hk1 hS => ?_)
    rw [hw]
    have hP := zk hP hk1
    refine lv_if_eq (tgt := 26) hx hb dX5_ringWay_12 (by decide) (fun c28 => ?_) (fun c28 => ?_)
    · refine lv_iconst (v := 0) hx hb dX5_ringWay_26 (by decide) ?_
      exact K17 _ ((if_neg c26).trans (if_pos c28)).symm _ _ hP hD hS _ (lv_sub hl [0, 1, 2, 3] rfl)
    · refine lv_iload_n hx hb dX5_ringWay_15 rfl (lv_at hl 3 rfl) ?_
      refine va_calli (va_runS (As := [.int o2]) (rest := [.ref qg]) ⟨hx, hb, hml, hown, hts⟩ (c_X5_isLongitude l D cI cZ cJ cD o2 ) (va_cwS 1 hts gX5_ringWay_X5_isLongitude rfl rfl rfl (by decide +kernel) ⟨Nat.le_of_ble_eq_true rfl, Nat.le_of_ble_eq_true rfl⟩) ⟨zblind, (fun U hU hW => ⟨rfl, by rw [hU]; exact hP.sub (ws' := []) [] rfl, va_K.moved hW.alike hK⟩)⟩ rfl rfl hl.1 rfl (lv_room (Nat.le_of_ble_eq_true rfl)) dX5_ringWay_16 ⟨Nat.le_of_ble_eq_true rfl, Nat.le_of_ble_eq_true rfl⟩) hS (fun q _ h => h.elim) (fun q h => h.elim) (fun r29 u t H locs ht hvm hw hB hz1 hk1 hS => ?_)
      rw [hw]
      have hP := zk hP hk1
      refine lv_if_eq (tgt := 26) hx hb dX5_ringWay_19 (by decide) (fun c30 => ?_) (fun c30 => ?_)
      · refine lv_iconst (v := 0) hx hb dX5_ringWay_26 (by decide) ?_
        exact K17 _ ((if_neg c26).trans ((if_neg c28).trans (if_pos c30))).symm _ _ hP hD hS _ (lv_sub hl [0, 1, 2, 3] rfl)
      · refine lv_iconst (v := 1) hx hb dX5_ringWay_22 (by decide) ?_
        refine lv_goto (tgt := 27) hx hb dX5_ringWay_23 (by decide) ?_
        exact K17 _ ((if_neg c26).trans ((if_neg c28).trans (if_neg c30))).symm _ _ hP hD hS _ (lv_sub hl [0, 1, 2, 3] rfl)
def s_X5_zones (br : Int32) (nb : Int32) : Int32 := (if (s_X5_may (if nb < 1 then 0 else (if 360 < nb then 0 else (if (360 - 360 / nb * nb) = 0 then 1 else 0)))) = 0 then 0 else br)
def n_X5_zones_qg_3 (br : Int32) (nb : Int32) : Int32 := (if (s_X5_may (if nb < 1 then 0 else (if 360 < nb then 0 else (if (360 - 360 / nb * nb) = 0 then 1 else 0)))) = 0 then br else nb)
def n_X5_zones_qg_11 (nb : Int32) : Int32 := n_X5_may_qg_11 (if nb < 1 then 0 else (if 360 < nb then 0 else (if (360 - 360 / nb * nb) = 0 then 1 else 0)))
abbrev rm_X5_zones : Room := { frames := 1, cells := 0, slots := 0, locals := 21 }
abbrev Qc_X5_zones (D : va_G) (cI cZ cJ cD : ClassId) (qg : Nat) (qgw : Nat) (qgh : Nat) (qgt : Nat) (br : Int32) (jC : Int32) (jR : Int32) (nf : Int32) (qgx : Nat) (qgy : Nat) (qgz : Nat) (qgu : Nat) (th : Int32) (nb : Int32) (A : Nat → Prop) : Array Value → State → Outcome → State → Prop := va_Qi (fun (r : Int32) (_ : Unit) => r = s_X5_zones br nb) (zPost D cI cZ cJ cD A [(qg, .inr (5, [.ref qgw, .ref qgh, .ref qgt, .int (n_X5_zones_qg_3 br nb), .int jC, .int jR, .int nf, .ref qgx, .ref qgy, .ref qgz, .ref qgu, .int (n_X5_zones_qg_11 nb)]))]) A
set_option maxHeartbeats 4000000 in
set_option maxRecDepth 100000 in
theorem c_X5_zones (l : Launch) (D : va_G) (cI cZ cJ cD : ClassId) (qg : Nat) (qgw : Nat) (qgh : Nat) (qgt : Nat) (br : Int32) (jC : Int32) (jR : Int32) (nf : Int32) (qgx : Nat) (qgy : Nat) (qgz : Nat) (qgu : Nat) (th : Int32) (nb : Int32) (sz : Nat)  : Met l yX5_zones wsX5_zones rm_X5_zones (va_Pc [.ref qg, .int nb] (zPreW D cI cZ cJ cD [(qg, .inr (5, [.ref qgw, .ref qgh, .ref qgt, .int br, .int jC, .int jR, .int nf, .ref qgx, .ref qgy, .ref qgz, .ref qgu, .int th]))] sz)) (Qc_X5_zones D cI cZ cJ cD qg qgw qgh qgt br jC jR nf qgx qgy qgz qgu th nb (va_A [(qg, .inr (5, [.ref qgw, .ref qgh, .ref qgt, .int br, .int jC, .int jR, .int nf, .ref qgx, .ref qgy, .ref qgz, .ref qgu, .int th]))] sz)) 0 0 (va_A [(qg, .inr (5, [.ref qgw, .ref qgh, .ref qgt, .int br, .int jC, .int jR, .int nf, .ref qgx, .ref qgy, .ref qgz, .ref qgu, .int th]))] sz) := by
  refine Met.ofW (cc := cX5_zones) (maxL := 3) (ret := (some .int)) (by decide) rfl ?_
  intro p e s m args below meth c s₁ B hml hv
  obtain ⟨rfl, hsz, hP, hK, hD0⟩ := hv
  have hx := B.exec
  have hb := B.bytes
  have hr := B.returns
  have hts := atoms_spec (ws := wsX5_zones) B.pre
  have hown : s.vm.findClass RX5 = some m.cls := findClass_of_methodNamed B.named
  have hlocks := B.notSynchronized
  subst hsz
  have hD := hD0.self (sz := s.heap.size)
  generalize hAe : va_A [(qg, .inr (5, [.ref qgw, .ref qgh, .ref qgt, .int br, .int jC, .int jR, .int nf, .ref qgx, .ref qgy, .ref qgz, .ref qgu, .int th]))] s.heap.size = A at hD ⊢
  have hA : ∀ q : Nat, s.heap.size ≤ q → A q := fun q h => by rw [← hAe]; exact Or.inr h
  have hS : va_S A s.heap s.heap [] := va_S.rf
  have hl := lv_entry ([.ref qg, .int nb]) (n := 3) (Nat.le_of_ble_eq_true rfl)
  rw [lg_entry_eq]
  generalize (lg_sl ([.ref qg, .int nb]) ++ List.replicate (3 - (lg_sl ([.ref qg, .int nb])).length) Slot.unset).toArray = ls at hl ⊢
  have hl : lv_has ls 3 [(0, .ref qg), (1, .int nb)] := hl
  have hP : va_P D vwCl [(qg, .inr (5, [.ref qgw, .ref qgh, .ref qgt, .int br, .int jC, .int jR, .int nf, .ref qgx, .ref qgy, .ref qgz, .ref qgu, .int th]))] s.heap := hP
  have hP := hP
  refine lv_aload_n hx hb dX5_zones_0 rfl (lv_at hl 0 rfl) ?_
  refine lv_iload_n hx hb dX5_zones_1 rfl (lv_at hl 1 rfl) ?_
  refine lv_iconst (v := 1) hx hb dX5_zones_2 (by decide) ?_
  have K9 : ∀ v9_0 : Int32, v9_0 = (if nb < 1 then 0 else (if 360 < nb then 0 else (if (360 - 360 / nb * nb) = 0 then 1 else 0))) → ∀ (H : Heap) (locs : List Loc), va_P D vwCl [(qg, .inr (5, [.ref qgw, .ref qgh, .ref qgt, .int br, .int jC, .int jR, .int nf, .ref qgx, .ref qgy, .ref qgz, .ref qgu, .int th]))] H → va_D A [(qg, .inr (5, [.ref qgw, .ref qgh, .ref qgt, .int br, .int jC, .int jR, .int nf, .ref qgx, .ref qgy, .ref qgz, .ref qgu, .int th]))] → va_S A s.heap H locs → ∀ (ls : Array Slot), lv_has ls 3 [(0, .ref qg), (1, .int nb)] → W p l e (headSpec wsX5_zones rm_X5_zones).room s m ([.ref qg, .int nb]).toArray below meth c H locs 0 0 (MQ below (Qc_X5_zones D cI cZ cJ cD qg qgw qgh qgt br jC jR nf qgx qgy qgz qgu th nb A) ([.ref qg, .int nb]).toArray s 0 0 A) (F0 m 26 ls [.int v9_0, .ref qg]) := by
    intro v9_0 hv9_0 H locs hP hD hS ls hl
    subst hv9_0
    have hPc := hP.sub (ws' := [(qg, .inr (5, [.ref qgw, .ref qgh, .ref qgt, .int br, .int jC, .int jR, .int nf, .ref qgx, .ref qgy, .ref qgz, .ref qgu, .int th]))]) [0] rfl
    have hDc := hD.sub (ws' := [(qg, .inr (5, [.ref qgw, .ref qgh, .ref qgt, .int br, .int jC, .int jR, .int nf, .ref qgx, .ref qgy, .ref qgz, .ref qgu, .int th]))]) [0] (by decide) rfl
    have hFc := va_free (wc := [(qg, .inr (5, [.ref qgw, .ref qgh, .ref qgt, .int br, .int jC, .int jR, .int nf, .ref qgx, .ref qgy, .ref qgz, .ref qgu, .int th]))]) hD hS hA [0] rfl
    refine va_calli (va_runV (As := [.int (if nb < 1 then 0 else (if 360 < nb then 0 else (if (360 - 360 / nb * nb) = 0 then 1 else 0)))]) (rest := []) ⟨hx, hb, hml, hown, hts⟩ (c_X5_may l D cI cZ cJ cD qg qgw qgh qgt br jC jR nf qgx qgy qgz qgu th (if nb < 1 then 0 else (if 360 < nb then 0 else (if (360 - 360 / nb * nb) = 0 then 1 else 0))) H.size (by (repeat' split) <;> simp)) (cwV 1 hts gX5_zones_X5_may rfl rfl rfl (by decide +kernel) ⟨Nat.le_of_ble_eq_true rfl, Nat.le_of_ble_eq_true rfl⟩) ⟨zblindW, va_recv hK hP (ci := 5) (q0 := 0) rfl rfl, (fun U hU hW => ⟨rfl, by rw [hU], by rw [hU]; exact hPc, va_K.moved hW.alike hK, hDc.weaken (fun _ _ _ _ => trivial)⟩)⟩ rfl rfl hl.1 rfl (lv_room (Nat.le_of_ble_eq_true rfl)) dX5_zones_26 ⟨Nat.le_of_ble_eq_true rfl, Nat.le_of_ble_eq_true rfl⟩) hS (fun q _ h => hFc q h) hFc (fun r10 u t H locs ht hvm hw hB hz1 hk1 hS => ?_)
    rw [hw]
    obtain ⟨hP1, hK1, hD1⟩ := hB
    rw [ht] at hP1
    obtain ⟨hP, hD⟩ := va_join (wr := []) (w1 := [(qg, .inr (5, [.ref qgw, .ref qgh, .ref qgt, .int br, .int jC, .int jR, .int nf, .ref qgx, .ref qgy, .ref qgz, .ref qgu, .int (n_X5_may_qg_11 (if nb < 1 then 0 else (if 360 < nb then 0 else (if (360 - 360 / nb * nb) = 0 then 1 else 0))))]))]) hP hD [0] [] rfl rfl (by decide) (by decide) hk1 hFc hP1 hD1
    have hP := hP.sub (ws' := [(qg, .inr (5, [.ref qgw, .ref qgh, .ref qgt, .int br, .int jC, .int jR, .int nf, .ref qgx, .ref qgy, .ref qgz, .ref qgu, .int (n_X5_may_qg_11 (if nb < 1 then 0 else (if 360 < nb then 0 else (if (360 - 360 / nb * nb) = 0 then 1 else 0))))]))]) [0] rfl
    have hD := hD.sub (ws' := [(qg, .inr (5, [.ref qgw, .ref qgh, .ref qgt, .int br, .int jC, .int jR, .int nf, .ref qgx, .ref qgy, .ref qgz, .ref qgu, .int (n_X5_may_qg_11 (if nb < 1 then 0 else (if 360 < nb then 0 else (if (360 - 360 / nb * nb) = 0 then 1 else 0))))]))]) [0] (by decide) rfl
    refine lv_if_ne (tgt := 34) hx hb dX5_zones_29 (by decide) (fun c11 => ?_) (fun c11 => ?_)
    · refine lv_aload_n hx hb dX5_zones_34 rfl (lv_at hl 0 rfl) ?_
      refine va_get (D := D) (ci := 5) (v := .int br) (C := RX5) (T := TX5) (N := 12) hx hb hts (fun w h => List.mem_cons_of_mem _ (List.mem_append_right _ h)) hown hK hP 0 rfl rfl 3 (by decide) (hts (.fieldLink RX5 19 "AtlasFolderModel" "breadth" "I") (List.mem_cons_of_mem _ (List.mem_append_left _ (List.mem_of_getElem? (i := 0) rfl)))) (fun _ h9 => h9) rfl dX5_zones_35 ?_
      refine lv_istore_n (lv' := [(2, .int br), (0, .ref qg), (1, .int nb)]) hx hb dX5_zones_38 rfl hl (by decide) rfl (fun ls hl => ?_)
      refine lv_aload_n hx hb dX5_zones_39 rfl (lv_at hl 1 rfl) ?_
      refine lv_iload_n hx hb dX5_zones_40 rfl (lv_at hl 2 rfl) ?_
      refine va_put (D := D) (ci := 5) (v := .int nb) (ty := .int) (C := RX5) (T := TX5) (N := 12) hx hb hts (fun w h => List.mem_cons_of_mem _ (List.mem_append_right _ h)) tyX5 tyX5_ok nmX5 hown hK hP hD hS 0 rfl rfl 3 (by decide) (hts (.fieldLink RX5 19 "AtlasFolderModel" "breadth" "I") (List.mem_cons_of_mem _ (List.mem_append_left _ (List.mem_of_getElem? (i := 0) rfl)))) (fun _ h9 => h9) rfl (by decide +kernel) rfl rfl (Nat.le_of_ble_eq_true rfl) dX5_zones_41 (fun H locs hP hD hS => ?_)
      have hP : va_P D vwCl [(qg, .inr (5, [.ref qgw, .ref qgh, .ref qgt, .int nb, .int jC, .int jR, .int nf, .ref qgx, .ref qgy, .ref qgz, .ref qgu, .int (n_X5_may_qg_11 (if nb < 1 then 0 else (if 360 < nb then 0 else (if (360 - 360 / nb * nb) = 0 then 1 else 0))))]))] H := hP
      have hD : va_D A [(qg, .inr (5, [.ref qgw, .ref qgh, .ref qgt, .int nb, .int jC, .int jR, .int nf, .ref qgx, .ref qgy, .ref qgz, .ref qgu, .int (n_X5_may_qg_11 (if nb < 1 then 0 else (if 360 < nb then 0 else (if (360 - 360 / nb * nb) = 0 then 1 else 0))))]))] := hD
      refine lv_iload_n hx hb dX5_zones_44 rfl (lv_at hl 0 rfl) ?_
      have e12 : s_X5_zones br nb = br := by
        unfold s_X5_zones
        exact (if_neg c11)
      have e13 : n_X5_zones_qg_3 br nb = nb := by
        unfold n_X5_zones_qg_3
        exact (if_neg c11)
      have e14 : n_X5_zones_qg_11 nb = n_X5_may_qg_11 (if nb < 1 then 0 else (if 360 < nb then 0 else (if (360 - 360 / nb * nb) = 0 then 1 else 0))) := rfl
      exact W.iret (v := br) hx hb hr (fun t ht hW => ⟨⟨_, (), rfl, e12.symm, ⟨(by rw [e13, e14]; rw [ht]; exact hP), va_K.moved hW.alike hK, (by rw [e13, e14]; exact hD)⟩⟩, hS.F ht⟩) hS.2.2 dX5_zones_45
    · refine lv_iconst (v := 0) hx hb dX5_zones_32 (by decide) ?_
      have e15 : s_X5_zones br nb = 0 := by
        unfold s_X5_zones
        exact (if_pos c11)
      have e16 : n_X5_zones_qg_3 br nb = br := by
        unfold n_X5_zones_qg_3
        exact (if_pos c11)
      have e17 : n_X5_zones_qg_11 nb = n_X5_may_qg_11 (if nb < 1 then 0 else (if 360 < nb then 0 else (if (360 - 360 / nb * nb) = 0 then 1 else 0))) := rfl
      exact W.iret (v := 0) hx hb hr (fun t ht hW => ⟨⟨_, (), rfl, e15.symm, ⟨(by rw [e16, e17]; rw [ht]; exact hP), va_K.moved hW.alike hK, (by rw [e16, e17]; exact hD)⟩⟩, hS.F ht⟩) hS.2.2 dX5_zones_33
  refine lv_icmp_lt (tgt := 25) hx hb dX5_zones_3 (by decide) (fun c18 => ?_) (fun c18 => ?_)
  · refine lv_iconst (v := 0) hx hb dX5_zones_25 (by decide) ?_
    exact K9 _ (if_pos c18).symm _ _ hP hD hS _ (lv_sub hl [0, 1] rfl)
  · refine lv_iload_n hx hb dX5_zones_6 rfl (lv_at hl 1 rfl) ?_
    refine lv_sipush (v := 360) hx hb dX5_zones_7 (by decide) ?_
    refine lv_icmp_gt (tgt := 25) hx hb dX5_zones_10 (by decide) (fun c19 => ?_) (fun c19 => ?_)
    · refine lv_iconst (v := 0) hx hb dX5_zones_25 (by decide) ?_
      exact K9 _ ((if_neg c18).trans (if_pos c19)).symm _ _ hP hD hS _ (lv_sub hl [0, 1] rfl)
    · refine lv_sipush (v := 360) hx hb dX5_zones_13 (by decide) ?_
      refine lv_iload_n hx hb dX5_zones_16 rfl (lv_at hl 1 rfl) ?_
      refine lv_irem hx hb dX5_zones_17 (z_nz2 c18) ?_
      refine lv_if_ne (tgt := 25) hx hb dX5_zones_18 (by decide) (fun c20 => ?_) (fun c20 => ?_)
      · refine lv_iconst (v := 0) hx hb dX5_zones_25 (by decide) ?_
        exact K9 _ ((if_neg c18).trans ((if_neg c19).trans (if_neg c20))).symm _ _ hP hD hS _ (lv_sub hl [0, 1] rfl)
      · refine lv_iconst (v := 1) hx hb dX5_zones_21 (by decide) ?_
        refine lv_goto (tgt := 26) hx hb dX5_zones_22 (by decide) ?_
        exact K9 _ ((if_neg c18).trans ((if_neg c19).trans (if_pos c20))).symm _ _ hP hD hS _ (lv_sub hl [0, 1] rfl)
def s_X5_zoneOf (br : Int32) (lon : Int32) : Int32 := (lon + 180) / br
abbrev rm_X5_zoneOf : Room := { frames := 0, cells := 0, slots := 0, locals := 0 }
abbrev Qc_X5_zoneOf (D : va_G) (cI cZ cJ cD : ClassId) (qg : Nat) (qgw : Nat) (qgh : Nat) (qgt : Nat) (br : Int32) (jC : Int32) (jR : Int32) (nf : Int32) (qgx : Nat) (qgy : Nat) (qgz : Nat) (qgu : Nat) (th : Int32) (lon : Int32) : Array Value → State → Outcome → State → Prop := va_Qi (fun (r : Int32) (_ : Unit) => r = s_X5_zoneOf br lon) (fun _ _ => True) (fun _ : Nat => False)
set_option maxHeartbeats 4000000 in
set_option maxRecDepth 100000 in
theorem c_X5_zoneOf (l : Launch) (D : va_G) (cI cZ cJ cD : ClassId) (qg : Nat) (qgw : Nat) (qgh : Nat) (qgt : Nat) (br : Int32) (jC : Int32) (jR : Int32) (nf : Int32) (qgx : Nat) (qgy : Nat) (qgz : Nat) (qgu : Nat) (th : Int32) (lon : Int32) (hbr : ¬ br = 0) : Met l yX5_zoneOf wsX5_zoneOf rm_X5_zoneOf (va_Pc [.ref qg, .int lon] (zPre D cI cZ cJ cD [(qg, .inr (5, [.ref qgw, .ref qgh, .ref qgt, .int br, .int jC, .int jR, .int nf, .ref qgx, .ref qgy, .ref qgz, .ref qgu, .int th]))])) (Qc_X5_zoneOf D cI cZ cJ cD qg qgw qgh qgt br jC jR nf qgx qgy qgz qgu th lon ) 0 0 (fun _ : Nat => False) := by
  refine Met.ofW (cc := cX5_zoneOf) (maxL := 2) (ret := (some .int)) (by decide) rfl ?_
  intro p e s m args below meth c s₁ B hml hv
  obtain ⟨rfl, hP, hK⟩ := hv
  have hx := B.exec
  have hb := B.bytes
  have hr := B.returns
  have hts := atoms_spec (ws := wsX5_zoneOf) B.pre
  have hown : s.vm.findClass RX5 = some m.cls := findClass_of_methodNamed B.named
  have hlocks := B.notSynchronized
  have hS : va_S (fun _ : Nat => False) s.heap s.heap [] := va_S.rf
  have hl := lv_entry ([.ref qg, .int lon]) (n := 2) (Nat.le_of_ble_eq_true rfl)
  rw [lg_entry_eq]
  generalize (lg_sl ([.ref qg, .int lon]) ++ List.replicate (2 - (lg_sl ([.ref qg, .int lon])).length) Slot.unset).toArray = ls at hl ⊢
  have hl : lv_has ls 2 [(0, .ref qg), (1, .int lon)] := hl
  have hP : va_P D vwCl [(qg, .inr (5, [.ref qgw, .ref qgh, .ref qgt, .int br, .int jC, .int jR, .int nf, .ref qgx, .ref qgy, .ref qgz, .ref qgu, .int th]))] s.heap := hP
  have hP := hP
  refine lv_iload_n hx hb dX5_zoneOf_0 rfl (lv_at hl 1 rfl) ?_
  refine lv_sipush (v := 180) hx hb dX5_zoneOf_1 (by decide) ?_
  refine lv_iadd hx hb dX5_zoneOf_4 ?_
  refine lv_aload_n hx hb dX5_zoneOf_5 rfl (lv_at hl 0 rfl) ?_
  refine va_get (D := D) (ci := 5) (v := .int br) (C := RX5) (T := TX5) (N := 12) hx hb hts (fun w h => List.mem_cons_of_mem _ (List.mem_append_right _ h)) hown hK hP 0 rfl rfl 3 (by decide) (hts (.fieldLink RX5 19 "AtlasFolderModel" "breadth" "I") (List.mem_cons_of_mem _ (List.mem_append_left _ (List.mem_of_getElem? (i := 0) rfl)))) (fun _ h9 => h9) rfl dX5_zoneOf_6 ?_
  refine lv_idiv hx hb dX5_zoneOf_9 (by assumption) ?_
  have e1 : s_X5_zoneOf br lon = (lon + 180) / br := rfl
  exact W.iret (v := ((lon + 180) / br)) hx hb hr (fun t ht hW => ⟨⟨_, (), rfl, e1.symm, trivial⟩, hS.F ht⟩) hS.2.2 dX5_zoneOf_10
def s_X5_zone (br : Int32) (lon : Int32) : Int32 := (if (s_X5_may (s_X5_isLongitude lon)) = 0 then 0 else s_X5_zoneOf br lon)
def n_X5_zone_qg_11 (lon : Int32) : Int32 := n_X5_may_qg_11 (s_X5_isLongitude lon)
abbrev rm_X5_zone : Room := { frames := 1, cells := 0, slots := 0, locals := 21 }
abbrev Qc_X5_zone (D : va_G) (cI cZ cJ cD : ClassId) (qg : Nat) (qgw : Nat) (qgh : Nat) (qgt : Nat) (br : Int32) (jC : Int32) (jR : Int32) (nf : Int32) (qgx : Nat) (qgy : Nat) (qgz : Nat) (qgu : Nat) (th : Int32) (lon : Int32) (A : Nat → Prop) : Array Value → State → Outcome → State → Prop := va_Qi (fun (r : Int32) (_ : Unit) => r = s_X5_zone br lon) (zPost D cI cZ cJ cD A [(qg, .inr (5, [.ref qgw, .ref qgh, .ref qgt, .int br, .int jC, .int jR, .int nf, .ref qgx, .ref qgy, .ref qgz, .ref qgu, .int (n_X5_zone_qg_11 lon)]))]) A
set_option maxHeartbeats 4000000 in
set_option maxRecDepth 100000 in
theorem c_X5_zone (l : Launch) (D : va_G) (cI cZ cJ cD : ClassId) (qg : Nat) (qgw : Nat) (qgh : Nat) (qgt : Nat) (br : Int32) (jC : Int32) (jR : Int32) (nf : Int32) (qgx : Nat) (qgy : Nat) (qgz : Nat) (qgu : Nat) (th : Int32) (lon : Int32) (sz : Nat) (hbr : ¬ br = 0) : Met l yX5_zone wsX5_zone rm_X5_zone (va_Pc [.ref qg, .int lon] (zPreW D cI cZ cJ cD [(qg, .inr (5, [.ref qgw, .ref qgh, .ref qgt, .int br, .int jC, .int jR, .int nf, .ref qgx, .ref qgy, .ref qgz, .ref qgu, .int th]))] sz)) (Qc_X5_zone D cI cZ cJ cD qg qgw qgh qgt br jC jR nf qgx qgy qgz qgu th lon (va_A [(qg, .inr (5, [.ref qgw, .ref qgh, .ref qgt, .int br, .int jC, .int jR, .int nf, .ref qgx, .ref qgy, .ref qgz, .ref qgu, .int th]))] sz)) 0 0 (va_A [(qg, .inr (5, [.ref qgw, .ref qgh, .ref qgt, .int br, .int jC, .int jR, .int nf, .ref qgx, .ref qgy, .ref qgz, .ref qgu, .int th]))] sz) := by
  refine Met.ofW (cc := cX5_zone) (maxL := 2) (ret := (some .int)) (by decide) rfl ?_
  intro p e s m args below meth c s₁ B hml hv
  obtain ⟨rfl, hsz, hP, hK, hD0⟩ := hv
  have hx := B.exec
  have hb := B.bytes
  have hr := B.returns
  have hts := atoms_spec (ws := wsX5_zone) B.pre
  have hown : s.vm.findClass RX5 = some m.cls := findClass_of_methodNamed B.named
  have hlocks := B.notSynchronized
  subst hsz
  have hD := hD0.self (sz := s.heap.size)
  generalize hAe : va_A [(qg, .inr (5, [.ref qgw, .ref qgh, .ref qgt, .int br, .int jC, .int jR, .int nf, .ref qgx, .ref qgy, .ref qgz, .ref qgu, .int th]))] s.heap.size = A at hD ⊢
  have hA : ∀ q : Nat, s.heap.size ≤ q → A q := fun q h => by rw [← hAe]; exact Or.inr h
  have hS : va_S A s.heap s.heap [] := va_S.rf
  have hl := lv_entry ([.ref qg, .int lon]) (n := 2) (Nat.le_of_ble_eq_true rfl)
  rw [lg_entry_eq]
  generalize (lg_sl ([.ref qg, .int lon]) ++ List.replicate (2 - (lg_sl ([.ref qg, .int lon])).length) Slot.unset).toArray = ls at hl ⊢
  have hl : lv_has ls 2 [(0, .ref qg), (1, .int lon)] := hl
  have hP : va_P D vwCl [(qg, .inr (5, [.ref qgw, .ref qgh, .ref qgt, .int br, .int jC, .int jR, .int nf, .ref qgx, .ref qgy, .ref qgz, .ref qgu, .int th]))] s.heap := hP
  have hP := hP
  refine lv_aload_n hx hb dX5_zone_0 rfl (lv_at hl 0 rfl) ?_
  refine lv_iload_n hx hb dX5_zone_1 rfl (lv_at hl 1 rfl) ?_
  refine va_calli (va_runS (As := [.int lon]) (rest := [.ref qg]) ⟨hx, hb, hml, hown, hts⟩ (c_X5_isLongitude l D cI cZ cJ cD lon ) (va_cwS 1 hts gX5_zone_X5_isLongitude rfl rfl rfl (by decide +kernel) ⟨Nat.le_of_ble_eq_true rfl, Nat.le_of_ble_eq_true rfl⟩) ⟨zblind, (fun U hU hW => ⟨rfl, by rw [hU]; exact hP.sub (ws' := []) [] rfl, va_K.moved hW.alike hK⟩)⟩ rfl rfl hl.1 rfl (lv_room (Nat.le_of_ble_eq_true rfl)) dX5_zone_2 ⟨Nat.le_of_ble_eq_true rfl, Nat.le_of_ble_eq_true rfl⟩) hS (fun q _ h => h.elim) (fun q h => h.elim) (fun r7 u t H locs ht hvm hw hB hz1 hk1 hS => ?_)
  rw [hw]
  have hP := zk hP hk1
  have hPc := hP.sub (ws' := [(qg, .inr (5, [.ref qgw, .ref qgh, .ref qgt, .int br, .int jC, .int jR, .int nf, .ref qgx, .ref qgy, .ref qgz, .ref qgu, .int th]))]) [0] rfl
  have hDc := hD.sub (ws' := [(qg, .inr (5, [.ref qgw, .ref qgh, .ref qgt, .int br, .int jC, .int jR, .int nf, .ref qgx, .ref qgy, .ref qgz, .ref qgu, .int th]))]) [0] (by decide) rfl
  have hFc := va_free (wc := [(qg, .inr (5, [.ref qgw, .ref qgh, .ref qgt, .int br, .int jC, .int jR, .int nf, .ref qgx, .ref qgy, .ref qgz, .ref qgu, .int th]))]) hD hS hA [0] rfl
  refine va_calli (va_runV (As := [.int (s_X5_isLongitude lon)]) (rest := []) ⟨hx, hb, hml, hown, hts⟩ (c_X5_may l D cI cZ cJ cD qg qgw qgh qgt br jC jR nf qgx qgy qgz qgu th (s_X5_isLongitude lon) H.size (by unfold s_X5_isLongitude; (repeat' split) <;> simp)) (cwV 1 hts gX5_zone_X5_may rfl rfl rfl (by decide +kernel) ⟨Nat.le_of_ble_eq_true rfl, Nat.le_of_ble_eq_true rfl⟩) ⟨zblindW, va_recv hK hP (ci := 5) (q0 := 0) rfl rfl, (fun U hU hW => ⟨rfl, by rw [hU], by rw [hU]; exact hPc, va_K.moved hW.alike hK, hDc.weaken (fun _ _ _ _ => trivial)⟩)⟩ rfl rfl hl.1 rfl (lv_room (Nat.le_of_ble_eq_true rfl)) dX5_zone_5 ⟨Nat.le_of_ble_eq_true rfl, Nat.le_of_ble_eq_true rfl⟩) hS (fun q _ h => hFc q h) hFc (fun r8 u t H locs ht hvm hw hB hz1 hk1 hS => ?_)
  rw [hw]
  obtain ⟨hP1, hK1, hD1⟩ := hB
  rw [ht] at hP1
  obtain ⟨hP, hD⟩ := va_join (wr := []) (w1 := [(qg, .inr (5, [.ref qgw, .ref qgh, .ref qgt, .int br, .int jC, .int jR, .int nf, .ref qgx, .ref qgy, .ref qgz, .ref qgu, .int (n_X5_may_qg_11 (s_X5_isLongitude lon))]))]) hP hD [0] [] rfl rfl (by decide) (by decide) hk1 hFc hP1 hD1
  have hP := hP.sub (ws' := [(qg, .inr (5, [.ref qgw, .ref qgh, .ref qgt, .int br, .int jC, .int jR, .int nf, .ref qgx, .ref qgy, .ref qgz, .ref qgu, .int (n_X5_may_qg_11 (s_X5_isLongitude lon))]))]) [0] rfl
  have hD := hD.sub (ws' := [(qg, .inr (5, [.ref qgw, .ref qgh, .ref qgt, .int br, .int jC, .int jR, .int nf, .ref qgx, .ref qgy, .ref qgz, .ref qgu, .int (n_X5_may_qg_11 (s_X5_isLongitude lon))]))]) [0] (by decide) rfl
  have K10 : ∀ v10_0 : Int32, v10_0 = (if (s_X5_may (s_X5_isLongitude lon)) = 0 then 0 else s_X5_zoneOf br lon) → ∀ (H : Heap) (locs : List Loc), va_P D vwCl [(qg, .inr (5, [.ref qgw, .ref qgh, .ref qgt, .int br, .int jC, .int jR, .int nf, .ref qgx, .ref qgy, .ref qgz, .ref qgu, .int (n_X5_may_qg_11 (s_X5_isLongitude lon))]))] H → va_D A [(qg, .inr (5, [.ref qgw, .ref qgh, .ref qgt, .int br, .int jC, .int jR, .int nf, .ref qgx, .ref qgy, .ref qgz, .ref qgu, .int (n_X5_may_qg_11 (s_X5_isLongitude lon))]))] → va_S A s.heap H locs → ∀ (ls : Array Slot), lv_has ls 2 [(0, .ref qg), (1, .int lon)] → W p l e (headSpec wsX5_zone rm_X5_zone).room s m ([.ref qg, .int lon]).toArray below meth c H locs 0 0 (MQ below (Qc_X5_zone D cI cZ cJ cD qg qgw qgh qgt br jC jR nf qgx qgy qgz qgu th lon A) ([.ref qg, .int lon]).toArray s 0 0 A) (F0 m 20 ls [.int v10_0]) := by
    intro v10_0 hv10_0 H locs hP hD hS ls hl
    subst hv10_0
    have e11 : s_X5_zone br lon = (if (s_X5_may (s_X5_isLongitude lon)) = 0 then 0 else s_X5_zoneOf br lon) := rfl
    have e12 : n_X5_zone_qg_11 lon = n_X5_may_qg_11 (s_X5_isLongitude lon) := rfl
    exact W.iret (v := (if (s_X5_may (s_X5_isLongitude lon)) = 0 then 0 else s_X5_zoneOf br lon)) hx hb hr (fun t ht hW => ⟨⟨_, (), rfl, e11.symm, ⟨(by rw [e12]; rw [ht]; exact hP), va_K.moved hW.alike hK, (by rw [e12]; exact hD)⟩⟩, hS.F ht⟩) hS.2.2 dX5_zone_20
  refine lv_if_eq (tgt := 19) hx hb dX5_zone_8 (by decide) (fun c13 => ?_) (fun c13 => ?_)
  · refine lv_iconst (v := 0) hx hb dX5_zone_19 (by decide) ?_
    exact K10 _ (if_pos c13).symm _ _ hP hD hS _ (lv_sub hl [0, 1] rfl)
  · refine lv_aload_n hx hb dX5_zone_11 rfl (lv_at hl 0 rfl) ?_
    refine lv_iload_n hx hb dX5_zone_12 rfl (lv_at hl 1 rfl) ?_
    refine va_calli (va_runV (As := [.int lon]) (rest := []) ⟨hx, hb, hml, hown, hts⟩ (c_X5_zoneOf l D cI cZ cJ cD qg qgw qgh qgt br jC jR nf qgx qgy qgz qgu (n_X5_may_qg_11 (s_X5_isLongitude lon)) lon (by assumption)) (cwV 1 hts gX5_zone_X5_zoneOf rfl rfl rfl (by decide +kernel) ⟨Nat.le_of_ble_eq_true rfl, Nat.le_of_ble_eq_true rfl⟩) ⟨zblind, va_recv hK hP (ci := 5) (q0 := 0) rfl rfl, (fun U hU hW => ⟨rfl, by rw [hU]; exact hP.sub (ws' := [(qg, .inr (5, [.ref qgw, .ref qgh, .ref qgt, .int br, .int jC, .int jR, .int nf, .ref qgx, .ref qgy, .ref qgz, .ref qgu, .int (n_X5_may_qg_11 (s_X5_isLongitude lon))]))]) [0] rfl, va_K.moved hW.alike hK⟩)⟩ rfl rfl hl.1 rfl (lv_room (Nat.le_of_ble_eq_true rfl)) dX5_zone_13 ⟨Nat.le_of_ble_eq_true rfl, Nat.le_of_ble_eq_true rfl⟩) hS (fun q _ h => h.elim) (fun q h => h.elim) (fun r14 u t H locs ht hvm hw hB hz1 hk1 hS => ?_)
    rw [hw]
    have hP := zk hP hk1
    refine lv_goto (tgt := 20) hx hb dX5_zone_16 (by decide) ?_
    exact K10 _ (if_neg c13).symm _ _ hP hD hS _ (lv_sub hl [0, 1] rfl)
def s_X5_isPanel (jC : Int32) (jR : Int32) (pn : Int32) : Int32 := (if jC ≤ (pn / 6) then 0 else (if jR ≤ (pn - pn / 6 * 6) then 0 else 1))
abbrev rm_X5_isPanel : Room := { frames := 0, cells := 0, slots := 0, locals := 0 }
abbrev Qc_X5_isPanel (D : va_G) (cI cZ cJ cD : ClassId) (qg : Nat) (qgw : Nat) (qgh : Nat) (qgt : Nat) (br : Int32) (jC : Int32) (jR : Int32) (nf : Int32) (qgx : Nat) (qgy : Nat) (qgz : Nat) (qgu : Nat) (th : Int32) (pn : Int32) : Array Value → State → Outcome → State → Prop := va_Qi (fun (r : Int32) (_ : Unit) => r = s_X5_isPanel jC jR pn) (fun _ _ => True) (fun _ : Nat => False)
set_option maxHeartbeats 4000000 in
set_option maxRecDepth 100000 in
theorem c_X5_isPanel (l : Launch) (D : va_G) (cI cZ cJ cD : ClassId) (qg : Nat) (qgw : Nat) (qgh : Nat) (qgt : Nat) (br : Int32) (jC : Int32) (jR : Int32) (nf : Int32) (qgx : Nat) (qgy : Nat) (qgz : Nat) (qgu : Nat) (th : Int32) (pn : Int32)  : Met l yX5_isPanel wsX5_isPanel rm_X5_isPanel (va_Pc [.ref qg, .int pn] (zPre D cI cZ cJ cD [(qg, .inr (5, [.ref qgw, .ref qgh, .ref qgt, .int br, .int jC, .int jR, .int nf, .ref qgx, .ref qgy, .ref qgz, .ref qgu, .int th]))])) (Qc_X5_isPanel D cI cZ cJ cD qg qgw qgh qgt br jC jR nf qgx qgy qgz qgu th pn ) 0 0 (fun _ : Nat => False) := by
  refine Met.ofW (cc := cX5_isPanel) (maxL := 2) (ret := (some .boolean)) (by decide) rfl ?_
  intro p e s m args below meth c s₁ B hml hv
  obtain ⟨rfl, hP, hK⟩ := hv
  have hx := B.exec
  have hb := B.bytes
  have hr := B.returns
  have hts := atoms_spec (ws := wsX5_isPanel) B.pre
  have hown : s.vm.findClass RX5 = some m.cls := findClass_of_methodNamed B.named
  have hlocks := B.notSynchronized
  have hS : va_S (fun _ : Nat => False) s.heap s.heap [] := va_S.rf
  have hl := lv_entry ([.ref qg, .int pn]) (n := 2) (Nat.le_of_ble_eq_true rfl)
  rw [lg_entry_eq]
  generalize (lg_sl ([.ref qg, .int pn]) ++ List.replicate (2 - (lg_sl ([.ref qg, .int pn])).length) Slot.unset).toArray = ls at hl ⊢
  have hl : lv_has ls 2 [(0, .ref qg), (1, .int pn)] := hl
  have hP : va_P D vwCl [(qg, .inr (5, [.ref qgw, .ref qgh, .ref qgt, .int br, .int jC, .int jR, .int nf, .ref qgx, .ref qgy, .ref qgz, .ref qgu, .int th]))] s.heap := hP
  have hP := hP
  refine lv_iload_n hx hb dX5_isPanel_0 rfl (lv_at hl 1 rfl) ?_
  refine lv_bipush (v := 6) hx hb dX5_isPanel_1 (by decide) ?_
  refine lv_idiv hx hb dX5_isPanel_3 (by decide) ?_
  refine lv_aload_n hx hb dX5_isPanel_4 rfl (lv_at hl 0 rfl) ?_
  refine va_get (D := D) (ci := 5) (v := .int jC) (C := RX5) (T := TX5) (N := 12) hx hb hts (fun w h => List.mem_cons_of_mem _ (List.mem_append_right _ h)) hown hK hP 0 rfl rfl 4 (by decide) (hts (.fieldLink RX5 36 "AtlasFolderModel" "columns" "I") (List.mem_cons_of_mem _ (List.mem_append_left _ (List.mem_of_getElem? (i := 0) rfl)))) (fun _ h9 => h9) rfl dX5_isPanel_5 ?_
  have K6 : ∀ v6_0 : Int32, v6_0 = (if jC ≤ (pn / 6) then 0 else (if jR ≤ (pn - pn / 6 * 6) then 0 else 1)) → ∀ (H : Heap) (locs : List Loc), va_P D vwCl [(qg, .inr (5, [.ref qgw, .ref qgh, .ref qgt, .int br, .int jC, .int jR, .int nf, .ref qgx, .ref qgy, .ref qgz, .ref qgu, .int th]))] H → va_S (fun _ : Nat => False) s.heap H locs → ∀ (ls : Array Slot), lv_has ls 2 [(0, .ref qg), (1, .int pn)] → W p l e (headSpec wsX5_isPanel rm_X5_isPanel).room s m ([.ref qg, .int pn]).toArray below meth c H locs 0 0 (MQ below (Qc_X5_isPanel D cI cZ cJ cD qg qgw qgh qgt br jC jR nf qgx qgy qgz qgu th pn) ([.ref qg, .int pn]).toArray s 0 0 (fun _ : Nat => False)) (F0 m 27 ls [.int v6_0]) := by
    intro v6_0 hv6_0 H locs hP hS ls hl
    subst hv6_0
    have e7 : s_X5_isPanel jC jR pn = (if jC ≤ (pn / 6) then 0 else (if jR ≤ (pn - pn / 6 * 6) then 0 else 1)) := rfl
    exact W.zret (v := (if jC ≤ (pn / 6) then 0 else (if jR ≤ (pn - pn / 6 * 6) then 0 else 1))) hx hb hr (z_b (by (repeat' split) <;> simp)) (fun t ht hW => ⟨⟨_, (), rfl, e7.symm, trivial⟩, hS.F ht⟩) hS.2.2 dX5_isPanel_27
  refine lv_icmp_ge (tgt := 26) hx hb dX5_isPanel_8 (by decide) (fun c8 => ?_) (fun c8 => ?_)
  · refine lv_iconst (v := 0) hx hb dX5_isPanel_26 (by decide) ?_
    exact K6 _ (if_pos c8).symm _ _ hP hS _ (lv_sub hl [0, 1] rfl)
  · refine lv_iload_n hx hb dX5_isPanel_11 rfl (lv_at hl 1 rfl) ?_
    refine lv_bipush (v := 6) hx hb dX5_isPanel_12 (by decide) ?_
    refine lv_irem hx hb dX5_isPanel_14 (by decide) ?_
    refine lv_aload_n hx hb dX5_isPanel_15 rfl (lv_at hl 0 rfl) ?_
    refine va_get (D := D) (ci := 5) (v := .int jR) (C := RX5) (T := TX5) (N := 12) hx hb hts (fun w h => List.mem_cons_of_mem _ (List.mem_append_right _ h)) hown hK hP 0 rfl rfl 5 (by decide) (hts (.fieldLink RX5 39 "AtlasFolderModel" "rows" "I") (List.mem_cons_of_mem _ (List.mem_append_left _ (List.mem_of_getElem? (i := 1) rfl)))) (fun _ h9 => h9) rfl dX5_isPanel_16 ?_
    refine lv_icmp_ge (tgt := 26) hx hb dX5_isPanel_19 (by decide) (fun c9 => ?_) (fun c9 => ?_)
    · refine lv_iconst (v := 0) hx hb dX5_isPanel_26 (by decide) ?_
      exact K6 _ ((if_neg c8).trans (if_pos c9)).symm _ _ hP hS _ (lv_sub hl [0, 1] rfl)
    · refine lv_iconst (v := 1) hx hb dX5_isPanel_22 (by decide) ?_
      refine lv_goto (tgt := 27) hx hb dX5_isPanel_23 (by decide) ?_
      exact K6 _ ((if_neg c8).trans (if_neg c9)).symm _ _ hP hS _ (lv_sub hl [0, 1] rfl)
def s_X5_has (jC : Int32) (jR : Int32) (co : Int32) (ro : Int32) : Int32 := s_X5_may (if co < 0 then 0 else (if jC ≤ co then 0 else (if ro < 0 then 0 else (if jR ≤ ro then 0 else 1))))
def n_X5_has_qg_11 (jC : Int32) (jR : Int32) (co : Int32) (ro : Int32) : Int32 := n_X5_may_qg_11 (if co < 0 then 0 else (if jC ≤ co then 0 else (if ro < 0 then 0 else (if jR ≤ ro then 0 else 1))))
abbrev rm_X5_has : Room := { frames := 1, cells := 0, slots := 0, locals := 21 }
abbrev Qc_X5_has (D : va_G) (cI cZ cJ cD : ClassId) (qg : Nat) (qgw : Nat) (qgh : Nat) (qgt : Nat) (br : Int32) (jC : Int32) (jR : Int32) (nf : Int32) (qgx : Nat) (qgy : Nat) (qgz : Nat) (qgu : Nat) (th : Int32) (co : Int32) (ro : Int32) (A : Nat → Prop) : Array Value → State → Outcome → State → Prop := va_Qi (fun (r : Int32) (_ : Unit) => r = s_X5_has jC jR co ro) (zPost D cI cZ cJ cD A [(qg, .inr (5, [.ref qgw, .ref qgh, .ref qgt, .int br, .int jC, .int jR, .int nf, .ref qgx, .ref qgy, .ref qgz, .ref qgu, .int (n_X5_has_qg_11 jC jR co ro)]))]) A
set_option maxHeartbeats 4000000 in
set_option maxRecDepth 100000 in
theorem c_X5_has (l : Launch) (D : va_G) (cI cZ cJ cD : ClassId) (qg : Nat) (qgw : Nat) (qgh : Nat) (qgt : Nat) (br : Int32) (jC : Int32) (jR : Int32) (nf : Int32) (qgx : Nat) (qgy : Nat) (qgz : Nat) (qgu : Nat) (th : Int32) (co : Int32) (ro : Int32) (sz : Nat)  : Met l yX5_has wsX5_has rm_X5_has (va_Pc [.ref qg, .int co, .int ro] (zPreW D cI cZ cJ cD [(qg, .inr (5, [.ref qgw, .ref qgh, .ref qgt, .int br, .int jC, .int jR, .int nf, .ref qgx, .ref qgy, .ref qgz, .ref qgu, .int th]))] sz)) (Qc_X5_has D cI cZ cJ cD qg qgw qgh qgt br jC jR nf qgx qgy qgz qgu th co ro (va_A [(qg, .inr (5, [.ref qgw, .ref qgh, .ref qgt, .int br, .int jC, .int jR, .int nf, .ref qgx, .ref qgy, .ref qgz, .ref qgu, .int th]))] sz)) 0 0 (va_A [(qg, .inr (5, [.ref qgw, .ref qgh, .ref qgt, .int br, .int jC, .int jR, .int nf, .ref qgx, .ref qgy, .ref qgz, .ref qgu, .int th]))] sz) := by
  refine Met.ofW (cc := cX5_has) (maxL := 3) (ret := (some .boolean)) (by decide) rfl ?_
  intro p e s m args below meth c s₁ B hml hv
  obtain ⟨rfl, hsz, hP, hK, hD0⟩ := hv
  have hx := B.exec
  have hb := B.bytes
  have hr := B.returns
  have hts := atoms_spec (ws := wsX5_has) B.pre
  have hown : s.vm.findClass RX5 = some m.cls := findClass_of_methodNamed B.named
  have hlocks := B.notSynchronized
  subst hsz
  have hD := hD0.self (sz := s.heap.size)
  generalize hAe : va_A [(qg, .inr (5, [.ref qgw, .ref qgh, .ref qgt, .int br, .int jC, .int jR, .int nf, .ref qgx, .ref qgy, .ref qgz, .ref qgu, .int th]))] s.heap.size = A at hD ⊢
  have hA : ∀ q : Nat, s.heap.size ≤ q → A q := fun q h => by rw [← hAe]; exact Or.inr h
  have hS : va_S A s.heap s.heap [] := va_S.rf
  have hl := lv_entry ([.ref qg, .int co, .int ro]) (n := 3) (Nat.le_of_ble_eq_true rfl)
  rw [lg_entry_eq]
  generalize (lg_sl ([.ref qg, .int co, .int ro]) ++ List.replicate (3 - (lg_sl ([.ref qg, .int co, .int ro])).length) Slot.unset).toArray = ls at hl ⊢
  have hl : lv_has ls 3 [(0, .ref qg), (1, .int co), (2, .int ro)] := hl
  have hP : va_P D vwCl [(qg, .inr (5, [.ref qgw, .ref qgh, .ref qgt, .int br, .int jC, .int jR, .int nf, .ref qgx, .ref qgy, .ref qgz, .ref qgu, .int th]))] s.heap := hP
  have hP := hP
  refine lv_aload_n hx hb dX5_has_0 rfl (lv_at hl 0 rfl) ?_
  refine lv_iload_n hx hb dX5_has_1 rfl (lv_at hl 1 rfl) ?_
  have K9 : ∀ v9_0 : Int32, v9_0 = (if co < 0 then 0 else (if jC ≤ co then 0 else (if ro < 0 then 0 else (if jR ≤ ro then 0 else 1)))) → ∀ (H : Heap) (locs : List Loc), va_P D vwCl [(qg, .inr (5, [.ref qgw, .ref qgh, .ref qgt, .int br, .int jC, .int jR, .int nf, .ref qgx, .ref qgy, .ref qgz, .ref qgu, .int th]))] H → va_D A [(qg, .inr (5, [.ref qgw, .ref qgh, .ref qgt, .int br, .int jC, .int jR, .int nf, .ref qgx, .ref qgy, .ref qgz, .ref qgu, .int th]))] → va_S A s.heap H locs → ∀ (ls : Array Slot), lv_has ls 3 [(0, .ref qg), (1, .int co), (2, .int ro)] → W p l e (headSpec wsX5_has rm_X5_has).room s m ([.ref qg, .int co, .int ro]).toArray below meth c H locs 0 0 (MQ below (Qc_X5_has D cI cZ cJ cD qg qgw qgh qgt br jC jR nf qgx qgy qgz qgu th co ro A) ([.ref qg, .int co, .int ro]).toArray s 0 0 A) (F0 m 30 ls [.int v9_0, .ref qg]) := by
    intro v9_0 hv9_0 H locs hP hD hS ls hl
    subst hv9_0
    have hPc := hP.sub (ws' := [(qg, .inr (5, [.ref qgw, .ref qgh, .ref qgt, .int br, .int jC, .int jR, .int nf, .ref qgx, .ref qgy, .ref qgz, .ref qgu, .int th]))]) [0] rfl
    have hDc := hD.sub (ws' := [(qg, .inr (5, [.ref qgw, .ref qgh, .ref qgt, .int br, .int jC, .int jR, .int nf, .ref qgx, .ref qgy, .ref qgz, .ref qgu, .int th]))]) [0] (by decide) rfl
    have hFc := va_free (wc := [(qg, .inr (5, [.ref qgw, .ref qgh, .ref qgt, .int br, .int jC, .int jR, .int nf, .ref qgx, .ref qgy, .ref qgz, .ref qgu, .int th]))]) hD hS hA [0] rfl
    refine va_calli (va_runV (As := [.int (if co < 0 then 0 else (if jC ≤ co then 0 else (if ro < 0 then 0 else (if jR ≤ ro then 0 else 1))))]) (rest := []) ⟨hx, hb, hml, hown, hts⟩ (c_X5_may l D cI cZ cJ cD qg qgw qgh qgt br jC jR nf qgx qgy qgz qgu th (if co < 0 then 0 else (if jC ≤ co then 0 else (if ro < 0 then 0 else (if jR ≤ ro then 0 else 1)))) H.size (by (repeat' split) <;> simp)) (cwV 1 hts gX5_has_X5_may rfl rfl rfl (by decide +kernel) ⟨Nat.le_of_ble_eq_true rfl, Nat.le_of_ble_eq_true rfl⟩) ⟨zblindW, va_recv hK hP (ci := 5) (q0 := 0) rfl rfl, (fun U hU hW => ⟨rfl, by rw [hU], by rw [hU]; exact hPc, va_K.moved hW.alike hK, hDc.weaken (fun _ _ _ _ => trivial)⟩)⟩ rfl rfl hl.1 rfl (lv_room (Nat.le_of_ble_eq_true rfl)) dX5_has_30 ⟨Nat.le_of_ble_eq_true rfl, Nat.le_of_ble_eq_true rfl⟩) hS (fun q _ h => hFc q h) hFc (fun r10 u t H locs ht hvm hw hB hz1 hk1 hS => ?_)
    rw [hw]
    obtain ⟨hP1, hK1, hD1⟩ := hB
    rw [ht] at hP1
    obtain ⟨hP, hD⟩ := va_join (wr := []) (w1 := [(qg, .inr (5, [.ref qgw, .ref qgh, .ref qgt, .int br, .int jC, .int jR, .int nf, .ref qgx, .ref qgy, .ref qgz, .ref qgu, .int (n_X5_may_qg_11 (if co < 0 then 0 else (if jC ≤ co then 0 else (if ro < 0 then 0 else (if jR ≤ ro then 0 else 1)))))]))]) hP hD [0] [] rfl rfl (by decide) (by decide) hk1 hFc hP1 hD1
    have hP := hP.sub (ws' := [(qg, .inr (5, [.ref qgw, .ref qgh, .ref qgt, .int br, .int jC, .int jR, .int nf, .ref qgx, .ref qgy, .ref qgz, .ref qgu, .int (n_X5_may_qg_11 (if co < 0 then 0 else (if jC ≤ co then 0 else (if ro < 0 then 0 else (if jR ≤ ro then 0 else 1)))))]))]) [0] rfl
    have hD := hD.sub (ws' := [(qg, .inr (5, [.ref qgw, .ref qgh, .ref qgt, .int br, .int jC, .int jR, .int nf, .ref qgx, .ref qgy, .ref qgz, .ref qgu, .int (n_X5_may_qg_11 (if co < 0 then 0 else (if jC ≤ co then 0 else (if ro < 0 then 0 else (if jR ≤ ro then 0 else 1)))))]))]) [0] (by decide) rfl
    have e11 : s_X5_has jC jR co ro = s_X5_may (if co < 0 then 0 else (if jC ≤ co then 0 else (if ro < 0 then 0 else (if jR ≤ ro then 0 else 1)))) := rfl
    have e12 : n_X5_has_qg_11 jC jR co ro = n_X5_may_qg_11 (if co < 0 then 0 else (if jC ≤ co then 0 else (if ro < 0 then 0 else (if jR ≤ ro then 0 else 1)))) := rfl
    exact W.zret (v := (s_X5_may (if co < 0 then 0 else (if jC ≤ co then 0 else (if ro < 0 then 0 else (if jR ≤ ro then 0 else 1)))))) hx hb hr (z_b (by unfold s_X5_may; (repeat' split) <;> simp)) (fun t ht hW => ⟨⟨_, (), rfl, e11.symm, ⟨(by rw [e12]; rw [ht]; exact hP), va_K.moved hW.alike hK, (by rw [e12]; exact hD)⟩⟩, hS.F ht⟩) hS.2.2 dX5_has_33
  refine lv_if_lt (tgt := 29) hx hb dX5_has_2 (by decide) (fun c13 => ?_) (fun c13 => ?_)
  · refine lv_iconst (v := 0) hx hb dX5_has_29 (by decide) ?_
    exact K9 _ (if_pos c13).symm _ _ hP hD hS _ (lv_sub hl [0, 1, 2] rfl)
  · refine lv_iload_n hx hb dX5_has_5 rfl (lv_at hl 1 rfl) ?_
    refine lv_aload_n hx hb dX5_has_6 rfl (lv_at hl 0 rfl) ?_
    refine va_get (D := D) (ci := 5) (v := .int jC) (C := RX5) (T := TX5) (N := 12) hx hb hts (fun w h => List.mem_cons_of_mem _ (List.mem_append_right _ h)) hown hK hP 0 rfl rfl 4 (by decide) (hts (.fieldLink RX5 36 "AtlasFolderModel" "columns" "I") (List.mem_cons_of_mem _ (List.mem_append_left _ (List.mem_of_getElem? (i := 0) rfl)))) (fun _ h9 => h9) rfl dX5_has_7 ?_
    refine lv_icmp_ge (tgt := 29) hx hb dX5_has_10 (by decide) (fun c14 => ?_) (fun c14 => ?_)
    · refine lv_iconst (v := 0) hx hb dX5_has_29 (by decide) ?_
      exact K9 _ ((if_neg c13).trans (if_pos c14)).symm _ _ hP hD hS _ (lv_sub hl [0, 1, 2] rfl)
    · refine lv_iload_n hx hb dX5_has_13 rfl (lv_at hl 2 rfl) ?_
      refine lv_if_lt (tgt := 29) hx hb dX5_has_14 (by decide) (fun c15 => ?_) (fun c15 => ?_)
      · refine lv_iconst (v := 0) hx hb dX5_has_29 (by decide) ?_
        exact K9 _ ((if_neg c13).trans ((if_neg c14).trans (if_pos c15))).symm _ _ hP hD hS _ (lv_sub hl [0, 1, 2] rfl)
      · refine lv_iload_n hx hb dX5_has_17 rfl (lv_at hl 2 rfl) ?_
        refine lv_aload_n hx hb dX5_has_18 rfl (lv_at hl 0 rfl) ?_
        refine va_get (D := D) (ci := 5) (v := .int jR) (C := RX5) (T := TX5) (N := 12) hx hb hts (fun w h => List.mem_cons_of_mem _ (List.mem_append_right _ h)) hown hK hP 0 rfl rfl 5 (by decide) (hts (.fieldLink RX5 39 "AtlasFolderModel" "rows" "I") (List.mem_cons_of_mem _ (List.mem_append_left _ (List.mem_of_getElem? (i := 1) rfl)))) (fun _ h9 => h9) rfl dX5_has_19 ?_
        refine lv_icmp_ge (tgt := 29) hx hb dX5_has_22 (by decide) (fun c16 => ?_) (fun c16 => ?_)
        · refine lv_iconst (v := 0) hx hb dX5_has_29 (by decide) ?_
          exact K9 _ ((if_neg c13).trans ((if_neg c14).trans ((if_neg c15).trans (if_pos c16)))).symm _ _ hP hD hS _ (lv_sub hl [0, 1, 2] rfl)
        · refine lv_iconst (v := 1) hx hb dX5_has_25 (by decide) ?_
          refine lv_goto (tgt := 30) hx hb dX5_has_26 (by decide) ?_
          exact K9 _ ((if_neg c13).trans ((if_neg c14).trans ((if_neg c15).trans (if_neg c16)))).symm _ _ hP hD hS _ (lv_sub hl [0, 1, 2] rfl)
