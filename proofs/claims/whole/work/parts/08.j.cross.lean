def cr_nx (st he : Int32) : Int32 := (if (he + st) ≤ 179 then (if (-180) ≤ (he + st) then he + st else 179) else (-180))
def cr_rd (st he : Int32) : Int32 := (if 179 < (he + st) then 1 else (if (-180) ≤ (he + st) then 0 else 1))
/-- seams and date line, n degrees on -/
def lp_cr (br st : Int32) : Nat → Int32 → Int32 → Int32 → Int32 × Int32
  | 0, _, se, da => (se, da)
  | n + 1, he, se, da => lp_cr br st n (cr_nx st he) (se + (if cr_rd st he = (0 : Int32) then (if (s_X5_zoneOf br he) = (s_X5_zoneOf br (cr_nx st he)) then 0 else 1) else 1)) (da + (if cr_rd st he = (0 : Int32) then 0 else st))
/-- how many degrees from he to o2 with steps of st -/
def cr_rem (st he o2 : Int32) : Nat := if st = 1 then ((o2.toInt - he.toInt) % 360).toNat else ((he.toInt - o2.toInt) % 360).toNat
theorem cr_c179 : (179 : Int32).toInt = 179 := rfl
theorem cr_c180 : (-180 : Int32).toInt = -180 := rfl
theorem cr_c1 : (1 : Int32).toInt = 1 := rfl
theorem cr_cm1 : (-1 : Int32).toInt = -1 := rfl
theorem cr_nxI {st he : Int32} (hs : st = 1 ∨ st = -1) (h : -180 ≤ he.toInt ∧ he.toInt ≤ 179) : (cr_nx st he).toInt = if he.toInt + st.toInt ≤ 179 then (if -180 ≤ he.toInt + st.toInt then he.toInt + st.toInt else 179) else -180 := by
  have e : (he + st).toInt = he.toInt + st.toInt := by
    rcases hs with rfl | rfl
    · exact z_addI (by rw [cr_c1]; omega) (by rw [cr_c1]; omega)
    · exact z_addI (by rw [cr_cm1]; omega) (by rw [cr_cm1]; omega)
  unfold cr_nx
  simp only [Int32.lt_iff_toInt_lt, Int32.le_iff_toInt_le, e, cr_c179, cr_c180]
  split
  · split
    · exact e
    · rfl
  · rfl
theorem cr_nxR {st he : Int32} (hs : st = 1 ∨ st = -1) (h : -180 ≤ he.toInt ∧ he.toInt ≤ 179) : -180 ≤ (cr_nx st he).toInt ∧ (cr_nx st he).toInt ≤ 179 := by
  rw [cr_nxI hs h]
  split
  · split <;> omega
  · omega
theorem cr_eq {st he o2 : Int32} (hs : st = 1 ∨ st = -1) (h : -180 ≤ he.toInt ∧ he.toInt ≤ 179) (h2 : -180 ≤ o2.toInt ∧ o2.toInt ≤ 179) : cr_rem st he o2 = 0 ↔ he = o2 := by
  rw [← Int32.toInt_inj]
  unfold cr_rem
  rcases hs with rfl | rfl
  · rw [if_pos rfl]
    omega
  · rw [if_neg (by decide)]
    omega
theorem cr_st {st he o2 : Int32} {r : Nat} (hs : st = 1 ∨ st = -1) (h : -180 ≤ he.toInt ∧ he.toInt ≤ 179) (h2 : -180 ≤ o2.toInt ∧ o2.toInt ≤ 179) (hr : cr_rem st he o2 = r + 1) : cr_rem st (cr_nx st he) o2 = r := by
  have e := cr_nxI hs h
  unfold cr_rem at hr ⊢
  rcases hs with rfl | rfl
  · rw [if_pos rfl] at hr ⊢
    rw [cr_c1] at e
    split at e
    · split at e <;> omega
    · omega
  · rw [if_neg (by decide)] at hr ⊢
    rw [cr_cm1] at e
    split at e
    · split at e <;> omega
    · omega
theorem cr_rl {st he o2 : Int32} : cr_rem st he o2 < 360 := by
  unfold cr_rem
  split <;> omega
theorem cr_sg {o1 o2 : Int32} : (if 180 < (s_X5_east o1 o2) then (-1) else 1) = (1 : Int32) ∨ (if 180 < (s_X5_east o1 o2) then (-1) else 1) = (-1 : Int32) := by
  split
  · exact Or.inr rfl
  · exact Or.inl rfl
def s_X5_crossed (br : Int32) (o1 : Int32) (o2 : Int32) (li : Int32) : Int32 := (if li = 0 then (lp_cr br (if 180 < (s_X5_east o1 o2) then (-1) else 1) (cr_rem (if 180 < (s_X5_east o1 o2) then (-1) else 1) o1 o2) o1 0 0).1 else (lp_cr br (if 180 < (s_X5_east o1 o2) then (-1) else 1) (cr_rem (if 180 < (s_X5_east o1 o2) then (-1) else 1) o1 o2) o1 0 0).2)
abbrev rm_X5_crossed : Room := { frames := 1, cells := 0, slots := 0, locals := 21 }
abbrev Qc_X5_crossed (D : va_G) (cI cZ cJ cD : ClassId) (qg : Nat) (qgw : Nat) (qgh : Nat) (qgt : Nat) (br : Int32) (jC : Int32) (jR : Int32) (nf : Int32) (qgx : Nat) (qgy : Nat) (qgz : Nat) (qgu : Nat) (th : Int32) (o1 : Int32) (o2 : Int32) (li : Int32) : Array Value → State → Outcome → State → Prop := va_Qi (fun (r : Int32) (_ : Unit) => r = s_X5_crossed br o1 o2 li) (fun _ _ => True) (fun _ : Nat => False)
set_option maxHeartbeats 1000000 in
set_option maxRecDepth 100000 in
theorem c_X5_crossed (l : Launch) (D : va_G) (cI cZ cJ cD : ClassId) (qg : Nat) (qgw : Nat) (qgh : Nat) (qgt : Nat) (br : Int32) (jC : Int32) (jR : Int32) (nf : Int32) (qgx : Nat) (qgy : Nat) (qgz : Nat) (qgu : Nat) (th : Int32) (o1 : Int32) (o2 : Int32) (li : Int32) (hbr : ¬ br = 0) (h1o : -180 ≤ o1.toInt ∧ o1.toInt ≤ 179) (h2o : -180 ≤ o2.toInt ∧ o2.toInt ≤ 179) : Met l yX5_crossed wsX5_crossed rm_X5_crossed (va_Pc [.ref qg, .int o1, .int o2, .int li] (zPre D cI cZ cJ cD [(qg, .inr (5, [.ref qgw, .ref qgh, .ref qgt, .int br, .int jC, .int jR, .int nf, .ref qgx, .ref qgy, .ref qgz, .ref qgu, .int th]))])) (Qc_X5_crossed D cI cZ cJ cD qg qgw qgh qgt br jC jR nf qgx qgy qgz qgu th o1 o2 li ) 0 0 (fun _ : Nat => False) := by
  refine Met.ofW (cc := cX5_crossed) (maxL := 10) (ret := (some .int)) (by decide) rfl ?_
  intro p e s m args below meth c s₁ B hml hv
  obtain ⟨rfl, hP, hK⟩ := hv
  have hx := B.exec
  have hb := B.bytes
  have hr := B.returns
  have hts := atoms_spec (ws := wsX5_crossed) B.pre
  have hown : s.vm.findClass RX5 = some m.cls := findClass_of_methodNamed B.named
  have hlocks := B.notSynchronized
  have hS : va_S (fun _ : Nat => False) s.heap s.heap [] := va_S.rf
  have hl := lv_entry ([.ref qg, .int o1, .int o2, .int li]) (n := 10) (Nat.le_of_ble_eq_true rfl)
  rw [lg_entry_eq]
  generalize (lg_sl ([.ref qg, .int o1, .int o2, .int li]) ++ List.replicate (10 - (lg_sl ([.ref qg, .int o1, .int o2, .int li])).length) Slot.unset).toArray = ls at hl ⊢
  have hl : lv_has ls 10 [(0, .ref qg), (1, .int o1), (2, .int o2), (3, .int li)] := hl
  have hP : va_P D vwCl [(qg, .inr (5, [.ref qgw, .ref qgh, .ref qgt, .int br, .int jC, .int jR, .int nf, .ref qgx, .ref qgy, .ref qgz, .ref qgu, .int th]))] s.heap := hP
  have hP := hP
  refine lv_iload_n hx hb dX5_crossed_0 rfl (lv_at hl 1 rfl) ?_
  refine lv_iload_n hx hb dX5_crossed_1 rfl (lv_at hl 2 rfl) ?_
  refine va_calli (va_runS (As := [.int o1, .int o2]) (rest := []) ⟨hx, hb, hml, hown, hts⟩ (c_X5_east l D cI cZ cJ cD o1 o2 ) (va_cwS 2 hts gX5_crossed_X5_east rfl rfl rfl (by decide +kernel) ⟨Nat.le_of_ble_eq_true rfl, Nat.le_of_ble_eq_true rfl⟩) ⟨zblind, (fun U hU hW => ⟨rfl, by rw [hU]; exact hP.sub (ws' := []) [] rfl, va_K.moved hW.alike hK⟩)⟩ rfl rfl hl.1 rfl (lv_room (Nat.le_of_ble_eq_true rfl)) dX5_crossed_2 ⟨Nat.le_of_ble_eq_true rfl, Nat.le_of_ble_eq_true rfl⟩) hS (fun q _ h => h.elim) (fun q h => h.elim) (fun r8 u t H locs ht hvm hw hB hz1 hk1 hS => ?_)
  rw [hw]
  have hP := zk hP hk1
  refine lv_sipush (v := 180) hx hb dX5_crossed_5 (by decide) ?_
  have K10 : ∀ v10_0 : Int32, v10_0 = (if 180 < (s_X5_east o1 o2) then (-1) else 1) → ∀ (H : Heap) (locs : List Loc), va_P D vwCl [(qg, .inr (5, [.ref qgw, .ref qgh, .ref qgt, .int br, .int jC, .int jR, .int nf, .ref qgx, .ref qgy, .ref qgz, .ref qgu, .int th]))] H → va_S (fun _ : Nat => False) s.heap H locs → ∀ (ls : Array Slot), lv_has ls 10 [(0, .ref qg), (1, .int o1), (2, .int o2), (3, .int li)] → W p l e (headSpec wsX5_crossed rm_X5_crossed).room s m ([.ref qg, .int o1, .int o2, .int li]).toArray below meth c H locs 0 0 (MQ below (Qc_X5_crossed D cI cZ cJ cD qg qgw qgh qgt br jC jR nf qgx qgy qgz qgu th o1 o2 li) ([.ref qg, .int o1, .int o2, .int li]).toArray s 0 0 (fun _ : Nat => False)) (F0 m 16 ls [.int v10_0]) := by
    intro v10_0 hv10_0 H locs hP hS ls hl
    subst hv10_0
    refine lv_istore (lv' := [(4, .int (if 180 < (s_X5_east o1 o2) then (-1) else 1)), (0, .ref qg), (1, .int o1), (2, .int o2), (3, .int li)]) hx hb dX5_crossed_16 hl (by decide) rfl (fun ls hl => ?_)
    refine lv_iload_n hx hb dX5_crossed_18 rfl (lv_at hl 2 rfl) ?_
    refine lv_istore (lv' := [(5, .int o1), (4, .int (if 180 < (s_X5_east o1 o2) then (-1) else 1)), (0, .ref qg), (1, .int o1), (2, .int o2), (3, .int li)]) hx hb dX5_crossed_19 hl (by decide) rfl (fun ls hl => ?_)
    refine lv_iconst (v := 0) hx hb dX5_crossed_21 (by decide) ?_
    refine lv_istore (lv' := [(6, .int 0), (5, .int o1), (4, .int (if 180 < (s_X5_east o1 o2) then (-1) else 1)), (0, .ref qg), (1, .int o1), (2, .int o2), (3, .int li)]) hx hb dX5_crossed_22 hl (by decide) rfl (fun ls hl => ?_)
    refine lv_iconst (v := 0) hx hb dX5_crossed_24 (by decide) ?_
    refine lv_istore (lv' := [(7, .int 0), (6, .int 0), (5, .int o1), (4, .int (if 180 < (s_X5_east o1 o2) then (-1) else 1)), (0, .ref qg), (1, .int o1), (2, .int o2), (3, .int li)]) hx hb dX5_crossed_25 hl (by decide) rfl (fun ls hl => ?_)
    have X11 : ∀ (H : Heap) (locs : List Loc), va_P D vwCl [(qg, .inr (5, [.ref qgw, .ref qgh, .ref qgt, .int br, .int jC, .int jR, .int nf, .ref qgx, .ref qgy, .ref qgz, .ref qgu, .int th]))] H → va_S (fun _ : Nat => False) s.heap H locs → ∀ (ls : Array Slot), lv_has ls 10 [(7, .int ((lp_cr br (if 180 < (s_X5_east o1 o2) then (-1) else 1) (cr_rem (if 180 < (s_X5_east o1 o2) then (-1) else 1) o1 o2) o1 0 0).2)), (6, .int ((lp_cr br (if 180 < (s_X5_east o1 o2) then (-1) else 1) (cr_rem (if 180 < (s_X5_east o1 o2) then (-1) else 1) o1 o2) o1 0 0).1)), (0, .ref qg), (1, .int o1), (2, .int o2), (3, .int li)] → W p l e (headSpec wsX5_crossed rm_X5_crossed).room s m ([.ref qg, .int o1, .int o2, .int li]).toArray below meth c H locs 0 0 (MQ below (Qc_X5_crossed D cI cZ cJ cD qg qgw qgh qgt br jC jR nf qgx qgy qgz qgu th o1 o2 li) ([.ref qg, .int o1, .int o2, .int li]).toArray s 0 0 (fun _ : Nat => False)) (F0 m 148 ls []) := by
      intro  H locs hP hS ls hl
      refine lv_iload_n hx hb dX5_crossed_148 rfl (lv_at hl 5 rfl) ?_
      have K13 : ∀ v13_0 : Int32, v13_0 = (if li = 0 then (lp_cr br (if 180 < (s_X5_east o1 o2) then (-1) else 1) (cr_rem (if 180 < (s_X5_east o1 o2) then (-1) else 1) o1 o2) o1 0 0).1 else (lp_cr br (if 180 < (s_X5_east o1 o2) then (-1) else 1) (cr_rem (if 180 < (s_X5_east o1 o2) then (-1) else 1) o1 o2) o1 0 0).2) → ∀ (H : Heap) (locs : List Loc), va_P D vwCl [(qg, .inr (5, [.ref qgw, .ref qgh, .ref qgt, .int br, .int jC, .int jR, .int nf, .ref qgx, .ref qgy, .ref qgz, .ref qgu, .int th]))] H → va_S (fun _ : Nat => False) s.heap H locs → ∀ (ls : Array Slot), lv_has ls 10 [(7, .int ((lp_cr br (if 180 < (s_X5_east o1 o2) then (-1) else 1) (cr_rem (if 180 < (s_X5_east o1 o2) then (-1) else 1) o1 o2) o1 0 0).2)), (6, .int ((lp_cr br (if 180 < (s_X5_east o1 o2) then (-1) else 1) (cr_rem (if 180 < (s_X5_east o1 o2) then (-1) else 1) o1 o2) o1 0 0).1)), (0, .ref qg), (1, .int o1), (2, .int o2), (3, .int li)] → W p l e (headSpec wsX5_crossed rm_X5_crossed).room s m ([.ref qg, .int o1, .int o2, .int li]).toArray below meth c H locs 0 0 (MQ below (Qc_X5_crossed D cI cZ cJ cD qg qgw qgh qgt br jC jR nf qgx qgy qgz qgu th o1 o2 li) ([.ref qg, .int o1, .int o2, .int li]).toArray s 0 0 (fun _ : Nat => False)) (F0 m 159 ls [.int v13_0]) := by
        intro v13_0 hv13_0 H locs hP hS ls hl
        subst hv13_0
        have e14 : s_X5_crossed br o1 o2 li = (if li = 0 then (lp_cr br (if 180 < (s_X5_east o1 o2) then (-1) else 1) (cr_rem (if 180 < (s_X5_east o1 o2) then (-1) else 1) o1 o2) o1 0 0).1 else (lp_cr br (if 180 < (s_X5_east o1 o2) then (-1) else 1) (cr_rem (if 180 < (s_X5_east o1 o2) then (-1) else 1) o1 o2) o1 0 0).2) := rfl
        exact W.iret (v := (if li = 0 then (lp_cr br (if 180 < (s_X5_east o1 o2) then (-1) else 1) (cr_rem (if 180 < (s_X5_east o1 o2) then (-1) else 1) o1 o2) o1 0 0).1 else (lp_cr br (if 180 < (s_X5_east o1 o2) then (-1) else 1) (cr_rem (if 180 < (s_X5_east o1 o2) then (-1) else 1) o1 o2) o1 0 0).2)) hx hb hr (fun t ht hW => ⟨⟨_, (), rfl, e14.symm, trivial⟩, hS.F ht⟩) hS.2.2 dX5_crossed_159
      refine lv_if_eq (tgt := 157) hx hb dX5_crossed_149 (by decide) (fun c15 => ?_) (fun c15 => ?_)
      · refine lv_iload hx hb dX5_crossed_157 (lv_at hl 1 rfl) ?_
        exact K13 _ (if_pos c15).symm _ _ hP hS _ (lv_sub hl [0, 1, 2, 3, 4, 5] rfl)
      · refine lv_iload hx hb dX5_crossed_152 (lv_at hl 0 rfl) ?_
        refine lv_goto (tgt := 159) hx hb dX5_crossed_154 (by decide) ?_
        exact K13 _ (if_neg c15).symm _ _ hP hS _ (lv_sub hl [0, 1, 2, 3, 4, 5] rfl)
    have L11 : ∀ (n11 : Nat) (rr : Nat) (he : Int32) (se : Int32) (da : Int32), (-180 ≤ he.toInt ∧ he.toInt ≤ 179) → (cr_rem (if 180 < (s_X5_east o1 o2) then (-1) else 1) he o2 = rr) → (lp_cr br (if 180 < (s_X5_east o1 o2) then (-1) else 1) rr he se da = lp_cr br (if 180 < (s_X5_east o1 o2) then (-1) else 1) (cr_rem (if 180 < (s_X5_east o1 o2) then (-1) else 1) o1 o2) o1 0 0) → (rr < n11) → ∀ (H : Heap) (locs : List Loc), va_P D vwCl [(qg, .inr (5, [.ref qgw, .ref qgh, .ref qgt, .int br, .int jC, .int jR, .int nf, .ref qgx, .ref qgy, .ref qgz, .ref qgu, .int th]))] H → va_S (fun _ : Nat => False) s.heap H locs → ∀ (ls : Array Slot), lv_has ls 10 [(7, .int da), (6, .int se), (5, .int he), (4, .int (if 180 < (s_X5_east o1 o2) then (-1) else 1)), (0, .ref qg), (1, .int o1), (2, .int o2), (3, .int li)] → W p l e (headSpec wsX5_crossed rm_X5_crossed).room s m ([.ref qg, .int o1, .int o2, .int li]).toArray below meth c H locs 0 0 (MQ below (Qc_X5_crossed D cI cZ cJ cD qg qgw qgh qgt br jC jR nf qgx qgy qgz qgu th o1 o2 li) ([.ref qg, .int o1, .int o2, .int li]).toArray s 0 0 (fun _ : Nat => False)) (F0 m 27 ls []) := by
      intro n11
      induction n11 with
      | zero =>
        intro rr he se da hh hrem hres hf11
        exact absurd hf11 (by omega)
      | succ n11 ih11 =>
        intro rr he se da hh hrem hres hf11 H locs hP hS ls hl
        refine lv_iload hx hb dX5_crossed_27 (lv_at hl 2 rfl) ?_
        refine lv_iload_n hx hb dX5_crossed_29 rfl (lv_at hl 6 rfl) ?_
        refine lv_icmp_eq (tgt := 148) hx hb dX5_crossed_30 (by decide) (fun c16 => ?_) (fun c16 => ?_)
        · have hz9 : rr = 0 := hrem.symm.trans ((cr_eq cr_sg hh h2o).mpr c16)
          subst hz9
          have e1 : se = (lp_cr br (if 180 < (s_X5_east o1 o2) then (-1) else 1) (cr_rem (if 180 < (s_X5_east o1 o2) then (-1) else 1) o1 o2) o1 0 0).1 := congrArg Prod.fst hres
          have e2 : da = (lp_cr br (if 180 < (s_X5_east o1 o2) then (-1) else 1) (cr_rem (if 180 < (s_X5_east o1 o2) then (-1) else 1) o1 o2) o1 0 0).2 := congrArg Prod.snd hres
          exact X11  _ _ hP hS _ (zlv (lv_sub (l' := [(7, .int da), (6, .int se), (0, .ref qg), (1, .int o1), (2, .int o2), (3, .int li)]) hl [0, 1, 4, 5, 6, 7] rfl) (by rw [e1, e2]))
        · refine lv_iload hx hb dX5_crossed_33 (lv_at hl 2 rfl) ?_
          refine lv_iload hx hb dX5_crossed_35 (lv_at hl 3 rfl) ?_
          refine lv_iadd hx hb dX5_crossed_37 ?_
          refine lv_istore (lv' := [(8, .int (he + (if 180 < (s_X5_east o1 o2) then (-1) else 1))), (7, .int da), (6, .int se), (5, .int he), (4, .int (if 180 < (s_X5_east o1 o2) then (-1) else 1)), (0, .ref qg), (1, .int o1), (2, .int o2), (3, .int li)]) hx hb dX5_crossed_38 hl (by decide) rfl (fun ls hl => ?_)
          refine lv_iload hx hb dX5_crossed_40 (lv_at hl 0 rfl) ?_
          refine lv_sipush (v := 179) hx hb dX5_crossed_42 (by decide) ?_
          have K18 : ∀ v18_0 : Int32, v18_0 = (if 179 < (he + (if 180 < (s_X5_east o1 o2) then (-1) else 1)) then 1 else (if (-180) ≤ (he + (if 180 < (s_X5_east o1 o2) then (-1) else 1)) then 0 else 1)) → ∀ (H : Heap) (locs : List Loc), va_P D vwCl [(qg, .inr (5, [.ref qgw, .ref qgh, .ref qgt, .int br, .int jC, .int jR, .int nf, .ref qgx, .ref qgy, .ref qgz, .ref qgu, .int th]))] H → va_S (fun _ : Nat => False) s.heap H locs → ∀ (ls : Array Slot), lv_has ls 10 [(8, .int (he + (if 180 < (s_X5_east o1 o2) then (-1) else 1))), (7, .int da), (6, .int se), (5, .int he), (4, .int (if 180 < (s_X5_east o1 o2) then (-1) else 1)), (0, .ref qg), (1, .int o1), (2, .int o2), (3, .int li)] → W p l e (headSpec wsX5_crossed rm_X5_crossed).room s m ([.ref qg, .int o1, .int o2, .int li]).toArray below meth c H locs 0 0 (MQ below (Qc_X5_crossed D cI cZ cJ cD qg qgw qgh qgt br jC jR nf qgx qgy qgz qgu th o1 o2 li) ([.ref qg, .int o1, .int o2, .int li]).toArray s 0 0 (fun _ : Nat => False)) (F0 m 61 ls [.int v18_0]) := by
            intro v18_0 hv18_0 H locs hP hS ls hl
            subst hv18_0
            refine lv_istore (lv' := [(9, .int (if 179 < (he + (if 180 < (s_X5_east o1 o2) then (-1) else 1)) then 1 else (if (-180) ≤ (he + (if 180 < (s_X5_east o1 o2) then (-1) else 1)) then 0 else 1))), (8, .int (he + (if 180 < (s_X5_east o1 o2) then (-1) else 1))), (7, .int da), (6, .int se), (5, .int he), (4, .int (if 180 < (s_X5_east o1 o2) then (-1) else 1)), (0, .ref qg), (1, .int o1), (2, .int o2), (3, .int li)]) hx hb dX5_crossed_61 hl (by decide) rfl (fun ls hl => ?_)
            refine lv_iload hx hb dX5_crossed_63 (lv_at hl 1 rfl) ?_
            refine lv_sipush (v := 179) hx hb dX5_crossed_65 (by decide) ?_
            have K20 : ∀ v20_0 : Int32, v20_0 = (if (he + (if 180 < (s_X5_east o1 o2) then (-1) else 1)) ≤ 179 then (if (-180) ≤ (he + (if 180 < (s_X5_east o1 o2) then (-1) else 1)) then he + (if 180 < (s_X5_east o1 o2) then (-1) else 1) else 179) else (-180)) → ∀ (H : Heap) (locs : List Loc), va_P D vwCl [(qg, .inr (5, [.ref qgw, .ref qgh, .ref qgt, .int br, .int jC, .int jR, .int nf, .ref qgx, .ref qgy, .ref qgz, .ref qgu, .int th]))] H → va_S (fun _ : Nat => False) s.heap H locs → ∀ (ls : Array Slot), lv_has ls 10 [(9, .int (if 179 < (he + (if 180 < (s_X5_east o1 o2) then (-1) else 1)) then 1 else (if (-180) ≤ (he + (if 180 < (s_X5_east o1 o2) then (-1) else 1)) then 0 else 1))), (8, .int (he + (if 180 < (s_X5_east o1 o2) then (-1) else 1))), (7, .int da), (6, .int se), (5, .int he), (4, .int (if 180 < (s_X5_east o1 o2) then (-1) else 1)), (0, .ref qg), (1, .int o1), (2, .int o2), (3, .int li)] → W p l e (headSpec wsX5_crossed rm_X5_crossed).room s m ([.ref qg, .int o1, .int o2, .int li]).toArray below meth c H locs 0 0 (MQ below (Qc_X5_crossed D cI cZ cJ cD qg qgw qgh qgt br jC jR nf qgx qgy qgz qgu th o1 o2 li) ([.ref qg, .int o1, .int o2, .int li]).toArray s 0 0 (fun _ : Nat => False)) (F0 m 93 ls [.int v20_0]) := by
              intro v20_0 hv20_0 H locs hP hS ls hl
              subst hv20_0
              refine lv_istore (lv' := [(8, .int (if (he + (if 180 < (s_X5_east o1 o2) then (-1) else 1)) ≤ 179 then (if (-180) ≤ (he + (if 180 < (s_X5_east o1 o2) then (-1) else 1)) then he + (if 180 < (s_X5_east o1 o2) then (-1) else 1) else 179) else (-180))), (9, .int (if 179 < (he + (if 180 < (s_X5_east o1 o2) then (-1) else 1)) then 1 else (if (-180) ≤ (he + (if 180 < (s_X5_east o1 o2) then (-1) else 1)) then 0 else 1))), (7, .int da), (6, .int se), (5, .int he), (4, .int (if 180 < (s_X5_east o1 o2) then (-1) else 1)), (0, .ref qg), (1, .int o1), (2, .int o2), (3, .int li)]) hx hb dX5_crossed_93 hl (by decide) rfl (fun ls hl => ?_)
              refine lv_iload hx hb dX5_crossed_95 (lv_at hl 2 rfl) ?_
              refine lv_iload hx hb dX5_crossed_97 (lv_at hl 1 rfl) ?_
              have K22 : ∀ v22_0 : Int32, v22_0 = (if (if 179 < (he + (if 180 < (s_X5_east o1 o2) then (-1) else 1)) then 1 else (if (-180) ≤ (he + (if 180 < (s_X5_east o1 o2) then (-1) else 1)) then 0 else 1)) = (0 : Int32) then 0 else (if 180 < (s_X5_east o1 o2) then (-1) else 1)) → ∀ (H : Heap) (locs : List Loc), va_P D vwCl [(qg, .inr (5, [.ref qgw, .ref qgh, .ref qgt, .int br, .int jC, .int jR, .int nf, .ref qgx, .ref qgy, .ref qgz, .ref qgu, .int th]))] H → va_S (fun _ : Nat => False) s.heap H locs → ∀ (ls : Array Slot), lv_has ls 10 [(8, .int (if (he + (if 180 < (s_X5_east o1 o2) then (-1) else 1)) ≤ 179 then (if (-180) ≤ (he + (if 180 < (s_X5_east o1 o2) then (-1) else 1)) then he + (if 180 < (s_X5_east o1 o2) then (-1) else 1) else 179) else (-180))), (9, .int (if 179 < (he + (if 180 < (s_X5_east o1 o2) then (-1) else 1)) then 1 else (if (-180) ≤ (he + (if 180 < (s_X5_east o1 o2) then (-1) else 1)) then 0 else 1))), (7, .int da), (6, .int se), (5, .int he), (4, .int (if 180 < (s_X5_east o1 o2) then (-1) else 1)), (0, .ref qg), (1, .int o1), (2, .int o2), (3, .int li)] → W p l e (headSpec wsX5_crossed rm_X5_crossed).room s m ([.ref qg, .int o1, .int o2, .int li]).toArray below meth c H locs 0 0 (MQ below (Qc_X5_crossed D cI cZ cJ cD qg qgw qgh qgt br jC jR nf qgx qgy qgz qgu th o1 o2 li) ([.ref qg, .int o1, .int o2, .int li]).toArray s 0 0 (fun _ : Nat => False)) (F0 m 108 ls [.int v22_0, .int da]) := by
                intro v22_0 hv22_0 H locs hP hS ls hl
                subst hv22_0
                refine lv_iadd hx hb dX5_crossed_108 ?_
                refine lv_istore (lv' := [(7, .int (da + (if (if 179 < (he + (if 180 < (s_X5_east o1 o2) then (-1) else 1)) then 1 else (if (-180) ≤ (he + (if 180 < (s_X5_east o1 o2) then (-1) else 1)) then 0 else 1)) = (0 : Int32) then 0 else (if 180 < (s_X5_east o1 o2) then (-1) else 1)))), (8, .int (if (he + (if 180 < (s_X5_east o1 o2) then (-1) else 1)) ≤ 179 then (if (-180) ≤ (he + (if 180 < (s_X5_east o1 o2) then (-1) else 1)) then he + (if 180 < (s_X5_east o1 o2) then (-1) else 1) else 179) else (-180))), (9, .int (if 179 < (he + (if 180 < (s_X5_east o1 o2) then (-1) else 1)) then 1 else (if (-180) ≤ (he + (if 180 < (s_X5_east o1 o2) then (-1) else 1)) then 0 else 1))), (6, .int se), (5, .int he), (4, .int (if 180 < (s_X5_east o1 o2) then (-1) else 1)), (0, .ref qg), (1, .int o1), (2, .int o2), (3, .int li)]) hx hb dX5_crossed_109 hl (by decide) rfl (fun ls hl => ?_)
                refine lv_iload hx hb dX5_crossed_111 (lv_at hl 3 rfl) ?_
                refine lv_iload hx hb dX5_crossed_113 (lv_at hl 2 rfl) ?_
                have K24 : ∀ v24_0 : Int32, v24_0 = (if (if 179 < (he + (if 180 < (s_X5_east o1 o2) then (-1) else 1)) then 1 else (if (-180) ≤ (he + (if 180 < (s_X5_east o1 o2) then (-1) else 1)) then 0 else 1)) = (0 : Int32) then (if (s_X5_zoneOf br he) = (s_X5_zoneOf br (if (he + (if 180 < (s_X5_east o1 o2) then (-1) else 1)) ≤ 179 then (if (-180) ≤ (he + (if 180 < (s_X5_east o1 o2) then (-1) else 1)) then he + (if 180 < (s_X5_east o1 o2) then (-1) else 1) else 179) else (-180))) then 0 else 1) else 1) → ∀ (H : Heap) (locs : List Loc), va_P D vwCl [(qg, .inr (5, [.ref qgw, .ref qgh, .ref qgt, .int br, .int jC, .int jR, .int nf, .ref qgx, .ref qgy, .ref qgz, .ref qgu, .int th]))] H → va_S (fun _ : Nat => False) s.heap H locs → ∀ (ls : Array Slot), lv_has ls 10 [(7, .int (da + (if (if 179 < (he + (if 180 < (s_X5_east o1 o2) then (-1) else 1)) then 1 else (if (-180) ≤ (he + (if 180 < (s_X5_east o1 o2) then (-1) else 1)) then 0 else 1)) = (0 : Int32) then 0 else (if 180 < (s_X5_east o1 o2) then (-1) else 1)))), (8, .int (if (he + (if 180 < (s_X5_east o1 o2) then (-1) else 1)) ≤ 179 then (if (-180) ≤ (he + (if 180 < (s_X5_east o1 o2) then (-1) else 1)) then he + (if 180 < (s_X5_east o1 o2) then (-1) else 1) else 179) else (-180))), (9, .int (if 179 < (he + (if 180 < (s_X5_east o1 o2) then (-1) else 1)) then 1 else (if (-180) ≤ (he + (if 180 < (s_X5_east o1 o2) then (-1) else 1)) then 0 else 1))), (6, .int se), (5, .int he), (4, .int (if 180 < (s_X5_east o1 o2) then (-1) else 1)), (0, .ref qg), (1, .int o1), (2, .int o2), (3, .int li)] → W p l e (headSpec wsX5_crossed rm_X5_crossed).room s m ([.ref qg, .int o1, .int o2, .int li]).toArray below meth c H locs 0 0 (MQ below (Qc_X5_crossed D cI cZ cJ cD qg qgw qgh qgt br jC jR nf qgx qgy qgz qgu th o1 o2 li) ([.ref qg, .int o1, .int o2, .int li]).toArray s 0 0 (fun _ : Nat => False)) (F0 m 138 ls [.int v24_0, .int se]) := by
                  intro v24_0 hv24_0 H locs hP hS ls hl
                  subst hv24_0
                  refine lv_iadd hx hb dX5_crossed_138 ?_
                  refine lv_istore (lv' := [(6, .int (se + (if (if 179 < (he + (if 180 < (s_X5_east o1 o2) then (-1) else 1)) then 1 else (if (-180) ≤ (he + (if 180 < (s_X5_east o1 o2) then (-1) else 1)) then 0 else 1)) = (0 : Int32) then (if (s_X5_zoneOf br he) = (s_X5_zoneOf br (if (he + (if 180 < (s_X5_east o1 o2) then (-1) else 1)) ≤ 179 then (if (-180) ≤ (he + (if 180 < (s_X5_east o1 o2) then (-1) else 1)) then he + (if 180 < (s_X5_east o1 o2) then (-1) else 1) else 179) else (-180))) then 0 else 1) else 1))), (7, .int (da + (if (if 179 < (he + (if 180 < (s_X5_east o1 o2) then (-1) else 1)) then 1 else (if (-180) ≤ (he + (if 180 < (s_X5_east o1 o2) then (-1) else 1)) then 0 else 1)) = (0 : Int32) then 0 else (if 180 < (s_X5_east o1 o2) then (-1) else 1)))), (8, .int (if (he + (if 180 < (s_X5_east o1 o2) then (-1) else 1)) ≤ 179 then (if (-180) ≤ (he + (if 180 < (s_X5_east o1 o2) then (-1) else 1)) then he + (if 180 < (s_X5_east o1 o2) then (-1) else 1) else 179) else (-180))), (9, .int (if 179 < (he + (if 180 < (s_X5_east o1 o2) then (-1) else 1)) then 1 else (if (-180) ≤ (he + (if 180 < (s_X5_east o1 o2) then (-1) else 1)) then 0 else 1))), (5, .int he), (4, .int (if 180 < (s_X5_east o1 o2) then (-1) else 1)), (0, .ref qg), (1, .int o1), (2, .int o2), (3, .int li)]) hx hb dX5_crossed_139 hl (by decide) rfl (fun ls hl => ?_)
                  refine lv_iload hx hb dX5_crossed_141 (lv_at hl 2 rfl) ?_
                  refine lv_istore (lv' := [(5, .int (if (he + (if 180 < (s_X5_east o1 o2) then (-1) else 1)) ≤ 179 then (if (-180) ≤ (he + (if 180 < (s_X5_east o1 o2) then (-1) else 1)) then he + (if 180 < (s_X5_east o1 o2) then (-1) else 1) else 179) else (-180))), (6, .int (se + (if (if 179 < (he + (if 180 < (s_X5_east o1 o2) then (-1) else 1)) then 1 else (if (-180) ≤ (he + (if 180 < (s_X5_east o1 o2) then (-1) else 1)) then 0 else 1)) = (0 : Int32) then (if (s_X5_zoneOf br he) = (s_X5_zoneOf br (if (he + (if 180 < (s_X5_east o1 o2) then (-1) else 1)) ≤ 179 then (if (-180) ≤ (he + (if 180 < (s_X5_east o1 o2) then (-1) else 1)) then he + (if 180 < (s_X5_east o1 o2) then (-1) else 1) else 179) else (-180))) then 0 else 1) else 1))), (7, .int (da + (if (if 179 < (he + (if 180 < (s_X5_east o1 o2) then (-1) else 1)) then 1 else (if (-180) ≤ (he + (if 180 < (s_X5_east o1 o2) then (-1) else 1)) then 0 else 1)) = (0 : Int32) then 0 else (if 180 < (s_X5_east o1 o2) then (-1) else 1)))), (8, .int (if (he + (if 180 < (s_X5_east o1 o2) then (-1) else 1)) ≤ 179 then (if (-180) ≤ (he + (if 180 < (s_X5_east o1 o2) then (-1) else 1)) then he + (if 180 < (s_X5_east o1 o2) then (-1) else 1) else 179) else (-180))), (9, .int (if 179 < (he + (if 180 < (s_X5_east o1 o2) then (-1) else 1)) then 1 else (if (-180) ≤ (he + (if 180 < (s_X5_east o1 o2) then (-1) else 1)) then 0 else 1))), (4, .int (if 180 < (s_X5_east o1 o2) then (-1) else 1)), (0, .ref qg), (1, .int o1), (2, .int o2), (3, .int li)]) hx hb dX5_crossed_143 hl (by decide) rfl (fun ls hl => ?_)
                  refine lv_goto (tgt := 27) hx hb dX5_crossed_145 (by decide) ?_
                  have hz9 : ¬ rr = 0 := fun e9 => c16 ((cr_eq cr_sg hh h2o).mp (hrem.trans e9))
                  obtain ⟨r8, hr8⟩ : ∃ r8, rr = r8 + 1 := ⟨rr - 1, by omega⟩
                  subst hr8
                  exact ih11 r8 _ _ _ (cr_nxR cr_sg hh) (cr_st cr_sg hh h2o hrem) hres (by omega) _ _ hP hS _ (lv_sub hl [2, 1, 0, 5, 6, 7, 8, 9] rfl)
                refine lv_if_ne (tgt := 133) hx hb dX5_crossed_115 (by decide) (fun c25 => ?_) (fun c25 => ?_)
                · refine lv_iconst (v := 1) hx hb dX5_crossed_133 (by decide) ?_
                  refine lv_goto (tgt := 138) hx hb dX5_crossed_134 (by decide) ?_
                  exact K24 _ (if_neg c25).symm _ _ hP hS _ (lv_sub hl [0, 1, 2, 3, 4, 5, 6, 7, 8, 9] rfl)
                · refine lv_aload_n hx hb dX5_crossed_118 rfl (lv_at hl 6 rfl) ?_
                  refine lv_iload hx hb dX5_crossed_119 (lv_at hl 4 rfl) ?_
                  refine va_calli (va_runV (As := [.int he]) (rest := [.int se]) ⟨hx, hb, hml, hown, hts⟩ (c_X5_zoneOf l D cI cZ cJ cD qg qgw qgh qgt br jC jR nf qgx qgy qgz qgu th he hbr) (cwV 1 hts gX5_crossed_X5_zoneOf rfl rfl rfl (by decide +kernel) ⟨Nat.le_of_ble_eq_true rfl, Nat.le_of_ble_eq_true rfl⟩) ⟨zblind, va_recv hK hP (ci := 5) (q0 := 0) rfl rfl, (fun U hU hW => ⟨rfl, by rw [hU]; exact hP.sub (ws' := [(qg, .inr (5, [.ref qgw, .ref qgh, .ref qgt, .int br, .int jC, .int jR, .int nf, .ref qgx, .ref qgy, .ref qgz, .ref qgu, .int th]))]) [0] rfl, va_K.moved hW.alike hK⟩)⟩ rfl rfl hl.1 rfl (lv_room (Nat.le_of_ble_eq_true rfl)) dX5_crossed_121 ⟨Nat.le_of_ble_eq_true rfl, Nat.le_of_ble_eq_true rfl⟩) hS (fun q _ h => h.elim) (fun q h => h.elim) (fun r26 u t H locs ht hvm hw hB hz1 hk1 hS => ?_)
                  rw [hw]
                  have hP := zk hP hk1
                  refine lv_aload_n hx hb dX5_crossed_124 rfl (lv_at hl 6 rfl) ?_
                  refine lv_iload hx hb dX5_crossed_125 (lv_at hl 1 rfl) ?_
                  refine va_calli (va_runV (As := [.int (if (he + (if 180 < (s_X5_east o1 o2) then (-1) else 1)) ≤ 179 then (if (-180) ≤ (he + (if 180 < (s_X5_east o1 o2) then (-1) else 1)) then he + (if 180 < (s_X5_east o1 o2) then (-1) else 1) else 179) else (-180))]) (rest := [.int (s_X5_zoneOf br he), .int se]) ⟨hx, hb, hml, hown, hts⟩ (c_X5_zoneOf l D cI cZ cJ cD qg qgw qgh qgt br jC jR nf qgx qgy qgz qgu th (if (he + (if 180 < (s_X5_east o1 o2) then (-1) else 1)) ≤ 179 then (if (-180) ≤ (he + (if 180 < (s_X5_east o1 o2) then (-1) else 1)) then he + (if 180 < (s_X5_east o1 o2) then (-1) else 1) else 179) else (-180)) hbr) (cwV 1 hts gX5_crossed_X5_zoneOf rfl rfl rfl (by decide +kernel) ⟨Nat.le_of_ble_eq_true rfl, Nat.le_of_ble_eq_true rfl⟩) ⟨zblind, va_recv hK hP (ci := 5) (q0 := 0) rfl rfl, (fun U hU hW => ⟨rfl, by rw [hU]; exact hP.sub (ws' := [(qg, .inr (5, [.ref qgw, .ref qgh, .ref qgt, .int br, .int jC, .int jR, .int nf, .ref qgx, .ref qgy, .ref qgz, .ref qgu, .int th]))]) [0] rfl, va_K.moved hW.alike hK⟩)⟩ rfl rfl hl.1 rfl (lv_room (Nat.le_of_ble_eq_true rfl)) dX5_crossed_127 ⟨Nat.le_of_ble_eq_true rfl, Nat.le_of_ble_eq_true rfl⟩) hS (fun q _ h => h.elim) (fun q h => h.elim) (fun r27 u t H locs ht hvm hw hB hz1 hk1 hS => ?_)
                  rw [hw]
                  have hP := zk hP hk1
                  refine lv_icmp_eq (tgt := 137) hx hb dX5_crossed_130 (by decide) (fun c28 => ?_) (fun c28 => ?_)
                  · refine lv_iconst (v := 0) hx hb dX5_crossed_137 (by decide) ?_
                    exact K24 _ ((if_pos c25).trans (if_pos c28)).symm _ _ hP hS _ (lv_sub hl [0, 1, 2, 3, 4, 5, 6, 7, 8, 9] rfl)
                  · refine lv_iconst (v := 1) hx hb dX5_crossed_133 (by decide) ?_
                    refine lv_goto (tgt := 138) hx hb dX5_crossed_134 (by decide) ?_
                    exact K24 _ ((if_pos c25).trans (if_neg c28)).symm _ _ hP hS _ (lv_sub hl [0, 1, 2, 3, 4, 5, 6, 7, 8, 9] rfl)
              refine lv_if_eq (tgt := 107) hx hb dX5_crossed_99 (by decide) (fun c29 => ?_) (fun c29 => ?_)
              · refine lv_iconst (v := 0) hx hb dX5_crossed_107 (by decide) ?_
                exact K22 _ (if_pos c29).symm _ _ hP hS _ (lv_sub hl [0, 1, 2, 3, 4, 5, 6, 7, 8, 9] rfl)
              · refine lv_iload hx hb dX5_crossed_102 (lv_at hl 5 rfl) ?_
                refine lv_goto (tgt := 108) hx hb dX5_crossed_104 (by decide) ?_
                exact K22 _ (if_neg c29).symm _ _ hP hS _ (lv_sub hl [0, 1, 2, 3, 4, 5, 6, 7, 8, 9] rfl)
            refine lv_icmp_le (tgt := 77) hx hb dX5_crossed_68 (by decide) (fun c30 => ?_) (fun c30 => ?_)
            · refine lv_iload hx hb dX5_crossed_77 (lv_at hl 1 rfl) ?_
              refine lv_sipush (v := (-180)) hx hb dX5_crossed_79 (by decide) ?_
              refine lv_icmp_ge (tgt := 91) hx hb dX5_crossed_82 (by decide) (fun c31 => ?_) (fun c31 => ?_)
              · refine lv_iload hx hb dX5_crossed_91 (lv_at hl 1 rfl) ?_
                exact K20 _ ((if_pos c30).trans (if_pos c31)).symm _ _ hP hS _ (lv_sub hl [0, 1, 2, 3, 4, 5, 6, 7, 8, 9] rfl)
              · refine lv_sipush (v := 179) hx hb dX5_crossed_85 (by decide) ?_
                refine lv_goto (tgt := 93) hx hb dX5_crossed_88 (by decide) ?_
                exact K20 _ ((if_pos c30).trans (if_neg c31)).symm _ _ hP hS _ (lv_sub hl [0, 1, 2, 3, 4, 5, 6, 7, 8, 9] rfl)
            · refine lv_sipush (v := (-180)) hx hb dX5_crossed_71 (by decide) ?_
              refine lv_goto (tgt := 93) hx hb dX5_crossed_74 (by decide) ?_
              exact K20 _ (if_neg c30).symm _ _ hP hS _ (lv_sub hl [0, 1, 2, 3, 4, 5, 6, 7, 8, 9] rfl)
          refine lv_icmp_gt (tgt := 56) hx hb dX5_crossed_45 (by decide) (fun c32 => ?_) (fun c32 => ?_)
          · refine lv_iconst (v := 1) hx hb dX5_crossed_56 (by decide) ?_
            refine lv_goto (tgt := 61) hx hb dX5_crossed_57 (by decide) ?_
            exact K18 _ (if_pos c32).symm _ _ hP hS _ (lv_sub hl [0, 1, 2, 3, 4, 5, 6, 7, 8] rfl)
          · refine lv_iload hx hb dX5_crossed_48 (lv_at hl 0 rfl) ?_
            refine lv_sipush (v := (-180)) hx hb dX5_crossed_50 (by decide) ?_
            refine lv_icmp_ge (tgt := 60) hx hb dX5_crossed_53 (by decide) (fun c33 => ?_) (fun c33 => ?_)
            · refine lv_iconst (v := 0) hx hb dX5_crossed_60 (by decide) ?_
              exact K18 _ ((if_neg c32).trans (if_pos c33)).symm _ _ hP hS _ (lv_sub hl [0, 1, 2, 3, 4, 5, 6, 7, 8] rfl)
            · refine lv_iconst (v := 1) hx hb dX5_crossed_56 (by decide) ?_
              refine lv_goto (tgt := 61) hx hb dX5_crossed_57 (by decide) ?_
              exact K18 _ ((if_neg c32).trans (if_neg c33)).symm _ _ hP hS _ (lv_sub hl [0, 1, 2, 3, 4, 5, 6, 7, 8] rfl)
    exact L11 360 (cr_rem (if 180 < (s_X5_east o1 o2) then (-1) else 1) o1 o2) o1 0 0 h1o rfl rfl cr_rl _ _ hP hS _ (zlv (lv_sub (l' := [(7, .int 0), (6, .int 0), (5, .int o1), (4, .int (if 180 < (s_X5_east o1 o2) then (-1) else 1)), (0, .ref qg), (1, .int o1), (2, .int o2), (3, .int li)]) hl [0, 1, 2, 3, 4, 5, 6, 7] rfl) (by rfl))
  refine lv_icmp_gt (tgt := 15) hx hb dX5_crossed_8 (by decide) (fun c34 => ?_) (fun c34 => ?_)
  · refine lv_iconst (v := (-1)) hx hb dX5_crossed_15 (by decide) ?_
    exact K10 _ (if_pos c34).symm _ _ hP hS _ (lv_sub hl [0, 1, 2, 3] rfl)
  · refine lv_iconst (v := 1) hx hb dX5_crossed_11 (by decide) ?_
    refine lv_goto (tgt := 16) hx hb dX5_crossed_12 (by decide) ?_
    exact K10 _ (if_neg c34).symm _ _ hP hS _ (lv_sub hl [0, 1, 2, 3] rfl)
def s_X5_seams (br : Int32) (o1 : Int32) (o2 : Int32) : Int32 := (if (s_X5_may (if (s_X5_isLongitude o1) = 0 then 0 else (if (s_X5_isLongitude o2) = 0 then 0 else 1))) = 0 then 0 else s_X5_crossed br o1 o2 0)
def n_X5_seams_qg_11 (o1 : Int32) (o2 : Int32) : Int32 := n_X5_may_qg_11 (if (s_X5_isLongitude o1) = 0 then 0 else (if (s_X5_isLongitude o2) = 0 then 0 else 1))
abbrev rm_X5_seams : Room := { frames := 2, cells := 0, slots := 0, locals := 50 }
abbrev Qc_X5_seams (D : va_G) (cI cZ cJ cD : ClassId) (qg : Nat) (qgw : Nat) (qgh : Nat) (qgt : Nat) (br : Int32) (jC : Int32) (jR : Int32) (nf : Int32) (qgx : Nat) (qgy : Nat) (qgz : Nat) (qgu : Nat) (th : Int32) (o1 : Int32) (o2 : Int32) (A : Nat → Prop) : Array Value → State → Outcome → State → Prop := va_Qi (fun (r : Int32) (_ : Unit) => r = s_X5_seams br o1 o2) (zPost D cI cZ cJ cD A [(qg, .inr (5, [.ref qgw, .ref qgh, .ref qgt, .int br, .int jC, .int jR, .int nf, .ref qgx, .ref qgy, .ref qgz, .ref qgu, .int (n_X5_seams_qg_11 o1 o2)]))]) A
set_option maxHeartbeats 1000000 in
set_option maxRecDepth 100000 in
theorem c_X5_seams (l : Launch) (D : va_G) (cI cZ cJ cD : ClassId) (qg : Nat) (qgw : Nat) (qgh : Nat) (qgt : Nat) (br : Int32) (jC : Int32) (jR : Int32) (nf : Int32) (qgx : Nat) (qgy : Nat) (qgz : Nat) (qgu : Nat) (th : Int32) (o1 : Int32) (o2 : Int32) (sz : Nat) (hbr : ¬ br = 0) : Met l yX5_seams wsX5_seams rm_X5_seams (va_Pc [.ref qg, .int o1, .int o2] (zPreW D cI cZ cJ cD [(qg, .inr (5, [.ref qgw, .ref qgh, .ref qgt, .int br, .int jC, .int jR, .int nf, .ref qgx, .ref qgy, .ref qgz, .ref qgu, .int th]))] sz)) (Qc_X5_seams D cI cZ cJ cD qg qgw qgh qgt br jC jR nf qgx qgy qgz qgu th o1 o2 (va_A [(qg, .inr (5, [.ref qgw, .ref qgh, .ref qgt, .int br, .int jC, .int jR, .int nf, .ref qgx, .ref qgy, .ref qgz, .ref qgu, .int th]))] sz)) 0 0 (va_A [(qg, .inr (5, [.ref qgw, .ref qgh, .ref qgt, .int br, .int jC, .int jR, .int nf, .ref qgx, .ref qgy, .ref qgz, .ref qgu, .int th]))] sz) := by
  refine Met.ofW (cc := cX5_seams) (maxL := 3) (ret := (some .int)) (by decide) rfl ?_
  intro p e s m args below meth c s₁ B hml hv
  obtain ⟨rfl, hsz, hP, hK, hD0⟩ := hv
  have hx := B.exec
  have hb := B.bytes
  have hr := B.returns
  have hts := atoms_spec (ws := wsX5_seams) B.pre
  have hown : s.vm.findClass RX5 = some m.cls := findClass_of_methodNamed B.named
  have hlocks := B.notSynchronized
  subst hsz
  have hD := hD0.self (sz := s.heap.size)
  generalize hAe : va_A [(qg, .inr (5, [.ref qgw, .ref qgh, .ref qgt, .int br, .int jC, .int jR, .int nf, .ref qgx, .ref qgy, .ref qgz, .ref qgu, .int th]))] s.heap.size = A at hD ⊢
  have hA : ∀ q : Nat, s.heap.size ≤ q → A q := fun q h => by rw [← hAe]; exact Or.inr h
  have hS : va_S A s.heap s.heap [] := va_S.rf
  have hl := lv_entry ([.ref qg, .int o1, .int o2]) (n := 3) (Nat.le_of_ble_eq_true rfl)
  rw [lg_entry_eq]
  generalize (lg_sl ([.ref qg, .int o1, .int o2]) ++ List.replicate (3 - (lg_sl ([.ref qg, .int o1, .int o2])).length) Slot.unset).toArray = ls at hl ⊢
  have hl : lv_has ls 3 [(0, .ref qg), (1, .int o1), (2, .int o2)] := hl
  have hP : va_P D vwCl [(qg, .inr (5, [.ref qgw, .ref qgh, .ref qgt, .int br, .int jC, .int jR, .int nf, .ref qgx, .ref qgy, .ref qgz, .ref qgu, .int th]))] s.heap := hP
  have hP := hP
  refine lv_aload_n hx hb dX5_seams_0 rfl (lv_at hl 0 rfl) ?_
  refine lv_iload_n hx hb dX5_seams_1 rfl (lv_at hl 1 rfl) ?_
  refine va_calli (va_runS (As := [.int o1]) (rest := [.ref qg]) ⟨hx, hb, hml, hown, hts⟩ (c_X5_isLongitude l D cI cZ cJ cD o1 ) (va_cwS 1 hts gX5_seams_X5_isLongitude rfl rfl rfl (by decide +kernel) ⟨Nat.le_of_ble_eq_true rfl, Nat.le_of_ble_eq_true rfl⟩) ⟨zblind, (fun U hU hW => ⟨rfl, by rw [hU]; exact hP.sub (ws' := []) [] rfl, va_K.moved hW.alike hK⟩)⟩ rfl rfl hl.1 rfl (lv_room (Nat.le_of_ble_eq_true rfl)) dX5_seams_2 ⟨Nat.le_of_ble_eq_true rfl, Nat.le_of_ble_eq_true rfl⟩) hS (fun q _ h => h.elim) (fun q h => h.elim) (fun r12 u t H locs ht hvm hw hB hz1 hk1 hS => ?_)
  rw [hw]
  have hP := zk hP hk1
  have K14 : ∀ v14_0 : Int32, v14_0 = (if (s_X5_isLongitude o1) = 0 then 0 else (if (s_X5_isLongitude o2) = 0 then 0 else 1)) → ∀ (H : Heap) (locs : List Loc), va_P D vwCl [(qg, .inr (5, [.ref qgw, .ref qgh, .ref qgt, .int br, .int jC, .int jR, .int nf, .ref qgx, .ref qgy, .ref qgz, .ref qgu, .int th]))] H → va_D A [(qg, .inr (5, [.ref qgw, .ref qgh, .ref qgt, .int br, .int jC, .int jR, .int nf, .ref qgx, .ref qgy, .ref qgz, .ref qgu, .int th]))] → va_S A s.heap H locs → ∀ (ls : Array Slot), lv_has ls 3 [(0, .ref qg), (1, .int o1), (2, .int o2)] → W p l e (headSpec wsX5_seams rm_X5_seams).room s m ([.ref qg, .int o1, .int o2]).toArray below meth c H locs 0 0 (MQ below (Qc_X5_seams D cI cZ cJ cD qg qgw qgh qgt br jC jR nf qgx qgy qgz qgu th o1 o2 A) ([.ref qg, .int o1, .int o2]).toArray s 0 0 A) (F0 m 20 ls [.int v14_0, .ref qg]) := by
    intro v14_0 hv14_0 H locs hP hD hS ls hl
    subst hv14_0
    have hPc := hP.sub (ws' := [(qg, .inr (5, [.ref qgw, .ref qgh, .ref qgt, .int br, .int jC, .int jR, .int nf, .ref qgx, .ref qgy, .ref qgz, .ref qgu, .int th]))]) [0] rfl
    have hDc := hD.sub (ws' := [(qg, .inr (5, [.ref qgw, .ref qgh, .ref qgt, .int br, .int jC, .int jR, .int nf, .ref qgx, .ref qgy, .ref qgz, .ref qgu, .int th]))]) [0] (by decide) rfl
    have hFc := va_free (wc := [(qg, .inr (5, [.ref qgw, .ref qgh, .ref qgt, .int br, .int jC, .int jR, .int nf, .ref qgx, .ref qgy, .ref qgz, .ref qgu, .int th]))]) hD hS hA [0] rfl
    refine va_calli (va_runV (As := [.int (if (s_X5_isLongitude o1) = 0 then 0 else (if (s_X5_isLongitude o2) = 0 then 0 else 1))]) (rest := []) ⟨hx, hb, hml, hown, hts⟩ (c_X5_may l D cI cZ cJ cD qg qgw qgh qgt br jC jR nf qgx qgy qgz qgu th (if (s_X5_isLongitude o1) = 0 then 0 else (if (s_X5_isLongitude o2) = 0 then 0 else 1)) H.size (by (repeat' split) <;> simp)) (cwV 1 hts gX5_seams_X5_may rfl rfl rfl (by decide +kernel) ⟨Nat.le_of_ble_eq_true rfl, Nat.le_of_ble_eq_true rfl⟩) ⟨zblindW, va_recv hK hP (ci := 5) (q0 := 0) rfl rfl, (fun U hU hW => ⟨rfl, by rw [hU], by rw [hU]; exact hPc, va_K.moved hW.alike hK, hDc.weaken (fun _ _ _ _ => trivial)⟩)⟩ rfl rfl hl.1 rfl (lv_room (Nat.le_of_ble_eq_true rfl)) dX5_seams_20 ⟨Nat.le_of_ble_eq_true rfl, Nat.le_of_ble_eq_true rfl⟩) hS (fun q _ h => hFc q h) hFc (fun r15 u t H locs ht hvm hw hB hz1 hk1 hS => ?_)
    rw [hw]
    obtain ⟨hP1, hK1, hD1⟩ := hB
    rw [ht] at hP1
    obtain ⟨hP, hD⟩ := va_join (wr := []) (w1 := [(qg, .inr (5, [.ref qgw, .ref qgh, .ref qgt, .int br, .int jC, .int jR, .int nf, .ref qgx, .ref qgy, .ref qgz, .ref qgu, .int (n_X5_may_qg_11 (if (s_X5_isLongitude o1) = 0 then 0 else (if (s_X5_isLongitude o2) = 0 then 0 else 1)))]))]) hP hD [0] [] rfl rfl (by decide) (by decide) hk1 hFc hP1 hD1
    have hP := hP.sub (ws' := [(qg, .inr (5, [.ref qgw, .ref qgh, .ref qgt, .int br, .int jC, .int jR, .int nf, .ref qgx, .ref qgy, .ref qgz, .ref qgu, .int (n_X5_may_qg_11 (if (s_X5_isLongitude o1) = 0 then 0 else (if (s_X5_isLongitude o2) = 0 then 0 else 1)))]))]) [0] rfl
    have hD := hD.sub (ws' := [(qg, .inr (5, [.ref qgw, .ref qgh, .ref qgt, .int br, .int jC, .int jR, .int nf, .ref qgx, .ref qgy, .ref qgz, .ref qgu, .int (n_X5_may_qg_11 (if (s_X5_isLongitude o1) = 0 then 0 else (if (s_X5_isLongitude o2) = 0 then 0 else 1)))]))]) [0] (by decide) rfl
    have K17 : ∀ v17_0 : Int32, v17_0 = (if (s_X5_may (if (s_X5_isLongitude o1) = 0 then 0 else (if (s_X5_isLongitude o2) = 0 then 0 else 1))) = 0 then 0 else s_X5_crossed br o1 o2 0) → ∀ (H : Heap) (locs : List Loc), va_P D vwCl [(qg, .inr (5, [.ref qgw, .ref qgh, .ref qgt, .int br, .int jC, .int jR, .int nf, .ref qgx, .ref qgy, .ref qgz, .ref qgu, .int (n_X5_may_qg_11 (if (s_X5_isLongitude o1) = 0 then 0 else (if (s_X5_isLongitude o2) = 0 then 0 else 1)))]))] H → va_D A [(qg, .inr (5, [.ref qgw, .ref qgh, .ref qgt, .int br, .int jC, .int jR, .int nf, .ref qgx, .ref qgy, .ref qgz, .ref qgu, .int (n_X5_may_qg_11 (if (s_X5_isLongitude o1) = 0 then 0 else (if (s_X5_isLongitude o2) = 0 then 0 else 1)))]))] → va_S A s.heap H locs → ∀ (ls : Array Slot), lv_has ls 3 [(0, .ref qg), (1, .int o1), (2, .int o2)] → W p l e (headSpec wsX5_seams rm_X5_seams).room s m ([.ref qg, .int o1, .int o2]).toArray below meth c H locs 0 0 (MQ below (Qc_X5_seams D cI cZ cJ cD qg qgw qgh qgt br jC jR nf qgx qgy qgz qgu th o1 o2 A) ([.ref qg, .int o1, .int o2]).toArray s 0 0 A) (F0 m 37 ls [.int v17_0]) := by
      intro v17_0 hv17_0 H locs hP hD hS ls hl
      subst hv17_0
      have e18 : s_X5_seams br o1 o2 = (if (s_X5_may (if (s_X5_isLongitude o1) = 0 then 0 else (if (s_X5_isLongitude o2) = 0 then 0 else 1))) = 0 then 0 else s_X5_crossed br o1 o2 0) := rfl
      have e19 : n_X5_seams_qg_11 o1 o2 = n_X5_may_qg_11 (if (s_X5_isLongitude o1) = 0 then 0 else (if (s_X5_isLongitude o2) = 0 then 0 else 1)) := rfl
      exact W.iret (v := (if (s_X5_may (if (s_X5_isLongitude o1) = 0 then 0 else (if (s_X5_isLongitude o2) = 0 then 0 else 1))) = 0 then 0 else s_X5_crossed br o1 o2 0)) hx hb hr (fun t ht hW => ⟨⟨_, (), rfl, e18.symm, ⟨(by rw [e19]; rw [ht]; exact hP), va_K.moved hW.alike hK, (by rw [e19]; exact hD)⟩⟩, hS.F ht⟩) hS.2.2 dX5_seams_37
    refine lv_if_eq (tgt := 36) hx hb dX5_seams_23 (by decide) (fun c20 => ?_) (fun c20 => ?_)
    · refine lv_iconst (v := 0) hx hb dX5_seams_36 (by decide) ?_
      exact K17 _ (if_pos c20).symm _ _ hP hD hS _ (lv_sub hl [0, 1, 2] rfl)
    · refine lv_aload_n hx hb dX5_seams_26 rfl (lv_at hl 0 rfl) ?_
      refine lv_iload_n hx hb dX5_seams_27 rfl (lv_at hl 1 rfl) ?_
      refine lv_iload_n hx hb dX5_seams_28 rfl (lv_at hl 2 rfl) ?_
      refine lv_iconst (v := 0) hx hb dX5_seams_29 (by decide) ?_
      refine va_calli (va_runV (As := [.int o1, .int o2, .int 0]) (rest := []) ⟨hx, hb, hml, hown, hts⟩ (c_X5_crossed l D cI cZ cJ cD qg qgw qgh qgt br jC jR nf qgx qgy qgz qgu (n_X5_may_qg_11 (if (s_X5_isLongitude o1) = 0 then 0 else (if (s_X5_isLongitude o2) = 0 then 0 else 1))) o1 o2 0 hbr (z_lon (z_n1 c20)) (z_lon (z_n1 (z_n2 c20)))) (cwV 3 hts gX5_seams_X5_crossed rfl rfl rfl (by decide +kernel) ⟨Nat.le_of_ble_eq_true rfl, Nat.le_of_ble_eq_true rfl⟩) ⟨zblind, va_recv hK hP (ci := 5) (q0 := 0) rfl rfl, (fun U hU hW => ⟨rfl, by rw [hU]; exact hP.sub (ws' := [(qg, .inr (5, [.ref qgw, .ref qgh, .ref qgt, .int br, .int jC, .int jR, .int nf, .ref qgx, .ref qgy, .ref qgz, .ref qgu, .int (n_X5_may_qg_11 (if (s_X5_isLongitude o1) = 0 then 0 else (if (s_X5_isLongitude o2) = 0 then 0 else 1)))]))]) [0] rfl, va_K.moved hW.alike hK⟩)⟩ rfl rfl hl.1 rfl (lv_room (Nat.le_of_ble_eq_true rfl)) dX5_seams_30 ⟨Nat.le_of_ble_eq_true rfl, Nat.le_of_ble_eq_true rfl⟩) hS (fun q _ h => h.elim) (fun q h => h.elim) (fun r21 u t H locs ht hvm hw hB hz1 hk1 hS => ?_)
      rw [hw]
      have hP := zk hP hk1
      refine lv_goto (tgt := 37) hx hb dX5_seams_33 (by decide) ?_
      exact K17 _ (if_neg c20).symm _ _ hP hD hS _ (lv_sub hl [0, 1, 2] rfl)
  refine lv_if_eq (tgt := 19) hx hb dX5_seams_5 (by decide) (fun c22 => ?_) (fun c22 => ?_)
  · refine lv_iconst (v := 0) hx hb dX5_seams_19 (by decide) ?_
    exact K14 _ (if_pos c22).symm _ _ hP hD hS _ (lv_sub hl [0, 1, 2] rfl)
  · refine lv_iload_n hx hb dX5_seams_8 rfl (lv_at hl 2 rfl) ?_
    refine va_calli (va_runS (As := [.int o2]) (rest := [.ref qg]) ⟨hx, hb, hml, hown, hts⟩ (c_X5_isLongitude l D cI cZ cJ cD o2 ) (va_cwS 1 hts gX5_seams_X5_isLongitude rfl rfl rfl (by decide +kernel) ⟨Nat.le_of_ble_eq_true rfl, Nat.le_of_ble_eq_true rfl⟩) ⟨zblind, (fun U hU hW => ⟨rfl, by rw [hU]; exact hP.sub (ws' := []) [] rfl, va_K.moved hW.alike hK⟩)⟩ rfl rfl hl.1 rfl (lv_room (Nat.le_of_ble_eq_true rfl)) dX5_seams_9 ⟨Nat.le_of_ble_eq_true rfl, Nat.le_of_ble_eq_true rfl⟩) hS (fun q _ h => h.elim) (fun q h => h.elim) (fun r23 u t H locs ht hvm hw hB hz1 hk1 hS => ?_)
    rw [hw]
    have hP := zk hP hk1
    refine lv_if_eq (tgt := 19) hx hb dX5_seams_12 (by decide) (fun c24 => ?_) (fun c24 => ?_)
    · refine lv_iconst (v := 0) hx hb dX5_seams_19 (by decide) ?_
      exact K14 _ ((if_neg c22).trans (if_pos c24)).symm _ _ hP hD hS _ (lv_sub hl [0, 1, 2] rfl)
    · refine lv_iconst (v := 1) hx hb dX5_seams_15 (by decide) ?_
      refine lv_goto (tgt := 20) hx hb dX5_seams_16 (by decide) ?_
      exact K14 _ ((if_neg c22).trans (if_neg c24)).symm _ _ hP hD hS _ (lv_sub hl [0, 1, 2] rfl)
def s_X5_dateLine (br : Int32) (o1 : Int32) (o2 : Int32) : Int32 := (if (s_X5_may (if (s_X5_isLongitude o1) = 0 then 0 else (if (s_X5_isLongitude o2) = 0 then 0 else 1))) = 0 then 0 else s_X5_crossed br o1 o2 1)
def n_X5_dateLine_qg_11 (o1 : Int32) (o2 : Int32) : Int32 := n_X5_may_qg_11 (if (s_X5_isLongitude o1) = 0 then 0 else (if (s_X5_isLongitude o2) = 0 then 0 else 1))
abbrev rm_X5_dateLine : Room := { frames := 2, cells := 0, slots := 0, locals := 50 }
abbrev Qc_X5_dateLine (D : va_G) (cI cZ cJ cD : ClassId) (qg : Nat) (qgw : Nat) (qgh : Nat) (qgt : Nat) (br : Int32) (jC : Int32) (jR : Int32) (nf : Int32) (qgx : Nat) (qgy : Nat) (qgz : Nat) (qgu : Nat) (th : Int32) (o1 : Int32) (o2 : Int32) (A : Nat → Prop) : Array Value → State → Outcome → State → Prop := va_Qi (fun (r : Int32) (_ : Unit) => r = s_X5_dateLine br o1 o2) (zPost D cI cZ cJ cD A [(qg, .inr (5, [.ref qgw, .ref qgh, .ref qgt, .int br, .int jC, .int jR, .int nf, .ref qgx, .ref qgy, .ref qgz, .ref qgu, .int (n_X5_dateLine_qg_11 o1 o2)]))]) A
set_option maxHeartbeats 1000000 in
set_option maxRecDepth 100000 in
theorem c_X5_dateLine (l : Launch) (D : va_G) (cI cZ cJ cD : ClassId) (qg : Nat) (qgw : Nat) (qgh : Nat) (qgt : Nat) (br : Int32) (jC : Int32) (jR : Int32) (nf : Int32) (qgx : Nat) (qgy : Nat) (qgz : Nat) (qgu : Nat) (th : Int32) (o1 : Int32) (o2 : Int32) (sz : Nat) (hbr : ¬ br = 0) : Met l yX5_dateLine wsX5_dateLine rm_X5_dateLine (va_Pc [.ref qg, .int o1, .int o2] (zPreW D cI cZ cJ cD [(qg, .inr (5, [.ref qgw, .ref qgh, .ref qgt, .int br, .int jC, .int jR, .int nf, .ref qgx, .ref qgy, .ref qgz, .ref qgu, .int th]))] sz)) (Qc_X5_dateLine D cI cZ cJ cD qg qgw qgh qgt br jC jR nf qgx qgy qgz qgu th o1 o2 (va_A [(qg, .inr (5, [.ref qgw, .ref qgh, .ref qgt, .int br, .int jC, .int jR, .int nf, .ref qgx, .ref qgy, .ref qgz, .ref qgu, .int th]))] sz)) 0 0 (va_A [(qg, .inr (5, [.ref qgw, .ref qgh, .ref qgt, .int br, .int jC, .int jR, .int nf, .ref qgx, .ref qgy, .ref qgz, .ref qgu, .int th]))] sz) := by
  refine Met.ofW (cc := cX5_dateLine) (maxL := 3) (ret := (some .int)) (by decide) rfl ?_
  intro p e s m args below meth c s₁ B hml hv
  obtain ⟨rfl, hsz, hP, hK, hD0⟩ := hv
  have hx := B.exec
  have hb := B.bytes
  have hr := B.returns
  have hts := atoms_spec (ws := wsX5_dateLine) B.pre
  have hown : s.vm.findClass RX5 = some m.cls := findClass_of_methodNamed B.named
  have hlocks := B.notSynchronized
  subst hsz
  have hD := hD0.self (sz := s.heap.size)
  generalize hAe : va_A [(qg, .inr (5, [.ref qgw, .ref qgh, .ref qgt, .int br, .int jC, .int jR, .int nf, .ref qgx, .ref qgy, .ref qgz, .ref qgu, .int th]))] s.heap.size = A at hD ⊢
  have hA : ∀ q : Nat, s.heap.size ≤ q → A q := fun q h => by rw [← hAe]; exact Or.inr h
  have hS : va_S A s.heap s.heap [] := va_S.rf
  have hl := lv_entry ([.ref qg, .int o1, .int o2]) (n := 3) (Nat.le_of_ble_eq_true rfl)
  rw [lg_entry_eq]
  generalize (lg_sl ([.ref qg, .int o1, .int o2]) ++ List.replicate (3 - (lg_sl ([.ref qg, .int o1, .int o2])).length) Slot.unset).toArray = ls at hl ⊢
  have hl : lv_has ls 3 [(0, .ref qg), (1, .int o1), (2, .int o2)] := hl
  have hP : va_P D vwCl [(qg, .inr (5, [.ref qgw, .ref qgh, .ref qgt, .int br, .int jC, .int jR, .int nf, .ref qgx, .ref qgy, .ref qgz, .ref qgu, .int th]))] s.heap := hP
  have hP := hP
  refine lv_aload_n hx hb dX5_dateLine_0 rfl (lv_at hl 0 rfl) ?_
  refine lv_iload_n hx hb dX5_dateLine_1 rfl (lv_at hl 1 rfl) ?_
  refine va_calli (va_runS (As := [.int o1]) (rest := [.ref qg]) ⟨hx, hb, hml, hown, hts⟩ (c_X5_isLongitude l D cI cZ cJ cD o1 ) (va_cwS 1 hts gX5_dateLine_X5_isLongitude rfl rfl rfl (by decide +kernel) ⟨Nat.le_of_ble_eq_true rfl, Nat.le_of_ble_eq_true rfl⟩) ⟨zblind, (fun U hU hW => ⟨rfl, by rw [hU]; exact hP.sub (ws' := []) [] rfl, va_K.moved hW.alike hK⟩)⟩ rfl rfl hl.1 rfl (lv_room (Nat.le_of_ble_eq_true rfl)) dX5_dateLine_2 ⟨Nat.le_of_ble_eq_true rfl, Nat.le_of_ble_eq_true rfl⟩) hS (fun q _ h => h.elim) (fun q h => h.elim) (fun r12 u t H locs ht hvm hw hB hz1 hk1 hS => ?_)
  rw [hw]
  have hP := zk hP hk1
  have K14 : ∀ v14_0 : Int32, v14_0 = (if (s_X5_isLongitude o1) = 0 then 0 else (if (s_X5_isLongitude o2) = 0 then 0 else 1)) → ∀ (H : Heap) (locs : List Loc), va_P D vwCl [(qg, .inr (5, [.ref qgw, .ref qgh, .ref qgt, .int br, .int jC, .int jR, .int nf, .ref qgx, .ref qgy, .ref qgz, .ref qgu, .int th]))] H → va_D A [(qg, .inr (5, [.ref qgw, .ref qgh, .ref qgt, .int br, .int jC, .int jR, .int nf, .ref qgx, .ref qgy, .ref qgz, .ref qgu, .int th]))] → va_S A s.heap H locs → ∀ (ls : Array Slot), lv_has ls 3 [(0, .ref qg), (1, .int o1), (2, .int o2)] → W p l e (headSpec wsX5_dateLine rm_X5_dateLine).room s m ([.ref qg, .int o1, .int o2]).toArray below meth c H locs 0 0 (MQ below (Qc_X5_dateLine D cI cZ cJ cD qg qgw qgh qgt br jC jR nf qgx qgy qgz qgu th o1 o2 A) ([.ref qg, .int o1, .int o2]).toArray s 0 0 A) (F0 m 20 ls [.int v14_0, .ref qg]) := by
    intro v14_0 hv14_0 H locs hP hD hS ls hl
    subst hv14_0
    have hPc := hP.sub (ws' := [(qg, .inr (5, [.ref qgw, .ref qgh, .ref qgt, .int br, .int jC, .int jR, .int nf, .ref qgx, .ref qgy, .ref qgz, .ref qgu, .int th]))]) [0] rfl
    have hDc := hD.sub (ws' := [(qg, .inr (5, [.ref qgw, .ref qgh, .ref qgt, .int br, .int jC, .int jR, .int nf, .ref qgx, .ref qgy, .ref qgz, .ref qgu, .int th]))]) [0] (by decide) rfl
    have hFc := va_free (wc := [(qg, .inr (5, [.ref qgw, .ref qgh, .ref qgt, .int br, .int jC, .int jR, .int nf, .ref qgx, .ref qgy, .ref qgz, .ref qgu, .int th]))]) hD hS hA [0] rfl
    refine va_calli (va_runV (As := [.int (if (s_X5_isLongitude o1) = 0 then 0 else (if (s_X5_isLongitude o2) = 0 then 0 else 1))]) (rest := []) ⟨hx, hb, hml, hown, hts⟩ (c_X5_may l D cI cZ cJ cD qg qgw qgh qgt br jC jR nf qgx qgy qgz qgu th (if (s_X5_isLongitude o1) = 0 then 0 else (if (s_X5_isLongitude o2) = 0 then 0 else 1)) H.size (by (repeat' split) <;> simp)) (cwV 1 hts gX5_dateLine_X5_may rfl rfl rfl (by decide +kernel) ⟨Nat.le_of_ble_eq_true rfl, Nat.le_of_ble_eq_true rfl⟩) ⟨zblindW, va_recv hK hP (ci := 5) (q0 := 0) rfl rfl, (fun U hU hW => ⟨rfl, by rw [hU], by rw [hU]; exact hPc, va_K.moved hW.alike hK, hDc.weaken (fun _ _ _ _ => trivial)⟩)⟩ rfl rfl hl.1 rfl (lv_room (Nat.le_of_ble_eq_true rfl)) dX5_dateLine_20 ⟨Nat.le_of_ble_eq_true rfl, Nat.le_of_ble_eq_true rfl⟩) hS (fun q _ h => hFc q h) hFc (fun r15 u t H locs ht hvm hw hB hz1 hk1 hS => ?_)
    rw [hw]
    obtain ⟨hP1, hK1, hD1⟩ := hB
    rw [ht] at hP1
    obtain ⟨hP, hD⟩ := va_join (wr := []) (w1 := [(qg, .inr (5, [.ref qgw, .ref qgh, .ref qgt, .int br, .int jC, .int jR, .int nf, .ref qgx, .ref qgy, .ref qgz, .ref qgu, .int (n_X5_may_qg_11 (if (s_X5_isLongitude o1) = 0 then 0 else (if (s_X5_isLongitude o2) = 0 then 0 else 1)))]))]) hP hD [0] [] rfl rfl (by decide) (by decide) hk1 hFc hP1 hD1
    have hP := hP.sub (ws' := [(qg, .inr (5, [.ref qgw, .ref qgh, .ref qgt, .int br, .int jC, .int jR, .int nf, .ref qgx, .ref qgy, .ref qgz, .ref qgu, .int (n_X5_may_qg_11 (if (s_X5_isLongitude o1) = 0 then 0 else (if (s_X5_isLongitude o2) = 0 then 0 else 1)))]))]) [0] rfl
    have hD := hD.sub (ws' := [(qg, .inr (5, [.ref qgw, .ref qgh, .ref qgt, .int br, .int jC, .int jR, .int nf, .ref qgx, .ref qgy, .ref qgz, .ref qgu, .int (n_X5_may_qg_11 (if (s_X5_isLongitude o1) = 0 then 0 else (if (s_X5_isLongitude o2) = 0 then 0 else 1)))]))]) [0] (by decide) rfl
    have K17 : ∀ v17_0 : Int32, v17_0 = (if (s_X5_may (if (s_X5_isLongitude o1) = 0 then 0 else (if (s_X5_isLongitude o2) = 0 then 0 else 1))) = 0 then 0 else s_X5_crossed br o1 o2 1) → ∀ (H : Heap) (locs : List Loc), va_P D vwCl [(qg, .inr (5, [.ref qgw, .ref qgh, .ref qgt, .int br, .int jC, .int jR, .int nf, .ref qgx, .ref qgy, .ref qgz, .ref qgu, .int (n_X5_may_qg_11 (if (s_X5_isLongitude o1) = 0 then 0 else (if (s_X5_isLongitude o2) = 0 then 0 else 1)))]))] H → va_D A [(qg, .inr (5, [.ref qgw, .ref qgh, .ref qgt, .int br, .int jC, .int jR, .int nf, .ref qgx, .ref qgy, .ref qgz, .ref qgu, .int (n_X5_may_qg_11 (if (s_X5_isLongitude o1) = 0 then 0 else (if (s_X5_isLongitude o2) = 0 then 0 else 1)))]))] → va_S A s.heap H locs → ∀ (ls : Array Slot), lv_has ls 3 [(0, .ref qg), (1, .int o1), (2, .int o2)] → W p l e (headSpec wsX5_dateLine rm_X5_dateLine).room s m ([.ref qg, .int o1, .int o2]).toArray below meth c H locs 0 0 (MQ below (Qc_X5_dateLine D cI cZ cJ cD qg qgw qgh qgt br jC jR nf qgx qgy qgz qgu th o1 o2 A) ([.ref qg, .int o1, .int o2]).toArray s 0 0 A) (F0 m 37 ls [.int v17_0]) := by
      intro v17_0 hv17_0 H locs hP hD hS ls hl
      subst hv17_0
      have e18 : s_X5_dateLine br o1 o2 = (if (s_X5_may (if (s_X5_isLongitude o1) = 0 then 0 else (if (s_X5_isLongitude o2) = 0 then 0 else 1))) = 0 then 0 else s_X5_crossed br o1 o2 1) := rfl
      have e19 : n_X5_dateLine_qg_11 o1 o2 = n_X5_may_qg_11 (if (s_X5_isLongitude o1) = 0 then 0 else (if (s_X5_isLongitude o2) = 0 then 0 else 1)) := rfl
      exact W.iret (v := (if (s_X5_may (if (s_X5_isLongitude o1) = 0 then 0 else (if (s_X5_isLongitude o2) = 0 then 0 else 1))) = 0 then 0 else s_X5_crossed br o1 o2 1)) hx hb hr (fun t ht hW => ⟨⟨_, (), rfl, e18.symm, ⟨(by rw [e19]; rw [ht]; exact hP), va_K.moved hW.alike hK, (by rw [e19]; exact hD)⟩⟩, hS.F ht⟩) hS.2.2 dX5_dateLine_37
    refine lv_if_eq (tgt := 36) hx hb dX5_dateLine_23 (by decide) (fun c20 => ?_) (fun c20 => ?_)
    · refine lv_iconst (v := 0) hx hb dX5_dateLine_36 (by decide) ?_
      exact K17 _ (if_pos c20).symm _ _ hP hD hS _ (lv_sub hl [0, 1, 2] rfl)
    · refine lv_aload_n hx hb dX5_dateLine_26 rfl (lv_at hl 0 rfl) ?_
      refine lv_iload_n hx hb dX5_dateLine_27 rfl (lv_at hl 1 rfl) ?_
      refine lv_iload_n hx hb dX5_dateLine_28 rfl (lv_at hl 2 rfl) ?_
      refine lv_iconst (v := 1) hx hb dX5_dateLine_29 (by decide) ?_
      refine va_calli (va_runV (As := [.int o1, .int o2, .int 1]) (rest := []) ⟨hx, hb, hml, hown, hts⟩ (c_X5_crossed l D cI cZ cJ cD qg qgw qgh qgt br jC jR nf qgx qgy qgz qgu (n_X5_may_qg_11 (if (s_X5_isLongitude o1) = 0 then 0 else (if (s_X5_isLongitude o2) = 0 then 0 else 1))) o1 o2 1 hbr (z_lon (z_n1 c20)) (z_lon (z_n1 (z_n2 c20)))) (cwV 3 hts gX5_dateLine_X5_crossed rfl rfl rfl (by decide +kernel) ⟨Nat.le_of_ble_eq_true rfl, Nat.le_of_ble_eq_true rfl⟩) ⟨zblind, va_recv hK hP (ci := 5) (q0 := 0) rfl rfl, (fun U hU hW => ⟨rfl, by rw [hU]; exact hP.sub (ws' := [(qg, .inr (5, [.ref qgw, .ref qgh, .ref qgt, .int br, .int jC, .int jR, .int nf, .ref qgx, .ref qgy, .ref qgz, .ref qgu, .int (n_X5_may_qg_11 (if (s_X5_isLongitude o1) = 0 then 0 else (if (s_X5_isLongitude o2) = 0 then 0 else 1)))]))]) [0] rfl, va_K.moved hW.alike hK⟩)⟩ rfl rfl hl.1 rfl (lv_room (Nat.le_of_ble_eq_true rfl)) dX5_dateLine_30 ⟨Nat.le_of_ble_eq_true rfl, Nat.le_of_ble_eq_true rfl⟩) hS (fun q _ h => h.elim) (fun q h => h.elim) (fun r21 u t H locs ht hvm hw hB hz1 hk1 hS => ?_)
      rw [hw]
      have hP := zk hP hk1
      refine lv_goto (tgt := 37) hx hb dX5_dateLine_33 (by decide) ?_
      exact K17 _ (if_neg c20).symm _ _ hP hD hS _ (lv_sub hl [0, 1, 2] rfl)
  refine lv_if_eq (tgt := 19) hx hb dX5_dateLine_5 (by decide) (fun c22 => ?_) (fun c22 => ?_)
  · refine lv_iconst (v := 0) hx hb dX5_dateLine_19 (by decide) ?_
    exact K14 _ (if_pos c22).symm _ _ hP hD hS _ (lv_sub hl [0, 1, 2] rfl)
  · refine lv_iload_n hx hb dX5_dateLine_8 rfl (lv_at hl 2 rfl) ?_
    refine va_calli (va_runS (As := [.int o2]) (rest := [.ref qg]) ⟨hx, hb, hml, hown, hts⟩ (c_X5_isLongitude l D cI cZ cJ cD o2 ) (va_cwS 1 hts gX5_dateLine_X5_isLongitude rfl rfl rfl (by decide +kernel) ⟨Nat.le_of_ble_eq_true rfl, Nat.le_of_ble_eq_true rfl⟩) ⟨zblind, (fun U hU hW => ⟨rfl, by rw [hU]; exact hP.sub (ws' := []) [] rfl, va_K.moved hW.alike hK⟩)⟩ rfl rfl hl.1 rfl (lv_room (Nat.le_of_ble_eq_true rfl)) dX5_dateLine_9 ⟨Nat.le_of_ble_eq_true rfl, Nat.le_of_ble_eq_true rfl⟩) hS (fun q _ h => h.elim) (fun q h => h.elim) (fun r23 u t H locs ht hvm hw hB hz1 hk1 hS => ?_)
    rw [hw]
    have hP := zk hP hk1
    refine lv_if_eq (tgt := 19) hx hb dX5_dateLine_12 (by decide) (fun c24 => ?_) (fun c24 => ?_)
    · refine lv_iconst (v := 0) hx hb dX5_dateLine_19 (by decide) ?_
      exact K14 _ ((if_neg c22).trans (if_pos c24)).symm _ _ hP hD hS _ (lv_sub hl [0, 1, 2] rfl)
    · refine lv_iconst (v := 1) hx hb dX5_dateLine_15 (by decide) ?_
      refine lv_goto (tgt := 20) hx hb dX5_dateLine_16 (by decide) ?_
      exact K14 _ ((if_neg c22).trans (if_neg c24)).symm _ _ hP hD hS _ (lv_sub hl [0, 1, 2] rfl)
