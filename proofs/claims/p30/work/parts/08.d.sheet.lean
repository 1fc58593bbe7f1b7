/-- the first m places anew -/
def zg (f g : Nat → Int32) (m : Nat) : Nat → Int32 := fun p => if p < m then g p else f p
theorem zg_0 (f g : Nat → Int32) : zg f g 0 = f := funext fun p => if_neg (Nat.not_lt_zero p)
theorem zg_put {f g : Nat → Int32} {m : Nat} {i x : Int32} (hi : i.toNatClampNeg = m) (hx : x = g m) : upd (zg f g m) i.toNatClampNeg x = zg f g (m + 1) := by
  funext p
  rw [hi, hx]
  unfold upd zg
  by_cases h : p = m
  · rw [if_pos h, if_pos (by omega), h]
  · rw [if_neg h]
    by_cases h2 : p < m
    · rw [if_pos h2, if_pos (by omega)]
    · rw [if_neg h2, if_neg (by omega)]
theorem z_nmb (nC nR c r : Nat) (nf : Int32) : s_X1_number nC nR nf (nI c) (nI r) = nI (c * nR + r) := by
  unfold s_X1_number
  rw [pk_mul, nI_add]
theorem z_idx {nC nR c r : Nat} (hc : c < nC) (hr : r < nR) : c * nR + r < nC * nR := by
  have : (c + 1) * nR ≤ nC * nR := Nat.mul_le_mul_right nR hc
  rw [Nat.succ_mul] at this
  omega
theorem z_ncl {nC nR c r : Nat} {nf : Int32} (hN : nC * nR ≤ 36) (hc : c < nC) (hr : r < nR) : (s_X1_number nC nR nf (nI c) (nI r)).toNatClampNeg = c * nR + r := by
  rw [z_nmb, nI_clamp (by have := z_idx hc hr; omega)]
theorem z_nin {nC nR c r : Nat} {nf : Int32} (hN : nC * nR ≤ 36) (hc : c < nC) (hr : r < nR) : vp_in (s_X1_number nC nR nf (nI c) (nI r)) 36 := by
  rw [z_nmb]
  exact vp_in_nI (by have := z_idx hc hr; omega) (by omega)
theorem z_dv {nR c r : Nat} (hr : r < nR) : (c * nR + r) / nR = c := by
  rw [Nat.mul_comm, Nat.mul_add_div (by omega), Nat.div_eq_of_lt hr, Nat.add_zero]
theorem z_md {nR c r : Nat} (hr : r < nR) : (c * nR + r) % nR = r := by
  rw [Nat.mul_comm, Nat.mul_add_mod, Nat.mod_eq_of_lt hr]
/-- where before holds, below m, anew -/
def zt (f : Nat → Int32) (b : Int32) (g fz : Nat → Int32) (k : Nat) : Nat → Int32 := fun p => if p < k ∧ f p < b then g p else fz p
theorem zt_0 (f : Nat → Int32) (b : Int32) (g fz : Nat → Int32) : zt f b g fz 0 = fz := funext fun p => if_neg (fun h => Nat.not_lt_zero p h.1)
theorem zt_at (f : Nat → Int32) (b : Int32) (g fz : Nat → Int32) {k : Nat} (hk : k < 36) : zt f b g fz k (nI k).toNatClampNeg = fz k := by
  rw [nI_clamp (by omega)]
  exact if_neg (fun h => Nat.lt_irrefl k h.1)
theorem zt_skip {f : Nat → Int32} {b : Int32} (g fz : Nat → Int32) {k : Nat} (h : ¬ f k < b) : zt f b g fz k = zt f b g fz (k + 1) := by
  funext p
  unfold zt
  by_cases e : p = k
  · rw [if_neg (fun q => by omega), if_neg (fun q => h (e ▸ q.2))]
  · by_cases q : p < k ∧ f p < b
    · rw [if_pos q, if_pos ⟨by omega, q.2⟩]
    · rw [if_neg q, if_neg (fun q2 => q ⟨by omega, q2.2⟩)]
theorem zt_put {f : Nat → Int32} {b : Int32} {g fz : Nat → Int32} {k : Nat} {x : Int32} (hk : k < 36) (h : f k < b) (hx : x = g k) : upd (zt f b g fz k) (nI k).toNatClampNeg x = zt f b g fz (k + 1) := by
  funext p
  rw [nI_clamp (by omega), hx]
  unfold upd zt
  by_cases e : p = k
  · rw [if_pos e, e, if_pos ⟨by omega, h⟩]
  · rw [if_neg e]
    by_cases q : p < k ∧ f p < b
    · rw [if_pos q, if_pos ⟨by omega, q.2⟩]
    · rw [if_neg q, if_neg (fun q2 => q ⟨by omega, q2.2⟩)]
theorem zt_lt {f : Nat → Int32} {b : Int32} {g fz : Nat → Int32} {k : Nat} (hk : k < 36) (h : ¬ b ≤ zt f b g fz k (nI k).toNatClampNeg) : fz k < b := by
  rw [zt_at f b g fz hk] at h
  exact Int32.not_le.mp h
theorem zt_ge {f : Nat → Int32} {b : Int32} {g fz : Nat → Int32} {k : Nat} (hk : k < 36) (h : b ≤ zt f b g fz k (nI k).toNatClampNeg) : ¬ fz k < b := by
  rw [zt_at f b g fz hk] at h
  exact Int32.not_lt.mpr h
theorem z_b01 {v : Int32} (h : v = 0 ∨ v = 1) : vp_nar .boolean v = v := by
  rcases h with rfl | rfl <;> rfl
theorem z_nlt {k n : Nat} (hn : k < 2 ^ 31) (h : ¬ nI n ≤ nI k) : k < n := by
  rcases Nat.lt_or_ge k n with q | q
  · exact q
  · exact absurd (nI_le q hn) h
theorem z_nge {k n : Nat} (hn : n < 2 ^ 31) (hk : k ≤ n) (h : nI n ≤ nI k) : k = n := by
  have := (nI_leI hn (by omega)).mp h
  omega
def s_X1_spread (nC : Nat) (nR : Nat) (nf : Int32) (fx : Nat → Int32) (fy : Nat → Int32) (fz : Nat → Int32) (fu : Nat → Int32) : Int32 := nf
def n_X1_spread_qf_6 (nC : Nat) (nR : Nat) (nf : Int32) (fx : Nat → Int32) (fy : Nat → Int32) (fz : Nat → Int32) (fu : Nat → Int32) : Int32 := 0
def n_X1_spread_qx (nC : Nat) (nR : Nat) (nf : Int32) (fx : Nat → Int32) (fy : Nat → Int32) (fz : Nat → Int32) (fu : Nat → Int32) : Nat → Int32 := zg fx (fun p => nI (p / nR)) (nC * nR)
def n_X1_spread_qy (nC : Nat) (nR : Nat) (nf : Int32) (fx : Nat → Int32) (fy : Nat → Int32) (fz : Nat → Int32) (fu : Nat → Int32) : Nat → Int32 := zg fy (fun p => nI (p % nR)) (nC * nR)
def n_X1_spread_qz (nC : Nat) (nR : Nat) (nf : Int32) (fx : Nat → Int32) (fy : Nat → Int32) (fz : Nat → Int32) (fu : Nat → Int32) : Nat → Int32 := zg fz (fun _ => 0) (nC * nR)
def n_X1_spread_qu (nC : Nat) (nR : Nat) (nf : Int32) (fx : Nat → Int32) (fy : Nat → Int32) (fz : Nat → Int32) (fu : Nat → Int32) : Nat → Int32 := zg fu (fun _ => 1) (nC * nR)
abbrev rm_X1_spread : Room := { frames := 1, cells := 0, slots := 0, locals := 22 }
abbrev Qc_X1_spread (D : va_G) (cI cZ cJ cD : ClassId) (qf : Nat) (qx : Nat) (qy : Nat) (qz : Nat) (qu : Nat) (nC : Nat) (nR : Nat) (nf : Int32) (fx : Nat → Int32) (fy : Nat → Int32) (fz : Nat → Int32) (fu : Nat → Int32) (A : Nat → Prop) : Array Value → State → Outcome → State → Prop := va_Qi (fun (r : Int32) (_ : Unit) => r = s_X1_spread nC nR nf fx fy fz fu) (zPost D cI cZ cJ cD A [(qf, .inr (1, [.ref qx, .ref qy, .ref qz, .ref qu, .int (nI nC), .int (nI nR), .int (n_X1_spread_qf_6 nC nR nf fx fy fz fu)])), (qx, .inl (cI, 36, .inl (n_X1_spread_qx nC nR nf fx fy fz fu))), (qy, .inl (cI, 36, .inl (n_X1_spread_qy nC nR nf fx fy fz fu))), (qz, .inl (cI, 36, .inl (n_X1_spread_qz nC nR nf fx fy fz fu))), (qu, .inl (cZ, 36, .inl (n_X1_spread_qu nC nR nf fx fy fz fu)))]) A
set_option maxHeartbeats 4000000 in
set_option maxRecDepth 100000 in
theorem c_X1_spread (l : Launch) (D : va_G) (cI cZ cJ cD : ClassId) (qf : Nat) (qx : Nat) (qy : Nat) (qz : Nat) (qu : Nat) (nC : Nat) (nR : Nat) (nf : Int32) (fx : Nat → Int32) (fy : Nat → Int32) (fz : Nat → Int32) (fu : Nat → Int32) (sz : Nat) (hN : nC * nR ≤ 36) (hC : nC ≤ 36) (hR : nR ≤ 36) : Met l yX1_spread wsX1_spread rm_X1_spread (va_Pc [.ref qf] (zPreW D cI cZ cJ cD [(qf, .inr (1, [.ref qx, .ref qy, .ref qz, .ref qu, .int (nI nC), .int (nI nR), .int nf])), (qx, .inl (cI, 36, .inl fx)), (qy, .inl (cI, 36, .inl fy)), (qz, .inl (cI, 36, .inl fz)), (qu, .inl (cZ, 36, .inl fu))] sz)) (Qc_X1_spread D cI cZ cJ cD qf qx qy qz qu nC nR nf fx fy fz fu (va_A [(qf, .inr (1, [.ref qx, .ref qy, .ref qz, .ref qu, .int (nI nC), .int (nI nR), .int nf])), (qx, .inl (cI, 36, .inl fx)), (qy, .inl (cI, 36, .inl fy)), (qz, .inl (cI, 36, .inl fz)), (qu, .inl (cZ, 36, .inl fu))] sz)) 0 0 (va_A [(qf, .inr (1, [.ref qx, .ref qy, .ref qz, .ref qu, .int (nI nC), .int (nI nR), .int nf])), (qx, .inl (cI, 36, .inl fx)), (qy, .inl (cI, 36, .inl fy)), (qz, .inl (cI, 36, .inl fz)), (qu, .inl (cZ, 36, .inl fu))] sz) := by
  refine Met.ofW (cc := cX1_spread) (maxL := 4) (ret := (some .int)) (by decide) rfl ?_
  intro p e s m args below meth c s₁ B hml hv
  obtain ⟨rfl, hsz, hP, hK, hD0⟩ := hv
  have hx := B.exec
  have hb := B.bytes
  have hr := B.returns
  have hts := atoms_spec (ws := wsX1_spread) B.pre
  have hown : s.vm.findClass RX1 = some m.cls := findClass_of_methodNamed B.named
  have hlocks := B.notSynchronized
  subst hsz
  have hD := hD0.self (sz := s.heap.size)
  generalize hAe : va_A [(qf, .inr (1, [.ref qx, .ref qy, .ref qz, .ref qu, .int (nI nC), .int (nI nR), .int nf])), (qx, .inl (cI, 36, .inl fx)), (qy, .inl (cI, 36, .inl fy)), (qz, .inl (cI, 36, .inl fz)), (qu, .inl (cZ, 36, .inl fu))] s.heap.size = A at hD ⊢
  have hA : ∀ q : Nat, s.heap.size ≤ q → A q := fun q h => by rw [← hAe]; exact Or.inr h
  have hS : va_S A s.heap s.heap [] := va_S.rf
  have hl := lv_entry ([.ref qf]) (n := 4) (Nat.le_of_ble_eq_true rfl)
  rw [lg_entry_eq]
  generalize (lg_sl ([.ref qf]) ++ List.replicate (4 - (lg_sl ([.ref qf])).length) Slot.unset).toArray = ls at hl ⊢
  have hl : lv_has ls 4 [(0, .ref qf)] := hl
  have hP : va_P D vwCl [(qf, .inr (1, [.ref qx, .ref qy, .ref qz, .ref qu, .int (nI nC), .int (nI nR), .int nf])), (qx, .inl (cI, 36, .inl fx)), (qy, .inl (cI, 36, .inl fy)), (qz, .inl (cI, 36, .inl fz)), (qu, .inl (cZ, 36, .inl fu))] s.heap := hP
  have hP := hP
  refine lv_iconst (v := 0) hx hb dX1_spread_0 (by decide) ?_
  refine lv_istore_n (lv' := [(1, .int 0), (0, .ref qf)]) hx hb dX1_spread_1 rfl hl (by decide) rfl (fun ls hl => ?_)
  have X1 : ∀ (H : Heap) (locs : List Loc), va_P D vwCl [(qf, .inr (1, [.ref qx, .ref qy, .ref qz, .ref qu, .int (nI nC), .int (nI nR), .int nf])), (qx, .inl (cI, 36, .inl (zg fx (fun p => nI (p / nR)) (nC * nR)))), (qy, .inl (cI, 36, .inl (zg fy (fun p => nI (p % nR)) (nC * nR)))), (qz, .inl (cI, 36, .inl (zg fz (fun _ => 0) (nC * nR)))), (qu, .inl (cZ, 36, .inl (zg fu (fun _ => 1) (nC * nR))))] H → va_D A [(qf, .inr (1, [.ref qx, .ref qy, .ref qz, .ref qu, .int (nI nC), .int (nI nR), .int nf])), (qx, .inl (cI, 36, .inl (zg fx (fun p => nI (p / nR)) (nC * nR)))), (qy, .inl (cI, 36, .inl (zg fy (fun p => nI (p % nR)) (nC * nR)))), (qz, .inl (cI, 36, .inl (zg fz (fun _ => 0) (nC * nR)))), (qu, .inl (cZ, 36, .inl (zg fu (fun _ => 1) (nC * nR))))] → va_S A s.heap H locs → ∀ (ls : Array Slot), lv_has ls 4 [(0, .ref qf)] → W p l e (headSpec wsX1_spread rm_X1_spread).room s m ([.ref qf]).toArray below meth c H locs 0 0 (MQ below (Qc_X1_spread D cI cZ cJ cD qf qx qy qz qu nC nR nf fx fy fz fu A) ([.ref qf]).toArray s 0 0 A) (F0 m 67 ls []) := by
    intro  H locs hP hD hS ls hl
    refine lv_aload_n hx hb dX1_spread_67 rfl (lv_at hl 0 rfl) ?_
    refine va_get (D := D) (ci := 1) (v := .int nf) (C := RX1) (T := TX1) (N := 7) hx hb hts (fun w h => List.mem_cons_of_mem _ (List.mem_append_right _ h)) hown hK hP 0 rfl rfl 6 (by decide) (hts (.fieldLink RX1 44 "AtlasFolder$FoldedSheet" "folds" "I") (List.mem_cons_of_mem _ (List.mem_append_left _ (List.mem_of_getElem? (i := 6) rfl)))) (fun _ h9 => h9) rfl dX1_spread_68 ?_
    refine lv_istore_n (lv' := [(1, .int nf), (0, .ref qf)]) hx hb dX1_spread_71 rfl hl (by decide) rfl (fun ls hl => ?_)
    refine lv_aload_n hx hb dX1_spread_72 rfl (lv_at hl 1 rfl) ?_
    refine lv_iconst (v := 0) hx hb dX1_spread_73 (by decide) ?_
    refine va_put (D := D) (ci := 1) (v := .int 0) (ty := .int) (C := RX1) (T := TX1) (N := 7) hx hb hts (fun w h => List.mem_cons_of_mem _ (List.mem_append_right _ h)) tyX1 tyX1_ok nmX1 hown hK hP hD hS 0 rfl rfl 6 (by decide) (hts (.fieldLink RX1 44 "AtlasFolder$FoldedSheet" "folds" "I") (List.mem_cons_of_mem _ (List.mem_append_left _ (List.mem_of_getElem? (i := 6) rfl)))) (fun _ h9 => h9) rfl (by decide +kernel) rfl rfl (Nat.le_of_ble_eq_true rfl) dX1_spread_74 (fun H locs hP hD hS => ?_)
    have hP : va_P D vwCl [(qf, .inr (1, [.ref qx, .ref qy, .ref qz, .ref qu, .int (nI nC), .int (nI nR), .int 0])), (qx, .inl (cI, 36, .inl (zg fx (fun p => nI (p / nR)) (nC * nR)))), (qy, .inl (cI, 36, .inl (zg fy (fun p => nI (p % nR)) (nC * nR)))), (qz, .inl (cI, 36, .inl (zg fz (fun _ => 0) (nC * nR)))), (qu, .inl (cZ, 36, .inl (zg fu (fun _ => 1) (nC * nR))))] H := hP
    have hD : va_D A [(qf, .inr (1, [.ref qx, .ref qy, .ref qz, .ref qu, .int (nI nC), .int (nI nR), .int 0])), (qx, .inl (cI, 36, .inl (zg fx (fun p => nI (p / nR)) (nC * nR)))), (qy, .inl (cI, 36, .inl (zg fy (fun p => nI (p % nR)) (nC * nR)))), (qz, .inl (cI, 36, .inl (zg fz (fun _ => 0) (nC * nR)))), (qu, .inl (cZ, 36, .inl (zg fu (fun _ => 1) (nC * nR))))] := hD
    refine lv_iload_n hx hb dX1_spread_77 rfl (lv_at hl 0 rfl) ?_
    have e2 : s_X1_spread nC nR nf fx fy fz fu = nf := rfl
    have e3 : n_X1_spread_qf_6 nC nR nf fx fy fz fu = 0 := rfl
    have e4 : n_X1_spread_qx nC nR nf fx fy fz fu = zg fx (fun p => nI (p / nR)) (nC * nR) := rfl
    have e5 : n_X1_spread_qy nC nR nf fx fy fz fu = zg fy (fun p => nI (p % nR)) (nC * nR) := rfl
    have e6 : n_X1_spread_qz nC nR nf fx fy fz fu = zg fz (fun _ => 0) (nC * nR) := rfl
    have e7 : n_X1_spread_qu nC nR nf fx fy fz fu = zg fu (fun _ => 1) (nC * nR) := rfl
    exact W.iret (v := nf) hx hb hr (fun t ht hW => ⟨⟨_, (), rfl, e2.symm, ⟨(by rw [e3, e4, e5, e6, e7]; rw [ht]; exact hP), va_K.moved hW.alike hK, (by rw [e3, e4, e5, e6, e7]; exact hD)⟩⟩, hS.F ht⟩) hS.2.2 dX1_spread_78
  have L1 : ∀ (n1 : Nat) (ic : Nat), (ic ≤ nC) → (nC < ic + n1) → ∀ (H : Heap) (locs : List Loc), va_P D vwCl [(qf, .inr (1, [.ref qx, .ref qy, .ref qz, .ref qu, .int (nI nC), .int (nI nR), .int nf])), (qx, .inl (cI, 36, .inl (zg fx (fun p => nI (p / nR)) (ic * nR)))), (qy, .inl (cI, 36, .inl (zg fy (fun p => nI (p % nR)) (ic * nR)))), (qz, .inl (cI, 36, .inl (zg fz (fun _ => 0) (ic * nR)))), (qu, .inl (cZ, 36, .inl (zg fu (fun _ => 1) (ic * nR))))] H → va_D A [(qf, .inr (1, [.ref qx, .ref qy, .ref qz, .ref qu, .int (nI nC), .int (nI nR), .int nf])), (qx, .inl (cI, 36, .inl (zg fx (fun p => nI (p / nR)) (ic * nR)))), (qy, .inl (cI, 36, .inl (zg fy (fun p => nI (p % nR)) (ic * nR)))), (qz, .inl (cI, 36, .inl (zg fz (fun _ => 0) (ic * nR)))), (qu, .inl (cZ, 36, .inl (zg fu (fun _ => 1) (ic * nR))))] → va_S A s.heap H locs → ∀ (ls : Array Slot), lv_has ls 4 [(1, .int (nI ic)), (0, .ref qf)] → W p l e (headSpec wsX1_spread rm_X1_spread).room s m ([.ref qf]).toArray below meth c H locs 0 0 (MQ below (Qc_X1_spread D cI cZ cJ cD qf qx qy qz qu nC nR nf fx fy fz fu A) ([.ref qf]).toArray s 0 0 A) (F0 m 2 ls []) := by
    intro n1
    induction n1 with
    | zero =>
      intro ic hc hf1
      exact absurd hf1 (by omega)
    | succ n1 ih1 =>
      intro ic hc hf1 H locs hP hD hS ls hl
      refine lv_iload_n hx hb dX1_spread_2 rfl (lv_at hl 0 rfl) ?_
      refine lv_aload_n hx hb dX1_spread_3 rfl (lv_at hl 1 rfl) ?_
      refine va_get (D := D) (ci := 1) (v := .int (nI nC)) (C := RX1) (T := TX1) (N := 7) hx hb hts (fun w h => List.mem_cons_of_mem _ (List.mem_append_right _ h)) hown hK hP 0 rfl rfl 4 (by decide) (hts (.fieldLink RX1 29 "AtlasFolder$FoldedSheet" "columns" "I") (List.mem_cons_of_mem _ (List.mem_append_left _ (List.mem_of_getElem? (i := 0) rfl)))) (fun _ h9 => h9) rfl dX1_spread_4 ?_
      refine lv_icmp_ge (tgt := 67) hx hb dX1_spread_7 (by decide) (fun c8 => ?_) (fun c8 => ?_)
      · have hc9 : ic = nC := z_nge (by omega) hc c8
        subst hc9
        exact X1  _ _ hP hD hS _ (lv_sub hl [1] rfl)
      · refine lv_iconst (v := 0) hx hb dX1_spread_10 (by decide) ?_
        refine lv_istore_n (lv' := [(2, .int 0), (1, .int (nI ic)), (0, .ref qf)]) hx hb dX1_spread_11 rfl hl (by decide) rfl (fun ls hl => ?_)
        have L9 : ∀ (n9 : Nat) (r : Nat), (r ≤ nR) → (nR < r + n9) → ∀ (H : Heap) (locs : List Loc), va_P D vwCl [(qf, .inr (1, [.ref qx, .ref qy, .ref qz, .ref qu, .int (nI nC), .int (nI nR), .int nf])), (qx, .inl (cI, 36, .inl (zg fx (fun p => nI (p / nR)) (ic * nR + r)))), (qy, .inl (cI, 36, .inl (zg fy (fun p => nI (p % nR)) (ic * nR + r)))), (qz, .inl (cI, 36, .inl (zg fz (fun _ => 0) (ic * nR + r)))), (qu, .inl (cZ, 36, .inl (zg fu (fun _ => 1) (ic * nR + r))))] H → va_D A [(qf, .inr (1, [.ref qx, .ref qy, .ref qz, .ref qu, .int (nI nC), .int (nI nR), .int nf])), (qx, .inl (cI, 36, .inl (zg fx (fun p => nI (p / nR)) (ic * nR + r)))), (qy, .inl (cI, 36, .inl (zg fy (fun p => nI (p % nR)) (ic * nR + r)))), (qz, .inl (cI, 36, .inl (zg fz (fun _ => 0) (ic * nR + r)))), (qu, .inl (cZ, 36, .inl (zg fu (fun _ => 1) (ic * nR + r))))] → va_S A s.heap H locs → ∀ (ls : Array Slot), lv_has ls 4 [(2, .int (nI r)), (1, .int (nI ic)), (0, .ref qf)] → W p l e (headSpec wsX1_spread rm_X1_spread).room s m ([.ref qf]).toArray below meth c H locs 0 0 (MQ below (Qc_X1_spread D cI cZ cJ cD qf qx qy qz qu nC nR nf fx fy fz fu A) ([.ref qf]).toArray s 0 0 A) (F0 m 12 ls []) := by
          intro n9
          induction n9 with
          | zero =>
            intro r hr hf9
            exact absurd hf9 (by omega)
          | succ n9 ih9 =>
            intro r hr hf9 H locs hP hD hS ls hl
            refine lv_iload_n hx hb dX1_spread_12 rfl (lv_at hl 0 rfl) ?_
            refine lv_aload_n hx hb dX1_spread_13 rfl (lv_at hl 2 rfl) ?_
            refine va_get (D := D) (ci := 1) (v := .int (nI nR)) (C := RX1) (T := TX1) (N := 7) hx hb hts (fun w h => List.mem_cons_of_mem _ (List.mem_append_right _ h)) hown hK hP 0 rfl rfl 5 (by decide) (hts (.fieldLink RX1 33 "AtlasFolder$FoldedSheet" "rows" "I") (List.mem_cons_of_mem _ (List.mem_append_left _ (List.mem_of_getElem? (i := 1) rfl)))) (fun _ h9 => h9) rfl dX1_spread_14 ?_
            refine lv_icmp_ge (tgt := 61) hx hb dX1_spread_17 (by decide) (fun c10 => ?_) (fun c10 => ?_)
            · refine lv_iinc (v := nI (ic + 1)) (lv' := [(1, .int (nI (ic + 1))), (2, .int (nI r)), (0, .ref qf)]) hx hb dX1_spread_61 hl (k := 1) rfl (nI_succ ic).symm (by decide) rfl (fun ls hl => ?_)
              refine lv_goto (tgt := 2) hx hb dX1_spread_64 (by decide) ?_
              have hr9 : r = nR := z_nge (by omega) hr c10
              subst hr9
              have hc8 : ic < nC := z_nlt (by omega) c8
              have e9 : ic * r + r = (ic + 1) * r := (Nat.succ_mul ic r).symm
              rw [e9] at hP hD
              exact ih1 (ic + 1) (by omega) (by omega) _ _ hP hD hS _ (lv_sub hl [0, 2] rfl)
            · refine lv_aload_n hx hb dX1_spread_20 rfl (lv_at hl 2 rfl) ?_
              refine lv_iload_n hx hb dX1_spread_21 rfl (lv_at hl 1 rfl) ?_
              refine lv_iload_n hx hb dX1_spread_22 rfl (lv_at hl 0 rfl) ?_
              refine va_calli (va_runV (As := [.int (nI ic), .int (nI r)]) (rest := []) ⟨hx, hb, hml, hown, hts⟩ (c_X1_number l D cI cZ cJ cD qf qx qy qz qu nC nR nf (nI ic) (nI r) ) (cwV 2 hts gX1_spread_X1_number rfl rfl rfl (by decide +kernel) ⟨Nat.le_of_ble_eq_true rfl, Nat.le_of_ble_eq_true rfl⟩) ⟨zblind, va_recv hK hP (ci := 1) (q0 := 0) rfl rfl, (fun U hU hW => ⟨rfl, by rw [hU]; exact hP.sub (ws' := [(qf, .inr (1, [.ref qx, .ref qy, .ref qz, .ref qu, .int (nI nC), .int (nI nR), .int nf]))]) [0] rfl, va_K.moved hW.alike hK⟩)⟩ rfl rfl hl.1 rfl (lv_room (Nat.le_of_ble_eq_true rfl)) dX1_spread_23 ⟨Nat.le_of_ble_eq_true rfl, Nat.le_of_ble_eq_true rfl⟩) hS (fun q _ h => h.elim) (fun q h => h.elim) (fun r11 u t H locs ht hvm hw hB hz1 hk1 hS => ?_)
              rw [hw]
              have hP := zk hP hk1
              refine lv_istore_n (lv' := [(3, .int (s_X1_number nC nR nf (nI ic) (nI r))), (2, .int (nI r)), (1, .int (nI ic)), (0, .ref qf)]) hx hb dX1_spread_26 rfl hl (by decide) rfl (fun ls hl => ?_)
              refine lv_aload_n hx hb dX1_spread_27 rfl (lv_at hl 3 rfl) ?_
              refine va_get (D := D) (ci := 1) (v := .ref qx) (C := RX1) (T := TX1) (N := 7) hx hb hts (fun w h => List.mem_cons_of_mem _ (List.mem_append_right _ h)) hown hK hP 0 rfl rfl 0 (by decide) (hts (.fieldLink RX1 9 "AtlasFolder$FoldedSheet" "columnPlaces" "[I") (List.mem_cons_of_mem _ (List.mem_append_left _ (List.mem_of_getElem? (i := 2) rfl)))) (fun _ h9 => h9) rfl dX1_spread_28 ?_
              refine lv_iload_n hx hb dX1_spread_31 rfl (lv_at hl 0 rfl) ?_
              refine lv_iload_n hx hb dX1_spread_32 rfl (lv_at hl 2 rfl) ?_
              refine va_iast hx hb hK hP hD hS 1 0 rfl rfl (z_nin hN (z_nlt (by omega) c8) (z_nlt (by omega) c10)) dX1_spread_33 (fun H locs hP hD hS => ?_)
              have hP : va_P D vwCl [(qf, .inr (1, [.ref qx, .ref qy, .ref qz, .ref qu, .int (nI nC), .int (nI nR), .int nf])), (qx, .inl (cI, 36, .inl (upd (zg fx (fun p => nI (p / nR)) (ic * nR + r)) (s_X1_number nC nR nf (nI ic) (nI r)).toNatClampNeg (nI ic)))), (qy, .inl (cI, 36, .inl (zg fy (fun p => nI (p % nR)) (ic * nR + r)))), (qz, .inl (cI, 36, .inl (zg fz (fun _ => 0) (ic * nR + r)))), (qu, .inl (cZ, 36, .inl (zg fu (fun _ => 1) (ic * nR + r))))] H := hP
              have hD : va_D A [(qf, .inr (1, [.ref qx, .ref qy, .ref qz, .ref qu, .int (nI nC), .int (nI nR), .int nf])), (qx, .inl (cI, 36, .inl (upd (zg fx (fun p => nI (p / nR)) (ic * nR + r)) (s_X1_number nC nR nf (nI ic) (nI r)).toNatClampNeg (nI ic)))), (qy, .inl (cI, 36, .inl (zg fy (fun p => nI (p % nR)) (ic * nR + r)))), (qz, .inl (cI, 36, .inl (zg fz (fun _ => 0) (ic * nR + r)))), (qu, .inl (cZ, 36, .inl (zg fu (fun _ => 1) (ic * nR + r))))] := hD
              refine lv_aload_n hx hb dX1_spread_34 rfl (lv_at hl 3 rfl) ?_
              refine va_get (D := D) (ci := 1) (v := .ref qy) (C := RX1) (T := TX1) (N := 7) hx hb hts (fun w h => List.mem_cons_of_mem _ (List.mem_append_right _ h)) hown hK hP 0 rfl rfl 1 (by decide) (hts (.fieldLink RX1 15 "AtlasFolder$FoldedSheet" "rowPlaces" "[I") (List.mem_cons_of_mem _ (List.mem_append_left _ (List.mem_of_getElem? (i := 3) rfl)))) (fun _ h9 => h9) rfl dX1_spread_35 ?_
              refine lv_iload_n hx hb dX1_spread_38 rfl (lv_at hl 0 rfl) ?_
              refine lv_iload_n hx hb dX1_spread_39 rfl (lv_at hl 1 rfl) ?_
              refine va_iast hx hb hK hP hD hS 2 0 rfl rfl (z_nin hN (z_nlt (by omega) c8) (z_nlt (by omega) c10)) dX1_spread_40 (fun H locs hP hD hS => ?_)
              have hP : va_P D vwCl [(qf, .inr (1, [.ref qx, .ref qy, .ref qz, .ref qu, .int (nI nC), .int (nI nR), .int nf])), (qx, .inl (cI, 36, .inl (upd (zg fx (fun p => nI (p / nR)) (ic * nR + r)) (s_X1_number nC nR nf (nI ic) (nI r)).toNatClampNeg (nI ic)))), (qy, .inl (cI, 36, .inl (upd (zg fy (fun p => nI (p % nR)) (ic * nR + r)) (s_X1_number nC nR nf (nI ic) (nI r)).toNatClampNeg (nI r)))), (qz, .inl (cI, 36, .inl (zg fz (fun _ => 0) (ic * nR + r)))), (qu, .inl (cZ, 36, .inl (zg fu (fun _ => 1) (ic * nR + r))))] H := hP
              have hD : va_D A [(qf, .inr (1, [.ref qx, .ref qy, .ref qz, .ref qu, .int (nI nC), .int (nI nR), .int nf])), (qx, .inl (cI, 36, .inl (upd (zg fx (fun p => nI (p / nR)) (ic * nR + r)) (s_X1_number nC nR nf (nI ic) (nI r)).toNatClampNeg (nI ic)))), (qy, .inl (cI, 36, .inl (upd (zg fy (fun p => nI (p % nR)) (ic * nR + r)) (s_X1_number nC nR nf (nI ic) (nI r)).toNatClampNeg (nI r)))), (qz, .inl (cI, 36, .inl (zg fz (fun _ => 0) (ic * nR + r)))), (qu, .inl (cZ, 36, .inl (zg fu (fun _ => 1) (ic * nR + r))))] := hD
              refine lv_aload_n hx hb dX1_spread_41 rfl (lv_at hl 3 rfl) ?_
              refine va_get (D := D) (ci := 1) (v := .ref qz) (C := RX1) (T := TX1) (N := 7) hx hb hts (fun w h => List.mem_cons_of_mem _ (List.mem_append_right _ h)) hown hK hP 0 rfl rfl 2 (by decide) (hts (.fieldLink RX1 18 "AtlasFolder$FoldedSheet" "layers" "[I") (List.mem_cons_of_mem _ (List.mem_append_left _ (List.mem_of_getElem? (i := 4) rfl)))) (fun _ h9 => h9) rfl dX1_spread_42 ?_
              refine lv_iload_n hx hb dX1_spread_45 rfl (lv_at hl 0 rfl) ?_
              refine lv_iconst (v := 0) hx hb dX1_spread_46 (by decide) ?_
              refine va_iast hx hb hK hP hD hS 3 0 rfl rfl (z_nin hN (z_nlt (by omega) c8) (z_nlt (by omega) c10)) dX1_spread_47 (fun H locs hP hD hS => ?_)
              have hP : va_P D vwCl [(qf, .inr (1, [.ref qx, .ref qy, .ref qz, .ref qu, .int (nI nC), .int (nI nR), .int nf])), (qx, .inl (cI, 36, .inl (upd (zg fx (fun p => nI (p / nR)) (ic * nR + r)) (s_X1_number nC nR nf (nI ic) (nI r)).toNatClampNeg (nI ic)))), (qy, .inl (cI, 36, .inl (upd (zg fy (fun p => nI (p % nR)) (ic * nR + r)) (s_X1_number nC nR nf (nI ic) (nI r)).toNatClampNeg (nI r)))), (qz, .inl (cI, 36, .inl (upd (zg fz (fun _ => 0) (ic * nR + r)) (s_X1_number nC nR nf (nI ic) (nI r)).toNatClampNeg 0))), (qu, .inl (cZ, 36, .inl (zg fu (fun _ => 1) (ic * nR + r))))] H := hP
              have hD : va_D A [(qf, .inr (1, [.ref qx, .ref qy, .ref qz, .ref qu, .int (nI nC), .int (nI nR), .int nf])), (qx, .inl (cI, 36, .inl (upd (zg fx (fun p => nI (p / nR)) (ic * nR + r)) (s_X1_number nC nR nf (nI ic) (nI r)).toNatClampNeg (nI ic)))), (qy, .inl (cI, 36, .inl (upd (zg fy (fun p => nI (p % nR)) (ic * nR + r)) (s_X1_number nC nR nf (nI ic) (nI r)).toNatClampNeg (nI r)))), (qz, .inl (cI, 36, .inl (upd (zg fz (fun _ => 0) (ic * nR + r)) (s_X1_number nC nR nf (nI ic) (nI r)).toNatClampNeg 0))), (qu, .inl (cZ, 36, .inl (zg fu (fun _ => 1) (ic * nR + r))))] := hD
              refine lv_aload_n hx hb dX1_spread_48 rfl (lv_at hl 3 rfl) ?_
              refine va_get (D := D) (ci := 1) (v := .ref qu) (C := RX1) (T := TX1) (N := 7) hx hb hts (fun w h => List.mem_cons_of_mem _ (List.mem_append_right _ h)) hown hK hP 0 rfl rfl 3 (by decide) (hts (.fieldLink RX1 21 "AtlasFolder$FoldedSheet" "faceUp" "[Z") (List.mem_cons_of_mem _ (List.mem_append_left _ (List.mem_of_getElem? (i := 5) rfl)))) (fun _ h9 => h9) rfl dX1_spread_49 ?_
              refine lv_iload_n hx hb dX1_spread_52 rfl (lv_at hl 0 rfl) ?_
              refine lv_iconst (v := 1) hx hb dX1_spread_53 (by decide) ?_
              refine va_zast hx hb hK hP hD hS 4 1 rfl rfl (z_nin hN (z_nlt (by omega) c8) (z_nlt (by omega) c10)) dX1_spread_54 (fun H locs hP hD hS => ?_)
              have hP : va_P D vwCl [(qf, .inr (1, [.ref qx, .ref qy, .ref qz, .ref qu, .int (nI nC), .int (nI nR), .int nf])), (qx, .inl (cI, 36, .inl (upd (zg fx (fun p => nI (p / nR)) (ic * nR + r)) (s_X1_number nC nR nf (nI ic) (nI r)).toNatClampNeg (nI ic)))), (qy, .inl (cI, 36, .inl (upd (zg fy (fun p => nI (p % nR)) (ic * nR + r)) (s_X1_number nC nR nf (nI ic) (nI r)).toNatClampNeg (nI r)))), (qz, .inl (cI, 36, .inl (upd (zg fz (fun _ => 0) (ic * nR + r)) (s_X1_number nC nR nf (nI ic) (nI r)).toNatClampNeg 0))), (qu, .inl (cZ, 36, .inl (upd (zg fu (fun _ => 1) (ic * nR + r)) (s_X1_number nC nR nf (nI ic) (nI r)).toNatClampNeg (vp_nar .boolean 1))))] H := hP
              have hD : va_D A [(qf, .inr (1, [.ref qx, .ref qy, .ref qz, .ref qu, .int (nI nC), .int (nI nR), .int nf])), (qx, .inl (cI, 36, .inl (upd (zg fx (fun p => nI (p / nR)) (ic * nR + r)) (s_X1_number nC nR nf (nI ic) (nI r)).toNatClampNeg (nI ic)))), (qy, .inl (cI, 36, .inl (upd (zg fy (fun p => nI (p % nR)) (ic * nR + r)) (s_X1_number nC nR nf (nI ic) (nI r)).toNatClampNeg (nI r)))), (qz, .inl (cI, 36, .inl (upd (zg fz (fun _ => 0) (ic * nR + r)) (s_X1_number nC nR nf (nI ic) (nI r)).toNatClampNeg 0))), (qu, .inl (cZ, 36, .inl (upd (zg fu (fun _ => 1) (ic * nR + r)) (s_X1_number nC nR nf (nI ic) (nI r)).toNatClampNeg (vp_nar .boolean 1))))] := hD
              refine lv_iinc (v := nI (r + 1)) (lv' := [(2, .int (nI (r + 1))), (3, .int (s_X1_number nC nR nf (nI ic) (nI r))), (1, .int (nI ic)), (0, .ref qf)]) hx hb dX1_spread_55 hl (k := 1) rfl (nI_succ r).symm (by decide) rfl (fun ls hl => ?_)
              refine lv_goto (tgt := 12) hx hb dX1_spread_58 (by decide) ?_
              have hr8 : r < nR := z_nlt (by omega) c10
              have hc8 : ic < nC := z_nlt (by omega) c8
              have e_qx : upd (zg fx (fun p => nI (p / nR)) (ic * nR + r)) (s_X1_number nC nR nf (nI ic) (nI r)).toNatClampNeg (nI ic) = zg fx (fun p => nI (p / nR)) (ic * nR + (r + 1)) := zg_put (z_ncl hN hc8 hr8) (by rw [z_dv hr8])
              have e_qy : upd (zg fy (fun p => nI (p % nR)) (ic * nR + r)) (s_X1_number nC nR nf (nI ic) (nI r)).toNatClampNeg (nI r) = zg fy (fun p => nI (p % nR)) (ic * nR + (r + 1)) := zg_put (z_ncl hN hc8 hr8) (by rw [z_md hr8])
              have e_qz : upd (zg fz (fun _ => 0) (ic * nR + r)) (s_X1_number nC nR nf (nI ic) (nI r)).toNatClampNeg 0 = zg fz (fun _ => 0) (ic * nR + (r + 1)) := zg_put (z_ncl hN hc8 hr8) rfl
              have e_qu : upd (zg fu (fun _ => 1) (ic * nR + r)) (s_X1_number nC nR nf (nI ic) (nI r)).toNatClampNeg (vp_nar .boolean 1) = zg fu (fun _ => 1) (ic * nR + (r + 1)) := zg_put (z_ncl hN hc8 hr8) rfl
              rw [e_qx, e_qy, e_qz, e_qu] at hP hD
              exact ih9 (r + 1) (by omega) (by omega) _ _ hP hD hS _ (lv_sub hl [0, 2, 3] rfl)
        rw [← Nat.add_zero (ic * nR)] at hP hD
        exact L9 (nR + 1) 0 (by omega) (by omega) _ _ hP hD hS _ (zlv (lv_sub (l' := [(2, .int 0), (1, .int (nI ic)), (0, .ref qf)]) hl [0, 1, 2] rfl) (by rfl))
  have e0x := zg_0 fx (fun p => nI (p / nR))
  have e0y := zg_0 fy (fun p => nI (p % nR))
  have e0z := zg_0 fz (fun _ => 0)
  have e0u := zg_0 fu (fun _ => 1)
  rw [← Nat.zero_mul nR] at e0x e0y e0z e0u
  rw [← e0x, ← e0y, ← e0z, ← e0u] at hP hD
  exact L1 (nC + 1) 0 (by omega) (by omega) _ _ hP hD hS _ (zlv (lv_sub (l' := [(1, .int 0), (0, .ref qf)]) hl [0, 1] rfl) (by rfl))
def n_X1_layOut_qf_4 (jC : Int32) (jR : Int32) (nf : Int32) (fx : Nat → Int32) (fy : Nat → Int32) (fz : Nat → Int32) (fu : Nat → Int32) (mC : Nat) (mR : Nat) : Int32 := nI mC
def n_X1_layOut_qf_5 (jC : Int32) (jR : Int32) (nf : Int32) (fx : Nat → Int32) (fy : Nat → Int32) (fz : Nat → Int32) (fu : Nat → Int32) (mC : Nat) (mR : Nat) : Int32 := nI mR
def n_X1_layOut_qf_6 (jC : Int32) (jR : Int32) (nf : Int32) (fx : Nat → Int32) (fy : Nat → Int32) (fz : Nat → Int32) (fu : Nat → Int32) (mC : Nat) (mR : Nat) : Int32 := n_X1_spread_qf_6 mC mR nf fx fy fz fu
def n_X1_layOut_qx (jC : Int32) (jR : Int32) (nf : Int32) (fx : Nat → Int32) (fy : Nat → Int32) (fz : Nat → Int32) (fu : Nat → Int32) (mC : Nat) (mR : Nat) : Nat → Int32 := n_X1_spread_qx mC mR nf fx fy fz fu
def n_X1_layOut_qy (jC : Int32) (jR : Int32) (nf : Int32) (fx : Nat → Int32) (fy : Nat → Int32) (fz : Nat → Int32) (fu : Nat → Int32) (mC : Nat) (mR : Nat) : Nat → Int32 := n_X1_spread_qy mC mR nf fx fy fz fu
def n_X1_layOut_qz (jC : Int32) (jR : Int32) (nf : Int32) (fx : Nat → Int32) (fy : Nat → Int32) (fz : Nat → Int32) (fu : Nat → Int32) (mC : Nat) (mR : Nat) : Nat → Int32 := n_X1_spread_qz mC mR nf fx fy fz fu
def n_X1_layOut_qu (jC : Int32) (jR : Int32) (nf : Int32) (fx : Nat → Int32) (fy : Nat → Int32) (fz : Nat → Int32) (fu : Nat → Int32) (mC : Nat) (mR : Nat) : Nat → Int32 := n_X1_spread_qu mC mR nf fx fy fz fu
abbrev rm_X1_layOut : Room := { frames := 2, cells := 0, slots := 0, locals := 45 }
abbrev Qc_X1_layOut (D : va_G) (cI cZ cJ cD : ClassId) (qf : Nat) (qx : Nat) (qy : Nat) (qz : Nat) (qu : Nat) (jC : Int32) (jR : Int32) (nf : Int32) (fx : Nat → Int32) (fy : Nat → Int32) (fz : Nat → Int32) (fu : Nat → Int32) (mC : Nat) (mR : Nat) (iC : Int32) (iR : Int32) (A : Nat → Prop) : Array Value → State → Outcome → State → Prop := va_Qv (fun _ : Unit => True) (zPost D cI cZ cJ cD A [(qf, .inr (1, [.ref qx, .ref qy, .ref qz, .ref qu, .int (n_X1_layOut_qf_4 jC jR nf fx fy fz fu mC mR), .int (n_X1_layOut_qf_5 jC jR nf fx fy fz fu mC mR), .int (n_X1_layOut_qf_6 jC jR nf fx fy fz fu mC mR)])), (qx, .inl (cI, 36, .inl (n_X1_layOut_qx jC jR nf fx fy fz fu mC mR))), (qy, .inl (cI, 36, .inl (n_X1_layOut_qy jC jR nf fx fy fz fu mC mR))), (qz, .inl (cI, 36, .inl (n_X1_layOut_qz jC jR nf fx fy fz fu mC mR))), (qu, .inl (cZ, 36, .inl (n_X1_layOut_qu jC jR nf fx fy fz fu mC mR)))]) A
set_option maxHeartbeats 4000000 in
set_option maxRecDepth 100000 in
theorem c_X1_layOut (l : Launch) (D : va_G) (cI cZ cJ cD : ClassId) (qf : Nat) (qx : Nat) (qy : Nat) (qz : Nat) (qu : Nat) (jC : Int32) (jR : Int32) (nf : Int32) (fx : Nat → Int32) (fy : Nat → Int32) (fz : Nat → Int32) (fu : Nat → Int32) (mC : Nat) (mR : Nat) (iC : Int32) (iR : Int32) (sz : Nat) (hN : mC * mR ≤ 36) (hC : mC ≤ 36) (hR : mR ≤ 36) (eiC : iC = nI mC) (eiR : iR = nI mR) : Met l yX1_layOut wsX1_layOut rm_X1_layOut (va_Pc [.ref qf, .int iC, .int iR] (zPreW D cI cZ cJ cD [(qf, .inr (1, [.ref qx, .ref qy, .ref qz, .ref qu, .int jC, .int jR, .int nf])), (qx, .inl (cI, 36, .inl fx)), (qy, .inl (cI, 36, .inl fy)), (qz, .inl (cI, 36, .inl fz)), (qu, .inl (cZ, 36, .inl fu))] sz)) (Qc_X1_layOut D cI cZ cJ cD qf qx qy qz qu jC jR nf fx fy fz fu mC mR iC iR (va_A [(qf, .inr (1, [.ref qx, .ref qy, .ref qz, .ref qu, .int jC, .int jR, .int nf])), (qx, .inl (cI, 36, .inl fx)), (qy, .inl (cI, 36, .inl fy)), (qz, .inl (cI, 36, .inl fz)), (qu, .inl (cZ, 36, .inl fu))] sz)) 0 0 (va_A [(qf, .inr (1, [.ref qx, .ref qy, .ref qz, .ref qu, .int jC, .int jR, .int nf])), (qx, .inl (cI, 36, .inl fx)), (qy, .inl (cI, 36, .inl fy)), (qz, .inl (cI, 36, .inl fz)), (qu, .inl (cZ, 36, .inl fu))] sz) := by
  subst eiC
  subst eiR
  refine Met.ofW (cc := cX1_layOut) (maxL := 3) (ret := none) (by decide) rfl ?_
  intro p e s m args below meth c s₁ B hml hv
  obtain ⟨rfl, hsz, hP, hK, hD0⟩ := hv
  have hx := B.exec
  have hb := B.bytes
  have hr := B.returns
  have hts := atoms_spec (ws := wsX1_layOut) B.pre
  have hown : s.vm.findClass RX1 = some m.cls := findClass_of_methodNamed B.named
  have hlocks := B.notSynchronized
  subst hsz
  have hD := hD0.self (sz := s.heap.size)
  generalize hAe : va_A [(qf, .inr (1, [.ref qx, .ref qy, .ref qz, .ref qu, .int jC, .int jR, .int nf])), (qx, .inl (cI, 36, .inl fx)), (qy, .inl (cI, 36, .inl fy)), (qz, .inl (cI, 36, .inl fz)), (qu, .inl (cZ, 36, .inl fu))] s.heap.size = A at hD ⊢
  have hA : ∀ q : Nat, s.heap.size ≤ q → A q := fun q h => by rw [← hAe]; exact Or.inr h
  have hS : va_S A s.heap s.heap [] := va_S.rf
  have hl := lv_entry ([.ref qf, .int (nI mC), .int (nI mR)]) (n := 3) (Nat.le_of_ble_eq_true rfl)
  rw [lg_entry_eq]
  generalize (lg_sl ([.ref qf, .int (nI mC), .int (nI mR)]) ++ List.replicate (3 - (lg_sl ([.ref qf, .int (nI mC), .int (nI mR)])).length) Slot.unset).toArray = ls at hl ⊢
  have hl : lv_has ls 3 [(0, .ref qf), (1, .int (nI mC)), (2, .int (nI mR))] := hl
  have hP : va_P D vwCl [(qf, .inr (1, [.ref qx, .ref qy, .ref qz, .ref qu, .int jC, .int jR, .int nf])), (qx, .inl (cI, 36, .inl fx)), (qy, .inl (cI, 36, .inl fy)), (qz, .inl (cI, 36, .inl fz)), (qu, .inl (cZ, 36, .inl fu))] s.heap := hP
  have hP := hP
  refine lv_aload_n hx hb dX1_layOut_0 rfl (lv_at hl 0 rfl) ?_
  refine lv_iload_n hx hb dX1_layOut_1 rfl (lv_at hl 1 rfl) ?_
  refine va_put (D := D) (ci := 1) (v := .int (nI mC)) (ty := .int) (C := RX1) (T := TX1) (N := 7) hx hb hts (fun w h => List.mem_cons_of_mem _ (List.mem_append_right _ h)) tyX1 tyX1_ok nmX1 hown hK hP hD hS 0 rfl rfl 4 (by decide) (hts (.fieldLink RX1 29 "AtlasFolder$FoldedSheet" "columns" "I") (List.mem_cons_of_mem _ (List.mem_append_left _ (List.mem_of_getElem? (i := 0) rfl)))) (fun _ h9 => h9) rfl (by decide +kernel) rfl rfl (Nat.le_of_ble_eq_true rfl) dX1_layOut_2 (fun H locs hP hD hS => ?_)
  have hP : va_P D vwCl [(qf, .inr (1, [.ref qx, .ref qy, .ref qz, .ref qu, .int (nI mC), .int jR, .int nf])), (qx, .inl (cI, 36, .inl fx)), (qy, .inl (cI, 36, .inl fy)), (qz, .inl (cI, 36, .inl fz)), (qu, .inl (cZ, 36, .inl fu))] H := hP
  have hD : va_D A [(qf, .inr (1, [.ref qx, .ref qy, .ref qz, .ref qu, .int (nI mC), .int jR, .int nf])), (qx, .inl (cI, 36, .inl fx)), (qy, .inl (cI, 36, .inl fy)), (qz, .inl (cI, 36, .inl fz)), (qu, .inl (cZ, 36, .inl fu))] := hD
  refine lv_aload_n hx hb dX1_layOut_5 rfl (lv_at hl 0 rfl) ?_
  refine lv_iload_n hx hb dX1_layOut_6 rfl (lv_at hl 2 rfl) ?_
  refine va_put (D := D) (ci := 1) (v := .int (nI mR)) (ty := .int) (C := RX1) (T := TX1) (N := 7) hx hb hts (fun w h => List.mem_cons_of_mem _ (List.mem_append_right _ h)) tyX1 tyX1_ok nmX1 hown hK hP hD hS 0 rfl rfl 5 (by decide) (hts (.fieldLink RX1 33 "AtlasFolder$FoldedSheet" "rows" "I") (List.mem_cons_of_mem _ (List.mem_append_left _ (List.mem_of_getElem? (i := 1) rfl)))) (fun _ h9 => h9) rfl (by decide +kernel) rfl rfl (Nat.le_of_ble_eq_true rfl) dX1_layOut_7 (fun H locs hP hD hS => ?_)
  have hP : va_P D vwCl [(qf, .inr (1, [.ref qx, .ref qy, .ref qz, .ref qu, .int (nI mC), .int (nI mR), .int nf])), (qx, .inl (cI, 36, .inl fx)), (qy, .inl (cI, 36, .inl fy)), (qz, .inl (cI, 36, .inl fz)), (qu, .inl (cZ, 36, .inl fu))] H := hP
  have hD : va_D A [(qf, .inr (1, [.ref qx, .ref qy, .ref qz, .ref qu, .int (nI mC), .int (nI mR), .int nf])), (qx, .inl (cI, 36, .inl fx)), (qy, .inl (cI, 36, .inl fy)), (qz, .inl (cI, 36, .inl fz)), (qu, .inl (cZ, 36, .inl fu))] := hD
  refine lv_aload_n hx hb dX1_layOut_10 rfl (lv_at hl 0 rfl) ?_
  have hPc := hP.sub (ws' := [(qf, .inr (1, [.ref qx, .ref qy, .ref qz, .ref qu, .int (nI mC), .int (nI mR), .int nf])), (qx, .inl (cI, 36, .inl fx)), (qy, .inl (cI, 36, .inl fy)), (qz, .inl (cI, 36, .inl fz)), (qu, .inl (cZ, 36, .inl fu))]) [0, 1, 2, 3, 4] rfl
  have hDc := hD.sub (ws' := [(qf, .inr (1, [.ref qx, .ref qy, .ref qz, .ref qu, .int (nI mC), .int (nI mR), .int nf])), (qx, .inl (cI, 36, .inl fx)), (qy, .inl (cI, 36, .inl fy)), (qz, .inl (cI, 36, .inl fz)), (qu, .inl (cZ, 36, .inl fu))]) [0, 1, 2, 3, 4] (by decide) rfl
  have hFc := va_free (wc := [(qf, .inr (1, [.ref qx, .ref qy, .ref qz, .ref qu, .int (nI mC), .int (nI mR), .int nf])), (qx, .inl (cI, 36, .inl fx)), (qy, .inl (cI, 36, .inl fy)), (qz, .inl (cI, 36, .inl fz)), (qu, .inl (cZ, 36, .inl fu))]) hD hS hA [0, 1, 2, 3, 4] rfl
  refine va_calli (va_runV (As := []) (rest := []) ⟨hx, hb, hml, hown, hts⟩ (c_X1_spread l D cI cZ cJ cD qf qx qy qz qu mC mR nf fx fy fz fu H.size hN hC hR) (cwV 0 hts gX1_layOut_X1_spread rfl rfl rfl (by decide +kernel) ⟨Nat.le_of_ble_eq_true rfl, Nat.le_of_ble_eq_true rfl⟩) ⟨zblindW, va_recv hK hP (ci := 1) (q0 := 0) rfl rfl, (fun U hU hW => ⟨rfl, by rw [hU], by rw [hU]; exact hPc, va_K.moved hW.alike hK, hDc.weaken (fun _ _ _ _ => trivial)⟩)⟩ rfl rfl hl.1 rfl (lv_room (Nat.le_of_ble_eq_true rfl)) dX1_layOut_11 ⟨Nat.le_of_ble_eq_true rfl, Nat.le_of_ble_eq_true rfl⟩) hS (fun q _ h => hFc q h) hFc (fun r2 u t H locs ht hvm hw hB hz1 hk1 hS => ?_)
  rw [hw]
  obtain ⟨hP1, hK1, hD1⟩ := hB
  rw [ht] at hP1
  obtain ⟨hP, hD⟩ := va_join (wr := []) (w1 := [(qf, .inr (1, [.ref qx, .ref qy, .ref qz, .ref qu, .int (nI mC), .int (nI mR), .int (n_X1_spread_qf_6 mC mR nf fx fy fz fu)])), (qx, .inl (cI, 36, .inl (n_X1_spread_qx mC mR nf fx fy fz fu))), (qy, .inl (cI, 36, .inl (n_X1_spread_qy mC mR nf fx fy fz fu))), (qz, .inl (cI, 36, .inl (n_X1_spread_qz mC mR nf fx fy fz fu))), (qu, .inl (cZ, 36, .inl (n_X1_spread_qu mC mR nf fx fy fz fu)))]) hP hD [0, 1, 2, 3, 4] [] rfl rfl (by decide) (by decide) hk1 hFc hP1 hD1
  have hP := hP.sub (ws' := [(qf, .inr (1, [.ref qx, .ref qy, .ref qz, .ref qu, .int (nI mC), .int (nI mR), .int (n_X1_spread_qf_6 mC mR nf fx fy fz fu)])), (qx, .inl (cI, 36, .inl (n_X1_spread_qx mC mR nf fx fy fz fu))), (qy, .inl (cI, 36, .inl (n_X1_spread_qy mC mR nf fx fy fz fu))), (qz, .inl (cI, 36, .inl (n_X1_spread_qz mC mR nf fx fy fz fu))), (qu, .inl (cZ, 36, .inl (n_X1_spread_qu mC mR nf fx fy fz fu)))]) [0, 1, 2, 3, 4] rfl
  have hD := hD.sub (ws' := [(qf, .inr (1, [.ref qx, .ref qy, .ref qz, .ref qu, .int (nI mC), .int (nI mR), .int (n_X1_spread_qf_6 mC mR nf fx fy fz fu)])), (qx, .inl (cI, 36, .inl (n_X1_spread_qx mC mR nf fx fy fz fu))), (qy, .inl (cI, 36, .inl (n_X1_spread_qy mC mR nf fx fy fz fu))), (qz, .inl (cI, 36, .inl (n_X1_spread_qz mC mR nf fx fy fz fu))), (qu, .inl (cZ, 36, .inl (n_X1_spread_qu mC mR nf fx fy fz fu)))]) [0, 1, 2, 3, 4] (by decide) rfl
  refine lv_pop hx hb dX1_layOut_14 rfl ?_
  have e3 : n_X1_layOut_qf_4 jC jR nf fx fy fz fu mC mR = nI mC := rfl
  have e4 : n_X1_layOut_qf_5 jC jR nf fx fy fz fu mC mR = nI mR := rfl
  have e5 : n_X1_layOut_qf_6 jC jR nf fx fy fz fu mC mR = n_X1_spread_qf_6 mC mR nf fx fy fz fu := rfl
  have e6 : n_X1_layOut_qx jC jR nf fx fy fz fu mC mR = n_X1_spread_qx mC mR nf fx fy fz fu := rfl
  have e7 : n_X1_layOut_qy jC jR nf fx fy fz fu mC mR = n_X1_spread_qy mC mR nf fx fy fz fu := rfl
  have e8 : n_X1_layOut_qz jC jR nf fx fy fz fu mC mR = n_X1_spread_qz mC mR nf fx fy fz fu := rfl
  have e9 : n_X1_layOut_qu jC jR nf fx fy fz fu mC mR = n_X1_spread_qu mC mR nf fx fy fz fu := rfl
  exact W.vret hx hb hr (fun t ht hW => ⟨⟨(), rfl, trivial, ⟨(by rw [e3, e4, e5, e6, e7, e8, e9]; rw [ht]; exact hP), va_K.moved hW.alike hK, (by rw [e3, e4, e5, e6, e7, e8, e9]; exact hD)⟩⟩, hS.F ht⟩) hS.2.2 dX1_layOut_15
def s_X1_turnOver (nC : Nat) (nR : Nat) (nf : Int32) (f : Nat → Int32) (fz : Nat → Int32) (fu : Nat → Int32) (b : Int32) : Int32 := (if (s_X1_placesBelow nC nR nf f b) = 0 then 0 else (if (s_X1_placesBelow nC nR nf f b) = (s_X1_panels nC nR nf) then 0 else s_X1_placesBelow nC nR nf f b))
def n_X1_turnOver_qf_6 (nC : Nat) (nR : Nat) (nf : Int32) (f : Nat → Int32) (fz : Nat → Int32) (fu : Nat → Int32) (b : Int32) : Int32 := (if (s_X1_placesBelow nC nR nf f b) = 0 then nf else (if (s_X1_placesBelow nC nR nf f b) = (s_X1_panels nC nR nf) then nf else nf + 1))
def n_X1_turnOver_qa (nC : Nat) (nR : Nat) (nf : Int32) (f : Nat → Int32) (fz : Nat → Int32) (fu : Nat → Int32) (b : Int32) : Nat → Int32 := (if (s_X1_placesBelow nC nR nf f b) = 0 then f else (if (s_X1_placesBelow nC nR nf f b) = (s_X1_panels nC nR nf) then f else zt f b (fun p => 2 * b - 1 - f p) f (nC * nR)))
def n_X1_turnOver_qz (nC : Nat) (nR : Nat) (nf : Int32) (f : Nat → Int32) (fz : Nat → Int32) (fu : Nat → Int32) (b : Int32) : Nat → Int32 := (if (s_X1_placesBelow nC nR nf f b) = 0 then fz else (if (s_X1_placesBelow nC nR nf f b) = (s_X1_panels nC nR nf) then fz else zt f b (fun p => 2 * (s_X1_highestLayer nC nR nf fz) + 1 - fz p) fz (nC * nR)))
def n_X1_turnOver_qu (nC : Nat) (nR : Nat) (nf : Int32) (f : Nat → Int32) (fz : Nat → Int32) (fu : Nat → Int32) (b : Int32) : Nat → Int32 := (if (s_X1_placesBelow nC nR nf f b) = 0 then fu else (if (s_X1_placesBelow nC nR nf f b) = (s_X1_panels nC nR nf) then fu else zt f b (fun p => if fu p = 0 then 1 else 0) fu (nC * nR)))
abbrev rm_X1_turnOver : Room := { frames := 2, cells := 0, slots := 0, locals := 44 }
abbrev Qc_X1_turnOver (D : va_G) (cI cZ cJ cD : ClassId) (qf : Nat) (qx : Nat) (qy : Nat) (qz : Nat) (qu : Nat) (nC : Nat) (nR : Nat) (nf : Int32) (qa : Nat) (f : Nat → Int32) (fz : Nat → Int32) (fu : Nat → Int32) (b : Int32) (A : Nat → Prop) : Array Value → State → Outcome → State → Prop := va_Qi (fun (r : Int32) (_ : Unit) => r = s_X1_turnOver nC nR nf f fz fu b) (zPost D cI cZ cJ cD A [(qf, .inr (1, [.ref qx, .ref qy, .ref qz, .ref qu, .int (nI nC), .int (nI nR), .int (n_X1_turnOver_qf_6 nC nR nf f fz fu b)])), (qa, .inl (cI, 36, .inl (n_X1_turnOver_qa nC nR nf f fz fu b))), (qz, .inl (cI, 36, .inl (n_X1_turnOver_qz nC nR nf f fz fu b))), (qu, .inl (cZ, 36, .inl (n_X1_turnOver_qu nC nR nf f fz fu b)))]) A
set_option maxHeartbeats 4000000 in
set_option maxRecDepth 100000 in
theorem c_X1_turnOver (l : Launch) (D : va_G) (cI cZ cJ cD : ClassId) (qf : Nat) (qx : Nat) (qy : Nat) (qz : Nat) (qu : Nat) (nC : Nat) (nR : Nat) (nf : Int32) (qa : Nat) (f : Nat → Int32) (fz : Nat → Int32) (fu : Nat → Int32) (b : Int32) (sz : Nat) (hN : nC * nR ≤ 36) : Met l yX1_turnOver wsX1_turnOver rm_X1_turnOver (va_Pc [.ref qf, .ref qa, .int b] (zPreW D cI cZ cJ cD [(qf, .inr (1, [.ref qx, .ref qy, .ref qz, .ref qu, .int (nI nC), .int (nI nR), .int nf])), (qa, .inl (cI, 36, .inl f)), (qz, .inl (cI, 36, .inl fz)), (qu, .inl (cZ, 36, .inl fu))] sz)) (Qc_X1_turnOver D cI cZ cJ cD qf qx qy qz qu nC nR nf qa f fz fu b (va_A [(qf, .inr (1, [.ref qx, .ref qy, .ref qz, .ref qu, .int (nI nC), .int (nI nR), .int nf])), (qa, .inl (cI, 36, .inl f)), (qz, .inl (cI, 36, .inl fz)), (qu, .inl (cZ, 36, .inl fu))] sz)) 0 0 (va_A [(qf, .inr (1, [.ref qx, .ref qy, .ref qz, .ref qu, .int (nI nC), .int (nI nR), .int nf])), (qa, .inl (cI, 36, .inl f)), (qz, .inl (cI, 36, .inl fz)), (qu, .inl (cZ, 36, .inl fu))] sz) := by
  refine Met.ofW (cc := cX1_turnOver) (maxL := 6) (ret := (some .int)) (by decide) rfl ?_
  intro p e s m args below meth c s₁ B hml hv
  obtain ⟨rfl, hsz, hP, hK, hD0⟩ := hv
  have hx := B.exec
  have hb := B.bytes
  have hr := B.returns
  have hts := atoms_spec (ws := wsX1_turnOver) B.pre
  have hown : s.vm.findClass RX1 = some m.cls := findClass_of_methodNamed B.named
  have hlocks := B.notSynchronized
  subst hsz
  have hD := hD0.self (sz := s.heap.size)
  generalize hAe : va_A [(qf, .inr (1, [.ref qx, .ref qy, .ref qz, .ref qu, .int (nI nC), .int (nI nR), .int nf])), (qa, .inl (cI, 36, .inl f)), (qz, .inl (cI, 36, .inl fz)), (qu, .inl (cZ, 36, .inl fu))] s.heap.size = A at hD ⊢
  have hA : ∀ q : Nat, s.heap.size ≤ q → A q := fun q h => by rw [← hAe]; exact Or.inr h
  have hS : va_S A s.heap s.heap [] := va_S.rf
  have hl := lv_entry ([.ref qf, .ref qa, .int b]) (n := 6) (Nat.le_of_ble_eq_true rfl)
  rw [lg_entry_eq]
  generalize (lg_sl ([.ref qf, .ref qa, .int b]) ++ List.replicate (6 - (lg_sl ([.ref qf, .ref qa, .int b])).length) Slot.unset).toArray = ls at hl ⊢
  have hl : lv_has ls 6 [(0, .ref qf), (1, .ref qa), (2, .int b)] := hl
  have hP : va_P D vwCl [(qf, .inr (1, [.ref qx, .ref qy, .ref qz, .ref qu, .int (nI nC), .int (nI nR), .int nf])), (qa, .inl (cI, 36, .inl f)), (qz, .inl (cI, 36, .inl fz)), (qu, .inl (cZ, 36, .inl fu))] s.heap := hP
  have hP := hP
  refine lv_aload_n hx hb dX1_turnOver_0 rfl (lv_at hl 0 rfl) ?_
  refine lv_aload_n hx hb dX1_turnOver_1 rfl (lv_at hl 1 rfl) ?_
  refine lv_iload_n hx hb dX1_turnOver_2 rfl (lv_at hl 2 rfl) ?_
  refine va_calli (va_runV (As := [.ref qa, .int b]) (rest := []) ⟨hx, hb, hml, hown, hts⟩ (c_X1_placesBelow l D cI cZ cJ cD qf qx qy qz qu nC nR nf qa f b (by assumption)) (cwV 2 hts gX1_turnOver_X1_placesBelow rfl rfl rfl (by decide +kernel) ⟨Nat.le_of_ble_eq_true rfl, Nat.le_of_ble_eq_true rfl⟩) ⟨zblind, va_recv hK hP (ci := 1) (q0 := 0) rfl rfl, (fun U hU hW => ⟨rfl, by rw [hU]; exact hP.sub (ws' := [(qf, .inr (1, [.ref qx, .ref qy, .ref qz, .ref qu, .int (nI nC), .int (nI nR), .int nf])), (qa, .inl (cI, 36, .inl f))]) [0, 1] rfl, va_K.moved hW.alike hK⟩)⟩ rfl rfl hl.1 rfl (lv_room (Nat.le_of_ble_eq_true rfl)) dX1_turnOver_3 ⟨Nat.le_of_ble_eq_true rfl, Nat.le_of_ble_eq_true rfl⟩) hS (fun q _ h => h.elim) (fun q h => h.elim) (fun r6 u t H locs ht hvm hw hB hz1 hk1 hS => ?_)
  rw [hw]
  have hP := zk hP hk1
  refine lv_istore_n (lv' := [(3, .int (s_X1_placesBelow nC nR nf f b)), (0, .ref qf), (1, .ref qa), (2, .int b)]) hx hb dX1_turnOver_6 rfl hl (by decide) rfl (fun ls hl => ?_)
  refine lv_iload_n hx hb dX1_turnOver_7 rfl (lv_at hl 0 rfl) ?_
  refine lv_if_eq (tgt := 19) hx hb dX1_turnOver_8 (by decide) (fun c7 => ?_) (fun c7 => ?_)
  · refine lv_iconst (v := 0) hx hb dX1_turnOver_19 (by decide) ?_
    have e8 : s_X1_turnOver nC nR nf f fz fu b = 0 := by
      unfold s_X1_turnOver
      exact (if_pos c7)
    have e9 : n_X1_turnOver_qf_6 nC nR nf f fz fu b = nf := by
      unfold n_X1_turnOver_qf_6
      exact (if_pos c7)
    have e10 : n_X1_turnOver_qa nC nR nf f fz fu b = f := by
      unfold n_X1_turnOver_qa
      exact (if_pos c7)
    have e11 : n_X1_turnOver_qz nC nR nf f fz fu b = fz := by
      unfold n_X1_turnOver_qz
      exact (if_pos c7)
    have e12 : n_X1_turnOver_qu nC nR nf f fz fu b = fu := by
      unfold n_X1_turnOver_qu
      exact (if_pos c7)
    exact W.iret (v := 0) hx hb hr (fun t ht hW => ⟨⟨_, (), rfl, e8.symm, ⟨(by rw [e9, e10, e11, e12]; rw [ht]; exact hP), va_K.moved hW.alike hK, (by rw [e9, e10, e11, e12]; exact hD)⟩⟩, hS.F ht⟩) hS.2.2 dX1_turnOver_20
  · refine lv_iload_n hx hb dX1_turnOver_11 rfl (lv_at hl 0 rfl) ?_
    refine lv_aload_n hx hb dX1_turnOver_12 rfl (lv_at hl 1 rfl) ?_
    refine va_calli (va_runV (As := []) (rest := [.int (s_X1_placesBelow nC nR nf f b)]) ⟨hx, hb, hml, hown, hts⟩ (c_X1_panels l D cI cZ cJ cD qf qx qy qz qu nC nR nf ) (cwV 0 hts gX1_turnOver_X1_panels rfl rfl rfl (by decide +kernel) ⟨Nat.le_of_ble_eq_true rfl, Nat.le_of_ble_eq_true rfl⟩) ⟨zblind, va_recv hK hP (ci := 1) (q0 := 0) rfl rfl, (fun U hU hW => ⟨rfl, by rw [hU]; exact hP.sub (ws' := [(qf, .inr (1, [.ref qx, .ref qy, .ref qz, .ref qu, .int (nI nC), .int (nI nR), .int nf]))]) [0] rfl, va_K.moved hW.alike hK⟩)⟩ rfl rfl hl.1 rfl (lv_room (Nat.le_of_ble_eq_true rfl)) dX1_turnOver_13 ⟨Nat.le_of_ble_eq_true rfl, Nat.le_of_ble_eq_true rfl⟩) hS (fun q _ h => h.elim) (fun q h => h.elim) (fun r13 u t H locs ht hvm hw hB hz1 hk1 hS => ?_)
    rw [hw]
    have hP := zk hP hk1
    refine lv_icmp_ne (tgt := 21) hx hb dX1_turnOver_16 (by decide) (fun c14 => ?_) (fun c14 => ?_)
    · refine lv_aload_n hx hb dX1_turnOver_21 rfl (lv_at hl 1 rfl) ?_
      refine va_calli (va_runV (As := []) (rest := []) ⟨hx, hb, hml, hown, hts⟩ (c_X1_highestLayer l D cI cZ cJ cD qf qx qy qz qu nC nR nf fz (by assumption)) (cwV 0 hts gX1_turnOver_X1_highestLayer rfl rfl rfl (by decide +kernel) ⟨Nat.le_of_ble_eq_true rfl, Nat.le_of_ble_eq_true rfl⟩) ⟨zblind, va_recv hK hP (ci := 1) (q0 := 0) rfl rfl, (fun U hU hW => ⟨rfl, by rw [hU]; exact hP.sub (ws' := [(qf, .inr (1, [.ref qx, .ref qy, .ref qz, .ref qu, .int (nI nC), .int (nI nR), .int nf])), (qz, .inl (cI, 36, .inl fz))]) [0, 2] rfl, va_K.moved hW.alike hK⟩)⟩ rfl rfl hl.1 rfl (lv_room (Nat.le_of_ble_eq_true rfl)) dX1_turnOver_22 ⟨Nat.le_of_ble_eq_true rfl, Nat.le_of_ble_eq_true rfl⟩) hS (fun q _ h => h.elim) (fun q h => h.elim) (fun r15 u t H locs ht hvm hw hB hz1 hk1 hS => ?_)
      rw [hw]
      have hP := zk hP hk1
      refine lv_istore (lv' := [(4, .int (s_X1_highestLayer nC nR nf fz)), (3, .int (s_X1_placesBelow nC nR nf f b)), (0, .ref qf), (1, .ref qa), (2, .int b)]) hx hb dX1_turnOver_25 hl (by decide) rfl (fun ls hl => ?_)
      refine lv_iconst (v := 0) hx hb dX1_turnOver_27 (by decide) ?_
      refine lv_istore (lv' := [(5, .int 0), (4, .int (s_X1_highestLayer nC nR nf fz)), (3, .int (s_X1_placesBelow nC nR nf f b)), (0, .ref qf), (1, .ref qa), (2, .int b)]) hx hb dX1_turnOver_28 hl (by decide) rfl (fun ls hl => ?_)
      have X16 : ∀ (H : Heap) (locs : List Loc), va_P D vwCl [(qf, .inr (1, [.ref qx, .ref qy, .ref qz, .ref qu, .int (nI nC), .int (nI nR), .int nf])), (qa, .inl (cI, 36, .inl (zt f b (fun p => 2 * b - 1 - f p) f (nC * nR)))), (qz, .inl (cI, 36, .inl (zt f b (fun p => 2 * (s_X1_highestLayer nC nR nf fz) + 1 - fz p) fz (nC * nR)))), (qu, .inl (cZ, 36, .inl (zt f b (fun p => if fu p = 0 then 1 else 0) fu (nC * nR))))] H → va_D A [(qf, .inr (1, [.ref qx, .ref qy, .ref qz, .ref qu, .int (nI nC), .int (nI nR), .int nf])), (qa, .inl (cI, 36, .inl (zt f b (fun p => 2 * b - 1 - f p) f (nC * nR)))), (qz, .inl (cI, 36, .inl (zt f b (fun p => 2 * (s_X1_highestLayer nC nR nf fz) + 1 - fz p) fz (nC * nR)))), (qu, .inl (cZ, 36, .inl (zt f b (fun p => if fu p = 0 then 1 else 0) fu (nC * nR))))] → va_S A s.heap H locs → ∀ (ls : Array Slot), lv_has ls 6 [(4, .int (s_X1_highestLayer nC nR nf fz)), (3, .int (s_X1_placesBelow nC nR nf f b)), (0, .ref qf), (1, .ref qa), (2, .int b)] → W p l e (headSpec wsX1_turnOver rm_X1_turnOver).room s m ([.ref qf, .ref qa, .int b]).toArray below meth c H locs 0 0 (MQ below (Qc_X1_turnOver D cI cZ cJ cD qf qx qy qz qu nC nR nf qa f fz fu b A) ([.ref qf, .ref qa, .int b]).toArray s 0 0 A) (F0 m 110 ls []) := by
        intro  H locs hP hD hS ls hl
        refine lv_aload_n hx hb dX1_turnOver_110 rfl (lv_at hl 2 rfl) ?_
        refine lv_dup hx hb dX1_turnOver_111 rfl ?_
        refine va_get (D := D) (ci := 1) (v := .int nf) (C := RX1) (T := TX1) (N := 7) hx hb hts (fun w h => List.mem_cons_of_mem _ (List.mem_append_right _ h)) hown hK hP 0 rfl rfl 6 (by decide) (hts (.fieldLink RX1 44 "AtlasFolder$FoldedSheet" "folds" "I") (List.mem_cons_of_mem _ (List.mem_append_left _ (List.mem_of_getElem? (i := 2) rfl)))) (fun _ h9 => h9) rfl dX1_turnOver_112 ?_
        refine lv_iconst (v := 1) hx hb dX1_turnOver_115 (by decide) ?_
        refine lv_iadd hx hb dX1_turnOver_116 ?_
        refine va_put (D := D) (ci := 1) (v := .int (nf + 1)) (ty := .int) (C := RX1) (T := TX1) (N := 7) hx hb hts (fun w h => List.mem_cons_of_mem _ (List.mem_append_right _ h)) tyX1 tyX1_ok nmX1 hown hK hP hD hS 0 rfl rfl 6 (by decide) (hts (.fieldLink RX1 44 "AtlasFolder$FoldedSheet" "folds" "I") (List.mem_cons_of_mem _ (List.mem_append_left _ (List.mem_of_getElem? (i := 2) rfl)))) (fun _ h9 => h9) rfl (by decide +kernel) rfl rfl (Nat.le_of_ble_eq_true rfl) dX1_turnOver_117 (fun H locs hP hD hS => ?_)
        have hP : va_P D vwCl [(qf, .inr (1, [.ref qx, .ref qy, .ref qz, .ref qu, .int (nI nC), .int (nI nR), .int (nf + 1)])), (qa, .inl (cI, 36, .inl (zt f b (fun p => 2 * b - 1 - f p) f (nC * nR)))), (qz, .inl (cI, 36, .inl (zt f b (fun p => 2 * (s_X1_highestLayer nC nR nf fz) + 1 - fz p) fz (nC * nR)))), (qu, .inl (cZ, 36, .inl (zt f b (fun p => if fu p = 0 then 1 else 0) fu (nC * nR))))] H := hP
        have hD : va_D A [(qf, .inr (1, [.ref qx, .ref qy, .ref qz, .ref qu, .int (nI nC), .int (nI nR), .int (nf + 1)])), (qa, .inl (cI, 36, .inl (zt f b (fun p => 2 * b - 1 - f p) f (nC * nR)))), (qz, .inl (cI, 36, .inl (zt f b (fun p => 2 * (s_X1_highestLayer nC nR nf fz) + 1 - fz p) fz (nC * nR)))), (qu, .inl (cZ, 36, .inl (zt f b (fun p => if fu p = 0 then 1 else 0) fu (nC * nR))))] := hD
        refine lv_iload_n hx hb dX1_turnOver_120 rfl (lv_at hl 1 rfl) ?_
        have e17 : s_X1_turnOver nC nR nf f fz fu b = s_X1_placesBelow nC nR nf f b := by
          unfold s_X1_turnOver
          exact ((if_neg c7).trans (if_neg c14))
        have e18 : n_X1_turnOver_qf_6 nC nR nf f fz fu b = nf + 1 := by
          unfold n_X1_turnOver_qf_6
          exact ((if_neg c7).trans (if_neg c14))
        have e19 : n_X1_turnOver_qa nC nR nf f fz fu b = zt f b (fun p => 2 * b - 1 - f p) f (nC * nR) := by
          unfold n_X1_turnOver_qa
          exact ((if_neg c7).trans (if_neg c14))
        have e20 : n_X1_turnOver_qz nC nR nf f fz fu b = zt f b (fun p => 2 * (s_X1_highestLayer nC nR nf fz) + 1 - fz p) fz (nC * nR) := by
          unfold n_X1_turnOver_qz
          exact ((if_neg c7).trans (if_neg c14))
        have e21 : n_X1_turnOver_qu nC nR nf f fz fu b = zt f b (fun p => if fu p = 0 then 1 else 0) fu (nC * nR) := by
          unfold n_X1_turnOver_qu
          exact ((if_neg c7).trans (if_neg c14))
        exact W.iret (v := (s_X1_placesBelow nC nR nf f b)) hx hb hr (fun t ht hW => ⟨⟨_, (), rfl, e17.symm, ⟨(by rw [e18, e19, e20, e21]; rw [ht]; exact hP), va_K.moved hW.alike hK, (by rw [e18, e19, e20, e21]; exact hD)⟩⟩, hS.F ht⟩) hS.2.2 dX1_turnOver_121
      have L16 : ∀ (n16 : Nat) (k : Nat), (k ≤ nC * nR) → (nC * nR < k + n16) → ∀ (H : Heap) (locs : List Loc), va_P D vwCl [(qf, .inr (1, [.ref qx, .ref qy, .ref qz, .ref qu, .int (nI nC), .int (nI nR), .int nf])), (qa, .inl (cI, 36, .inl (zt f b (fun p => 2 * b - 1 - f p) f k))), (qz, .inl (cI, 36, .inl (zt f b (fun p => 2 * (s_X1_highestLayer nC nR nf fz) + 1 - fz p) fz k))), (qu, .inl (cZ, 36, .inl (zt f b (fun p => if fu p = 0 then 1 else 0) fu k)))] H → va_D A [(qf, .inr (1, [.ref qx, .ref qy, .ref qz, .ref qu, .int (nI nC), .int (nI nR), .int nf])), (qa, .inl (cI, 36, .inl (zt f b (fun p => 2 * b - 1 - f p) f k))), (qz, .inl (cI, 36, .inl (zt f b (fun p => 2 * (s_X1_highestLayer nC nR nf fz) + 1 - fz p) fz k))), (qu, .inl (cZ, 36, .inl (zt f b (fun p => if fu p = 0 then 1 else 0) fu k)))] → va_S A s.heap H locs → ∀ (ls : Array Slot), lv_has ls 6 [(5, .int (nI k)), (4, .int (s_X1_highestLayer nC nR nf fz)), (3, .int (s_X1_placesBelow nC nR nf f b)), (0, .ref qf), (1, .ref qa), (2, .int b)] → W p l e (headSpec wsX1_turnOver rm_X1_turnOver).room s m ([.ref qf, .ref qa, .int b]).toArray below meth c H locs 0 0 (MQ below (Qc_X1_turnOver D cI cZ cJ cD qf qx qy qz qu nC nR nf qa f fz fu b A) ([.ref qf, .ref qa, .int b]).toArray s 0 0 A) (F0 m 30 ls []) := by
        intro n16
        induction n16 with
        | zero =>
          intro k hk hf16
          exact absurd hf16 (by omega)
        | succ n16 ih16 =>
          intro k hk hf16 H locs hP hD hS ls hl
          refine lv_iload hx hb dX1_turnOver_30 (lv_at hl 0 rfl) ?_
          refine lv_aload_n hx hb dX1_turnOver_32 rfl (lv_at hl 3 rfl) ?_
          refine va_calli (va_runV (As := []) (rest := [.int (nI k)]) ⟨hx, hb, hml, hown, hts⟩ (c_X1_panels l D cI cZ cJ cD qf qx qy qz qu nC nR nf ) (cwV 0 hts gX1_turnOver_X1_panels rfl rfl rfl (by decide +kernel) ⟨Nat.le_of_ble_eq_true rfl, Nat.le_of_ble_eq_true rfl⟩) ⟨zblind, va_recv hK hP (ci := 1) (q0 := 0) rfl rfl, (fun U hU hW => ⟨rfl, by rw [hU]; exact hP.sub (ws' := [(qf, .inr (1, [.ref qx, .ref qy, .ref qz, .ref qu, .int (nI nC), .int (nI nR), .int nf]))]) [0] rfl, va_K.moved hW.alike hK⟩)⟩ rfl rfl hl.1 rfl (lv_room (Nat.le_of_ble_eq_true rfl)) dX1_turnOver_33 ⟨Nat.le_of_ble_eq_true rfl, Nat.le_of_ble_eq_true rfl⟩) hS (fun q _ h => h.elim) (fun q h => h.elim) (fun r22 u t H locs ht hvm hw hB hz1 hk1 hS => ?_)
          rw [hw]
          have hP := zk hP hk1
          refine lv_icmp_ge (tgt := 110) hx hb dX1_turnOver_36 (by decide) (fun c23 => ?_) (fun c23 => ?_)
          · have hk9 : nC * nR ≤ k := z_pge hN hk c23
            have ek9 : k = nC * nR := by omega
            subst ek9
            exact X16  _ _ hP hD hS _ (lv_sub hl [1, 2, 3, 4, 5] rfl)
          · refine lv_aload_n hx hb dX1_turnOver_39 rfl (lv_at hl 4 rfl) ?_
            refine lv_iload hx hb dX1_turnOver_40 (lv_at hl 0 rfl) ?_
            refine va_iald hx hb hK hP 1 0 rfl rfl (z_pin hN hk c23) dX1_turnOver_42 ?_
            refine lv_iload_n hx hb dX1_turnOver_43 rfl (lv_at hl 5 rfl) ?_
            refine lv_icmp_ge (tgt := 104) hx hb dX1_turnOver_44 (by decide) (fun c24 => ?_) (fun c24 => ?_)
            · refine lv_iinc (v := nI (k + 1)) (lv' := [(5, .int (nI (k + 1))), (4, .int (s_X1_highestLayer nC nR nf fz)), (3, .int (s_X1_placesBelow nC nR nf f b)), (0, .ref qf), (1, .ref qa), (2, .int b)]) hx hb dX1_turnOver_104 hl (k := 0) rfl (nI_succ k).symm (by decide) rfl (fun ls hl => ?_)
              refine lv_goto (tgt := 30) hx hb dX1_turnOver_107 (by decide) ?_
              have hk8 : k < nC * nR := z_plt hN hk c23
              have hk36 : k < 36 := by omega
              have hs8 := zt_ge hk36 c24
              rw [zt_skip (fun p => 2 * b - 1 - f p) f hs8, zt_skip (fun p => 2 * (s_X1_highestLayer nC nR nf fz) + 1 - fz p) fz hs8, zt_skip (fun p => if fu p = 0 then 1 else 0) fu hs8] at hP hD
              exact ih16 (k + 1) (by omega) (by omega) _ _ hP hD hS _ (lv_sub hl [0, 1, 2, 3, 4, 5] rfl)
            · refine lv_aload_n hx hb dX1_turnOver_47 rfl (lv_at hl 4 rfl) ?_
              refine lv_iload hx hb dX1_turnOver_48 (lv_at hl 0 rfl) ?_
              refine lv_iconst (v := 2) hx hb dX1_turnOver_50 (by decide) ?_
              refine lv_iload_n hx hb dX1_turnOver_51 rfl (lv_at hl 5 rfl) ?_
              refine lv_imul hx hb dX1_turnOver_52 ?_
              refine lv_iconst (v := 1) hx hb dX1_turnOver_53 (by decide) ?_
              refine lv_isub hx hb dX1_turnOver_54 ?_
              refine lv_aload_n hx hb dX1_turnOver_55 rfl (lv_at hl 4 rfl) ?_
              refine lv_iload hx hb dX1_turnOver_56 (lv_at hl 0 rfl) ?_
              refine va_iald hx hb hK hP 1 0 rfl rfl (z_pin hN hk c23) dX1_turnOver_58 ?_
              refine lv_isub hx hb dX1_turnOver_59 ?_
              refine va_iast hx hb hK hP hD hS 1 0 rfl rfl (z_pin hN hk c23) dX1_turnOver_60 (fun H locs hP hD hS => ?_)
              have hP : va_P D vwCl [(qf, .inr (1, [.ref qx, .ref qy, .ref qz, .ref qu, .int (nI nC), .int (nI nR), .int nf])), (qa, .inl (cI, 36, .inl (upd (zt f b (fun p => 2 * b - 1 - f p) f k) (nI k).toNatClampNeg (((2 * b) - 1) - ((zt f b (fun p => 2 * b - 1 - f p) f k) (nI k).toNatClampNeg))))), (qz, .inl (cI, 36, .inl (zt f b (fun p => 2 * (s_X1_highestLayer nC nR nf fz) + 1 - fz p) fz k))), (qu, .inl (cZ, 36, .inl (zt f b (fun p => if fu p = 0 then 1 else 0) fu k)))] H := hP
              have hD : va_D A [(qf, .inr (1, [.ref qx, .ref qy, .ref qz, .ref qu, .int (nI nC), .int (nI nR), .int nf])), (qa, .inl (cI, 36, .inl (upd (zt f b (fun p => 2 * b - 1 - f p) f k) (nI k).toNatClampNeg (((2 * b) - 1) - ((zt f b (fun p => 2 * b - 1 - f p) f k) (nI k).toNatClampNeg))))), (qz, .inl (cI, 36, .inl (zt f b (fun p => 2 * (s_X1_highestLayer nC nR nf fz) + 1 - fz p) fz k))), (qu, .inl (cZ, 36, .inl (zt f b (fun p => if fu p = 0 then 1 else 0) fu k)))] := hD
              refine lv_aload_n hx hb dX1_turnOver_61 rfl (lv_at hl 3 rfl) ?_
              refine va_get (D := D) (ci := 1) (v := .ref qz) (C := RX1) (T := TX1) (N := 7) hx hb hts (fun w h => List.mem_cons_of_mem _ (List.mem_append_right _ h)) hown hK hP 0 rfl rfl 2 (by decide) (hts (.fieldLink RX1 18 "AtlasFolder$FoldedSheet" "layers" "[I") (List.mem_cons_of_mem _ (List.mem_append_left _ (List.mem_of_getElem? (i := 0) rfl)))) (fun _ h9 => h9) rfl dX1_turnOver_62 ?_
              refine lv_iload hx hb dX1_turnOver_65 (lv_at hl 0 rfl) ?_
              refine lv_iconst (v := 2) hx hb dX1_turnOver_67 (by decide) ?_
              refine lv_iload hx hb dX1_turnOver_68 (lv_at hl 1 rfl) ?_
              refine lv_imul hx hb dX1_turnOver_70 ?_
              refine lv_iconst (v := 1) hx hb dX1_turnOver_71 (by decide) ?_
              refine lv_iadd hx hb dX1_turnOver_72 ?_
              refine lv_aload_n hx hb dX1_turnOver_73 rfl (lv_at hl 3 rfl) ?_
              refine va_get (D := D) (ci := 1) (v := .ref qz) (C := RX1) (T := TX1) (N := 7) hx hb hts (fun w h => List.mem_cons_of_mem _ (List.mem_append_right _ h)) hown hK hP 0 rfl rfl 2 (by decide) (hts (.fieldLink RX1 18 "AtlasFolder$FoldedSheet" "layers" "[I") (List.mem_cons_of_mem _ (List.mem_append_left _ (List.mem_of_getElem? (i := 0) rfl)))) (fun _ h9 => h9) rfl dX1_turnOver_74 ?_
              refine lv_iload hx hb dX1_turnOver_77 (lv_at hl 0 rfl) ?_
              refine va_iald hx hb hK hP 2 0 rfl rfl (z_pin hN hk c23) dX1_turnOver_79 ?_
              refine lv_isub hx hb dX1_turnOver_80 ?_
              refine va_iast hx hb hK hP hD hS 2 0 rfl rfl (z_pin hN hk c23) dX1_turnOver_81 (fun H locs hP hD hS => ?_)
              have hP : va_P D vwCl [(qf, .inr (1, [.ref qx, .ref qy, .ref qz, .ref qu, .int (nI nC), .int (nI nR), .int nf])), (qa, .inl (cI, 36, .inl (upd (zt f b (fun p => 2 * b - 1 - f p) f k) (nI k).toNatClampNeg (((2 * b) - 1) - ((zt f b (fun p => 2 * b - 1 - f p) f k) (nI k).toNatClampNeg))))), (qz, .inl (cI, 36, .inl (upd (zt f b (fun p => 2 * (s_X1_highestLayer nC nR nf fz) + 1 - fz p) fz k) (nI k).toNatClampNeg (((2 * (s_X1_highestLayer nC nR nf fz)) + 1) - ((zt f b (fun p => 2 * (s_X1_highestLayer nC nR nf fz) + 1 - fz p) fz k) (nI k).toNatClampNeg))))), (qu, .inl (cZ, 36, .inl (zt f b (fun p => if fu p = 0 then 1 else 0) fu k)))] H := hP
              have hD : va_D A [(qf, .inr (1, [.ref qx, .ref qy, .ref qz, .ref qu, .int (nI nC), .int (nI nR), .int nf])), (qa, .inl (cI, 36, .inl (upd (zt f b (fun p => 2 * b - 1 - f p) f k) (nI k).toNatClampNeg (((2 * b) - 1) - ((zt f b (fun p => 2 * b - 1 - f p) f k) (nI k).toNatClampNeg))))), (qz, .inl (cI, 36, .inl (upd (zt f b (fun p => 2 * (s_X1_highestLayer nC nR nf fz) + 1 - fz p) fz k) (nI k).toNatClampNeg (((2 * (s_X1_highestLayer nC nR nf fz)) + 1) - ((zt f b (fun p => 2 * (s_X1_highestLayer nC nR nf fz) + 1 - fz p) fz k) (nI k).toNatClampNeg))))), (qu, .inl (cZ, 36, .inl (zt f b (fun p => if fu p = 0 then 1 else 0) fu k)))] := hD
              refine lv_aload_n hx hb dX1_turnOver_82 rfl (lv_at hl 3 rfl) ?_
              refine va_get (D := D) (ci := 1) (v := .ref qu) (C := RX1) (T := TX1) (N := 7) hx hb hts (fun w h => List.mem_cons_of_mem _ (List.mem_append_right _ h)) hown hK hP 0 rfl rfl 3 (by decide) (hts (.fieldLink RX1 21 "AtlasFolder$FoldedSheet" "faceUp" "[Z") (List.mem_cons_of_mem _ (List.mem_append_left _ (List.mem_of_getElem? (i := 1) rfl)))) (fun _ h9 => h9) rfl dX1_turnOver_83 ?_
              refine lv_iload hx hb dX1_turnOver_86 (lv_at hl 0 rfl) ?_
              refine lv_aload_n hx hb dX1_turnOver_88 rfl (lv_at hl 3 rfl) ?_
              refine va_get (D := D) (ci := 1) (v := .ref qu) (C := RX1) (T := TX1) (N := 7) hx hb hts (fun w h => List.mem_cons_of_mem _ (List.mem_append_right _ h)) hown hK hP 0 rfl rfl 3 (by decide) (hts (.fieldLink RX1 21 "AtlasFolder$FoldedSheet" "faceUp" "[Z") (List.mem_cons_of_mem _ (List.mem_append_left _ (List.mem_of_getElem? (i := 1) rfl)))) (fun _ h9 => h9) rfl dX1_turnOver_89 ?_
              refine lv_iload hx hb dX1_turnOver_92 (lv_at hl 0 rfl) ?_
              refine va_zald hx hb hK hP 3 1 rfl rfl (z_pin hN hk c23) dX1_turnOver_94 ?_
              have K26 : ∀ v26_0 : Int32, v26_0 = (if ((zt f b (fun p => if fu p = 0 then 1 else 0) fu k) (nI k).toNatClampNeg) = 0 then 1 else 0) → ∀ (H : Heap) (locs : List Loc), va_P D vwCl [(qf, .inr (1, [.ref qx, .ref qy, .ref qz, .ref qu, .int (nI nC), .int (nI nR), .int nf])), (qa, .inl (cI, 36, .inl (upd (zt f b (fun p => 2 * b - 1 - f p) f k) (nI k).toNatClampNeg (((2 * b) - 1) - ((zt f b (fun p => 2 * b - 1 - f p) f k) (nI k).toNatClampNeg))))), (qz, .inl (cI, 36, .inl (upd (zt f b (fun p => 2 * (s_X1_highestLayer nC nR nf fz) + 1 - fz p) fz k) (nI k).toNatClampNeg (((2 * (s_X1_highestLayer nC nR nf fz)) + 1) - ((zt f b (fun p => 2 * (s_X1_highestLayer nC nR nf fz) + 1 - fz p) fz k) (nI k).toNatClampNeg))))), (qu, .inl (cZ, 36, .inl (zt f b (fun p => if fu p = 0 then 1 else 0) fu k)))] H → va_D A [(qf, .inr (1, [.ref qx, .ref qy, .ref qz, .ref qu, .int (nI nC), .int (nI nR), .int nf])), (qa, .inl (cI, 36, .inl (upd (zt f b (fun p => 2 * b - 1 - f p) f k) (nI k).toNatClampNeg (((2 * b) - 1) - ((zt f b (fun p => 2 * b - 1 - f p) f k) (nI k).toNatClampNeg))))), (qz, .inl (cI, 36, .inl (upd (zt f b (fun p => 2 * (s_X1_highestLayer nC nR nf fz) + 1 - fz p) fz k) (nI k).toNatClampNeg (((2 * (s_X1_highestLayer nC nR nf fz)) + 1) - ((zt f b (fun p => 2 * (s_X1_highestLayer nC nR nf fz) + 1 - fz p) fz k) (nI k).toNatClampNeg))))), (qu, .inl (cZ, 36, .inl (zt f b (fun p => if fu p = 0 then 1 else 0) fu k)))] → va_S A s.heap H locs → ∀ (ls : Array Slot), lv_has ls 6 [(5, .int (nI k)), (4, .int (s_X1_highestLayer nC nR nf fz)), (3, .int (s_X1_placesBelow nC nR nf f b)), (0, .ref qf), (1, .ref qa), (2, .int b)] → W p l e (headSpec wsX1_turnOver rm_X1_turnOver).room s m ([.ref qf, .ref qa, .int b]).toArray below meth c H locs 0 0 (MQ below (Qc_X1_turnOver D cI cZ cJ cD qf qx qy qz qu nC nR nf qa f fz fu b A) ([.ref qf, .ref qa, .int b]).toArray s 0 0 A) (F0 m 103 ls [.int v26_0, .int (nI k), .ref qu]) := by
                intro v26_0 hv26_0 H locs hP hD hS ls hl
                subst hv26_0
                refine va_zast hx hb hK hP hD hS 3 1 rfl rfl (z_pin hN hk c23) dX1_turnOver_103 (fun H locs hP hD hS => ?_)
                have hP : va_P D vwCl [(qf, .inr (1, [.ref qx, .ref qy, .ref qz, .ref qu, .int (nI nC), .int (nI nR), .int nf])), (qa, .inl (cI, 36, .inl (upd (zt f b (fun p => 2 * b - 1 - f p) f k) (nI k).toNatClampNeg (((2 * b) - 1) - ((zt f b (fun p => 2 * b - 1 - f p) f k) (nI k).toNatClampNeg))))), (qz, .inl (cI, 36, .inl (upd (zt f b (fun p => 2 * (s_X1_highestLayer nC nR nf fz) + 1 - fz p) fz k) (nI k).toNatClampNeg (((2 * (s_X1_highestLayer nC nR nf fz)) + 1) - ((zt f b (fun p => 2 * (s_X1_highestLayer nC nR nf fz) + 1 - fz p) fz k) (nI k).toNatClampNeg))))), (qu, .inl (cZ, 36, .inl (upd (zt f b (fun p => if fu p = 0 then 1 else 0) fu k) (nI k).toNatClampNeg (vp_nar .boolean (if ((zt f b (fun p => if fu p = 0 then 1 else 0) fu k) (nI k).toNatClampNeg) = 0 then 1 else 0)))))] H := hP
                have hD : va_D A [(qf, .inr (1, [.ref qx, .ref qy, .ref qz, .ref qu, .int (nI nC), .int (nI nR), .int nf])), (qa, .inl (cI, 36, .inl (upd (zt f b (fun p => 2 * b - 1 - f p) f k) (nI k).toNatClampNeg (((2 * b) - 1) - ((zt f b (fun p => 2 * b - 1 - f p) f k) (nI k).toNatClampNeg))))), (qz, .inl (cI, 36, .inl (upd (zt f b (fun p => 2 * (s_X1_highestLayer nC nR nf fz) + 1 - fz p) fz k) (nI k).toNatClampNeg (((2 * (s_X1_highestLayer nC nR nf fz)) + 1) - ((zt f b (fun p => 2 * (s_X1_highestLayer nC nR nf fz) + 1 - fz p) fz k) (nI k).toNatClampNeg))))), (qu, .inl (cZ, 36, .inl (upd (zt f b (fun p => if fu p = 0 then 1 else 0) fu k) (nI k).toNatClampNeg (vp_nar .boolean (if ((zt f b (fun p => if fu p = 0 then 1 else 0) fu k) (nI k).toNatClampNeg) = 0 then 1 else 0)))))] := hD
                refine lv_iinc (v := nI (k + 1)) (lv' := [(5, .int (nI (k + 1))), (4, .int (s_X1_highestLayer nC nR nf fz)), (3, .int (s_X1_placesBelow nC nR nf f b)), (0, .ref qf), (1, .ref qa), (2, .int b)]) hx hb dX1_turnOver_104 hl (k := 0) rfl (nI_succ k).symm (by decide) rfl (fun ls hl => ?_)
                refine lv_goto (tgt := 30) hx hb dX1_turnOver_107 (by decide) ?_
                have hk8 : k < nC * nR := z_plt hN hk c23
                have hk36 : k < 36 := by omega
                have hs8 := zt_lt hk36 c24
                have e_qa : upd (zt f b (fun p => 2 * b - 1 - f p) f k) (nI k).toNatClampNeg (((2 * b) - 1) - ((zt f b (fun p => 2 * b - 1 - f p) f k) (nI k).toNatClampNeg)) = zt f b (fun p => 2 * b - 1 - f p) f (k + 1) := zt_put hk36 hs8 (by rw [zt_at f b (fun p => 2 * b - 1 - f p) f hk36])
                have e_qz : upd (zt f b (fun p => 2 * (s_X1_highestLayer nC nR nf fz) + 1 - fz p) fz k) (nI k).toNatClampNeg (((2 * (s_X1_highestLayer nC nR nf fz)) + 1) - ((zt f b (fun p => 2 * (s_X1_highestLayer nC nR nf fz) + 1 - fz p) fz k) (nI k).toNatClampNeg)) = zt f b (fun p => 2 * (s_X1_highestLayer nC nR nf fz) + 1 - fz p) fz (k + 1) := zt_put hk36 hs8 (by rw [zt_at f b (fun p => 2 * (s_X1_highestLayer nC nR nf fz) + 1 - fz p) fz hk36])
                have e_qu : upd (zt f b (fun p => if fu p = 0 then 1 else 0) fu k) (nI k).toNatClampNeg (vp_nar .boolean (if ((zt f b (fun p => if fu p = 0 then 1 else 0) fu k) (nI k).toNatClampNeg) = 0 then 1 else 0)) = zt f b (fun p => if fu p = 0 then 1 else 0) fu (k + 1) := zt_put hk36 hs8 (by rw [zt_at f b (fun p => if fu p = 0 then 1 else 0) fu hk36]; exact z_b01 (by split <;> simp))
                rw [e_qa, e_qz, e_qu] at hP hD
                exact ih16 (k + 1) (by omega) (by omega) _ _ hP hD hS _ (lv_sub hl [0, 1, 2, 3, 4, 5] rfl)
              refine lv_if_ne (tgt := 102) hx hb dX1_turnOver_95 (by decide) (fun c27 => ?_) (fun c27 => ?_)
              · refine lv_iconst (v := 0) hx hb dX1_turnOver_102 (by decide) ?_
                exact K26 _ (if_neg c27).symm _ _ hP hD hS _ (lv_sub hl [0, 1, 2, 3, 4, 5] rfl)
              · refine lv_iconst (v := 1) hx hb dX1_turnOver_98 (by decide) ?_
                refine lv_goto (tgt := 103) hx hb dX1_turnOver_99 (by decide) ?_
                exact K26 _ (if_pos c27).symm _ _ hP hD hS _ (lv_sub hl [0, 1, 2, 3, 4, 5] rfl)
      rw [← zt_0 f b (fun p => 2 * b - 1 - f p) f, ← zt_0 f b (fun p => 2 * (s_X1_highestLayer nC nR nf fz) + 1 - fz p) fz, ← zt_0 f b (fun p => if fu p = 0 then 1 else 0) fu] at hP hD
      exact L16 (nC * nR + 1) 0 (by omega) (by omega) _ _ hP hD hS _ (zlv (lv_sub (l' := [(5, .int 0), (4, .int (s_X1_highestLayer nC nR nf fz)), (3, .int (s_X1_placesBelow nC nR nf f b)), (0, .ref qf), (1, .ref qa), (2, .int b)]) hl [0, 1, 2, 3, 4, 5] rfl) (by rfl))
    · refine lv_iconst (v := 0) hx hb dX1_turnOver_19 (by decide) ?_
      have e28 : s_X1_turnOver nC nR nf f fz fu b = 0 := by
        unfold s_X1_turnOver
        exact ((if_neg c7).trans (if_pos c14))
      have e29 : n_X1_turnOver_qf_6 nC nR nf f fz fu b = nf := by
        unfold n_X1_turnOver_qf_6
        exact ((if_neg c7).trans (if_pos c14))
      have e30 : n_X1_turnOver_qa nC nR nf f fz fu b = f := by
        unfold n_X1_turnOver_qa
        exact ((if_neg c7).trans (if_pos c14))
      have e31 : n_X1_turnOver_qz nC nR nf f fz fu b = fz := by
        unfold n_X1_turnOver_qz
        exact ((if_neg c7).trans (if_pos c14))
      have e32 : n_X1_turnOver_qu nC nR nf f fz fu b = fu := by
        unfold n_X1_turnOver_qu
        exact ((if_neg c7).trans (if_pos c14))
      exact W.iret (v := 0) hx hb hr (fun t ht hW => ⟨⟨_, (), rfl, e28.symm, ⟨(by rw [e29, e30, e31, e32]; rw [ht]; exact hP), va_K.moved hW.alike hK, (by rw [e29, e30, e31, e32]; exact hD)⟩⟩, hS.F ht⟩) hS.2.2 dX1_turnOver_20
def s_X1_turnOverColumns (nC : Nat) (nR : Nat) (nf : Int32) (fx : Nat → Int32) (fz : Nat → Int32) (fu : Nat → Int32) (b : Int32) : Int32 := s_X1_turnOver nC nR nf fx fz fu b
def n_X1_turnOverColumns_qf_6 (nC : Nat) (nR : Nat) (nf : Int32) (fx : Nat → Int32) (fz : Nat → Int32) (fu : Nat → Int32) (b : Int32) : Int32 := n_X1_turnOver_qf_6 nC nR nf fx fz fu b
def n_X1_turnOverColumns_qx (nC : Nat) (nR : Nat) (nf : Int32) (fx : Nat → Int32) (fz : Nat → Int32) (fu : Nat → Int32) (b : Int32) : Nat → Int32 := n_X1_turnOver_qa nC nR nf fx fz fu b
def n_X1_turnOverColumns_qz (nC : Nat) (nR : Nat) (nf : Int32) (fx : Nat → Int32) (fz : Nat → Int32) (fu : Nat → Int32) (b : Int32) : Nat → Int32 := n_X1_turnOver_qz nC nR nf fx fz fu b
def n_X1_turnOverColumns_qu (nC : Nat) (nR : Nat) (nf : Int32) (fx : Nat → Int32) (fz : Nat → Int32) (fu : Nat → Int32) (b : Int32) : Nat → Int32 := n_X1_turnOver_qu nC nR nf fx fz fu b
abbrev rm_X1_turnOverColumns : Room := { frames := 3, cells := 0, slots := 0, locals := 69 }
abbrev Qc_X1_turnOverColumns (D : va_G) (cI cZ cJ cD : ClassId) (qf : Nat) (qx : Nat) (qy : Nat) (qz : Nat) (qu : Nat) (nC : Nat) (nR : Nat) (nf : Int32) (fx : Nat → Int32) (fz : Nat → Int32) (fu : Nat → Int32) (b : Int32) (A : Nat → Prop) : Array Value → State → Outcome → State → Prop := va_Qi (fun (r : Int32) (_ : Unit) => r = s_X1_turnOverColumns nC nR nf fx fz fu b) (zPost D cI cZ cJ cD A [(qf, .inr (1, [.ref qx, .ref qy, .ref qz, .ref qu, .int (nI nC), .int (nI nR), .int (n_X1_turnOverColumns_qf_6 nC nR nf fx fz fu b)])), (qx, .inl (cI, 36, .inl (n_X1_turnOverColumns_qx nC nR nf fx fz fu b))), (qz, .inl (cI, 36, .inl (n_X1_turnOverColumns_qz nC nR nf fx fz fu b))), (qu, .inl (cZ, 36, .inl (n_X1_turnOverColumns_qu nC nR nf fx fz fu b)))]) A
set_option maxHeartbeats 4000000 in
set_option maxRecDepth 100000 in
theorem c_X1_turnOverColumns (l : Launch) (D : va_G) (cI cZ cJ cD : ClassId) (qf : Nat) (qx : Nat) (qy : Nat) (qz : Nat) (qu : Nat) (nC : Nat) (nR : Nat) (nf : Int32) (fx : Nat → Int32) (fz : Nat → Int32) (fu : Nat → Int32) (b : Int32) (sz : Nat) (hN : nC * nR ≤ 36) : Met l yX1_turnOverColumns wsX1_turnOverColumns rm_X1_turnOverColumns (va_Pc [.ref qf, .int b] (zPreW D cI cZ cJ cD [(qf, .inr (1, [.ref qx, .ref qy, .ref qz, .ref qu, .int (nI nC), .int (nI nR), .int nf])), (qx, .inl (cI, 36, .inl fx)), (qz, .inl (cI, 36, .inl fz)), (qu, .inl (cZ, 36, .inl fu))] sz)) (Qc_X1_turnOverColumns D cI cZ cJ cD qf qx qy qz qu nC nR nf fx fz fu b (va_A [(qf, .inr (1, [.ref qx, .ref qy, .ref qz, .ref qu, .int (nI nC), .int (nI nR), .int nf])), (qx, .inl (cI, 36, .inl fx)), (qz, .inl (cI, 36, .inl fz)), (qu, .inl (cZ, 36, .inl fu))] sz)) 0 0 (va_A [(qf, .inr (1, [.ref qx, .ref qy, .ref qz, .ref qu, .int (nI nC), .int (nI nR), .int nf])), (qx, .inl (cI, 36, .inl fx)), (qz, .inl (cI, 36, .inl fz)), (qu, .inl (cZ, 36, .inl fu))] sz) := by
  refine Met.ofW (cc := cX1_turnOverColumns) (maxL := 2) (ret := (some .int)) (by decide) rfl ?_
  intro p e s m args below meth c s₁ B hml hv
  obtain ⟨rfl, hsz, hP, hK, hD0⟩ := hv
  have hx := B.exec
  have hb := B.bytes
  have hr := B.returns
  have hts := atoms_spec (ws := wsX1_turnOverColumns) B.pre
  have hown : s.vm.findClass RX1 = some m.cls := findClass_of_methodNamed B.named
  have hlocks := B.notSynchronized
  subst hsz
  have hD := hD0.self (sz := s.heap.size)
  generalize hAe : va_A [(qf, .inr (1, [.ref qx, .ref qy, .ref qz, .ref qu, .int (nI nC), .int (nI nR), .int nf])), (qx, .inl (cI, 36, .inl fx)), (qz, .inl (cI, 36, .inl fz)), (qu, .inl (cZ, 36, .inl fu))] s.heap.size = A at hD ⊢
  have hA : ∀ q : Nat, s.heap.size ≤ q → A q := fun q h => by rw [← hAe]; exact Or.inr h
  have hS : va_S A s.heap s.heap [] := va_S.rf
  have hl := lv_entry ([.ref qf, .int b]) (n := 2) (Nat.le_of_ble_eq_true rfl)
  rw [lg_entry_eq]
  generalize (lg_sl ([.ref qf, .int b]) ++ List.replicate (2 - (lg_sl ([.ref qf, .int b])).length) Slot.unset).toArray = ls at hl ⊢
  have hl : lv_has ls 2 [(0, .ref qf), (1, .int b)] := hl
  have hP : va_P D vwCl [(qf, .inr (1, [.ref qx, .ref qy, .ref qz, .ref qu, .int (nI nC), .int (nI nR), .int nf])), (qx, .inl (cI, 36, .inl fx)), (qz, .inl (cI, 36, .inl fz)), (qu, .inl (cZ, 36, .inl fu))] s.heap := hP
  have hP := hP
  refine lv_aload_n hx hb dX1_turnOverColumns_0 rfl (lv_at hl 0 rfl) ?_
  refine lv_aload_n hx hb dX1_turnOverColumns_1 rfl (lv_at hl 0 rfl) ?_
  refine va_get (D := D) (ci := 1) (v := .ref qx) (C := RX1) (T := TX1) (N := 7) hx hb hts (fun w h => List.mem_cons_of_mem _ (List.mem_append_right _ h)) hown hK hP 0 rfl rfl 0 (by decide) (hts (.fieldLink RX1 9 "AtlasFolder$FoldedSheet" "columnPlaces" "[I") (List.mem_cons_of_mem _ (List.mem_append_left _ (List.mem_append_left _ (List.mem_of_getElem? (i := 0) rfl))))) (fun _ h9 => h9) rfl dX1_turnOverColumns_2 ?_
  refine lv_iload_n hx hb dX1_turnOverColumns_5 rfl (lv_at hl 1 rfl) ?_
  have hPc := hP.sub (ws' := [(qf, .inr (1, [.ref qx, .ref qy, .ref qz, .ref qu, .int (nI nC), .int (nI nR), .int nf])), (qx, .inl (cI, 36, .inl fx)), (qz, .inl (cI, 36, .inl fz)), (qu, .inl (cZ, 36, .inl fu))]) [0, 1, 2, 3] rfl
  have hDc := hD.sub (ws' := [(qf, .inr (1, [.ref qx, .ref qy, .ref qz, .ref qu, .int (nI nC), .int (nI nR), .int nf])), (qx, .inl (cI, 36, .inl fx)), (qz, .inl (cI, 36, .inl fz)), (qu, .inl (cZ, 36, .inl fu))]) [0, 1, 2, 3] (by decide) rfl
  have hFc := va_free (wc := [(qf, .inr (1, [.ref qx, .ref qy, .ref qz, .ref qu, .int (nI nC), .int (nI nR), .int nf])), (qx, .inl (cI, 36, .inl fx)), (qz, .inl (cI, 36, .inl fz)), (qu, .inl (cZ, 36, .inl fu))]) hD hS hA [0, 1, 2, 3] rfl
  refine va_calli (va_runV (As := [.ref qx, .int b]) (rest := []) ⟨hx, hb, hml, hown, hts⟩ (c_X1_turnOver l D cI cZ cJ cD qf qx qy qz qu nC nR nf qx fx fz fu b s.heap.size (by assumption)) (cwV 2 hts gX1_turnOverColumns_X1_turnOver rfl rfl rfl (by decide +kernel) ⟨Nat.le_of_ble_eq_true rfl, Nat.le_of_ble_eq_true rfl⟩) ⟨zblindW, va_recv hK hP (ci := 1) (q0 := 0) rfl rfl, (fun U hU hW => ⟨rfl, by rw [hU], by rw [hU]; exact hPc, va_K.moved hW.alike hK, hDc.weaken (fun _ _ _ _ => trivial)⟩)⟩ rfl rfl hl.1 rfl (lv_room (Nat.le_of_ble_eq_true rfl)) dX1_turnOverColumns_6 ⟨Nat.le_of_ble_eq_true rfl, Nat.le_of_ble_eq_true rfl⟩) hS (fun q _ h => hFc q h) hFc (fun r2 u t H locs ht hvm hw hB hz1 hk1 hS => ?_)
  rw [hw]
  obtain ⟨hP1, hK1, hD1⟩ := hB
  rw [ht] at hP1
  obtain ⟨hP, hD⟩ := va_join (wr := []) (w1 := [(qf, .inr (1, [.ref qx, .ref qy, .ref qz, .ref qu, .int (nI nC), .int (nI nR), .int (n_X1_turnOver_qf_6 nC nR nf fx fz fu b)])), (qx, .inl (cI, 36, .inl (n_X1_turnOver_qa nC nR nf fx fz fu b))), (qz, .inl (cI, 36, .inl (n_X1_turnOver_qz nC nR nf fx fz fu b))), (qu, .inl (cZ, 36, .inl (n_X1_turnOver_qu nC nR nf fx fz fu b)))]) hP hD [0, 1, 2, 3] [] rfl rfl (by decide) (by decide) hk1 hFc hP1 hD1
  have hP := hP.sub (ws' := [(qf, .inr (1, [.ref qx, .ref qy, .ref qz, .ref qu, .int (nI nC), .int (nI nR), .int (n_X1_turnOver_qf_6 nC nR nf fx fz fu b)])), (qx, .inl (cI, 36, .inl (n_X1_turnOver_qa nC nR nf fx fz fu b))), (qz, .inl (cI, 36, .inl (n_X1_turnOver_qz nC nR nf fx fz fu b))), (qu, .inl (cZ, 36, .inl (n_X1_turnOver_qu nC nR nf fx fz fu b)))]) [0, 1, 2, 3] rfl
  have hD := hD.sub (ws' := [(qf, .inr (1, [.ref qx, .ref qy, .ref qz, .ref qu, .int (nI nC), .int (nI nR), .int (n_X1_turnOver_qf_6 nC nR nf fx fz fu b)])), (qx, .inl (cI, 36, .inl (n_X1_turnOver_qa nC nR nf fx fz fu b))), (qz, .inl (cI, 36, .inl (n_X1_turnOver_qz nC nR nf fx fz fu b))), (qu, .inl (cZ, 36, .inl (n_X1_turnOver_qu nC nR nf fx fz fu b)))]) [0, 1, 2, 3] (by decide) rfl
  have e3 : s_X1_turnOverColumns nC nR nf fx fz fu b = s_X1_turnOver nC nR nf fx fz fu b := rfl
  have e4 : n_X1_turnOverColumns_qf_6 nC nR nf fx fz fu b = n_X1_turnOver_qf_6 nC nR nf fx fz fu b := rfl
  have e5 : n_X1_turnOverColumns_qx nC nR nf fx fz fu b = n_X1_turnOver_qa nC nR nf fx fz fu b := rfl
  have e6 : n_X1_turnOverColumns_qz nC nR nf fx fz fu b = n_X1_turnOver_qz nC nR nf fx fz fu b := rfl
  have e7 : n_X1_turnOverColumns_qu nC nR nf fx fz fu b = n_X1_turnOver_qu nC nR nf fx fz fu b := rfl
  exact W.iret (v := (s_X1_turnOver nC nR nf fx fz fu b)) hx hb hr (fun t ht hW => ⟨⟨_, (), rfl, e3.symm, ⟨(by rw [e4, e5, e6, e7]; rw [ht]; exact hP), va_K.moved hW.alike hK, (by rw [e4, e5, e6, e7]; exact hD)⟩⟩, hS.F ht⟩) hS.2.2 dX1_turnOverColumns_9
def s_X1_turnOverRows (nC : Nat) (nR : Nat) (nf : Int32) (fy : Nat → Int32) (fz : Nat → Int32) (fu : Nat → Int32) (b : Int32) : Int32 := s_X1_turnOver nC nR nf fy fz fu b
def n_X1_turnOverRows_qf_6 (nC : Nat) (nR : Nat) (nf : Int32) (fy : Nat → Int32) (fz : Nat → Int32) (fu : Nat → Int32) (b : Int32) : Int32 := n_X1_turnOver_qf_6 nC nR nf fy fz fu b
def n_X1_turnOverRows_qy (nC : Nat) (nR : Nat) (nf : Int32) (fy : Nat → Int32) (fz : Nat → Int32) (fu : Nat → Int32) (b : Int32) : Nat → Int32 := n_X1_turnOver_qa nC nR nf fy fz fu b
def n_X1_turnOverRows_qz (nC : Nat) (nR : Nat) (nf : Int32) (fy : Nat → Int32) (fz : Nat → Int32) (fu : Nat → Int32) (b : Int32) : Nat → Int32 := n_X1_turnOver_qz nC nR nf fy fz fu b
def n_X1_turnOverRows_qu (nC : Nat) (nR : Nat) (nf : Int32) (fy : Nat → Int32) (fz : Nat → Int32) (fu : Nat → Int32) (b : Int32) : Nat → Int32 := n_X1_turnOver_qu nC nR nf fy fz fu b
abbrev rm_X1_turnOverRows : Room := { frames := 3, cells := 0, slots := 0, locals := 69 }
abbrev Qc_X1_turnOverRows (D : va_G) (cI cZ cJ cD : ClassId) (qf : Nat) (qx : Nat) (qy : Nat) (qz : Nat) (qu : Nat) (nC : Nat) (nR : Nat) (nf : Int32) (fy : Nat → Int32) (fz : Nat → Int32) (fu : Nat → Int32) (b : Int32) (A : Nat → Prop) : Array Value → State → Outcome → State → Prop := va_Qi (fun (r : Int32) (_ : Unit) => r = s_X1_turnOverRows nC nR nf fy fz fu b) (zPost D cI cZ cJ cD A [(qf, .inr (1, [.ref qx, .ref qy, .ref qz, .ref qu, .int (nI nC), .int (nI nR), .int (n_X1_turnOverRows_qf_6 nC nR nf fy fz fu b)])), (qy, .inl (cI, 36, .inl (n_X1_turnOverRows_qy nC nR nf fy fz fu b))), (qz, .inl (cI, 36, .inl (n_X1_turnOverRows_qz nC nR nf fy fz fu b))), (qu, .inl (cZ, 36, .inl (n_X1_turnOverRows_qu nC nR nf fy fz fu b)))]) A
set_option maxHeartbeats 4000000 in
set_option maxRecDepth 100000 in
theorem c_X1_turnOverRows (l : Launch) (D : va_G) (cI cZ cJ cD : ClassId) (qf : Nat) (qx : Nat) (qy : Nat) (qz : Nat) (qu : Nat) (nC : Nat) (nR : Nat) (nf : Int32) (fy : Nat → Int32) (fz : Nat → Int32) (fu : Nat → Int32) (b : Int32) (sz : Nat) (hN : nC * nR ≤ 36) : Met l yX1_turnOverRows wsX1_turnOverRows rm_X1_turnOverRows (va_Pc [.ref qf, .int b] (zPreW D cI cZ cJ cD [(qf, .inr (1, [.ref qx, .ref qy, .ref qz, .ref qu, .int (nI nC), .int (nI nR), .int nf])), (qy, .inl (cI, 36, .inl fy)), (qz, .inl (cI, 36, .inl fz)), (qu, .inl (cZ, 36, .inl fu))] sz)) (Qc_X1_turnOverRows D cI cZ cJ cD qf qx qy qz qu nC nR nf fy fz fu b (va_A [(qf, .inr (1, [.ref qx, .ref qy, .ref qz, .ref qu, .int (nI nC), .int (nI nR), .int nf])), (qy, .inl (cI, 36, .inl fy)), (qz, .inl (cI, 36, .inl fz)), (qu, .inl (cZ, 36, .inl fu))] sz)) 0 0 (va_A [(qf, .inr (1, [.ref qx, .ref qy, .ref qz, .ref qu, .int (nI nC), .int (nI nR), .int nf])), (qy, .inl (cI, 36, .inl fy)), (qz, .inl (cI, 36, .inl fz)), (qu, .inl (cZ, 36, .inl fu))] sz) := by
  refine Met.ofW (cc := cX1_turnOverRows) (maxL := 2) (ret := (some .int)) (by decide) rfl ?_
  intro p e s m args below meth c s₁ B hml hv
  obtain ⟨rfl, hsz, hP, hK, hD0⟩ := hv
  have hx := B.exec
  have hb := B.bytes
  have hr := B.returns
  have hts := atoms_spec (ws := wsX1_turnOverRows) B.pre
  have hown : s.vm.findClass RX1 = some m.cls := findClass_of_methodNamed B.named
  have hlocks := B.notSynchronized
  subst hsz
  have hD := hD0.self (sz := s.heap.size)
  generalize hAe : va_A [(qf, .inr (1, [.ref qx, .ref qy, .ref qz, .ref qu, .int (nI nC), .int (nI nR), .int nf])), (qy, .inl (cI, 36, .inl fy)), (qz, .inl (cI, 36, .inl fz)), (qu, .inl (cZ, 36, .inl fu))] s.heap.size = A at hD ⊢
  have hA : ∀ q : Nat, s.heap.size ≤ q → A q := fun q h => by rw [← hAe]; exact Or.inr h
  have hS : va_S A s.heap s.heap [] := va_S.rf
  have hl := lv_entry ([.ref qf, .int b]) (n := 2) (Nat.le_of_ble_eq_true rfl)
  rw [lg_entry_eq]
  generalize (lg_sl ([.ref qf, .int b]) ++ List.replicate (2 - (lg_sl ([.ref qf, .int b])).length) Slot.unset).toArray = ls at hl ⊢
  have hl : lv_has ls 2 [(0, .ref qf), (1, .int b)] := hl
  have hP : va_P D vwCl [(qf, .inr (1, [.ref qx, .ref qy, .ref qz, .ref qu, .int (nI nC), .int (nI nR), .int nf])), (qy, .inl (cI, 36, .inl fy)), (qz, .inl (cI, 36, .inl fz)), (qu, .inl (cZ, 36, .inl fu))] s.heap := hP
  have hP := hP
  refine lv_aload_n hx hb dX1_turnOverRows_0 rfl (lv_at hl 0 rfl) ?_
  refine lv_aload_n hx hb dX1_turnOverRows_1 rfl (lv_at hl 0 rfl) ?_
  refine va_get (D := D) (ci := 1) (v := .ref qy) (C := RX1) (T := TX1) (N := 7) hx hb hts (fun w h => List.mem_cons_of_mem _ (List.mem_append_right _ h)) hown hK hP 0 rfl rfl 1 (by decide) (hts (.fieldLink RX1 15 "AtlasFolder$FoldedSheet" "rowPlaces" "[I") (List.mem_cons_of_mem _ (List.mem_append_left _ (List.mem_append_left _ (List.mem_of_getElem? (i := 0) rfl))))) (fun _ h9 => h9) rfl dX1_turnOverRows_2 ?_
  refine lv_iload_n hx hb dX1_turnOverRows_5 rfl (lv_at hl 1 rfl) ?_
  have hPc := hP.sub (ws' := [(qf, .inr (1, [.ref qx, .ref qy, .ref qz, .ref qu, .int (nI nC), .int (nI nR), .int nf])), (qy, .inl (cI, 36, .inl fy)), (qz, .inl (cI, 36, .inl fz)), (qu, .inl (cZ, 36, .inl fu))]) [0, 1, 2, 3] rfl
  have hDc := hD.sub (ws' := [(qf, .inr (1, [.ref qx, .ref qy, .ref qz, .ref qu, .int (nI nC), .int (nI nR), .int nf])), (qy, .inl (cI, 36, .inl fy)), (qz, .inl (cI, 36, .inl fz)), (qu, .inl (cZ, 36, .inl fu))]) [0, 1, 2, 3] (by decide) rfl
  have hFc := va_free (wc := [(qf, .inr (1, [.ref qx, .ref qy, .ref qz, .ref qu, .int (nI nC), .int (nI nR), .int nf])), (qy, .inl (cI, 36, .inl fy)), (qz, .inl (cI, 36, .inl fz)), (qu, .inl (cZ, 36, .inl fu))]) hD hS hA [0, 1, 2, 3] rfl
  refine va_calli (va_runV (As := [.ref qy, .int b]) (rest := []) ⟨hx, hb, hml, hown, hts⟩ (c_X1_turnOver l D cI cZ cJ cD qf qx qy qz qu nC nR nf qy fy fz fu b s.heap.size (by assumption)) (cwV 2 hts gX1_turnOverRows_X1_turnOver rfl rfl rfl (by decide +kernel) ⟨Nat.le_of_ble_eq_true rfl, Nat.le_of_ble_eq_true rfl⟩) ⟨zblindW, va_recv hK hP (ci := 1) (q0 := 0) rfl rfl, (fun U hU hW => ⟨rfl, by rw [hU], by rw [hU]; exact hPc, va_K.moved hW.alike hK, hDc.weaken (fun _ _ _ _ => trivial)⟩)⟩ rfl rfl hl.1 rfl (lv_room (Nat.le_of_ble_eq_true rfl)) dX1_turnOverRows_6 ⟨Nat.le_of_ble_eq_true rfl, Nat.le_of_ble_eq_true rfl⟩) hS (fun q _ h => hFc q h) hFc (fun r2 u t H locs ht hvm hw hB hz1 hk1 hS => ?_)
  rw [hw]
  obtain ⟨hP1, hK1, hD1⟩ := hB
  rw [ht] at hP1
  obtain ⟨hP, hD⟩ := va_join (wr := []) (w1 := [(qf, .inr (1, [.ref qx, .ref qy, .ref qz, .ref qu, .int (nI nC), .int (nI nR), .int (n_X1_turnOver_qf_6 nC nR nf fy fz fu b)])), (qy, .inl (cI, 36, .inl (n_X1_turnOver_qa nC nR nf fy fz fu b))), (qz, .inl (cI, 36, .inl (n_X1_turnOver_qz nC nR nf fy fz fu b))), (qu, .inl (cZ, 36, .inl (n_X1_turnOver_qu nC nR nf fy fz fu b)))]) hP hD [0, 1, 2, 3] [] rfl rfl (by decide) (by decide) hk1 hFc hP1 hD1
  have hP := hP.sub (ws' := [(qf, .inr (1, [.ref qx, .ref qy, .ref qz, .ref qu, .int (nI nC), .int (nI nR), .int (n_X1_turnOver_qf_6 nC nR nf fy fz fu b)])), (qy, .inl (cI, 36, .inl (n_X1_turnOver_qa nC nR nf fy fz fu b))), (qz, .inl (cI, 36, .inl (n_X1_turnOver_qz nC nR nf fy fz fu b))), (qu, .inl (cZ, 36, .inl (n_X1_turnOver_qu nC nR nf fy fz fu b)))]) [0, 1, 2, 3] rfl
  have hD := hD.sub (ws' := [(qf, .inr (1, [.ref qx, .ref qy, .ref qz, .ref qu, .int (nI nC), .int (nI nR), .int (n_X1_turnOver_qf_6 nC nR nf fy fz fu b)])), (qy, .inl (cI, 36, .inl (n_X1_turnOver_qa nC nR nf fy fz fu b))), (qz, .inl (cI, 36, .inl (n_X1_turnOver_qz nC nR nf fy fz fu b))), (qu, .inl (cZ, 36, .inl (n_X1_turnOver_qu nC nR nf fy fz fu b)))]) [0, 1, 2, 3] (by decide) rfl
  have e3 : s_X1_turnOverRows nC nR nf fy fz fu b = s_X1_turnOver nC nR nf fy fz fu b := rfl
  have e4 : n_X1_turnOverRows_qf_6 nC nR nf fy fz fu b = n_X1_turnOver_qf_6 nC nR nf fy fz fu b := rfl
  have e5 : n_X1_turnOverRows_qy nC nR nf fy fz fu b = n_X1_turnOver_qa nC nR nf fy fz fu b := rfl
  have e6 : n_X1_turnOverRows_qz nC nR nf fy fz fu b = n_X1_turnOver_qz nC nR nf fy fz fu b := rfl
  have e7 : n_X1_turnOverRows_qu nC nR nf fy fz fu b = n_X1_turnOver_qu nC nR nf fy fz fu b := rfl
  exact W.iret (v := (s_X1_turnOver nC nR nf fy fz fu b)) hx hb hr (fun t ht hW => ⟨⟨_, (), rfl, e3.symm, ⟨(by rw [e4, e5, e6, e7]; rw [ht]; exact hP), va_K.moved hW.alike hK, (by rw [e4, e5, e6, e7]; exact hD)⟩⟩, hS.F ht⟩) hS.2.2 dX1_turnOverRows_9
