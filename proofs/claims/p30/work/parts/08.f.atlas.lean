theorem z_i1 {x : Int32} (h : ¬ x < -90) : -90 ≤ x.toInt := by
  rw [Int32.lt_iff_toInt_lt] at h
  have e2 : (-90 : Int32).toInt = -90 := rfl
  omega
theorem z_i2 {x y : Int32} (h : ¬ y < x) : x.toInt ≤ y.toInt := by
  rw [Int32.lt_iff_toInt_lt] at h
  omega
theorem z_i3 {x : Int32} (h : x ≤ 90) : x.toInt ≤ 90 := by
  rw [Int32.le_iff_toInt_le] at h
  exact h
theorem z_nIc {x : Int32} (h : ¬ x < 1) : x = nI x.toNatClampNeg := by
  obtain ⟨j, hj, e⟩ := nI_of (x := x) (fun h0 => h (by
    rw [Int32.lt_iff_toInt_lt] at h0 ⊢
    have e1 : (1 : Int32).toInt = 1 := rfl
    have e0 : (0 : Int32).toInt = 0 := rfl
    omega))
  rw [e, nI_clamp hj]
theorem z_c6 {x : Int32} (h : ¬ 6 < x) : x.toNatClampNeg ≤ 6 := by
  rw [Int32.lt_iff_toInt_lt] at h
  have e6 : (6 : Int32).toInt = 6 := rfl
  have : x.toNatClampNeg = x.toInt.toNat := rfl
  omega
theorem z_c6' {x : Int32} (h : x ≤ 6) : x.toNatClampNeg ≤ 6 := by
  rw [Int32.le_iff_toInt_le] at h
  have e6 : (6 : Int32).toInt = 6 := rfl
  have : x.toNatClampNeg = x.toInt.toNat := rfl
  omega
theorem z_36 {a b : Nat} (ha : a ≤ 6) (hb : b ≤ 6) : a * b ≤ 36 := Nat.mul_le_mul ha hb
theorem z_trn {ft : Nat → Int32} (htr : ∀ j : Nat, j < 9 → ¬ ft j = 0) (bd : Int32) : ¬ s_X0_truthOf ft bd = 0 := by
  unfold s_X0_truthOf
  split
  · decide
  · split
    · decide
    · rename_i h1 h2
      obtain ⟨j, hj, e⟩ := vp_in_of (z_in (n := 9) rfl h1 h2) (by omega)
      rw [e, nI_clamp (by omega)]
      exact htr j hj
def s_X4_x (fw : Nat → Int32) (fh : Nat → Int32) (lat : Int32) (lon : Int32) : Int32 := (if k_X4_requireLatitude lat = 0 then (if k_X4_requireLongitude lon = 0 then lon * (s_X2_tenWidths fw fh lat) else 0) else 0)
def k_X4_x (fw : Nat → Int32) (fh : Nat → Int32) (lat : Int32) (lon : Int32) : Nat := (if k_X4_requireLatitude lat = 0 then (if k_X4_requireLongitude lon = 0 then 0 else k_X4_requireLongitude lon) else k_X4_requireLatitude lat)
abbrev rm_X4_x : Room := { frames := 7, cells := 2, slots := 12, locals := 110 }
abbrev Qc_X4_x (D : va_G) (cI cZ cJ cD : ClassId) (qo : Nat) (qm : Nat) (qb : Nat) (qr : Nat) (qf : Nat) (qw : Nat) (qh : Nat) (fw : Nat → Int32) (fh : Nat → Int32) (lat : Int32) (lon : Int32) : Array Value → State → Outcome → State → Prop := va_Qi (fun (r : Int32) (_ : Unit) => k_X4_x fw fh lat lon = 0 ∧ r = s_X4_x fw fh lat lon) (fun _ _ => True) (fun _ : Nat => False)
abbrev Xc_X4_x (D : va_G) (cI cZ cJ cD : ClassId) (qo : Nat) (qm : Nat) (qb : Nat) (qr : Nat) (qf : Nat) (qw : Nat) (qh : Nat) (fw : Nat → Int32) (fh : Nat → Int32) (lat : Int32) (lon : Int32) : String → State → State → Prop := vx_X (fun _ : Unit => True) (fun E _ _ => zX E (k_X4_x fw fh lat lon)) (fun _ : Nat => False)
set_option maxHeartbeats 4000000 in
set_option maxRecDepth 100000 in
theorem c_X4_x (l : Launch) (hnt : l.stackTraces = false) (D : va_G) (cI cZ cJ cD : ClassId) (qo : Nat) (qm : Nat) (qb : Nat) (qr : Nat) (qf : Nat) (qw : Nat) (qh : Nat) (fw : Nat → Int32) (fh : Nat → Int32) (lat : Int32) (lon : Int32)  : vx_Met l yX4_x wsX4_x rm_X4_x (va_Pc [.ref qo, .int lat, .int lon] (zPreE D cI cZ cJ cD [(qo, .inr (4, [.ref qm, .ref qb, .ref qr, .ref qf])), (qm, .inr (2, [.ref qw, .ref qh])), (qw, .inl (cI, 10, .inl fw)), (qh, .inl (cI, 10, .inl fh))])) (Qc_X4_x D cI cZ cJ cD qo qm qb qr qf qw qh fw fh lat lon ) (Xc_X4_x D cI cZ cJ cD qo qm qb qr qf qw qh fw fh lat lon ) 2 12 (fun _ : Nat => False) := by
  refine vx_ofW (cc := cX4_x) (maxL := 3) (ret := (some .int)) (by decide) rfl ?_
  intro p e s m args below meth c s₁ B hml ht0 hv
  obtain ⟨rfl, hP, hK, hE⟩ := hv
  have hx := B.exec
  have hb := B.bytes
  have hr := B.returns
  have hts := atoms_spec (ws := wsX4_x) B.pre
  have hown : s.vm.findClass RX4 = some m.cls := findClass_of_methodNamed B.named
  have hlocks := B.notSynchronized
  have hS : va_S (fun _ : Nat => False) s.heap s.heap [] := va_S.rf
  have hl := lv_entry ([.ref qo, .int lat, .int lon]) (n := 3) (Nat.le_of_ble_eq_true rfl)
  rw [lg_entry_eq]
  generalize (lg_sl ([.ref qo, .int lat, .int lon]) ++ List.replicate (3 - (lg_sl ([.ref qo, .int lat, .int lon])).length) Slot.unset).toArray = ls at hl ⊢
  have hl : lv_has ls 3 [(0, .ref qo), (1, .int lat), (2, .int lon)] := hl
  have hP : va_P D vwCl [(qo, .inr (4, [.ref qm, .ref qb, .ref qr, .ref qf])), (qm, .inr (2, [.ref qw, .ref qh])), (qw, .inl (cI, 10, .inl fw)), (qh, .inl (cI, 10, .inl fh))] s.heap := hP
  have hP := hP
  refine lv_iload_n hx hb dX4_x_0 rfl (lv_at hl 1 rfl) ?_
  refine vx_callv (vx_runS (As := [.int lat]) (rest := []) ⟨hx, hb, hml, hown, hts⟩ (c_X4_requireLatitude l hnt D cI cZ cJ cD lat ) (va_cwS 1 hts gX4_x_X4_requireLatitude rfl rfl rfl (by decide +kernel) ⟨Nat.le_of_ble_eq_true rfl, Nat.le_of_ble_eq_true rfl⟩) ⟨zblindE, (fun U hU hW => ⟨rfl, by rw [hU]; exact hP.sub (ws' := []) [] rfl, va_K.moved hW.alike hK, zEnv.go hE hS (fun q h => h.elim) hU hW⟩)⟩ rfl rfl hl.1 rfl (lv_room (Nat.le_of_ble_eq_true rfl)) dX4_x_1 ⟨Nat.le_of_ble_eq_true rfl, Nat.le_of_ble_eq_true rfl⟩) hS (fun q _ h => h.elim) (fun q h => h.elim) (fun q _ h => h.elim) (fun E ce q9 u t H locs ht hvm hpx hB hz1 hk1 hS hq9 hce hcl => ?_) (fun u t H locs ht hvm hw hB hz1 hk1 hS => ?_)
  · have hX := hB
    have hP := zk hP hk1
    have c9 : ¬ k_X4_requireLatitude lat = 0 := zX_ne hX
    have e10 : k_X4_x fw fh lat lon = k_X4_requireLatitude lat := by
      unfold k_X4_x
      exact (if_neg c9)
    exact vx_out (fun x hx => (ht0 x hx).elim) hlocks hq9 hce hcl (fun t ht9 hal9 => ⟨(), trivial, (by rw [e10]; exact hX), hS.F ht9⟩) hS.2.2 (by decide) (by decide)
  · have c11 : k_X4_requireLatitude lat = 0 := hw
    have hP := zk hP hk1
    refine W.widen (k := 1) (n := 6) (by decide) (by decide) ?_
    refine lv_iload_n hx hb dX4_x_4 rfl (lv_at hl 2 rfl) ?_
    refine vx_callv (vx_runS (As := [.int lon]) (rest := []) ⟨hx, hb, hml, hown, hts⟩ (c_X4_requireLongitude l hnt D cI cZ cJ cD lon ) (va_cwS 1 hts gX4_x_X4_requireLongitude rfl rfl rfl (by decide +kernel) ⟨Nat.le_of_ble_eq_true rfl, Nat.le_of_ble_eq_true rfl⟩) ⟨zblindE, (fun U hU hW => ⟨rfl, by rw [hU]; exact hP.sub (ws' := []) [] rfl, va_K.moved hW.alike hK, zEnv.go hE hS (fun q h => h.elim) hU hW⟩)⟩ rfl rfl hl.1 rfl (lv_room (Nat.le_of_ble_eq_true rfl)) dX4_x_5 ⟨Nat.le_of_ble_eq_true rfl, Nat.le_of_ble_eq_true rfl⟩) hS (fun q _ h => h.elim) (fun q h => h.elim) (fun q _ h => h.elim) (fun E ce q9 u t H locs ht hvm hpx hB hz1 hk1 hS hq9 hce hcl => ?_) (fun u t H locs ht hvm hw hB hz1 hk1 hS => ?_)
    · have hX := hB
      have hP := zk hP hk1
      have c13 : ¬ k_X4_requireLongitude lon = 0 := zX_ne hX
      have e14 : k_X4_x fw fh lat lon = k_X4_requireLongitude lon := by
        unfold k_X4_x
        exact ((if_pos c11).trans (if_neg c13))
      exact vx_out (fun x hx => (ht0 x hx).elim) hlocks hq9 hce hcl (fun t ht9 hal9 => ⟨(), trivial, (by rw [e14]; exact hX), hS.F ht9⟩) hS.2.2 (by decide) (by decide)
    · have c15 : k_X4_requireLongitude lon = 0 := hw
      have hP := zk hP hk1
      refine W.widen (k := 2) (n := 12) (by decide) (by decide) ?_
      refine lv_iload_n hx hb dX4_x_8 rfl (lv_at hl 2 rfl) ?_
      refine lv_aload_n hx hb dX4_x_9 rfl (lv_at hl 0 rfl) ?_
      refine va_get (D := D) (ci := 4) (v := .ref qm) (C := RX4) (T := TX4) (N := 4) hx hb hts (fun w h => List.mem_cons_of_mem _ (List.mem_append_left _ (List.mem_append_left _ (List.mem_append_right _ h)))) hown hK hP 0 rfl rfl 0 (by decide) (hts (.fieldLink RX4 10 "AtlasFolder" "map" "LAtlasFolder$MapTable;") (List.mem_cons_of_mem _ (List.mem_append_left _ (List.mem_append_left _ (List.mem_append_left _ (List.mem_append_left _ (List.mem_of_getElem? (i := 0) rfl))))))) (fun _ h9 => h9) rfl dX4_x_10 ?_
      refine lv_iload_n hx hb dX4_x_13 rfl (lv_at hl 1 rfl) ?_
      refine va_calli (va_runV (As := [.int lat]) (rest := [.int lon]) ⟨hx, hb, hml, hown, hts⟩ (c_X2_tenWidths l D cI cZ cJ cD qm qw qh fw fh lat ) (cwV 1 hts gX4_x_X2_tenWidths rfl rfl rfl (by decide +kernel) ⟨Nat.le_of_ble_eq_true rfl, Nat.le_of_ble_eq_true rfl⟩) ⟨zblind, va_recv hK hP (ci := 2) (q0 := 1) rfl rfl, (fun U hU hW => ⟨rfl, by rw [hU]; exact hP.sub (ws' := [(qm, .inr (2, [.ref qw, .ref qh])), (qw, .inl (cI, 10, .inl fw)), (qh, .inl (cI, 10, .inl fh))]) [1, 2, 3] rfl, va_K.moved hW.alike hK⟩)⟩ rfl rfl hl.1 rfl (lv_room (Nat.le_of_ble_eq_true rfl)) dX4_x_14 ⟨Nat.le_of_ble_eq_true rfl, Nat.le_of_ble_eq_true rfl⟩) hS (fun q _ h => h.elim) (fun q h => h.elim) (fun r16 u t H locs ht hvm hw hB hz1 hk1 hS => ?_)
      rw [hw]
      have hP := zk hP hk1
      refine lv_imul hx hb dX4_x_17 ?_
      have e17 : s_X4_x fw fh lat lon = lon * (s_X2_tenWidths fw fh lat) := by
        unfold s_X4_x
        exact ((if_pos c11).trans (if_pos c15))
      have e18 : k_X4_x fw fh lat lon = 0 := by
        unfold k_X4_x
        exact ((if_pos c11).trans (if_pos c15))
      refine vx_ret ?_
      exact W.iret (v := (lon * (s_X2_tenWidths fw fh lat))) hx hb hr (fun t ht hW => ⟨⟨_, (), rfl, ⟨e18, e17.symm⟩, trivial⟩, hS.F ht⟩) hS.2.2 dX4_x_18
def s_X4_y (fw : Nat → Int32) (fh : Nat → Int32) (lat : Int32) : Int32 := (if k_X4_requireLatitude lat = 0 then s_X2_tenHeights fw fh lat else 0)
def k_X4_y (fw : Nat → Int32) (fh : Nat → Int32) (lat : Int32) : Nat := (if k_X4_requireLatitude lat = 0 then 0 else k_X4_requireLatitude lat)
abbrev rm_X4_y : Room := { frames := 7, cells := 1, slots := 6, locals := 110 }
abbrev Qc_X4_y (D : va_G) (cI cZ cJ cD : ClassId) (qo : Nat) (qm : Nat) (qb : Nat) (qr : Nat) (qf : Nat) (qw : Nat) (qh : Nat) (fw : Nat → Int32) (fh : Nat → Int32) (lat : Int32) : Array Value → State → Outcome → State → Prop := va_Qi (fun (r : Int32) (_ : Unit) => k_X4_y fw fh lat = 0 ∧ r = s_X4_y fw fh lat) (fun _ _ => True) (fun _ : Nat => False)
abbrev Xc_X4_y (D : va_G) (cI cZ cJ cD : ClassId) (qo : Nat) (qm : Nat) (qb : Nat) (qr : Nat) (qf : Nat) (qw : Nat) (qh : Nat) (fw : Nat → Int32) (fh : Nat → Int32) (lat : Int32) : String → State → State → Prop := vx_X (fun _ : Unit => True) (fun E _ _ => zX E (k_X4_y fw fh lat)) (fun _ : Nat => False)
set_option maxHeartbeats 4000000 in
set_option maxRecDepth 100000 in
theorem c_X4_y (l : Launch) (hnt : l.stackTraces = false) (D : va_G) (cI cZ cJ cD : ClassId) (qo : Nat) (qm : Nat) (qb : Nat) (qr : Nat) (qf : Nat) (qw : Nat) (qh : Nat) (fw : Nat → Int32) (fh : Nat → Int32) (lat : Int32)  : vx_Met l yX4_y wsX4_y rm_X4_y (va_Pc [.ref qo, .int lat] (zPreE D cI cZ cJ cD [(qo, .inr (4, [.ref qm, .ref qb, .ref qr, .ref qf])), (qm, .inr (2, [.ref qw, .ref qh])), (qw, .inl (cI, 10, .inl fw)), (qh, .inl (cI, 10, .inl fh))])) (Qc_X4_y D cI cZ cJ cD qo qm qb qr qf qw qh fw fh lat ) (Xc_X4_y D cI cZ cJ cD qo qm qb qr qf qw qh fw fh lat ) 1 6 (fun _ : Nat => False) := by
  refine vx_ofW (cc := cX4_y) (maxL := 2) (ret := (some .int)) (by decide) rfl ?_
  intro p e s m args below meth c s₁ B hml ht0 hv
  obtain ⟨rfl, hP, hK, hE⟩ := hv
  have hx := B.exec
  have hb := B.bytes
  have hr := B.returns
  have hts := atoms_spec (ws := wsX4_y) B.pre
  have hown : s.vm.findClass RX4 = some m.cls := findClass_of_methodNamed B.named
  have hlocks := B.notSynchronized
  have hS : va_S (fun _ : Nat => False) s.heap s.heap [] := va_S.rf
  have hl := lv_entry ([.ref qo, .int lat]) (n := 2) (Nat.le_of_ble_eq_true rfl)
  rw [lg_entry_eq]
  generalize (lg_sl ([.ref qo, .int lat]) ++ List.replicate (2 - (lg_sl ([.ref qo, .int lat])).length) Slot.unset).toArray = ls at hl ⊢
  have hl : lv_has ls 2 [(0, .ref qo), (1, .int lat)] := hl
  have hP : va_P D vwCl [(qo, .inr (4, [.ref qm, .ref qb, .ref qr, .ref qf])), (qm, .inr (2, [.ref qw, .ref qh])), (qw, .inl (cI, 10, .inl fw)), (qh, .inl (cI, 10, .inl fh))] s.heap := hP
  have hP := hP
  refine lv_iload_n hx hb dX4_y_0 rfl (lv_at hl 1 rfl) ?_
  refine vx_callv (vx_runS (As := [.int lat]) (rest := []) ⟨hx, hb, hml, hown, hts⟩ (c_X4_requireLatitude l hnt D cI cZ cJ cD lat ) (va_cwS 1 hts gX4_y_X4_requireLatitude rfl rfl rfl (by decide +kernel) ⟨Nat.le_of_ble_eq_true rfl, Nat.le_of_ble_eq_true rfl⟩) ⟨zblindE, (fun U hU hW => ⟨rfl, by rw [hU]; exact hP.sub (ws' := []) [] rfl, va_K.moved hW.alike hK, zEnv.go hE hS (fun q h => h.elim) hU hW⟩)⟩ rfl rfl hl.1 rfl (lv_room (Nat.le_of_ble_eq_true rfl)) dX4_y_1 ⟨Nat.le_of_ble_eq_true rfl, Nat.le_of_ble_eq_true rfl⟩) hS (fun q _ h => h.elim) (fun q h => h.elim) (fun q _ h => h.elim) (fun E ce q9 u t H locs ht hvm hpx hB hz1 hk1 hS hq9 hce hcl => ?_) (fun u t H locs ht hvm hw hB hz1 hk1 hS => ?_)
  · have hX := hB
    have hP := zk hP hk1
    have c6 : ¬ k_X4_requireLatitude lat = 0 := zX_ne hX
    have e7 : k_X4_y fw fh lat = k_X4_requireLatitude lat := by
      unfold k_X4_y
      exact (if_neg c6)
    exact vx_out (fun x hx => (ht0 x hx).elim) hlocks hq9 hce hcl (fun t ht9 hal9 => ⟨(), trivial, (by rw [e7]; exact hX), hS.F ht9⟩) hS.2.2 (by decide) (by decide)
  · have c8 : k_X4_requireLatitude lat = 0 := hw
    have hP := zk hP hk1
    refine W.widen (k := 1) (n := 6) (by decide) (by decide) ?_
    refine lv_aload_n hx hb dX4_y_4 rfl (lv_at hl 0 rfl) ?_
    refine va_get (D := D) (ci := 4) (v := .ref qm) (C := RX4) (T := TX4) (N := 4) hx hb hts (fun w h => List.mem_cons_of_mem _ (List.mem_append_left _ (List.mem_append_left _ (List.mem_append_right _ h)))) hown hK hP 0 rfl rfl 0 (by decide) (hts (.fieldLink RX4 10 "AtlasFolder" "map" "LAtlasFolder$MapTable;") (List.mem_cons_of_mem _ (List.mem_append_left _ (List.mem_append_left _ (List.mem_append_left _ (List.mem_of_getElem? (i := 0) rfl)))))) (fun _ h9 => h9) rfl dX4_y_5 ?_
    refine lv_iload_n hx hb dX4_y_8 rfl (lv_at hl 1 rfl) ?_
    refine va_calli (va_runV (As := [.int lat]) (rest := []) ⟨hx, hb, hml, hown, hts⟩ (c_X2_tenHeights l D cI cZ cJ cD qm qw qh fw fh lat ) (cwV 1 hts gX4_y_X2_tenHeights rfl rfl rfl (by decide +kernel) ⟨Nat.le_of_ble_eq_true rfl, Nat.le_of_ble_eq_true rfl⟩) ⟨zblind, va_recv hK hP (ci := 2) (q0 := 1) rfl rfl, (fun U hU hW => ⟨rfl, by rw [hU]; exact hP.sub (ws' := [(qm, .inr (2, [.ref qw, .ref qh])), (qw, .inl (cI, 10, .inl fw)), (qh, .inl (cI, 10, .inl fh))]) [1, 2, 3] rfl, va_K.moved hW.alike hK⟩)⟩ rfl rfl hl.1 rfl (lv_room (Nat.le_of_ble_eq_true rfl)) dX4_y_9 ⟨Nat.le_of_ble_eq_true rfl, Nat.le_of_ble_eq_true rfl⟩) hS (fun q _ h => h.elim) (fun q h => h.elim) (fun r9 u t H locs ht hvm hw hB hz1 hk1 hS => ?_)
    rw [hw]
    have hP := zk hP hk1
    have e10 : s_X4_y fw fh lat = s_X2_tenHeights fw fh lat := by
      unfold s_X4_y
      exact (if_pos c8)
    have e11 : k_X4_y fw fh lat = 0 := by
      unfold k_X4_y
      exact (if_pos c8)
    refine vx_ret ?_
    exact W.iret (v := (s_X2_tenHeights fw fh lat)) hx hb hr (fun t ht hW => ⟨⟨_, (), rfl, ⟨e11, e10.symm⟩, trivial⟩, hS.F ht⟩) hS.2.2 dX4_y_12
def s_X4_latitudeAt (fw : Nat → Int32) (fh : Nat → Int32) (hgt : Int32) : Int32 := (if hgt < (-99990) then 0 else (if hgt ≤ 99990 then (if (-90) ≤ (s_X2_greatestNotAbove fw fh hgt) then s_X2_greatestNotAbove fw fh hgt else 0) else 0))
def k_X4_latitudeAt (fw : Nat → Int32) (fh : Nat → Int32) (hgt : Int32) : Nat := (if hgt < (-99990) then 2 else (if hgt ≤ 99990 then (if (-90) ≤ (s_X2_greatestNotAbove fw fh hgt) then 0 else 3) else 2))
abbrev rm_X4_latitudeAt : Room := { frames := 6, cells := 1, slots := 6, locals := 90 }
abbrev Qc_X4_latitudeAt (D : va_G) (cI cZ cJ cD : ClassId) (qo : Nat) (qm : Nat) (qb : Nat) (qr : Nat) (qf : Nat) (qw : Nat) (qh : Nat) (fw : Nat → Int32) (fh : Nat → Int32) (hgt : Int32) : Array Value → State → Outcome → State → Prop := va_Qi (fun (r : Int32) (_ : Unit) => k_X4_latitudeAt fw fh hgt = 0 ∧ r = s_X4_latitudeAt fw fh hgt) (fun _ _ => True) (fun _ : Nat => False)
abbrev Xc_X4_latitudeAt (D : va_G) (cI cZ cJ cD : ClassId) (qo : Nat) (qm : Nat) (qb : Nat) (qr : Nat) (qf : Nat) (qw : Nat) (qh : Nat) (fw : Nat → Int32) (fh : Nat → Int32) (hgt : Int32) : String → State → State → Prop := vx_X (fun _ : Unit => True) (fun E _ _ => zX E (k_X4_latitudeAt fw fh hgt)) (fun _ : Nat => False)
set_option maxHeartbeats 4000000 in
set_option maxRecDepth 100000 in
theorem c_X4_latitudeAt (l : Launch) (hnt : l.stackTraces = false) (D : va_G) (cI cZ cJ cD : ClassId) (qo : Nat) (qm : Nat) (qb : Nat) (qr : Nat) (qf : Nat) (qw : Nat) (qh : Nat) (fw : Nat → Int32) (fh : Nat → Int32) (hgt : Int32)  : vx_Met l yX4_latitudeAt wsX4_latitudeAt rm_X4_latitudeAt (va_Pc [.ref qo, .int hgt] (zPreE D cI cZ cJ cD [(qo, .inr (4, [.ref qm, .ref qb, .ref qr, .ref qf])), (qm, .inr (2, [.ref qw, .ref qh])), (qw, .inl (cI, 10, .inl fw)), (qh, .inl (cI, 10, .inl fh))])) (Qc_X4_latitudeAt D cI cZ cJ cD qo qm qb qr qf qw qh fw fh hgt ) (Xc_X4_latitudeAt D cI cZ cJ cD qo qm qb qr qf qw qh fw fh hgt ) 1 6 (fun _ : Nat => False) := by
  refine vx_ofW (cc := cX4_latitudeAt) (maxL := 3) (ret := (some .int)) (by decide) rfl ?_
  intro p e s m args below meth c s₁ B hml ht0 hv
  obtain ⟨rfl, hP, hK, hE⟩ := hv
  have hx := B.exec
  have hb := B.bytes
  have hr := B.returns
  have hts := atoms_spec (ws := wsX4_latitudeAt) B.pre
  have hown : s.vm.findClass RX4 = some m.cls := findClass_of_methodNamed B.named
  have hlocks := B.notSynchronized
  have hS : va_S (fun _ : Nat => False) s.heap s.heap [] := va_S.rf
  have hl := lv_entry ([.ref qo, .int hgt]) (n := 3) (Nat.le_of_ble_eq_true rfl)
  rw [lg_entry_eq]
  generalize (lg_sl ([.ref qo, .int hgt]) ++ List.replicate (3 - (lg_sl ([.ref qo, .int hgt])).length) Slot.unset).toArray = ls at hl ⊢
  have hl : lv_has ls 3 [(0, .ref qo), (1, .int hgt)] := hl
  have hP : va_P D vwCl [(qo, .inr (4, [.ref qm, .ref qb, .ref qr, .ref qf])), (qm, .inr (2, [.ref qw, .ref qh])), (qw, .inl (cI, 10, .inl fw)), (qh, .inl (cI, 10, .inl fh))] s.heap := hP
  have hP := hP
  refine lv_iload_n hx hb dX4_latitudeAt_0 rfl (lv_at hl 1 rfl) ?_
  refine lv_ldc (v := (-99990)) hx hb hown (hts (.constant RX4 76 (-99990)) (List.mem_cons_of_mem _ (List.mem_append_left _ (List.mem_append_left _ (List.mem_append_left _ (List.mem_append_left _ (List.mem_append_left _ (List.mem_of_getElem? (i := 4) rfl)))))))) dX4_latitudeAt_1 ?_
  refine lv_icmp_lt (tgt := 12) hx hb dX4_latitudeAt_3 (by decide) (fun c5 => ?_) (fun c5 => ?_)
  · have e6 : k_X4_latitudeAt fw fh hgt = 2 := by
      unfold k_X4_latitudeAt
      exact (if_pos c5)
    obtain ⟨sa, hstr⟩ := hE.str 78 "height is out of its range" (by decide)
    have hat : ∀ w ∈ vx_atS RX4 48 "java/lang/IllegalArgumentException" ["java/lang/RuntimeException", "java/lang/Exception"], w.before _ s = true := vx_hat (fun w h => hts w (List.mem_cons_of_mem _ (List.mem_append_left _ (List.mem_append_right _ h)))) (B := zBad2) (by decide +kernel) (hE.bad2 _)
    exact vx_throwS (text := "height is out of its range") (names := ["java/lang/RuntimeException", "java/lang/Exception"]) (A := (fun _ : Nat => False)) hx hb hnt hown (by decide) (by decide) (hts (.classLink RX4 44 "java/lang/IllegalArgumentException") (List.mem_cons_of_mem _ (List.mem_append_left _ (List.mem_append_left _ (List.mem_append_left _ (List.mem_append_left _ (List.mem_append_left _ (List.mem_of_getElem? (i := 0) rfl)))))))) (hts (.initialized "java/lang/IllegalArgumentException") (List.mem_cons_of_mem _ (List.mem_append_left _ (List.mem_append_left _ (List.mem_append_left _ (List.mem_append_left _ (List.mem_append_left _ (List.mem_of_getElem? (i := 1) rfl)))))))) hstr hat (by decide +kernel) hE.1 hE.2.1 hS (hl.1.trans hml.symm) dX4_latitudeAt_12 dX4_latitudeAt_15 dX4_latitudeAt_16 dX4_latitudeAt_18 dX4_latitudeAt_21 (fun x hx => (ht0 x hx).elim) (by decide) (by decide) (by decide) (by decide) hlocks (fun t hal9 hz9 hk9 => ⟨(), trivial, zX2 e6, zF hS hz9 hk9⟩) hS.2.2 (by decide) (by decide)
  · refine lv_iload_n hx hb dX4_latitudeAt_6 rfl (lv_at hl 1 rfl) ?_
    refine lv_ldc (v := 99990) hx hb hown (hts (.constant RX4 77 (99990)) (List.mem_cons_of_mem _ (List.mem_append_left _ (List.mem_append_left _ (List.mem_append_left _ (List.mem_append_left _ (List.mem_append_left _ (List.mem_of_getElem? (i := 5) rfl)))))))) dX4_latitudeAt_7 ?_
    refine lv_icmp_le (tgt := 22) hx hb dX4_latitudeAt_9 (by decide) (fun c7 => ?_) (fun c7 => ?_)
    · refine lv_aload_n hx hb dX4_latitudeAt_22 rfl (lv_at hl 0 rfl) ?_
      refine va_get (D := D) (ci := 4) (v := .ref qm) (C := RX4) (T := TX4) (N := 4) hx hb hts (fun w h => List.mem_cons_of_mem _ (List.mem_append_left _ (List.mem_append_left _ (List.mem_append_left _ (List.mem_append_right _ h))))) hown hK hP 0 rfl rfl 0 (by decide) (hts (.fieldLink RX4 10 "AtlasFolder" "map" "LAtlasFolder$MapTable;") (List.mem_cons_of_mem _ (List.mem_append_left _ (List.mem_append_left _ (List.mem_append_left _ (List.mem_append_left _ (List.mem_append_left _ (List.mem_of_getElem? (i := 6) rfl)))))))) (fun _ h9 => h9) rfl dX4_latitudeAt_23 ?_
      refine lv_iload_n hx hb dX4_latitudeAt_26 rfl (lv_at hl 1 rfl) ?_
      refine va_calli (va_runV (As := [.int hgt]) (rest := []) ⟨hx, hb, hml, hown, hts⟩ (c_X2_greatestNotAbove l D cI cZ cJ cD qm qw qh fw fh hgt ) (cwV 1 hts gX4_latitudeAt_X2_greatestNotAbove rfl rfl rfl (by decide +kernel) ⟨Nat.le_of_ble_eq_true rfl, Nat.le_of_ble_eq_true rfl⟩) ⟨zblind, va_recv hK hP (ci := 2) (q0 := 1) rfl rfl, (fun U hU hW => ⟨rfl, by rw [hU]; exact hP.sub (ws' := [(qm, .inr (2, [.ref qw, .ref qh])), (qw, .inl (cI, 10, .inl fw)), (qh, .inl (cI, 10, .inl fh))]) [1, 2, 3] rfl, va_K.moved hW.alike hK⟩)⟩ rfl rfl hl.1 rfl (lv_room (Nat.le_of_ble_eq_true rfl)) dX4_latitudeAt_27 ⟨Nat.le_of_ble_eq_true rfl, Nat.le_of_ble_eq_true rfl⟩) hS (fun q _ h => h.elim) (fun q h => h.elim) (fun r8 u t H locs ht hvm hw hB hz1 hk1 hS => ?_)
      rw [hw]
      have hP := zk hP hk1
      refine lv_istore_n (lv' := [(2, .int (s_X2_greatestNotAbove fw fh hgt)), (0, .ref qo), (1, .int hgt)]) hx hb dX4_latitudeAt_30 rfl hl (by decide) rfl (fun ls hl => ?_)
      refine lv_iload_n hx hb dX4_latitudeAt_31 rfl (lv_at hl 0 rfl) ?_
      refine lv_bipush (v := (-90)) hx hb dX4_latitudeAt_32 (by decide) ?_
      refine lv_icmp_ge (tgt := 47) hx hb dX4_latitudeAt_34 (by decide) (fun c9 => ?_) (fun c9 => ?_)
      · refine lv_iload_n hx hb dX4_latitudeAt_47 rfl (lv_at hl 0 rfl) ?_
        refine W.widen (k := 1) (n := 6) (by decide) (by decide) ?_
        have e10 : s_X4_latitudeAt fw fh hgt = s_X2_greatestNotAbove fw fh hgt := by
          unfold s_X4_latitudeAt
          exact ((if_neg c5).trans ((if_pos c7).trans (if_pos c9)))
        have e11 : k_X4_latitudeAt fw fh hgt = 0 := by
          unfold k_X4_latitudeAt
          exact ((if_neg c5).trans ((if_pos c7).trans (if_pos c9)))
        refine vx_ret ?_
        exact W.iret (v := (s_X2_greatestNotAbove fw fh hgt)) hx hb hr (fun t ht hW => ⟨⟨_, (), rfl, ⟨e11, e10.symm⟩, trivial⟩, hS.F ht⟩) hS.2.2 dX4_latitudeAt_48
      · have e12 : k_X4_latitudeAt fw fh hgt = 3 := by
          unfold k_X4_latitudeAt
          exact ((if_neg c5).trans ((if_pos c7).trans (if_neg c9)))
        obtain ⟨sa, hstr⟩ := hE.str 83 "all of the map is above that place" (by decide)
        have hat : ∀ w ∈ vx_atS RX4 57 "java/lang/IllegalStateException" ["java/lang/RuntimeException", "java/lang/Exception"], w.before _ s = true := vx_hat (fun w h => hts w (List.mem_cons_of_mem _ (List.mem_append_right _ h))) (B := zBad3) (by decide +kernel) (hE.bad3 _)
        exact vx_throwS (text := "all of the map is above that place") (names := ["java/lang/RuntimeException", "java/lang/Exception"]) (A := (fun _ : Nat => False)) hx hb hnt hown (by decide) (by decide) (hts (.classLink RX4 53 "java/lang/IllegalStateException") (List.mem_cons_of_mem _ (List.mem_append_left _ (List.mem_append_left _ (List.mem_append_left _ (List.mem_append_left _ (List.mem_append_left _ (List.mem_of_getElem? (i := 2) rfl)))))))) (hts (.initialized "java/lang/IllegalStateException") (List.mem_cons_of_mem _ (List.mem_append_left _ (List.mem_append_left _ (List.mem_append_left _ (List.mem_append_left _ (List.mem_append_left _ (List.mem_of_getElem? (i := 3) rfl)))))))) hstr hat (by decide +kernel) hE.1 hE.2.1 hS (hl.1.trans hml.symm) dX4_latitudeAt_37 dX4_latitudeAt_40 dX4_latitudeAt_41 dX4_latitudeAt_43 dX4_latitudeAt_46 (fun x hx => (ht0 x hx).elim) (by decide) (by decide) (by decide) (by decide) hlocks (fun t hal9 hz9 hk9 => ⟨(), trivial, zX3 e12, zF hS hz9 hk9⟩) hS.2.2 (by decide) (by decide)
    · have e13 : k_X4_latitudeAt fw fh hgt = 2 := by
        unfold k_X4_latitudeAt
        exact ((if_neg c5).trans (if_neg c7))
      obtain ⟨sa, hstr⟩ := hE.str 78 "height is out of its range" (by decide)
      have hat : ∀ w ∈ vx_atS RX4 48 "java/lang/IllegalArgumentException" ["java/lang/RuntimeException", "java/lang/Exception"], w.before _ s = true := vx_hat (fun w h => hts w (List.mem_cons_of_mem _ (List.mem_append_left _ (List.mem_append_right _ h)))) (B := zBad2) (by decide +kernel) (hE.bad2 _)
      exact vx_throwS (text := "height is out of its range") (names := ["java/lang/RuntimeException", "java/lang/Exception"]) (A := (fun _ : Nat => False)) hx hb hnt hown (by decide) (by decide) (hts (.classLink RX4 44 "java/lang/IllegalArgumentException") (List.mem_cons_of_mem _ (List.mem_append_left _ (List.mem_append_left _ (List.mem_append_left _ (List.mem_append_left _ (List.mem_append_left _ (List.mem_of_getElem? (i := 0) rfl)))))))) (hts (.initialized "java/lang/IllegalArgumentException") (List.mem_cons_of_mem _ (List.mem_append_left _ (List.mem_append_left _ (List.mem_append_left _ (List.mem_append_left _ (List.mem_append_left _ (List.mem_of_getElem? (i := 1) rfl)))))))) hstr hat (by decide +kernel) hE.1 hE.2.1 hS (hl.1.trans hml.symm) dX4_latitudeAt_12 dX4_latitudeAt_15 dX4_latitudeAt_16 dX4_latitudeAt_18 dX4_latitudeAt_21 (fun x hx => (ht0 x hx).elim) (by decide) (by decide) (by decide) (by decide) hlocks (fun t hal9 hz9 hk9 => ⟨(), trivial, zX2 e13, zF hS hz9 hk9⟩) hS.2.2 (by decide) (by decide)
def s_X4_area (fw : Nat → Int32) (fh : Nat → Int32) (so : Int32) (no : Int32) (we : Int32) (ea : Int32) : Int64 := (if so < (-90) then 0 else (if no < so then 0 else (if no ≤ 90 then (if we < (-180) then 0 else (if ea < we then 0 else (if ea ≤ 180 then s_X2_fieldArea fw fh so no (ea - we) else 0))) else 0)))
def k_X4_area (fw : Nat → Int32) (fh : Nat → Int32) (so : Int32) (no : Int32) (we : Int32) (ea : Int32) : Nat := (if so < (-90) then 2 else (if no < so then 2 else (if no ≤ 90 then (if we < (-180) then 2 else (if ea < we then 2 else (if ea ≤ 180 then 0 else 2))) else 2)))
abbrev rm_X4_area : Room := { frames := 6, cells := 1, slots := 6, locals := 115 }
abbrev Qc_X4_area (D : va_G) (cI cZ cJ cD : ClassId) (qo : Nat) (qm : Nat) (qb : Nat) (qr : Nat) (qf : Nat) (qw : Nat) (qh : Nat) (fw : Nat → Int32) (fh : Nat → Int32) (so : Int32) (no : Int32) (we : Int32) (ea : Int32) : Array Value → State → Outcome → State → Prop := va_Ql (fun (r : Int64) (_ : Unit) => k_X4_area fw fh so no we ea = 0 ∧ r = s_X4_area fw fh so no we ea) (fun _ _ => True) (fun _ : Nat => False)
abbrev Xc_X4_area (D : va_G) (cI cZ cJ cD : ClassId) (qo : Nat) (qm : Nat) (qb : Nat) (qr : Nat) (qf : Nat) (qw : Nat) (qh : Nat) (fw : Nat → Int32) (fh : Nat → Int32) (so : Int32) (no : Int32) (we : Int32) (ea : Int32) : String → State → State → Prop := vx_X (fun _ : Unit => True) (fun E _ _ => zX E (k_X4_area fw fh so no we ea)) (fun _ : Nat => False)
set_option maxHeartbeats 4000000 in
set_option maxRecDepth 100000 in
theorem c_X4_area (l : Launch) (hnt : l.stackTraces = false) (D : va_G) (cI cZ cJ cD : ClassId) (qo : Nat) (qm : Nat) (qb : Nat) (qr : Nat) (qf : Nat) (qw : Nat) (qh : Nat) (fw : Nat → Int32) (fh : Nat → Int32) (so : Int32) (no : Int32) (we : Int32) (ea : Int32)  : vx_Met l yX4_area wsX4_area rm_X4_area (va_Pc [.ref qo, .int so, .int no, .int we, .int ea] (zPreE D cI cZ cJ cD [(qo, .inr (4, [.ref qm, .ref qb, .ref qr, .ref qf])), (qm, .inr (2, [.ref qw, .ref qh])), (qw, .inl (cI, 10, .inl fw)), (qh, .inl (cI, 10, .inl fh))])) (Qc_X4_area D cI cZ cJ cD qo qm qb qr qf qw qh fw fh so no we ea ) (Xc_X4_area D cI cZ cJ cD qo qm qb qr qf qw qh fw fh so no we ea ) 1 6 (fun _ : Nat => False) := by
  refine vx_ofW (cc := cX4_area) (maxL := 5) (ret := (some .long)) (by decide) rfl ?_
  intro p e s m args below meth c s₁ B hml ht0 hv
  obtain ⟨rfl, hP, hK, hE⟩ := hv
  have hx := B.exec
  have hb := B.bytes
  have hr := B.returns
  have hts := atoms_spec (ws := wsX4_area) B.pre
  have hown : s.vm.findClass RX4 = some m.cls := findClass_of_methodNamed B.named
  have hlocks := B.notSynchronized
  have hS : va_S (fun _ : Nat => False) s.heap s.heap [] := va_S.rf
  have hl := lv_entry ([.ref qo, .int so, .int no, .int we, .int ea]) (n := 5) (Nat.le_of_ble_eq_true rfl)
  rw [lg_entry_eq]
  generalize (lg_sl ([.ref qo, .int so, .int no, .int we, .int ea]) ++ List.replicate (5 - (lg_sl ([.ref qo, .int so, .int no, .int we, .int ea])).length) Slot.unset).toArray = ls at hl ⊢
  have hl : lv_has ls 5 [(0, .ref qo), (1, .int so), (2, .int no), (3, .int we), (4, .int ea)] := hl
  have hP : va_P D vwCl [(qo, .inr (4, [.ref qm, .ref qb, .ref qr, .ref qf])), (qm, .inr (2, [.ref qw, .ref qh])), (qw, .inl (cI, 10, .inl fw)), (qh, .inl (cI, 10, .inl fh))] s.heap := hP
  have hP := hP
  refine lv_iload_n hx hb dX4_area_0 rfl (lv_at hl 1 rfl) ?_
  refine lv_bipush (v := (-90)) hx hb dX4_area_1 (by decide) ?_
  refine lv_icmp_lt (tgt := 17) hx hb dX4_area_3 (by decide) (fun c8 => ?_) (fun c8 => ?_)
  · have e9 : k_X4_area fw fh so no we ea = 2 := by
      unfold k_X4_area
      exact (if_pos c8)
    obtain ⟨sa, hstr⟩ := hE.str 85 "south or north is out of its range" (by decide)
    have hat : ∀ w ∈ vx_atS RX4 48 "java/lang/IllegalArgumentException" ["java/lang/RuntimeException", "java/lang/Exception"], w.before _ s = true := vx_hat (fun w h => hts w (List.mem_cons_of_mem _ (List.mem_append_right _ h))) (B := zBad2) (by decide +kernel) (hE.bad2 _)
    exact vx_throwS (text := "south or north is out of its range") (names := ["java/lang/RuntimeException", "java/lang/Exception"]) (A := (fun _ : Nat => False)) hx hb hnt hown (by decide) (by decide) (hts (.classLink RX4 44 "java/lang/IllegalArgumentException") (List.mem_cons_of_mem _ (List.mem_append_left _ (List.mem_append_left _ (List.mem_append_left _ (List.mem_append_left _ (List.mem_of_getElem? (i := 0) rfl))))))) (hts (.initialized "java/lang/IllegalArgumentException") (List.mem_cons_of_mem _ (List.mem_append_left _ (List.mem_append_left _ (List.mem_append_left _ (List.mem_append_left _ (List.mem_of_getElem? (i := 1) rfl))))))) hstr hat (by decide +kernel) hE.1 hE.2.1 hS (hl.1.trans hml.symm) dX4_area_17 dX4_area_20 dX4_area_21 dX4_area_23 dX4_area_26 (fun x hx => (ht0 x hx).elim) (by decide) (by decide) (by decide) (by decide) hlocks (fun t hal9 hz9 hk9 => ⟨(), trivial, zX2 e9, zF hS hz9 hk9⟩) hS.2.2 (by decide) (by decide)
  · refine lv_iload_n hx hb dX4_area_6 rfl (lv_at hl 1 rfl) ?_
    refine lv_iload_n hx hb dX4_area_7 rfl (lv_at hl 2 rfl) ?_
    refine lv_icmp_gt (tgt := 17) hx hb dX4_area_8 (by decide) (fun c10 => ?_) (fun c10 => ?_)
    · have e11 : k_X4_area fw fh so no we ea = 2 := by
        unfold k_X4_area
        exact ((if_neg c8).trans (if_pos c10))
      obtain ⟨sa, hstr⟩ := hE.str 85 "south or north is out of its range" (by decide)
      have hat : ∀ w ∈ vx_atS RX4 48 "java/lang/IllegalArgumentException" ["java/lang/RuntimeException", "java/lang/Exception"], w.before _ s = true := vx_hat (fun w h => hts w (List.mem_cons_of_mem _ (List.mem_append_right _ h))) (B := zBad2) (by decide +kernel) (hE.bad2 _)
      exact vx_throwS (text := "south or north is out of its range") (names := ["java/lang/RuntimeException", "java/lang/Exception"]) (A := (fun _ : Nat => False)) hx hb hnt hown (by decide) (by decide) (hts (.classLink RX4 44 "java/lang/IllegalArgumentException") (List.mem_cons_of_mem _ (List.mem_append_left _ (List.mem_append_left _ (List.mem_append_left _ (List.mem_append_left _ (List.mem_of_getElem? (i := 0) rfl))))))) (hts (.initialized "java/lang/IllegalArgumentException") (List.mem_cons_of_mem _ (List.mem_append_left _ (List.mem_append_left _ (List.mem_append_left _ (List.mem_append_left _ (List.mem_of_getElem? (i := 1) rfl))))))) hstr hat (by decide +kernel) hE.1 hE.2.1 hS (hl.1.trans hml.symm) dX4_area_17 dX4_area_20 dX4_area_21 dX4_area_23 dX4_area_26 (fun x hx => (ht0 x hx).elim) (by decide) (by decide) (by decide) (by decide) hlocks (fun t hal9 hz9 hk9 => ⟨(), trivial, zX2 e11, zF hS hz9 hk9⟩) hS.2.2 (by decide) (by decide)
    · refine lv_iload_n hx hb dX4_area_11 rfl (lv_at hl 2 rfl) ?_
      refine lv_bipush (v := 90) hx hb dX4_area_12 (by decide) ?_
      refine lv_icmp_le (tgt := 27) hx hb dX4_area_14 (by decide) (fun c12 => ?_) (fun c12 => ?_)
      · refine lv_iload_n hx hb dX4_area_27 rfl (lv_at hl 3 rfl) ?_
        refine lv_sipush (v := (-180)) hx hb dX4_area_28 (by decide) ?_
        refine lv_icmp_lt (tgt := 48) hx hb dX4_area_31 (by decide) (fun c13 => ?_) (fun c13 => ?_)
        · have e14 : k_X4_area fw fh so no we ea = 2 := by
            unfold k_X4_area
            exact ((if_neg c8).trans ((if_neg c10).trans ((if_pos c12).trans (if_pos c13))))
          obtain ⟨sa, hstr⟩ := hE.str 87 "west or east is out of its range" (by decide)
          have hat : ∀ w ∈ vx_atS RX4 48 "java/lang/IllegalArgumentException" ["java/lang/RuntimeException", "java/lang/Exception"], w.before _ s = true := vx_hat (fun w h => hts w (List.mem_cons_of_mem _ (List.mem_append_right _ h))) (B := zBad2) (by decide +kernel) (hE.bad2 _)
          exact vx_throwS (text := "west or east is out of its range") (names := ["java/lang/RuntimeException", "java/lang/Exception"]) (A := (fun _ : Nat => False)) hx hb hnt hown (by decide) (by decide) (hts (.classLink RX4 44 "java/lang/IllegalArgumentException") (List.mem_cons_of_mem _ (List.mem_append_left _ (List.mem_append_left _ (List.mem_append_left _ (List.mem_append_left _ (List.mem_of_getElem? (i := 0) rfl))))))) (hts (.initialized "java/lang/IllegalArgumentException") (List.mem_cons_of_mem _ (List.mem_append_left _ (List.mem_append_left _ (List.mem_append_left _ (List.mem_append_left _ (List.mem_of_getElem? (i := 1) rfl))))))) hstr hat (by decide +kernel) hE.1 hE.2.1 hS (hl.1.trans hml.symm) dX4_area_48 dX4_area_51 dX4_area_52 dX4_area_54 dX4_area_57 (fun x hx => (ht0 x hx).elim) (by decide) (by decide) (by decide) (by decide) hlocks (fun t hal9 hz9 hk9 => ⟨(), trivial, zX2 e14, zF hS hz9 hk9⟩) hS.2.2 (by decide) (by decide)
        · refine lv_iload_n hx hb dX4_area_34 rfl (lv_at hl 3 rfl) ?_
          refine lv_iload hx hb dX4_area_35 (lv_at hl 4 rfl) ?_
          refine lv_icmp_gt (tgt := 48) hx hb dX4_area_37 (by decide) (fun c15 => ?_) (fun c15 => ?_)
          · have e16 : k_X4_area fw fh so no we ea = 2 := by
              unfold k_X4_area
              exact ((if_neg c8).trans ((if_neg c10).trans ((if_pos c12).trans ((if_neg c13).trans (if_pos c15)))))
            obtain ⟨sa, hstr⟩ := hE.str 87 "west or east is out of its range" (by decide)
            have hat : ∀ w ∈ vx_atS RX4 48 "java/lang/IllegalArgumentException" ["java/lang/RuntimeException", "java/lang/Exception"], w.before _ s = true := vx_hat (fun w h => hts w (List.mem_cons_of_mem _ (List.mem_append_right _ h))) (B := zBad2) (by decide +kernel) (hE.bad2 _)
            exact vx_throwS (text := "west or east is out of its range") (names := ["java/lang/RuntimeException", "java/lang/Exception"]) (A := (fun _ : Nat => False)) hx hb hnt hown (by decide) (by decide) (hts (.classLink RX4 44 "java/lang/IllegalArgumentException") (List.mem_cons_of_mem _ (List.mem_append_left _ (List.mem_append_left _ (List.mem_append_left _ (List.mem_append_left _ (List.mem_of_getElem? (i := 0) rfl))))))) (hts (.initialized "java/lang/IllegalArgumentException") (List.mem_cons_of_mem _ (List.mem_append_left _ (List.mem_append_left _ (List.mem_append_left _ (List.mem_append_left _ (List.mem_of_getElem? (i := 1) rfl))))))) hstr hat (by decide +kernel) hE.1 hE.2.1 hS (hl.1.trans hml.symm) dX4_area_48 dX4_area_51 dX4_area_52 dX4_area_54 dX4_area_57 (fun x hx => (ht0 x hx).elim) (by decide) (by decide) (by decide) (by decide) hlocks (fun t hal9 hz9 hk9 => ⟨(), trivial, zX2 e16, zF hS hz9 hk9⟩) hS.2.2 (by decide) (by decide)
          · refine lv_iload hx hb dX4_area_40 (lv_at hl 4 rfl) ?_
            refine lv_sipush (v := 180) hx hb dX4_area_42 (by decide) ?_
            refine lv_icmp_le (tgt := 58) hx hb dX4_area_45 (by decide) (fun c17 => ?_) (fun c17 => ?_)
            · refine lv_aload_n hx hb dX4_area_58 rfl (lv_at hl 0 rfl) ?_
              refine va_get (D := D) (ci := 4) (v := .ref qm) (C := RX4) (T := TX4) (N := 4) hx hb hts (fun w h => List.mem_cons_of_mem _ (List.mem_append_left _ (List.mem_append_left _ (List.mem_append_right _ h)))) hown hK hP 0 rfl rfl 0 (by decide) (hts (.fieldLink RX4 10 "AtlasFolder" "map" "LAtlasFolder$MapTable;") (List.mem_cons_of_mem _ (List.mem_append_left _ (List.mem_append_left _ (List.mem_append_left _ (List.mem_append_left _ (List.mem_of_getElem? (i := 2) rfl))))))) (fun _ h9 => h9) rfl dX4_area_59 ?_
              refine lv_iload_n hx hb dX4_area_62 rfl (lv_at hl 1 rfl) ?_
              refine lv_iload_n hx hb dX4_area_63 rfl (lv_at hl 2 rfl) ?_
              refine lv_iload hx hb dX4_area_64 (lv_at hl 4 rfl) ?_
              refine lv_iload_n hx hb dX4_area_66 rfl (lv_at hl 3 rfl) ?_
              refine lv_isub hx hb dX4_area_67 ?_
              refine va_calll (va_runV (As := [.int so, .int no, .int (ea - we)]) (rest := []) ⟨hx, hb, hml, hown, hts⟩ (c_X2_fieldArea l D cI cZ cJ cD qm qw qh fw fh so no (ea - we) (z_i1 c8) (z_i2 c10) (z_i3 c12)) (cwV 3 hts gX4_area_X2_fieldArea rfl rfl rfl (by decide +kernel) ⟨Nat.le_of_ble_eq_true rfl, Nat.le_of_ble_eq_true rfl⟩) ⟨zblind, va_recv hK hP (ci := 2) (q0 := 1) rfl rfl, (fun U hU hW => ⟨rfl, by rw [hU]; exact hP.sub (ws' := [(qm, .inr (2, [.ref qw, .ref qh])), (qw, .inl (cI, 10, .inl fw)), (qh, .inl (cI, 10, .inl fh))]) [1, 2, 3] rfl, va_K.moved hW.alike hK⟩)⟩ rfl rfl hl.1 rfl (lv_room (Nat.le_of_ble_eq_true rfl)) dX4_area_68 ⟨Nat.le_of_ble_eq_true rfl, Nat.le_of_ble_eq_true rfl⟩) hS (fun q _ h => h.elim) (fun q h => h.elim) (fun r18 u t H locs ht hvm hw hB hz1 hk1 hS => ?_)
              rw [hw]
              have hP := zk hP hk1
              refine W.widen (k := 1) (n := 6) (by decide) (by decide) ?_
              have e19 : s_X4_area fw fh so no we ea = s_X2_fieldArea fw fh so no (ea - we) := by
                unfold s_X4_area
                exact ((if_neg c8).trans ((if_neg c10).trans ((if_pos c12).trans ((if_neg c13).trans ((if_neg c15).trans (if_pos c17))))))
              have e20 : k_X4_area fw fh so no we ea = 0 := by
                unfold k_X4_area
                exact ((if_neg c8).trans ((if_neg c10).trans ((if_pos c12).trans ((if_neg c13).trans ((if_neg c15).trans (if_pos c17))))))
              refine vx_ret ?_
              exact W.lret (v := (s_X2_fieldArea fw fh so no (ea - we))) hx hb hr (fun t ht hW => ⟨⟨_, (), rfl, ⟨e20, e19.symm⟩, trivial⟩, hS.F ht⟩) hS.2.2 dX4_area_71
            · have e21 : k_X4_area fw fh so no we ea = 2 := by
                unfold k_X4_area
                exact ((if_neg c8).trans ((if_neg c10).trans ((if_pos c12).trans ((if_neg c13).trans ((if_neg c15).trans (if_neg c17))))))
              obtain ⟨sa, hstr⟩ := hE.str 87 "west or east is out of its range" (by decide)
              have hat : ∀ w ∈ vx_atS RX4 48 "java/lang/IllegalArgumentException" ["java/lang/RuntimeException", "java/lang/Exception"], w.before _ s = true := vx_hat (fun w h => hts w (List.mem_cons_of_mem _ (List.mem_append_right _ h))) (B := zBad2) (by decide +kernel) (hE.bad2 _)
              exact vx_throwS (text := "west or east is out of its range") (names := ["java/lang/RuntimeException", "java/lang/Exception"]) (A := (fun _ : Nat => False)) hx hb hnt hown (by decide) (by decide) (hts (.classLink RX4 44 "java/lang/IllegalArgumentException") (List.mem_cons_of_mem _ (List.mem_append_left _ (List.mem_append_left _ (List.mem_append_left _ (List.mem_append_left _ (List.mem_of_getElem? (i := 0) rfl))))))) (hts (.initialized "java/lang/IllegalArgumentException") (List.mem_cons_of_mem _ (List.mem_append_left _ (List.mem_append_left _ (List.mem_append_left _ (List.mem_append_left _ (List.mem_of_getElem? (i := 1) rfl))))))) hstr hat (by decide +kernel) hE.1 hE.2.1 hS (hl.1.trans hml.symm) dX4_area_48 dX4_area_51 dX4_area_52 dX4_area_54 dX4_area_57 (fun x hx => (ht0 x hx).elim) (by decide) (by decide) (by decide) (by decide) hlocks (fun t hal9 hz9 hk9 => ⟨(), trivial, zX2 e21, zF hS hz9 hk9⟩) hS.2.2 (by decide) (by decide)
      · have e22 : k_X4_area fw fh so no we ea = 2 := by
          unfold k_X4_area
          exact ((if_neg c8).trans ((if_neg c10).trans (if_neg c12)))
        obtain ⟨sa, hstr⟩ := hE.str 85 "south or north is out of its range" (by decide)
        have hat : ∀ w ∈ vx_atS RX4 48 "java/lang/IllegalArgumentException" ["java/lang/RuntimeException", "java/lang/Exception"], w.before _ s = true := vx_hat (fun w h => hts w (List.mem_cons_of_mem _ (List.mem_append_right _ h))) (B := zBad2) (by decide +kernel) (hE.bad2 _)
        exact vx_throwS (text := "south or north is out of its range") (names := ["java/lang/RuntimeException", "java/lang/Exception"]) (A := (fun _ : Nat => False)) hx hb hnt hown (by decide) (by decide) (hts (.classLink RX4 44 "java/lang/IllegalArgumentException") (List.mem_cons_of_mem _ (List.mem_append_left _ (List.mem_append_left _ (List.mem_append_left _ (List.mem_append_left _ (List.mem_of_getElem? (i := 0) rfl))))))) (hts (.initialized "java/lang/IllegalArgumentException") (List.mem_cons_of_mem _ (List.mem_append_left _ (List.mem_append_left _ (List.mem_append_left _ (List.mem_append_left _ (List.mem_of_getElem? (i := 1) rfl))))))) hstr hat (by decide +kernel) hE.1 hE.2.1 hS (hl.1.trans hml.symm) dX4_area_17 dX4_area_20 dX4_area_21 dX4_area_23 dX4_area_26 (fun x hx => (ht0 x hx).elim) (by decide) (by decide) (by decide) (by decide) hlocks (fun t hal9 hz9 hk9 => ⟨(), trivial, zX2 e22, zF hS hz9 hk9⟩) hS.2.2 (by decide) (by decide)
def s_X4_areaByCells (fw : Nat → Int32) (fh : Nat → Int32) (so : Int32) (no : Int32) (we : Int32) (ea : Int32) : Int64 := (if k_X4_area fw fh so no we ea = 0 then s_X4_area fw fh so no we ea else 0)
def k_X4_areaByCells (fw : Nat → Int32) (fh : Nat → Int32) (so : Int32) (no : Int32) (we : Int32) (ea : Int32) : Nat := (if k_X4_area fw fh so no we ea = 0 then 0 else k_X4_area fw fh so no we ea)
abbrev rm_X4_areaByCells : Room := { frames := 7, cells := 1, slots := 6, locals := 139 }
abbrev Qc_X4_areaByCells (D : va_G) (cI cZ cJ cD : ClassId) (qo : Nat) (qm : Nat) (qb : Nat) (qr : Nat) (qf : Nat) (qw : Nat) (qh : Nat) (fw : Nat → Int32) (fh : Nat → Int32) (so : Int32) (no : Int32) (we : Int32) (ea : Int32) : Array Value → State → Outcome → State → Prop := va_Ql (fun (r : Int64) (_ : Unit) => k_X4_areaByCells fw fh so no we ea = 0 ∧ r = s_X4_areaByCells fw fh so no we ea) (fun _ _ => True) (fun _ : Nat => False)
abbrev Xc_X4_areaByCells (D : va_G) (cI cZ cJ cD : ClassId) (qo : Nat) (qm : Nat) (qb : Nat) (qr : Nat) (qf : Nat) (qw : Nat) (qh : Nat) (fw : Nat → Int32) (fh : Nat → Int32) (so : Int32) (no : Int32) (we : Int32) (ea : Int32) : String → State → State → Prop := vx_X (fun _ : Unit => True) (fun E _ _ => zX E (k_X4_areaByCells fw fh so no we ea)) (fun _ : Nat => False)
set_option maxHeartbeats 4000000 in
set_option maxRecDepth 100000 in
theorem c_X4_areaByCells (l : Launch) (hnt : l.stackTraces = false) (D : va_G) (cI cZ cJ cD : ClassId) (qo : Nat) (qm : Nat) (qb : Nat) (qr : Nat) (qf : Nat) (qw : Nat) (qh : Nat) (fw : Nat → Int32) (fh : Nat → Int32) (so : Int32) (no : Int32) (we : Int32) (ea : Int32)  : vx_Met l yX4_areaByCells wsX4_areaByCells rm_X4_areaByCells (va_Pc [.ref qo, .int so, .int no, .int we, .int ea] (zPreE D cI cZ cJ cD [(qo, .inr (4, [.ref qm, .ref qb, .ref qr, .ref qf])), (qm, .inr (2, [.ref qw, .ref qh])), (qw, .inl (cI, 10, .inl fw)), (qh, .inl (cI, 10, .inl fh))])) (Qc_X4_areaByCells D cI cZ cJ cD qo qm qb qr qf qw qh fw fh so no we ea ) (Xc_X4_areaByCells D cI cZ cJ cD qo qm qb qr qf qw qh fw fh so no we ea ) 1 6 (fun _ : Nat => False) := by
  refine vx_ofW (cc := cX4_areaByCells) (maxL := 5) (ret := (some .long)) (by decide) rfl ?_
  intro p e s m args below meth c s₁ B hml ht0 hv
  obtain ⟨rfl, hP, hK, hE⟩ := hv
  have hx := B.exec
  have hb := B.bytes
  have hr := B.returns
  have hts := atoms_spec (ws := wsX4_areaByCells) B.pre
  have hown : s.vm.findClass RX4 = some m.cls := findClass_of_methodNamed B.named
  have hlocks := B.notSynchronized
  have hS : va_S (fun _ : Nat => False) s.heap s.heap [] := va_S.rf
  have hl := lv_entry ([.ref qo, .int so, .int no, .int we, .int ea]) (n := 5) (Nat.le_of_ble_eq_true rfl)
  rw [lg_entry_eq]
  generalize (lg_sl ([.ref qo, .int so, .int no, .int we, .int ea]) ++ List.replicate (5 - (lg_sl ([.ref qo, .int so, .int no, .int we, .int ea])).length) Slot.unset).toArray = ls at hl ⊢
  have hl : lv_has ls 5 [(0, .ref qo), (1, .int so), (2, .int no), (3, .int we), (4, .int ea)] := hl
  have hP : va_P D vwCl [(qo, .inr (4, [.ref qm, .ref qb, .ref qr, .ref qf])), (qm, .inr (2, [.ref qw, .ref qh])), (qw, .inl (cI, 10, .inl fw)), (qh, .inl (cI, 10, .inl fh))] s.heap := hP
  have hP := hP
  refine lv_aload_n hx hb dX4_areaByCells_0 rfl (lv_at hl 0 rfl) ?_
  refine lv_iload_n hx hb dX4_areaByCells_1 rfl (lv_at hl 1 rfl) ?_
  refine lv_iload_n hx hb dX4_areaByCells_2 rfl (lv_at hl 2 rfl) ?_
  refine lv_iload_n hx hb dX4_areaByCells_3 rfl (lv_at hl 3 rfl) ?_
  refine lv_iload hx hb dX4_areaByCells_4 (lv_at hl 4 rfl) ?_
  refine vx_calll (vx_runV (As := [.int so, .int no, .int we, .int ea]) (rest := []) ⟨hx, hb, hml, hown, hts⟩ (c_X4_area l hnt D cI cZ cJ cD qo qm qb qr qf qw qh fw fh so no we ea ) (cwV 4 hts gX4_areaByCells_X4_area rfl rfl rfl (by decide +kernel) ⟨Nat.le_of_ble_eq_true rfl, Nat.le_of_ble_eq_true rfl⟩) ⟨zblindE, va_recv hK hP (ci := 4) (q0 := 0) rfl rfl, (fun U hU hW => ⟨rfl, by rw [hU]; exact hP.sub (ws' := [(qo, .inr (4, [.ref qm, .ref qb, .ref qr, .ref qf])), (qm, .inr (2, [.ref qw, .ref qh])), (qw, .inl (cI, 10, .inl fw)), (qh, .inl (cI, 10, .inl fh))]) [0, 1, 2, 3] rfl, va_K.moved hW.alike hK, zEnv.go hE hS (fun q h => h.elim) hU hW⟩)⟩ rfl rfl hl.1 rfl (lv_room (Nat.le_of_ble_eq_true rfl)) dX4_areaByCells_6 ⟨Nat.le_of_ble_eq_true rfl, Nat.le_of_ble_eq_true rfl⟩) hS (fun q _ h => h.elim) (fun q h => h.elim) (fun q _ h => h.elim) (fun E ce q9 u t H locs ht hvm hpx hB hz1 hk1 hS hq9 hce hcl => ?_) (fun r4 u t H locs ht hvm hw hB hz1 hk1 hS => ?_)
  · have hX := hB
    have hP := zk hP hk1
    have c5 : ¬ k_X4_area fw fh so no we ea = 0 := zX_ne hX
    have e6 : k_X4_areaByCells fw fh so no we ea = k_X4_area fw fh so no we ea := by
      unfold k_X4_areaByCells
      exact (if_neg c5)
    exact vx_out (fun x hx => (ht0 x hx).elim) hlocks hq9 hce hcl (fun t ht9 hal9 => ⟨(), trivial, (by rw [e6]; exact hX), hS.F ht9⟩) hS.2.2 (by decide) (by decide)
  · obtain ⟨c7, hw⟩ := hw
    rw [hw]
    have hP := zk hP hk1
    refine W.widen (k := 1) (n := 6) (by decide) (by decide) ?_
    have e8 : s_X4_areaByCells fw fh so no we ea = s_X4_area fw fh so no we ea := by
      unfold s_X4_areaByCells
      exact (if_pos c7)
    have e9 : k_X4_areaByCells fw fh so no we ea = 0 := by
      unfold k_X4_areaByCells
      exact (if_pos c7)
    refine vx_ret ?_
    exact W.lret (v := (s_X4_area fw fh so no we ea)) hx hb hr (fun t ht hW => ⟨⟨_, (), rfl, ⟨e9, e8.symm⟩, trivial⟩, hS.F ht⟩) hS.2.2 dX4_areaByCells_9
def k_X4_table (fw : Nat → Int32) (fh : Nat → Int32) (row : Int32) (wd : Int32) (hgt : Int32) : Nat := (if row < 0 then 1 else (if row < 10 then (if wd < 0 then 2 else (if 1000 < wd then 2 else (if hgt < 0 then 2 else (if hgt ≤ 9999 then (if (s_X2_wouldRise fw fh row hgt) = 0 then 3 else 0) else 2)))) else 1))
def n_X4_table_qw (fw : Nat → Int32) (fh : Nat → Int32) (row : Int32) (wd : Int32) (hgt : Int32) : Nat → Int32 := (if row < 0 then fw else (if row < 10 then (if wd < 0 then fw else (if 1000 < wd then fw else (if hgt < 0 then fw else (if hgt ≤ 9999 then (if (s_X2_wouldRise fw fh row hgt) = 0 then fw else n_X2_setRow_qw fw fh row wd hgt) else fw)))) else fw))
def n_X4_table_qh (fw : Nat → Int32) (fh : Nat → Int32) (row : Int32) (wd : Int32) (hgt : Int32) : Nat → Int32 := (if row < 0 then fh else (if row < 10 then (if wd < 0 then fh else (if 1000 < wd then fh else (if hgt < 0 then fh else (if hgt ≤ 9999 then (if (s_X2_wouldRise fw fh row hgt) = 0 then fh else n_X2_setRow_qh fw fh row wd hgt) else fh)))) else fh))
abbrev rm_X4_table : Room := { frames := 6, cells := 1, slots := 6, locals := 90 }
abbrev Qc_X4_table (D : va_G) (cI cZ cJ cD : ClassId) (qo : Nat) (qm : Nat) (qb : Nat) (qr : Nat) (qf : Nat) (qw : Nat) (qh : Nat) (fw : Nat → Int32) (fh : Nat → Int32) (row : Int32) (wd : Int32) (hgt : Int32) (A : Nat → Prop) : Array Value → State → Outcome → State → Prop := va_Qv (fun _ : Unit => k_X4_table fw fh row wd hgt = 0) (zPost D cI cZ cJ cD A [(qo, .inr (4, [.ref qm, .ref qb, .ref qr, .ref qf])), (qm, .inr (2, [.ref qw, .ref qh])), (qw, .inl (cI, 10, .inl (n_X4_table_qw fw fh row wd hgt))), (qh, .inl (cI, 10, .inl (n_X4_table_qh fw fh row wd hgt)))]) A
abbrev Xc_X4_table (D : va_G) (cI cZ cJ cD : ClassId) (qo : Nat) (qm : Nat) (qb : Nat) (qr : Nat) (qf : Nat) (qw : Nat) (qh : Nat) (fw : Nat → Int32) (fh : Nat → Int32) (row : Int32) (wd : Int32) (hgt : Int32) (A : Nat → Prop) : String → State → State → Prop := vx_X (fun _ : Unit => True) (fun E u t => zX E (k_X4_table fw fh row wd hgt) ∧ zPost D cI cZ cJ cD A [(qo, .inr (4, [.ref qm, .ref qb, .ref qr, .ref qf])), (qm, .inr (2, [.ref qw, .ref qh])), (qw, .inl (cI, 10, .inl (n_X4_table_qw fw fh row wd hgt))), (qh, .inl (cI, 10, .inl (n_X4_table_qh fw fh row wd hgt)))] u t) A
set_option maxHeartbeats 4000000 in
set_option maxRecDepth 100000 in
theorem c_X4_table (l : Launch) (hnt : l.stackTraces = false) (D : va_G) (cI cZ cJ cD : ClassId) (qo : Nat) (qm : Nat) (qb : Nat) (qr : Nat) (qf : Nat) (qw : Nat) (qh : Nat) (fw : Nat → Int32) (fh : Nat → Int32) (row : Int32) (wd : Int32) (hgt : Int32) (sz : Nat)  : vx_Met l yX4_table wsX4_table rm_X4_table (va_Pc [.ref qo, .int row, .int wd, .int hgt] (zPreWE D cI cZ cJ cD [(qo, .inr (4, [.ref qm, .ref qb, .ref qr, .ref qf])), (qm, .inr (2, [.ref qw, .ref qh])), (qw, .inl (cI, 10, .inl fw)), (qh, .inl (cI, 10, .inl fh))] sz)) (Qc_X4_table D cI cZ cJ cD qo qm qb qr qf qw qh fw fh row wd hgt (va_A [(qo, .inr (4, [.ref qm, .ref qb, .ref qr, .ref qf])), (qm, .inr (2, [.ref qw, .ref qh])), (qw, .inl (cI, 10, .inl fw)), (qh, .inl (cI, 10, .inl fh))] sz)) (Xc_X4_table D cI cZ cJ cD qo qm qb qr qf qw qh fw fh row wd hgt (va_A [(qo, .inr (4, [.ref qm, .ref qb, .ref qr, .ref qf])), (qm, .inr (2, [.ref qw, .ref qh])), (qw, .inl (cI, 10, .inl fw)), (qh, .inl (cI, 10, .inl fh))] sz)) 1 6 (va_A [(qo, .inr (4, [.ref qm, .ref qb, .ref qr, .ref qf])), (qm, .inr (2, [.ref qw, .ref qh])), (qw, .inl (cI, 10, .inl fw)), (qh, .inl (cI, 10, .inl fh))] sz) := by
  refine vx_ofW (cc := cX4_table) (maxL := 4) (ret := none) (by decide) rfl ?_
  intro p e s m args below meth c s₁ B hml ht0 hv
  obtain ⟨rfl, hsz, hP, hK, hD0, hE⟩ := hv
  have hx := B.exec
  have hb := B.bytes
  have hr := B.returns
  have hts := atoms_spec (ws := wsX4_table) B.pre
  have hown : s.vm.findClass RX4 = some m.cls := findClass_of_methodNamed B.named
  have hlocks := B.notSynchronized
  subst hsz
  have hD := hD0.self (sz := s.heap.size)
  generalize hAe : va_A [(qo, .inr (4, [.ref qm, .ref qb, .ref qr, .ref qf])), (qm, .inr (2, [.ref qw, .ref qh])), (qw, .inl (cI, 10, .inl fw)), (qh, .inl (cI, 10, .inl fh))] s.heap.size = A at hE hD ⊢
  have hA : ∀ q : Nat, s.heap.size ≤ q → A q := fun q h => by rw [← hAe]; exact Or.inr h
  have hS : va_S A s.heap s.heap [] := va_S.rf
  have hl := lv_entry ([.ref qo, .int row, .int wd, .int hgt]) (n := 4) (Nat.le_of_ble_eq_true rfl)
  rw [lg_entry_eq]
  generalize (lg_sl ([.ref qo, .int row, .int wd, .int hgt]) ++ List.replicate (4 - (lg_sl ([.ref qo, .int row, .int wd, .int hgt])).length) Slot.unset).toArray = ls at hl ⊢
  have hl : lv_has ls 4 [(0, .ref qo), (1, .int row), (2, .int wd), (3, .int hgt)] := hl
  have hP : va_P D vwCl [(qo, .inr (4, [.ref qm, .ref qb, .ref qr, .ref qf])), (qm, .inr (2, [.ref qw, .ref qh])), (qw, .inl (cI, 10, .inl fw)), (qh, .inl (cI, 10, .inl fh))] s.heap := hP
  have hP := hP
  refine lv_iload_n hx hb dX4_table_0 rfl (lv_at hl 1 rfl) ?_
  refine lv_if_lt (tgt := 10) hx hb dX4_table_1 (by decide) (fun c10 => ?_) (fun c10 => ?_)
  · have e11 : k_X4_table fw fh row wd hgt = 1 := by
      unfold k_X4_table
      exact (if_pos c10)
    have e12 : n_X4_table_qw fw fh row wd hgt = fw := by
      unfold n_X4_table_qw
      exact (if_pos c10)
    have e13 : n_X4_table_qh fw fh row wd hgt = fh := by
      unfold n_X4_table_qh
      exact (if_pos c10)
    obtain ⟨sa, hstr⟩ := hE.str 39 "the table has no such row" (by decide)
    have hat : ∀ w ∈ vx_atS RX4 41 "java/lang/IndexOutOfBoundsException" ["java/lang/RuntimeException", "java/lang/Exception"], w.before _ s = true := vx_hat (fun w h => hts w (List.mem_cons_of_mem _ (List.mem_append_left _ (List.mem_append_left _ (List.mem_append_right _ h))))) (B := zBad1) (by decide +kernel) (hE.bad1 _)
    exact vx_throwS (text := "the table has no such row") (names := ["java/lang/RuntimeException", "java/lang/Exception"]) (A := A) hx hb hnt hown (by decide) (by decide) (hts (.classLink RX4 37 "java/lang/IndexOutOfBoundsException") (List.mem_cons_of_mem _ (List.mem_append_left _ (List.mem_append_left _ (List.mem_append_left _ (List.mem_append_left _ (List.mem_append_left _ (List.mem_of_getElem? (i := 0) rfl)))))))) (hts (.initialized "java/lang/IndexOutOfBoundsException") (List.mem_cons_of_mem _ (List.mem_append_left _ (List.mem_append_left _ (List.mem_append_left _ (List.mem_append_left _ (List.mem_append_left _ (List.mem_of_getElem? (i := 1) rfl)))))))) hstr hat (by decide +kernel) hE.1 hE.2.1 hS (hl.1.trans hml.symm) dX4_table_10 dX4_table_13 dX4_table_14 dX4_table_16 dX4_table_19 (fun x hx => (ht0 x hx).elim) (by decide) (by decide) (by decide) (by decide) hlocks (fun t hal9 hz9 hk9 => ⟨(), trivial, ⟨zX1 e11, (by rw [e12, e13]; exact zkP hP hk9), va_K.moved hal9 hK, (by rw [e12, e13]; exact hD)⟩, zF hS hz9 hk9⟩) hS.2.2 (by decide) (by decide)
  · refine lv_iload_n hx hb dX4_table_4 rfl (lv_at hl 1 rfl) ?_
    refine lv_bipush (v := 10) hx hb dX4_table_5 (by decide) ?_
    refine lv_icmp_lt (tgt := 20) hx hb dX4_table_7 (by decide) (fun c14 => ?_) (fun c14 => ?_)
    · refine lv_iload_n hx hb dX4_table_20 rfl (lv_at hl 2 rfl) ?_
      refine lv_if_lt (tgt := 42) hx hb dX4_table_21 (by decide) (fun c15 => ?_) (fun c15 => ?_)
      · have e16 : k_X4_table fw fh row wd hgt = 2 := by
          unfold k_X4_table
          exact ((if_neg c10).trans ((if_pos c14).trans (if_pos c15)))
        have e17 : n_X4_table_qw fw fh row wd hgt = fw := by
          unfold n_X4_table_qw
          exact ((if_neg c10).trans ((if_pos c14).trans (if_pos c15)))
        have e18 : n_X4_table_qh fw fh row wd hgt = fh := by
          unfold n_X4_table_qh
          exact ((if_neg c10).trans ((if_pos c14).trans (if_pos c15)))
        obtain ⟨sa, hstr⟩ := hE.str 46 "width or height is out of its range" (by decide)
        have hat : ∀ w ∈ vx_atS RX4 48 "java/lang/IllegalArgumentException" ["java/lang/RuntimeException", "java/lang/Exception"], w.before _ s = true := vx_hat (fun w h => hts w (List.mem_cons_of_mem _ (List.mem_append_left _ (List.mem_append_right _ h)))) (B := zBad2) (by decide +kernel) (hE.bad2 _)
        exact vx_throwS (text := "width or height is out of its range") (names := ["java/lang/RuntimeException", "java/lang/Exception"]) (A := A) hx hb hnt hown (by decide) (by decide) (hts (.classLink RX4 44 "java/lang/IllegalArgumentException") (List.mem_cons_of_mem _ (List.mem_append_left _ (List.mem_append_left _ (List.mem_append_left _ (List.mem_append_left _ (List.mem_append_left _ (List.mem_of_getElem? (i := 2) rfl)))))))) (hts (.initialized "java/lang/IllegalArgumentException") (List.mem_cons_of_mem _ (List.mem_append_left _ (List.mem_append_left _ (List.mem_append_left _ (List.mem_append_left _ (List.mem_append_left _ (List.mem_of_getElem? (i := 3) rfl)))))))) hstr hat (by decide +kernel) hE.1 hE.2.1 hS (hl.1.trans hml.symm) dX4_table_42 dX4_table_45 dX4_table_46 dX4_table_48 dX4_table_51 (fun x hx => (ht0 x hx).elim) (by decide) (by decide) (by decide) (by decide) hlocks (fun t hal9 hz9 hk9 => ⟨(), trivial, ⟨zX2 e16, (by rw [e17, e18]; exact zkP hP hk9), va_K.moved hal9 hK, (by rw [e17, e18]; exact hD)⟩, zF hS hz9 hk9⟩) hS.2.2 (by decide) (by decide)
      · refine lv_iload_n hx hb dX4_table_24 rfl (lv_at hl 2 rfl) ?_
        refine lv_sipush (v := 1000) hx hb dX4_table_25 (by decide) ?_
        refine lv_icmp_gt (tgt := 42) hx hb dX4_table_28 (by decide) (fun c19 => ?_) (fun c19 => ?_)
        · have e20 : k_X4_table fw fh row wd hgt = 2 := by
            unfold k_X4_table
            exact ((if_neg c10).trans ((if_pos c14).trans ((if_neg c15).trans (if_pos c19))))
          have e21 : n_X4_table_qw fw fh row wd hgt = fw := by
            unfold n_X4_table_qw
            exact ((if_neg c10).trans ((if_pos c14).trans ((if_neg c15).trans (if_pos c19))))
          have e22 : n_X4_table_qh fw fh row wd hgt = fh := by
            unfold n_X4_table_qh
            exact ((if_neg c10).trans ((if_pos c14).trans ((if_neg c15).trans (if_pos c19))))
          obtain ⟨sa, hstr⟩ := hE.str 46 "width or height is out of its range" (by decide)
          have hat : ∀ w ∈ vx_atS RX4 48 "java/lang/IllegalArgumentException" ["java/lang/RuntimeException", "java/lang/Exception"], w.before _ s = true := vx_hat (fun w h => hts w (List.mem_cons_of_mem _ (List.mem_append_left _ (List.mem_append_right _ h)))) (B := zBad2) (by decide +kernel) (hE.bad2 _)
          exact vx_throwS (text := "width or height is out of its range") (names := ["java/lang/RuntimeException", "java/lang/Exception"]) (A := A) hx hb hnt hown (by decide) (by decide) (hts (.classLink RX4 44 "java/lang/IllegalArgumentException") (List.mem_cons_of_mem _ (List.mem_append_left _ (List.mem_append_left _ (List.mem_append_left _ (List.mem_append_left _ (List.mem_append_left _ (List.mem_of_getElem? (i := 2) rfl)))))))) (hts (.initialized "java/lang/IllegalArgumentException") (List.mem_cons_of_mem _ (List.mem_append_left _ (List.mem_append_left _ (List.mem_append_left _ (List.mem_append_left _ (List.mem_append_left _ (List.mem_of_getElem? (i := 3) rfl)))))))) hstr hat (by decide +kernel) hE.1 hE.2.1 hS (hl.1.trans hml.symm) dX4_table_42 dX4_table_45 dX4_table_46 dX4_table_48 dX4_table_51 (fun x hx => (ht0 x hx).elim) (by decide) (by decide) (by decide) (by decide) hlocks (fun t hal9 hz9 hk9 => ⟨(), trivial, ⟨zX2 e20, (by rw [e21, e22]; exact zkP hP hk9), va_K.moved hal9 hK, (by rw [e21, e22]; exact hD)⟩, zF hS hz9 hk9⟩) hS.2.2 (by decide) (by decide)
        · refine lv_iload_n hx hb dX4_table_31 rfl (lv_at hl 3 rfl) ?_
          refine lv_if_lt (tgt := 42) hx hb dX4_table_32 (by decide) (fun c23 => ?_) (fun c23 => ?_)
          · have e24 : k_X4_table fw fh row wd hgt = 2 := by
              unfold k_X4_table
              exact ((if_neg c10).trans ((if_pos c14).trans ((if_neg c15).trans ((if_neg c19).trans (if_pos c23)))))
            have e25 : n_X4_table_qw fw fh row wd hgt = fw := by
              unfold n_X4_table_qw
              exact ((if_neg c10).trans ((if_pos c14).trans ((if_neg c15).trans ((if_neg c19).trans (if_pos c23)))))
            have e26 : n_X4_table_qh fw fh row wd hgt = fh := by
              unfold n_X4_table_qh
              exact ((if_neg c10).trans ((if_pos c14).trans ((if_neg c15).trans ((if_neg c19).trans (if_pos c23)))))
            obtain ⟨sa, hstr⟩ := hE.str 46 "width or height is out of its range" (by decide)
            have hat : ∀ w ∈ vx_atS RX4 48 "java/lang/IllegalArgumentException" ["java/lang/RuntimeException", "java/lang/Exception"], w.before _ s = true := vx_hat (fun w h => hts w (List.mem_cons_of_mem _ (List.mem_append_left _ (List.mem_append_right _ h)))) (B := zBad2) (by decide +kernel) (hE.bad2 _)
            exact vx_throwS (text := "width or height is out of its range") (names := ["java/lang/RuntimeException", "java/lang/Exception"]) (A := A) hx hb hnt hown (by decide) (by decide) (hts (.classLink RX4 44 "java/lang/IllegalArgumentException") (List.mem_cons_of_mem _ (List.mem_append_left _ (List.mem_append_left _ (List.mem_append_left _ (List.mem_append_left _ (List.mem_append_left _ (List.mem_of_getElem? (i := 2) rfl)))))))) (hts (.initialized "java/lang/IllegalArgumentException") (List.mem_cons_of_mem _ (List.mem_append_left _ (List.mem_append_left _ (List.mem_append_left _ (List.mem_append_left _ (List.mem_append_left _ (List.mem_of_getElem? (i := 3) rfl)))))))) hstr hat (by decide +kernel) hE.1 hE.2.1 hS (hl.1.trans hml.symm) dX4_table_42 dX4_table_45 dX4_table_46 dX4_table_48 dX4_table_51 (fun x hx => (ht0 x hx).elim) (by decide) (by decide) (by decide) (by decide) hlocks (fun t hal9 hz9 hk9 => ⟨(), trivial, ⟨zX2 e24, (by rw [e25, e26]; exact zkP hP hk9), va_K.moved hal9 hK, (by rw [e25, e26]; exact hD)⟩, zF hS hz9 hk9⟩) hS.2.2 (by decide) (by decide)
          · refine lv_iload_n hx hb dX4_table_35 rfl (lv_at hl 3 rfl) ?_
            refine lv_sipush (v := 9999) hx hb dX4_table_36 (by decide) ?_
            refine lv_icmp_le (tgt := 52) hx hb dX4_table_39 (by decide) (fun c27 => ?_) (fun c27 => ?_)
            · refine lv_aload_n hx hb dX4_table_52 rfl (lv_at hl 0 rfl) ?_
              refine va_get (D := D) (ci := 4) (v := .ref qm) (C := RX4) (T := TX4) (N := 4) hx hb hts (fun w h => List.mem_cons_of_mem _ (List.mem_append_left _ (List.mem_append_left _ (List.mem_append_left _ (List.mem_append_left _ (List.mem_append_right _ h)))))) hown hK hP 0 rfl rfl 0 (by decide) (hts (.fieldLink RX4 10 "AtlasFolder" "map" "LAtlasFolder$MapTable;") (List.mem_cons_of_mem _ (List.mem_append_left _ (List.mem_append_left _ (List.mem_append_left _ (List.mem_append_left _ (List.mem_append_left _ (List.mem_of_getElem? (i := 6) rfl)))))))) (fun _ h9 => h9) rfl dX4_table_53 ?_
              refine lv_iload_n hx hb dX4_table_56 rfl (lv_at hl 1 rfl) ?_
              refine lv_iload_n hx hb dX4_table_57 rfl (lv_at hl 3 rfl) ?_
              refine va_calli (va_runV (As := [.int row, .int hgt]) (rest := []) ⟨hx, hb, hml, hown, hts⟩ (c_X2_wouldRise l D cI cZ cJ cD qm qw qh fw fh row hgt ) (cwV 2 hts gX4_table_X2_wouldRise rfl rfl rfl (by decide +kernel) ⟨Nat.le_of_ble_eq_true rfl, Nat.le_of_ble_eq_true rfl⟩) ⟨zblind, va_recv hK hP (ci := 2) (q0 := 1) rfl rfl, (fun U hU hW => ⟨rfl, by rw [hU]; exact hP.sub (ws' := [(qm, .inr (2, [.ref qw, .ref qh])), (qw, .inl (cI, 10, .inl fw)), (qh, .inl (cI, 10, .inl fh))]) [1, 2, 3] rfl, va_K.moved hW.alike hK⟩)⟩ rfl rfl hl.1 rfl (lv_room (Nat.le_of_ble_eq_true rfl)) dX4_table_58 ⟨Nat.le_of_ble_eq_true rfl, Nat.le_of_ble_eq_true rfl⟩) hS (fun q _ h => h.elim) (fun q h => h.elim) (fun r28 u t H locs ht hvm hw hB hz1 hk1 hS => ?_)
              rw [hw]
              have hP := zk hP hk1
              refine lv_if_ne (tgt := 74) hx hb dX4_table_61 (by decide) (fun c29 => ?_) (fun c29 => ?_)
              · refine lv_aload_n hx hb dX4_table_74 rfl (lv_at hl 0 rfl) ?_
                refine va_get (D := D) (ci := 4) (v := .ref qm) (C := RX4) (T := TX4) (N := 4) hx hb hts (fun w h => List.mem_cons_of_mem _ (List.mem_append_left _ (List.mem_append_left _ (List.mem_append_left _ (List.mem_append_left _ (List.mem_append_right _ h)))))) hown hK hP 0 rfl rfl 0 (by decide) (hts (.fieldLink RX4 10 "AtlasFolder" "map" "LAtlasFolder$MapTable;") (List.mem_cons_of_mem _ (List.mem_append_left _ (List.mem_append_left _ (List.mem_append_left _ (List.mem_append_left _ (List.mem_append_left _ (List.mem_of_getElem? (i := 6) rfl)))))))) (fun _ h9 => h9) rfl dX4_table_75 ?_
                refine lv_iload_n hx hb dX4_table_78 rfl (lv_at hl 1 rfl) ?_
                refine lv_iload_n hx hb dX4_table_79 rfl (lv_at hl 2 rfl) ?_
                refine lv_iload_n hx hb dX4_table_80 rfl (lv_at hl 3 rfl) ?_
                have hPc := hP.sub (ws' := [(qm, .inr (2, [.ref qw, .ref qh])), (qw, .inl (cI, 10, .inl fw)), (qh, .inl (cI, 10, .inl fh))]) [1, 2, 3] rfl
                have hDc := hD.sub (ws' := [(qm, .inr (2, [.ref qw, .ref qh])), (qw, .inl (cI, 10, .inl fw)), (qh, .inl (cI, 10, .inl fh))]) [1, 2, 3] (by decide) rfl
                have hFc := va_free (wc := [(qm, .inr (2, [.ref qw, .ref qh])), (qw, .inl (cI, 10, .inl fw)), (qh, .inl (cI, 10, .inl fh))]) hD hS hA [1, 2, 3] rfl
                refine va_callv (va_runV (As := [.int row, .int wd, .int hgt]) (rest := []) ⟨hx, hb, hml, hown, hts⟩ (c_X2_setRow l D cI cZ cJ cD qm qw qh fw fh row wd hgt H.size ) (cwV 3 hts gX4_table_X2_setRow rfl rfl rfl (by decide +kernel) ⟨Nat.le_of_ble_eq_true rfl, Nat.le_of_ble_eq_true rfl⟩) ⟨zblindW, va_recv hK hP (ci := 2) (q0 := 1) rfl rfl, (fun U hU hW => ⟨rfl, by rw [hU], by rw [hU]; exact hPc, va_K.moved hW.alike hK, hDc.weaken (fun _ _ _ _ => trivial)⟩)⟩ rfl rfl hl.1 rfl (lv_room (Nat.le_of_ble_eq_true rfl)) dX4_table_81 ⟨Nat.le_of_ble_eq_true rfl, Nat.le_of_ble_eq_true rfl⟩) hS (fun q _ h => hFc q h) hFc (fun u t H locs ht hvm hw hB hz1 hk1 hS => ?_)
                obtain ⟨hP1, hK1, hD1⟩ := hB
                rw [ht] at hP1
                obtain ⟨hP, hD⟩ := va_join (wr := [(qo, .inr (4, [.ref qm, .ref qb, .ref qr, .ref qf]))]) (w1 := [(qm, .inr (2, [.ref qw, .ref qh])), (qw, .inl (cI, 10, .inl (n_X2_setRow_qw fw fh row wd hgt))), (qh, .inl (cI, 10, .inl (n_X2_setRow_qh fw fh row wd hgt)))]) hP hD [1, 2, 3] [0] rfl rfl (by decide) (by decide) hk1 hFc hP1 hD1
                have hP := hP.sub (ws' := [(qo, .inr (4, [.ref qm, .ref qb, .ref qr, .ref qf])), (qm, .inr (2, [.ref qw, .ref qh])), (qw, .inl (cI, 10, .inl (n_X2_setRow_qw fw fh row wd hgt))), (qh, .inl (cI, 10, .inl (n_X2_setRow_qh fw fh row wd hgt)))]) [0, 1, 2, 3] rfl
                have hD := hD.sub (ws' := [(qo, .inr (4, [.ref qm, .ref qb, .ref qr, .ref qf])), (qm, .inr (2, [.ref qw, .ref qh])), (qw, .inl (cI, 10, .inl (n_X2_setRow_qw fw fh row wd hgt))), (qh, .inl (cI, 10, .inl (n_X2_setRow_qh fw fh row wd hgt)))]) [0, 1, 2, 3] (by decide) rfl
                refine W.widen (k := 1) (n := 6) (by decide) (by decide) ?_
                have e31 : k_X4_table fw fh row wd hgt = 0 := by
                  unfold k_X4_table
                  exact ((if_neg c10).trans ((if_pos c14).trans ((if_neg c15).trans ((if_neg c19).trans ((if_neg c23).trans ((if_pos c27).trans (if_neg c29)))))))
                have e32 : n_X4_table_qw fw fh row wd hgt = n_X2_setRow_qw fw fh row wd hgt := by
                  unfold n_X4_table_qw
                  exact ((if_neg c10).trans ((if_pos c14).trans ((if_neg c15).trans ((if_neg c19).trans ((if_neg c23).trans ((if_pos c27).trans (if_neg c29)))))))
                have e33 : n_X4_table_qh fw fh row wd hgt = n_X2_setRow_qh fw fh row wd hgt := by
                  unfold n_X4_table_qh
                  exact ((if_neg c10).trans ((if_pos c14).trans ((if_neg c15).trans ((if_neg c19).trans ((if_neg c23).trans ((if_pos c27).trans (if_neg c29)))))))
                refine vx_ret ?_
                exact W.vret hx hb hr (fun t ht hW => ⟨⟨(), rfl, e31, ⟨(by rw [e32, e33]; rw [ht]; exact hP), va_K.moved hW.alike hK, (by rw [e32, e33]; exact hD)⟩⟩, hS.F ht⟩) hS.2.2 dX4_table_84
              · have e34 : k_X4_table fw fh row wd hgt = 3 := by
                  unfold k_X4_table
                  exact ((if_neg c10).trans ((if_pos c14).trans ((if_neg c15).trans ((if_neg c19).trans ((if_neg c23).trans ((if_pos c27).trans (if_pos c29)))))))
                have e35 : n_X4_table_qw fw fh row wd hgt = fw := by
                  unfold n_X4_table_qw
                  exact ((if_neg c10).trans ((if_pos c14).trans ((if_neg c15).trans ((if_neg c19).trans ((if_neg c23).trans ((if_pos c27).trans (if_pos c29)))))))
                have e36 : n_X4_table_qh fw fh row wd hgt = fh := by
                  unfold n_X4_table_qh
                  exact ((if_neg c10).trans ((if_pos c14).trans ((if_neg c15).trans ((if_neg c19).trans ((if_neg c23).trans ((if_pos c27).trans (if_pos c29)))))))
                obtain ⟨sa, hstr⟩ := hE.str 55 "the heights would not rise from 0" (by decide)
                have hat : ∀ w ∈ vx_atS RX4 57 "java/lang/IllegalStateException" ["java/lang/RuntimeException", "java/lang/Exception"], w.before _ s = true := vx_hat (fun w h => hts w (List.mem_cons_of_mem _ (List.mem_append_right _ h))) (B := zBad3) (by decide +kernel) (hE.bad3 _)
                exact vx_throwS (text := "the heights would not rise from 0") (names := ["java/lang/RuntimeException", "java/lang/Exception"]) (A := A) hx hb hnt hown (by decide) (by decide) (hts (.classLink RX4 53 "java/lang/IllegalStateException") (List.mem_cons_of_mem _ (List.mem_append_left _ (List.mem_append_left _ (List.mem_append_left _ (List.mem_append_left _ (List.mem_append_left _ (List.mem_of_getElem? (i := 4) rfl)))))))) (hts (.initialized "java/lang/IllegalStateException") (List.mem_cons_of_mem _ (List.mem_append_left _ (List.mem_append_left _ (List.mem_append_left _ (List.mem_append_left _ (List.mem_append_left _ (List.mem_of_getElem? (i := 5) rfl)))))))) hstr hat (by decide +kernel) hE.1 hE.2.1 hS (hl.1.trans hml.symm) dX4_table_64 dX4_table_67 dX4_table_68 dX4_table_70 dX4_table_73 (fun x hx => (ht0 x hx).elim) (by decide) (by decide) (by decide) (by decide) hlocks (fun t hal9 hz9 hk9 => ⟨(), trivial, ⟨zX3 e34, (by rw [e35, e36]; exact zkP hP hk9), va_K.moved hal9 hK, (by rw [e35, e36]; exact hD)⟩, zF hS hz9 hk9⟩) hS.2.2 (by decide) (by decide)
            · have e37 : k_X4_table fw fh row wd hgt = 2 := by
                unfold k_X4_table
                exact ((if_neg c10).trans ((if_pos c14).trans ((if_neg c15).trans ((if_neg c19).trans ((if_neg c23).trans (if_neg c27))))))
              have e38 : n_X4_table_qw fw fh row wd hgt = fw := by
                unfold n_X4_table_qw
                exact ((if_neg c10).trans ((if_pos c14).trans ((if_neg c15).trans ((if_neg c19).trans ((if_neg c23).trans (if_neg c27))))))
              have e39 : n_X4_table_qh fw fh row wd hgt = fh := by
                unfold n_X4_table_qh
                exact ((if_neg c10).trans ((if_pos c14).trans ((if_neg c15).trans ((if_neg c19).trans ((if_neg c23).trans (if_neg c27))))))
              obtain ⟨sa, hstr⟩ := hE.str 46 "width or height is out of its range" (by decide)
              have hat : ∀ w ∈ vx_atS RX4 48 "java/lang/IllegalArgumentException" ["java/lang/RuntimeException", "java/lang/Exception"], w.before _ s = true := vx_hat (fun w h => hts w (List.mem_cons_of_mem _ (List.mem_append_left _ (List.mem_append_right _ h)))) (B := zBad2) (by decide +kernel) (hE.bad2 _)
              exact vx_throwS (text := "width or height is out of its range") (names := ["java/lang/RuntimeException", "java/lang/Exception"]) (A := A) hx hb hnt hown (by decide) (by decide) (hts (.classLink RX4 44 "java/lang/IllegalArgumentException") (List.mem_cons_of_mem _ (List.mem_append_left _ (List.mem_append_left _ (List.mem_append_left _ (List.mem_append_left _ (List.mem_append_left _ (List.mem_of_getElem? (i := 2) rfl)))))))) (hts (.initialized "java/lang/IllegalArgumentException") (List.mem_cons_of_mem _ (List.mem_append_left _ (List.mem_append_left _ (List.mem_append_left _ (List.mem_append_left _ (List.mem_append_left _ (List.mem_of_getElem? (i := 3) rfl)))))))) hstr hat (by decide +kernel) hE.1 hE.2.1 hS (hl.1.trans hml.symm) dX4_table_42 dX4_table_45 dX4_table_46 dX4_table_48 dX4_table_51 (fun x hx => (ht0 x hx).elim) (by decide) (by decide) (by decide) (by decide) hlocks (fun t hal9 hz9 hk9 => ⟨(), trivial, ⟨zX2 e37, (by rw [e38, e39]; exact zkP hP hk9), va_K.moved hal9 hK, (by rw [e38, e39]; exact hD)⟩, zF hS hz9 hk9⟩) hS.2.2 (by decide) (by decide)
    · have e40 : k_X4_table fw fh row wd hgt = 1 := by
        unfold k_X4_table
        exact ((if_neg c10).trans (if_neg c14))
      have e41 : n_X4_table_qw fw fh row wd hgt = fw := by
        unfold n_X4_table_qw
        exact ((if_neg c10).trans (if_neg c14))
      have e42 : n_X4_table_qh fw fh row wd hgt = fh := by
        unfold n_X4_table_qh
        exact ((if_neg c10).trans (if_neg c14))
      obtain ⟨sa, hstr⟩ := hE.str 39 "the table has no such row" (by decide)
      have hat : ∀ w ∈ vx_atS RX4 41 "java/lang/IndexOutOfBoundsException" ["java/lang/RuntimeException", "java/lang/Exception"], w.before _ s = true := vx_hat (fun w h => hts w (List.mem_cons_of_mem _ (List.mem_append_left _ (List.mem_append_left _ (List.mem_append_right _ h))))) (B := zBad1) (by decide +kernel) (hE.bad1 _)
      exact vx_throwS (text := "the table has no such row") (names := ["java/lang/RuntimeException", "java/lang/Exception"]) (A := A) hx hb hnt hown (by decide) (by decide) (hts (.classLink RX4 37 "java/lang/IndexOutOfBoundsException") (List.mem_cons_of_mem _ (List.mem_append_left _ (List.mem_append_left _ (List.mem_append_left _ (List.mem_append_left _ (List.mem_append_left _ (List.mem_of_getElem? (i := 0) rfl)))))))) (hts (.initialized "java/lang/IndexOutOfBoundsException") (List.mem_cons_of_mem _ (List.mem_append_left _ (List.mem_append_left _ (List.mem_append_left _ (List.mem_append_left _ (List.mem_append_left _ (List.mem_of_getElem? (i := 1) rfl)))))))) hstr hat (by decide +kernel) hE.1 hE.2.1 hS (hl.1.trans hml.symm) dX4_table_10 dX4_table_13 dX4_table_14 dX4_table_16 dX4_table_19 (fun x hx => (ht0 x hx).elim) (by decide) (by decide) (by decide) (by decide) hlocks (fun t hal9 hz9 hk9 => ⟨(), trivial, ⟨zX1 e40, (by rw [e41, e42]; exact zkP hP hk9), va_K.moved hal9 hK, (by rw [e41, e42]; exact hD)⟩, zF hS hz9 hk9⟩) hS.2.2 (by decide) (by decide)
def s_X4_truth (ft : Nat → Int32) (bd : Int32) (tr : Int32) : Int32 := (if k_X4_requireBand bd = 0 then (if tr < 1 then 0 else (if tr ≤ 99999 then s_X0_replaceTruth ft bd tr else 0)) else 0)
def k_X4_truth (ft : Nat → Int32) (bd : Int32) (tr : Int32) : Nat := (if k_X4_requireBand bd = 0 then (if tr < 1 then 2 else (if tr ≤ 99999 then 0 else 2)) else k_X4_requireBand bd)
def n_X4_truth_qt (ft : Nat → Int32) (bd : Int32) (tr : Int32) : Nat → Int32 := (if k_X4_requireBand bd = 0 then (if tr < 1 then ft else (if tr ≤ 99999 then n_X0_replaceTruth_qt ft bd tr else ft)) else ft)
abbrev rm_X4_truth : Room := { frames := 7, cells := 2, slots := 12, locals := 110 }
abbrev Qc_X4_truth (D : va_G) (cI cZ cJ cD : ClassId) (qo : Nat) (qm : Nat) (qb : Nat) (qr : Nat) (qf : Nat) (qt : Nat) (ft : Nat → Int32) (bd : Int32) (tr : Int32) (A : Nat → Prop) : Array Value → State → Outcome → State → Prop := va_Qi (fun (r : Int32) (_ : Unit) => k_X4_truth ft bd tr = 0 ∧ r = s_X4_truth ft bd tr) (zPost D cI cZ cJ cD A [(qo, .inr (4, [.ref qm, .ref qb, .ref qr, .ref qf])), (qb, .inr (0, [.ref qt])), (qt, .inl (cI, 9, .inl (n_X4_truth_qt ft bd tr)))]) A
abbrev Xc_X4_truth (D : va_G) (cI cZ cJ cD : ClassId) (qo : Nat) (qm : Nat) (qb : Nat) (qr : Nat) (qf : Nat) (qt : Nat) (ft : Nat → Int32) (bd : Int32) (tr : Int32) (A : Nat → Prop) : String → State → State → Prop := vx_X (fun _ : Unit => True) (fun E u t => zX E (k_X4_truth ft bd tr) ∧ zPost D cI cZ cJ cD A [(qo, .inr (4, [.ref qm, .ref qb, .ref qr, .ref qf])), (qb, .inr (0, [.ref qt])), (qt, .inl (cI, 9, .inl (n_X4_truth_qt ft bd tr)))] u t) A
set_option maxHeartbeats 4000000 in
set_option maxRecDepth 100000 in
theorem c_X4_truth (l : Launch) (hnt : l.stackTraces = false) (D : va_G) (cI cZ cJ cD : ClassId) (qo : Nat) (qm : Nat) (qb : Nat) (qr : Nat) (qf : Nat) (qt : Nat) (ft : Nat → Int32) (bd : Int32) (tr : Int32) (sz : Nat)  : vx_Met l yX4_truth wsX4_truth rm_X4_truth (va_Pc [.ref qo, .int bd, .int tr] (zPreWE D cI cZ cJ cD [(qo, .inr (4, [.ref qm, .ref qb, .ref qr, .ref qf])), (qb, .inr (0, [.ref qt])), (qt, .inl (cI, 9, .inl ft))] sz)) (Qc_X4_truth D cI cZ cJ cD qo qm qb qr qf qt ft bd tr (va_A [(qo, .inr (4, [.ref qm, .ref qb, .ref qr, .ref qf])), (qb, .inr (0, [.ref qt])), (qt, .inl (cI, 9, .inl ft))] sz)) (Xc_X4_truth D cI cZ cJ cD qo qm qb qr qf qt ft bd tr (va_A [(qo, .inr (4, [.ref qm, .ref qb, .ref qr, .ref qf])), (qb, .inr (0, [.ref qt])), (qt, .inl (cI, 9, .inl ft))] sz)) 2 12 (va_A [(qo, .inr (4, [.ref qm, .ref qb, .ref qr, .ref qf])), (qb, .inr (0, [.ref qt])), (qt, .inl (cI, 9, .inl ft))] sz) := by
  refine vx_ofW (cc := cX4_truth) (maxL := 3) (ret := (some .int)) (by decide) rfl ?_
  intro p e s m args below meth c s₁ B hml ht0 hv
  obtain ⟨rfl, hsz, hP, hK, hD0, hE⟩ := hv
  have hx := B.exec
  have hb := B.bytes
  have hr := B.returns
  have hts := atoms_spec (ws := wsX4_truth) B.pre
  have hown : s.vm.findClass RX4 = some m.cls := findClass_of_methodNamed B.named
  have hlocks := B.notSynchronized
  subst hsz
  have hD := hD0.self (sz := s.heap.size)
  generalize hAe : va_A [(qo, .inr (4, [.ref qm, .ref qb, .ref qr, .ref qf])), (qb, .inr (0, [.ref qt])), (qt, .inl (cI, 9, .inl ft))] s.heap.size = A at hE hD ⊢
  have hA : ∀ q : Nat, s.heap.size ≤ q → A q := fun q h => by rw [← hAe]; exact Or.inr h
  have hS : va_S A s.heap s.heap [] := va_S.rf
  have hl := lv_entry ([.ref qo, .int bd, .int tr]) (n := 3) (Nat.le_of_ble_eq_true rfl)
  rw [lg_entry_eq]
  generalize (lg_sl ([.ref qo, .int bd, .int tr]) ++ List.replicate (3 - (lg_sl ([.ref qo, .int bd, .int tr])).length) Slot.unset).toArray = ls at hl ⊢
  have hl : lv_has ls 3 [(0, .ref qo), (1, .int bd), (2, .int tr)] := hl
  have hP : va_P D vwCl [(qo, .inr (4, [.ref qm, .ref qb, .ref qr, .ref qf])), (qb, .inr (0, [.ref qt])), (qt, .inl (cI, 9, .inl ft))] s.heap := hP
  have hP := hP
  refine lv_iload_n hx hb dX4_truth_0 rfl (lv_at hl 1 rfl) ?_
  refine vx_callv (vx_runS (As := [.int bd]) (rest := []) ⟨hx, hb, hml, hown, hts⟩ (c_X4_requireBand l hnt D cI cZ cJ cD bd ) (va_cwS 1 hts gX4_truth_X4_requireBand rfl rfl rfl (by decide +kernel) ⟨Nat.le_of_ble_eq_true rfl, Nat.le_of_ble_eq_true rfl⟩) ⟨zblindE, (fun U hU hW => ⟨rfl, by rw [hU]; exact hP.sub (ws' := []) [] rfl, va_K.moved hW.alike hK, zEnv.go hE hS (fun q h => h.elim) hU hW⟩)⟩ rfl rfl hl.1 rfl (lv_room (Nat.le_of_ble_eq_true rfl)) dX4_truth_1 ⟨Nat.le_of_ble_eq_true rfl, Nat.le_of_ble_eq_true rfl⟩) hS (fun q _ h => h.elim) (fun q h => h.elim) (fun q _ h => h.elim) (fun E ce q9 u t H locs ht hvm hpx hB hz1 hk1 hS hq9 hce hcl => ?_) (fun u t H locs ht hvm hw hB hz1 hk1 hS => ?_)
  · have hX := hB
    have hP := zk hP hk1
    have c8 : ¬ k_X4_requireBand bd = 0 := zX_ne hX
    have e9 : k_X4_truth ft bd tr = k_X4_requireBand bd := by
      unfold k_X4_truth
      exact (if_neg c8)
    have e10 : n_X4_truth_qt ft bd tr = ft := by
      unfold n_X4_truth_qt
      exact (if_neg c8)
    exact vx_out (fun x hx => (ht0 x hx).elim) hlocks hq9 hce hcl (fun t ht9 hal9 => ⟨(), trivial, ⟨(by rw [e9]; exact hX), (by rw [e10]; rw [ht9]; exact hP), va_K.moved hal9 hK, (by rw [e10]; exact hD)⟩, hS.F ht9⟩) hS.2.2 (by decide) (by decide)
  · have c11 : k_X4_requireBand bd = 0 := hw
    have hP := zk hP hk1
    refine W.widen (k := 1) (n := 6) (by decide) (by decide) ?_
    refine lv_iload_n hx hb dX4_truth_4 rfl (lv_at hl 2 rfl) ?_
    refine lv_iconst (v := 1) hx hb dX4_truth_5 (by decide) ?_
    refine lv_icmp_lt (tgt := 15) hx hb dX4_truth_6 (by decide) (fun c12 => ?_) (fun c12 => ?_)
    · have e13 : k_X4_truth ft bd tr = 2 := by
        unfold k_X4_truth
        exact ((if_pos c11).trans (if_pos c12))
      have e14 : n_X4_truth_qt ft bd tr = ft := by
        unfold n_X4_truth_qt
        exact ((if_pos c11).trans (if_pos c12))
      obtain ⟨sa, hstr⟩ := hE.str 101 "truth is out of its range" (by decide)
      have hat : ∀ w ∈ vx_atS RX4 48 "java/lang/IllegalArgumentException" ["java/lang/RuntimeException", "java/lang/Exception"], w.before _ s = true := vx_hat (fun w h => hts w (List.mem_cons_of_mem _ (List.mem_append_left _ (List.mem_append_right _ h)))) (B := zBad2) (by decide +kernel) (hE.bad2 _)
      exact vx_throwS (text := "truth is out of its range") (names := ["java/lang/RuntimeException", "java/lang/Exception"]) (A := A) hx hb hnt hown (by decide) (by decide) (hts (.classLink RX4 44 "java/lang/IllegalArgumentException") (List.mem_cons_of_mem _ (List.mem_append_left _ (List.mem_append_left _ (List.mem_append_left _ (List.mem_append_left _ (List.mem_of_getElem? (i := 0) rfl))))))) (hts (.initialized "java/lang/IllegalArgumentException") (List.mem_cons_of_mem _ (List.mem_append_left _ (List.mem_append_left _ (List.mem_append_left _ (List.mem_append_left _ (List.mem_of_getElem? (i := 1) rfl))))))) hstr hat (by decide +kernel) hE.1 hE.2.1 hS (hl.1.trans hml.symm) dX4_truth_15 dX4_truth_18 dX4_truth_19 dX4_truth_21 dX4_truth_24 (fun x hx => (ht0 x hx).elim) (by decide) (by decide) (by decide) (by decide) hlocks (fun t hal9 hz9 hk9 => ⟨(), trivial, ⟨zX2 e13, (by rw [e14]; exact zkP hP hk9), va_K.moved hal9 hK, (by rw [e14]; exact hD)⟩, zF hS hz9 hk9⟩) hS.2.2 (by decide) (by decide)
    · refine lv_iload_n hx hb dX4_truth_9 rfl (lv_at hl 2 rfl) ?_
      refine lv_ldc (v := 99999) hx hb hown (hts (.constant RX4 100 (99999)) (List.mem_cons_of_mem _ (List.mem_append_left _ (List.mem_append_left _ (List.mem_append_left _ (List.mem_append_left _ (List.mem_of_getElem? (i := 2) rfl))))))) dX4_truth_10 ?_
      refine lv_icmp_le (tgt := 25) hx hb dX4_truth_12 (by decide) (fun c15 => ?_) (fun c15 => ?_)
      · refine lv_aload_n hx hb dX4_truth_25 rfl (lv_at hl 0 rfl) ?_
        refine va_get (D := D) (ci := 4) (v := .ref qb) (C := RX4) (T := TX4) (N := 4) hx hb hts (fun w h => List.mem_cons_of_mem _ (List.mem_append_left _ (List.mem_append_left _ (List.mem_append_left _ (List.mem_append_right _ h))))) hown hK hP 0 rfl rfl 1 (by decide) (hts (.fieldLink RX4 19 "AtlasFolder" "bands" "LAtlasFolder$BandTruths;") (List.mem_cons_of_mem _ (List.mem_append_left _ (List.mem_append_left _ (List.mem_append_left _ (List.mem_append_left _ (List.mem_of_getElem? (i := 3) rfl))))))) (fun _ h9 => h9) rfl dX4_truth_26 ?_
        refine lv_iload_n hx hb dX4_truth_29 rfl (lv_at hl 1 rfl) ?_
        refine lv_iload_n hx hb dX4_truth_30 rfl (lv_at hl 2 rfl) ?_
        have hPc := hP.sub (ws' := [(qb, .inr (0, [.ref qt])), (qt, .inl (cI, 9, .inl ft))]) [1, 2] rfl
        have hDc := hD.sub (ws' := [(qb, .inr (0, [.ref qt])), (qt, .inl (cI, 9, .inl ft))]) [1, 2] (by decide) rfl
        have hFc := va_free (wc := [(qb, .inr (0, [.ref qt])), (qt, .inl (cI, 9, .inl ft))]) hD hS hA [1, 2] rfl
        refine va_calli (va_runV (As := [.int bd, .int tr]) (rest := []) ⟨hx, hb, hml, hown, hts⟩ (c_X0_replaceTruth l D cI cZ cJ cD qb qt ft bd tr H.size ) (cwV 2 hts gX4_truth_X0_replaceTruth rfl rfl rfl (by decide +kernel) ⟨Nat.le_of_ble_eq_true rfl, Nat.le_of_ble_eq_true rfl⟩) ⟨zblindW, va_recv hK hP (ci := 0) (q0 := 1) rfl rfl, (fun U hU hW => ⟨rfl, by rw [hU], by rw [hU]; exact hPc, va_K.moved hW.alike hK, hDc.weaken (fun _ _ _ _ => trivial)⟩)⟩ rfl rfl hl.1 rfl (lv_room (Nat.le_of_ble_eq_true rfl)) dX4_truth_31 ⟨Nat.le_of_ble_eq_true rfl, Nat.le_of_ble_eq_true rfl⟩) hS (fun q _ h => hFc q h) hFc (fun r16 u t H locs ht hvm hw hB hz1 hk1 hS => ?_)
        rw [hw]
        obtain ⟨hP1, hK1, hD1⟩ := hB
        rw [ht] at hP1
        obtain ⟨hP, hD⟩ := va_join (wr := [(qo, .inr (4, [.ref qm, .ref qb, .ref qr, .ref qf]))]) (w1 := [(qb, .inr (0, [.ref qt])), (qt, .inl (cI, 9, .inl (n_X0_replaceTruth_qt ft bd tr)))]) hP hD [1, 2] [0] rfl rfl (by decide) (by decide) hk1 hFc hP1 hD1
        have hP := hP.sub (ws' := [(qo, .inr (4, [.ref qm, .ref qb, .ref qr, .ref qf])), (qb, .inr (0, [.ref qt])), (qt, .inl (cI, 9, .inl (n_X0_replaceTruth_qt ft bd tr)))]) [0, 1, 2] rfl
        have hD := hD.sub (ws' := [(qo, .inr (4, [.ref qm, .ref qb, .ref qr, .ref qf])), (qb, .inr (0, [.ref qt])), (qt, .inl (cI, 9, .inl (n_X0_replaceTruth_qt ft bd tr)))]) [0, 1, 2] (by decide) rfl
        refine W.widen (k := 2) (n := 12) (by decide) (by decide) ?_
        have e17 : s_X4_truth ft bd tr = s_X0_replaceTruth ft bd tr := by
          unfold s_X4_truth
          exact ((if_pos c11).trans ((if_neg c12).trans (if_pos c15)))
        have e18 : k_X4_truth ft bd tr = 0 := by
          unfold k_X4_truth
          exact ((if_pos c11).trans ((if_neg c12).trans (if_pos c15)))
        have e19 : n_X4_truth_qt ft bd tr = n_X0_replaceTruth_qt ft bd tr := by
          unfold n_X4_truth_qt
          exact ((if_pos c11).trans ((if_neg c12).trans (if_pos c15)))
        refine vx_ret ?_
        exact W.iret (v := (s_X0_replaceTruth ft bd tr)) hx hb hr (fun t ht hW => ⟨⟨_, (), rfl, ⟨e18, e17.symm⟩, ⟨(by rw [e19]; rw [ht]; exact hP), va_K.moved hW.alike hK, (by rw [e19]; exact hD)⟩⟩, hS.F ht⟩) hS.2.2 dX4_truth_34
      · have e20 : k_X4_truth ft bd tr = 2 := by
          unfold k_X4_truth
          exact ((if_pos c11).trans ((if_neg c12).trans (if_neg c15)))
        have e21 : n_X4_truth_qt ft bd tr = ft := by
          unfold n_X4_truth_qt
          exact ((if_pos c11).trans ((if_neg c12).trans (if_neg c15)))
        obtain ⟨sa, hstr⟩ := hE.str 101 "truth is out of its range" (by decide)
        have hat : ∀ w ∈ vx_atS RX4 48 "java/lang/IllegalArgumentException" ["java/lang/RuntimeException", "java/lang/Exception"], w.before _ s = true := vx_hat (fun w h => hts w (List.mem_cons_of_mem _ (List.mem_append_left _ (List.mem_append_right _ h)))) (B := zBad2) (by decide +kernel) (hE.bad2 _)
        exact vx_throwS (text := "truth is out of its range") (names := ["java/lang/RuntimeException", "java/lang/Exception"]) (A := A) hx hb hnt hown (by decide) (by decide) (hts (.classLink RX4 44 "java/lang/IllegalArgumentException") (List.mem_cons_of_mem _ (List.mem_append_left _ (List.mem_append_left _ (List.mem_append_left _ (List.mem_append_left _ (List.mem_of_getElem? (i := 0) rfl))))))) (hts (.initialized "java/lang/IllegalArgumentException") (List.mem_cons_of_mem _ (List.mem_append_left _ (List.mem_append_left _ (List.mem_append_left _ (List.mem_append_left _ (List.mem_of_getElem? (i := 1) rfl))))))) hstr hat (by decide +kernel) hE.1 hE.2.1 hS (hl.1.trans hml.symm) dX4_truth_15 dX4_truth_18 dX4_truth_19 dX4_truth_21 dX4_truth_24 (fun x hx => (ht0 x hx).elim) (by decide) (by decide) (by decide) (by decide) hlocks (fun t hal9 hz9 hk9 => ⟨(), trivial, ⟨zX2 e20, (by rw [e21]; exact zkP hP hk9), va_K.moved hal9 hK, (by rw [e21]; exact hD)⟩, zF hS hz9 hk9⟩) hS.2.2 (by decide) (by decide)
def s_X4_keepsAreas (ft : Nat → Int32) (fw : Nat → Int32) (fh : Nat → Int32) : Int32 := s_X0_areAllAlike ft fw fh
abbrev rm_X4_keepsAreas : Room := { frames := 4, cells := 0, slots := 0, locals := 91 }
abbrev Qc_X4_keepsAreas (D : va_G) (cI cZ cJ cD : ClassId) (qo : Nat) (qm : Nat) (qb : Nat) (qr : Nat) (qf : Nat) (qt : Nat) (ft : Nat → Int32) (qw : Nat) (qh : Nat) (fw : Nat → Int32) (fh : Nat → Int32) : Array Value → State → Outcome → State → Prop := va_Qi (fun (r : Int32) (_ : Unit) => r = s_X4_keepsAreas ft fw fh) (fun _ _ => True) (fun _ : Nat => False)
set_option maxHeartbeats 4000000 in
set_option maxRecDepth 100000 in
theorem c_X4_keepsAreas (l : Launch) (D : va_G) (cI cZ cJ cD : ClassId) (qo : Nat) (qm : Nat) (qb : Nat) (qr : Nat) (qf : Nat) (qt : Nat) (ft : Nat → Int32) (qw : Nat) (qh : Nat) (fw : Nat → Int32) (fh : Nat → Int32)  : Met l yX4_keepsAreas wsX4_keepsAreas rm_X4_keepsAreas (va_Pc [.ref qo] (zPre D cI cZ cJ cD [(qo, .inr (4, [.ref qm, .ref qb, .ref qr, .ref qf])), (qb, .inr (0, [.ref qt])), (qt, .inl (cI, 9, .inl ft)), (qm, .inr (2, [.ref qw, .ref qh])), (qw, .inl (cI, 10, .inl fw)), (qh, .inl (cI, 10, .inl fh))])) (Qc_X4_keepsAreas D cI cZ cJ cD qo qm qb qr qf qt ft qw qh fw fh ) 0 0 (fun _ : Nat => False) := by
  refine Met.ofW (cc := cX4_keepsAreas) (maxL := 1) (ret := (some .boolean)) (by decide) rfl ?_
  intro p e s m args below meth c s₁ B hml hv
  obtain ⟨rfl, hP, hK⟩ := hv
  have hx := B.exec
  have hb := B.bytes
  have hr := B.returns
  have hts := atoms_spec (ws := wsX4_keepsAreas) B.pre
  have hown : s.vm.findClass RX4 = some m.cls := findClass_of_methodNamed B.named
  have hlocks := B.notSynchronized
  have hS : va_S (fun _ : Nat => False) s.heap s.heap [] := va_S.rf
  have hl := lv_entry ([.ref qo]) (n := 1) (Nat.le_of_ble_eq_true rfl)
  rw [lg_entry_eq]
  generalize (lg_sl ([.ref qo]) ++ List.replicate (1 - (lg_sl ([.ref qo])).length) Slot.unset).toArray = ls at hl ⊢
  have hl : lv_has ls 1 [(0, .ref qo)] := hl
  have hP : va_P D vwCl [(qo, .inr (4, [.ref qm, .ref qb, .ref qr, .ref qf])), (qb, .inr (0, [.ref qt])), (qt, .inl (cI, 9, .inl ft)), (qm, .inr (2, [.ref qw, .ref qh])), (qw, .inl (cI, 10, .inl fw)), (qh, .inl (cI, 10, .inl fh))] s.heap := hP
  have hP := hP
  refine lv_aload_n hx hb dX4_keepsAreas_0 rfl (lv_at hl 0 rfl) ?_
  refine va_get (D := D) (ci := 4) (v := .ref qb) (C := RX4) (T := TX4) (N := 4) hx hb hts (fun w h => List.mem_cons_of_mem _ (List.mem_append_left _ (List.mem_append_left _ (List.mem_append_right _ h)))) hown hK hP 0 rfl rfl 1 (by decide) (hts (.fieldLink RX4 19 "AtlasFolder" "bands" "LAtlasFolder$BandTruths;") (List.mem_cons_of_mem _ (List.mem_append_left _ (List.mem_append_left _ (List.mem_append_left _ (List.mem_append_left _ (List.mem_of_getElem? (i := 0) rfl))))))) (fun _ h9 => h9) rfl dX4_keepsAreas_1 ?_
  refine lv_aload_n hx hb dX4_keepsAreas_4 rfl (lv_at hl 0 rfl) ?_
  refine va_get (D := D) (ci := 4) (v := .ref qm) (C := RX4) (T := TX4) (N := 4) hx hb hts (fun w h => List.mem_cons_of_mem _ (List.mem_append_left _ (List.mem_append_left _ (List.mem_append_right _ h)))) hown hK hP 0 rfl rfl 0 (by decide) (hts (.fieldLink RX4 10 "AtlasFolder" "map" "LAtlasFolder$MapTable;") (List.mem_cons_of_mem _ (List.mem_append_left _ (List.mem_append_left _ (List.mem_append_left _ (List.mem_append_left _ (List.mem_of_getElem? (i := 1) rfl))))))) (fun _ h9 => h9) rfl dX4_keepsAreas_5 ?_
  refine va_calli (va_runV (As := [.ref qm]) (rest := []) ⟨hx, hb, hml, hown, hts⟩ (c_X0_areAllAlike l D cI cZ cJ cD qb qt ft qm qw qh fw fh ) (cwV 1 hts gX4_keepsAreas_X0_areAllAlike rfl rfl rfl (by decide +kernel) ⟨Nat.le_of_ble_eq_true rfl, Nat.le_of_ble_eq_true rfl⟩) ⟨zblind, va_recv hK hP (ci := 0) (q0 := 1) rfl rfl, (fun U hU hW => ⟨rfl, by rw [hU]; exact hP.sub (ws' := [(qb, .inr (0, [.ref qt])), (qt, .inl (cI, 9, .inl ft)), (qm, .inr (2, [.ref qw, .ref qh])), (qw, .inl (cI, 10, .inl fw)), (qh, .inl (cI, 10, .inl fh))]) [1, 2, 3, 4, 5] rfl, va_K.moved hW.alike hK⟩)⟩ rfl rfl hl.1 rfl (lv_room (Nat.le_of_ble_eq_true rfl)) dX4_keepsAreas_8 ⟨Nat.le_of_ble_eq_true rfl, Nat.le_of_ble_eq_true rfl⟩) hS (fun q _ h => h.elim) (fun q h => h.elim) (fun r2 u t H locs ht hvm hw hB hz1 hk1 hS => ?_)
  rw [hw]
  have hP := zk hP hk1
  have e3 : s_X4_keepsAreas ft fw fh = s_X0_areAllAlike ft fw fh := rfl
  exact W.zret (v := (s_X0_areAllAlike ft fw fh)) hx hb hr (z_b (by unfold s_X0_areAllAlike; split <;> simp)) (fun t ht hW => ⟨⟨_, (), rfl, e3.symm, trivial⟩, hS.F ht⟩) hS.2.2 dX4_keepsAreas_11
def s_X4_widest (ft : Nat → Int32) (fw : Nat → Int32) (fh : Nat → Int32) : Int32 := s_X0_greatest ft fw fh
abbrev rm_X4_widest : Room := { frames := 4, cells := 0, slots := 0, locals := 92 }
abbrev Qc_X4_widest (D : va_G) (cI cZ cJ cD : ClassId) (qo : Nat) (qm : Nat) (qb : Nat) (qr : Nat) (qf : Nat) (qt : Nat) (ft : Nat → Int32) (qw : Nat) (qh : Nat) (fw : Nat → Int32) (fh : Nat → Int32) : Array Value → State → Outcome → State → Prop := va_Qi (fun (r : Int32) (_ : Unit) => r = s_X4_widest ft fw fh) (fun _ _ => True) (fun _ : Nat => False)
set_option maxHeartbeats 4000000 in
set_option maxRecDepth 100000 in
theorem c_X4_widest (l : Launch) (D : va_G) (cI cZ cJ cD : ClassId) (qo : Nat) (qm : Nat) (qb : Nat) (qr : Nat) (qf : Nat) (qt : Nat) (ft : Nat → Int32) (qw : Nat) (qh : Nat) (fw : Nat → Int32) (fh : Nat → Int32)  : Met l yX4_widest wsX4_widest rm_X4_widest (va_Pc [.ref qo] (zPre D cI cZ cJ cD [(qo, .inr (4, [.ref qm, .ref qb, .ref qr, .ref qf])), (qb, .inr (0, [.ref qt])), (qt, .inl (cI, 9, .inl ft)), (qm, .inr (2, [.ref qw, .ref qh])), (qw, .inl (cI, 10, .inl fw)), (qh, .inl (cI, 10, .inl fh))])) (Qc_X4_widest D cI cZ cJ cD qo qm qb qr qf qt ft qw qh fw fh ) 0 0 (fun _ : Nat => False) := by
  refine Met.ofW (cc := cX4_widest) (maxL := 1) (ret := (some .int)) (by decide) rfl ?_
  intro p e s m args below meth c s₁ B hml hv
  obtain ⟨rfl, hP, hK⟩ := hv
  have hx := B.exec
  have hb := B.bytes
  have hr := B.returns
  have hts := atoms_spec (ws := wsX4_widest) B.pre
  have hown : s.vm.findClass RX4 = some m.cls := findClass_of_methodNamed B.named
  have hlocks := B.notSynchronized
  have hS : va_S (fun _ : Nat => False) s.heap s.heap [] := va_S.rf
  have hl := lv_entry ([.ref qo]) (n := 1) (Nat.le_of_ble_eq_true rfl)
  rw [lg_entry_eq]
  generalize (lg_sl ([.ref qo]) ++ List.replicate (1 - (lg_sl ([.ref qo])).length) Slot.unset).toArray = ls at hl ⊢
  have hl : lv_has ls 1 [(0, .ref qo)] := hl
  have hP : va_P D vwCl [(qo, .inr (4, [.ref qm, .ref qb, .ref qr, .ref qf])), (qb, .inr (0, [.ref qt])), (qt, .inl (cI, 9, .inl ft)), (qm, .inr (2, [.ref qw, .ref qh])), (qw, .inl (cI, 10, .inl fw)), (qh, .inl (cI, 10, .inl fh))] s.heap := hP
  have hP := hP
  refine lv_aload_n hx hb dX4_widest_0 rfl (lv_at hl 0 rfl) ?_
  refine va_get (D := D) (ci := 4) (v := .ref qb) (C := RX4) (T := TX4) (N := 4) hx hb hts (fun w h => List.mem_cons_of_mem _ (List.mem_append_left _ (List.mem_append_left _ (List.mem_append_right _ h)))) hown hK hP 0 rfl rfl 1 (by decide) (hts (.fieldLink RX4 19 "AtlasFolder" "bands" "LAtlasFolder$BandTruths;") (List.mem_cons_of_mem _ (List.mem_append_left _ (List.mem_append_left _ (List.mem_append_left _ (List.mem_append_left _ (List.mem_of_getElem? (i := 0) rfl))))))) (fun _ h9 => h9) rfl dX4_widest_1 ?_
  refine lv_aload_n hx hb dX4_widest_4 rfl (lv_at hl 0 rfl) ?_
  refine va_get (D := D) (ci := 4) (v := .ref qm) (C := RX4) (T := TX4) (N := 4) hx hb hts (fun w h => List.mem_cons_of_mem _ (List.mem_append_left _ (List.mem_append_left _ (List.mem_append_right _ h)))) hown hK hP 0 rfl rfl 0 (by decide) (hts (.fieldLink RX4 10 "AtlasFolder" "map" "LAtlasFolder$MapTable;") (List.mem_cons_of_mem _ (List.mem_append_left _ (List.mem_append_left _ (List.mem_append_left _ (List.mem_append_left _ (List.mem_of_getElem? (i := 1) rfl))))))) (fun _ h9 => h9) rfl dX4_widest_5 ?_
  refine va_calli (va_runV (As := [.ref qm]) (rest := []) ⟨hx, hb, hml, hown, hts⟩ (c_X0_greatest l D cI cZ cJ cD qb qt ft qm qw qh fw fh ) (cwV 1 hts gX4_widest_X0_greatest rfl rfl rfl (by decide +kernel) ⟨Nat.le_of_ble_eq_true rfl, Nat.le_of_ble_eq_true rfl⟩) ⟨zblind, va_recv hK hP (ci := 0) (q0 := 1) rfl rfl, (fun U hU hW => ⟨rfl, by rw [hU]; exact hP.sub (ws' := [(qb, .inr (0, [.ref qt])), (qt, .inl (cI, 9, .inl ft)), (qm, .inr (2, [.ref qw, .ref qh])), (qw, .inl (cI, 10, .inl fw)), (qh, .inl (cI, 10, .inl fh))]) [1, 2, 3, 4, 5] rfl, va_K.moved hW.alike hK⟩)⟩ rfl rfl hl.1 rfl (lv_room (Nat.le_of_ble_eq_true rfl)) dX4_widest_8 ⟨Nat.le_of_ble_eq_true rfl, Nat.le_of_ble_eq_true rfl⟩) hS (fun q _ h => h.elim) (fun q h => h.elim) (fun r2 u t H locs ht hvm hw hB hz1 hk1 hS => ?_)
  rw [hw]
  have hP := zk hP hk1
  have e3 : s_X4_widest ft fw fh = s_X0_greatest ft fw fh := rfl
  exact W.iret (v := (s_X0_greatest ft fw fh)) hx hb hr (fun t ht hW => ⟨⟨_, (), rfl, e3.symm, trivial⟩, hS.F ht⟩) hS.2.2 dX4_widest_11
def s_X4_stretch (ft : Nat → Int32) (fw : Nat → Int32) (fh : Nat → Int32) (bd : Int32) : UInt32 := (if k_X4_requireBand bd = 0 then s_X0_areaByTruth ft fw fh bd else 0)
def k_X4_stretch (ft : Nat → Int32) (fw : Nat → Int32) (fh : Nat → Int32) (bd : Int32) : Nat := (if k_X4_requireBand bd = 0 then 0 else k_X4_requireBand bd)
abbrev rm_X4_stretch : Room := { frames := 7, cells := 1, slots := 6, locals := 110 }
abbrev Qc_X4_stretch (D : va_G) (cI cZ cJ cD : ClassId) (qo : Nat) (qm : Nat) (qb : Nat) (qr : Nat) (qf : Nat) (qt : Nat) (ft : Nat → Int32) (qw : Nat) (qh : Nat) (fw : Nat → Int32) (fh : Nat → Int32) (bd : Int32) : Array Value → State → Outcome → State → Prop := va_Qf (fun (r : UInt32) (_ : Unit) => k_X4_stretch ft fw fh bd = 0 ∧ r = s_X4_stretch ft fw fh bd) (fun _ _ => True) (fun _ : Nat => False)
abbrev Xc_X4_stretch (D : va_G) (cI cZ cJ cD : ClassId) (qo : Nat) (qm : Nat) (qb : Nat) (qr : Nat) (qf : Nat) (qt : Nat) (ft : Nat → Int32) (qw : Nat) (qh : Nat) (fw : Nat → Int32) (fh : Nat → Int32) (bd : Int32) : String → State → State → Prop := vx_X (fun _ : Unit => True) (fun E _ _ => zX E (k_X4_stretch ft fw fh bd)) (fun _ : Nat => False)
set_option maxHeartbeats 4000000 in
set_option maxRecDepth 100000 in
theorem c_X4_stretch (l : Launch) (hnt : l.stackTraces = false) (D : va_G) (cI cZ cJ cD : ClassId) (qo : Nat) (qm : Nat) (qb : Nat) (qr : Nat) (qf : Nat) (qt : Nat) (ft : Nat → Int32) (qw : Nat) (qh : Nat) (fw : Nat → Int32) (fh : Nat → Int32) (bd : Int32) (htr : ∀ j : Nat, j < 9 → ¬ ft j = 0) : vx_Met l yX4_stretch wsX4_stretch rm_X4_stretch (va_Pc [.ref qo, .int bd] (zPreE D cI cZ cJ cD [(qo, .inr (4, [.ref qm, .ref qb, .ref qr, .ref qf])), (qb, .inr (0, [.ref qt])), (qt, .inl (cI, 9, .inl ft)), (qm, .inr (2, [.ref qw, .ref qh])), (qw, .inl (cI, 10, .inl fw)), (qh, .inl (cI, 10, .inl fh))])) (Qc_X4_stretch D cI cZ cJ cD qo qm qb qr qf qt ft qw qh fw fh bd ) (Xc_X4_stretch D cI cZ cJ cD qo qm qb qr qf qt ft qw qh fw fh bd ) 1 6 (fun _ : Nat => False) := by
  refine vx_ofW (cc := cX4_stretch) (maxL := 2) (ret := (some .float)) (by decide) rfl ?_
  intro p e s m args below meth c s₁ B hml ht0 hv
  obtain ⟨rfl, hP, hK, hE⟩ := hv
  have hx := B.exec
  have hb := B.bytes
  have hr := B.returns
  have hts := atoms_spec (ws := wsX4_stretch) B.pre
  have hown : s.vm.findClass RX4 = some m.cls := findClass_of_methodNamed B.named
  have hlocks := B.notSynchronized
  have hS : va_S (fun _ : Nat => False) s.heap s.heap [] := va_S.rf
  have hl := lv_entry ([.ref qo, .int bd]) (n := 2) (Nat.le_of_ble_eq_true rfl)
  rw [lg_entry_eq]
  generalize (lg_sl ([.ref qo, .int bd]) ++ List.replicate (2 - (lg_sl ([.ref qo, .int bd])).length) Slot.unset).toArray = ls at hl ⊢
  have hl : lv_has ls 2 [(0, .ref qo), (1, .int bd)] := hl
  have hP : va_P D vwCl [(qo, .inr (4, [.ref qm, .ref qb, .ref qr, .ref qf])), (qb, .inr (0, [.ref qt])), (qt, .inl (cI, 9, .inl ft)), (qm, .inr (2, [.ref qw, .ref qh])), (qw, .inl (cI, 10, .inl fw)), (qh, .inl (cI, 10, .inl fh))] s.heap := hP
  have hP := hP
  refine lv_iload_n hx hb dX4_stretch_0 rfl (lv_at hl 1 rfl) ?_
  refine vx_callv (vx_runS (As := [.int bd]) (rest := []) ⟨hx, hb, hml, hown, hts⟩ (c_X4_requireBand l hnt D cI cZ cJ cD bd ) (va_cwS 1 hts gX4_stretch_X4_requireBand rfl rfl rfl (by decide +kernel) ⟨Nat.le_of_ble_eq_true rfl, Nat.le_of_ble_eq_true rfl⟩) ⟨zblindE, (fun U hU hW => ⟨rfl, by rw [hU]; exact hP.sub (ws' := []) [] rfl, va_K.moved hW.alike hK, zEnv.go hE hS (fun q h => h.elim) hU hW⟩)⟩ rfl rfl hl.1 rfl (lv_room (Nat.le_of_ble_eq_true rfl)) dX4_stretch_1 ⟨Nat.le_of_ble_eq_true rfl, Nat.le_of_ble_eq_true rfl⟩) hS (fun q _ h => h.elim) (fun q h => h.elim) (fun q _ h => h.elim) (fun E ce q9 u t H locs ht hvm hpx hB hz1 hk1 hS hq9 hce hcl => ?_) (fun u t H locs ht hvm hw hB hz1 hk1 hS => ?_)
  · have hX := hB
    have hP := zk hP hk1
    have c6 : ¬ k_X4_requireBand bd = 0 := zX_ne hX
    have e7 : k_X4_stretch ft fw fh bd = k_X4_requireBand bd := by
      unfold k_X4_stretch
      exact (if_neg c6)
    exact vx_out (fun x hx => (ht0 x hx).elim) hlocks hq9 hce hcl (fun t ht9 hal9 => ⟨(), trivial, (by rw [e7]; exact hX), hS.F ht9⟩) hS.2.2 (by decide) (by decide)
  · have c8 : k_X4_requireBand bd = 0 := hw
    have hP := zk hP hk1
    refine W.widen (k := 1) (n := 6) (by decide) (by decide) ?_
    refine lv_aload_n hx hb dX4_stretch_4 rfl (lv_at hl 0 rfl) ?_
    refine va_get (D := D) (ci := 4) (v := .ref qb) (C := RX4) (T := TX4) (N := 4) hx hb hts (fun w h => List.mem_cons_of_mem _ (List.mem_append_left _ (List.mem_append_left _ (List.mem_append_left _ (List.mem_append_right _ h))))) hown hK hP 0 rfl rfl 1 (by decide) (hts (.fieldLink RX4 19 "AtlasFolder" "bands" "LAtlasFolder$BandTruths;") (List.mem_cons_of_mem _ (List.mem_append_left _ (List.mem_append_left _ (List.mem_append_left _ (List.mem_append_left _ (List.mem_append_left _ (List.mem_of_getElem? (i := 0) rfl)))))))) (fun _ h9 => h9) rfl dX4_stretch_5 ?_
    refine lv_aload_n hx hb dX4_stretch_8 rfl (lv_at hl 0 rfl) ?_
    refine va_get (D := D) (ci := 4) (v := .ref qm) (C := RX4) (T := TX4) (N := 4) hx hb hts (fun w h => List.mem_cons_of_mem _ (List.mem_append_left _ (List.mem_append_left _ (List.mem_append_left _ (List.mem_append_right _ h))))) hown hK hP 0 rfl rfl 0 (by decide) (hts (.fieldLink RX4 10 "AtlasFolder" "map" "LAtlasFolder$MapTable;") (List.mem_cons_of_mem _ (List.mem_append_left _ (List.mem_append_left _ (List.mem_append_left _ (List.mem_append_left _ (List.mem_append_left _ (List.mem_of_getElem? (i := 1) rfl)))))))) (fun _ h9 => h9) rfl dX4_stretch_9 ?_
    refine lv_iload_n hx hb dX4_stretch_12 rfl (lv_at hl 1 rfl) ?_
    refine va_callf (va_runV (As := [.ref qm, .int bd]) (rest := []) ⟨hx, hb, hml, hown, hts⟩ (c_X0_areaByTruth l D cI cZ cJ cD qb qt ft qm qw qh fw fh bd (z_trn htr bd)) (cwV 2 hts gX4_stretch_X0_areaByTruth rfl rfl rfl (by decide +kernel) ⟨Nat.le_of_ble_eq_true rfl, Nat.le_of_ble_eq_true rfl⟩) ⟨zblind, va_recv hK hP (ci := 0) (q0 := 1) rfl rfl, (fun U hU hW => ⟨rfl, by rw [hU]; exact hP.sub (ws' := [(qb, .inr (0, [.ref qt])), (qt, .inl (cI, 9, .inl ft)), (qm, .inr (2, [.ref qw, .ref qh])), (qw, .inl (cI, 10, .inl fw)), (qh, .inl (cI, 10, .inl fh))]) [1, 2, 3, 4, 5] rfl, va_K.moved hW.alike hK⟩)⟩ rfl rfl hl.1 rfl (lv_room (Nat.le_of_ble_eq_true rfl)) dX4_stretch_13 ⟨Nat.le_of_ble_eq_true rfl, Nat.le_of_ble_eq_true rfl⟩) hS (fun q _ h => h.elim) (fun q h => h.elim) (fun r9 u t H locs ht hvm hw hB hz1 hk1 hS => ?_)
    rw [hw]
    have hP := zk hP hk1
    have e10 : s_X4_stretch ft fw fh bd = s_X0_areaByTruth ft fw fh bd := by
      unfold s_X4_stretch
      exact (if_pos c8)
    have e11 : k_X4_stretch ft fw fh bd = 0 := by
      unfold k_X4_stretch
      exact (if_pos c8)
    refine vx_ret ?_
    exact W.fret (v := (s_X0_areaByTruth ft fw fh bd)) hx hb hr (fun t ht hW => ⟨⟨_, (), rfl, ⟨e11, e10.symm⟩, trivial⟩, hS.F ht⟩) hS.2.2 dX4_stretch_16
def s_X4_apart (o1 : Int32) (o2 : Int32) : Int32 := (if k_X4_requireLongitude o1 = 0 then (if k_X4_requireLongitude o2 = 0 then s_X4_shorterWay o1 o2 else 0) else 0)
def k_X4_apart (o1 : Int32) (o2 : Int32) : Nat := (if k_X4_requireLongitude o1 = 0 then (if k_X4_requireLongitude o2 = 0 then 0 else k_X4_requireLongitude o2) else k_X4_requireLongitude o1)
abbrev rm_X4_apart : Room := { frames := 7, cells := 2, slots := 12, locals := 110 }
abbrev Qc_X4_apart (D : va_G) (cI cZ cJ cD : ClassId) (qo : Nat) (o1 : Int32) (o2 : Int32) : Array Value → State → Outcome → State → Prop := va_Qi (fun (r : Int32) (_ : Unit) => k_X4_apart o1 o2 = 0 ∧ r = s_X4_apart o1 o2) (fun _ _ => True) (fun _ : Nat => False)
abbrev Xc_X4_apart (D : va_G) (cI cZ cJ cD : ClassId) (qo : Nat) (o1 : Int32) (o2 : Int32) : String → State → State → Prop := vx_X (fun _ : Unit => True) (fun E _ _ => zX E (k_X4_apart o1 o2)) (fun _ : Nat => False)
set_option maxHeartbeats 4000000 in
set_option maxRecDepth 100000 in
theorem c_X4_apart (l : Launch) (hnt : l.stackTraces = false) (D : va_G) (cI cZ cJ cD : ClassId) (qo : Nat) (o1 : Int32) (o2 : Int32)  : vx_Met l yX4_apart wsX4_apart rm_X4_apart (va_Pc [.ref qo, .int o1, .int o2] (zPreE D cI cZ cJ cD [])) (Qc_X4_apart D cI cZ cJ cD qo o1 o2 ) (Xc_X4_apart D cI cZ cJ cD qo o1 o2 ) 2 12 (fun _ : Nat => False) := by
  refine vx_ofW (cc := cX4_apart) (maxL := 3) (ret := (some .int)) (by decide) rfl ?_
  intro p e s m args below meth c s₁ B hml ht0 hv
  obtain ⟨rfl, hP, hK, hE⟩ := hv
  have hx := B.exec
  have hb := B.bytes
  have hr := B.returns
  have hts := atoms_spec (ws := wsX4_apart) B.pre
  have hown : s.vm.findClass RX4 = some m.cls := findClass_of_methodNamed B.named
  have hlocks := B.notSynchronized
  have hS : va_S (fun _ : Nat => False) s.heap s.heap [] := va_S.rf
  have hl := lv_entry ([.ref qo, .int o1, .int o2]) (n := 3) (Nat.le_of_ble_eq_true rfl)
  rw [lg_entry_eq]
  generalize (lg_sl ([.ref qo, .int o1, .int o2]) ++ List.replicate (3 - (lg_sl ([.ref qo, .int o1, .int o2])).length) Slot.unset).toArray = ls at hl ⊢
  have hl : lv_has ls 3 [(0, .ref qo), (1, .int o1), (2, .int o2)] := hl
  have hP : va_P D vwCl [] s.heap := hP
  have hP := hP
  refine lv_iload_n hx hb dX4_apart_0 rfl (lv_at hl 1 rfl) ?_
  refine vx_callv (vx_runS (As := [.int o1]) (rest := []) ⟨hx, hb, hml, hown, hts⟩ (c_X4_requireLongitude l hnt D cI cZ cJ cD o1 ) (va_cwS 1 hts gX4_apart_X4_requireLongitude rfl rfl rfl (by decide +kernel) ⟨Nat.le_of_ble_eq_true rfl, Nat.le_of_ble_eq_true rfl⟩) ⟨zblindE, (fun U hU hW => ⟨rfl, by rw [hU]; exact hP.sub (ws' := []) [] rfl, va_K.moved hW.alike hK, zEnv.go hE hS (fun q h => h.elim) hU hW⟩)⟩ rfl rfl hl.1 rfl (lv_room (Nat.le_of_ble_eq_true rfl)) dX4_apart_1 ⟨Nat.le_of_ble_eq_true rfl, Nat.le_of_ble_eq_true rfl⟩) hS (fun q _ h => h.elim) (fun q h => h.elim) (fun q _ h => h.elim) (fun E ce q9 u t H locs ht hvm hpx hB hz1 hk1 hS hq9 hce hcl => ?_) (fun u t H locs ht hvm hw hB hz1 hk1 hS => ?_)
  · have hX := hB
    have hP := zk hP hk1
    have c9 : ¬ k_X4_requireLongitude o1 = 0 := zX_ne hX
    have e10 : k_X4_apart o1 o2 = k_X4_requireLongitude o1 := by
      unfold k_X4_apart
      exact (if_neg c9)
    exact vx_out (fun x hx => (ht0 x hx).elim) hlocks hq9 hce hcl (fun t ht9 hal9 => ⟨(), trivial, (by rw [e10]; exact hX), hS.F ht9⟩) hS.2.2 (by decide) (by decide)
  · have c11 : k_X4_requireLongitude o1 = 0 := hw
    have hP := zk hP hk1
    refine W.widen (k := 1) (n := 6) (by decide) (by decide) ?_
    refine lv_iload_n hx hb dX4_apart_4 rfl (lv_at hl 2 rfl) ?_
    refine vx_callv (vx_runS (As := [.int o2]) (rest := []) ⟨hx, hb, hml, hown, hts⟩ (c_X4_requireLongitude l hnt D cI cZ cJ cD o2 ) (va_cwS 1 hts gX4_apart_X4_requireLongitude rfl rfl rfl (by decide +kernel) ⟨Nat.le_of_ble_eq_true rfl, Nat.le_of_ble_eq_true rfl⟩) ⟨zblindE, (fun U hU hW => ⟨rfl, by rw [hU]; exact hP.sub (ws' := []) [] rfl, va_K.moved hW.alike hK, zEnv.go hE hS (fun q h => h.elim) hU hW⟩)⟩ rfl rfl hl.1 rfl (lv_room (Nat.le_of_ble_eq_true rfl)) dX4_apart_5 ⟨Nat.le_of_ble_eq_true rfl, Nat.le_of_ble_eq_true rfl⟩) hS (fun q _ h => h.elim) (fun q h => h.elim) (fun q _ h => h.elim) (fun E ce q9 u t H locs ht hvm hpx hB hz1 hk1 hS hq9 hce hcl => ?_) (fun u t H locs ht hvm hw hB hz1 hk1 hS => ?_)
    · have hX := hB
      have hP := zk hP hk1
      have c13 : ¬ k_X4_requireLongitude o2 = 0 := zX_ne hX
      have e14 : k_X4_apart o1 o2 = k_X4_requireLongitude o2 := by
        unfold k_X4_apart
        exact ((if_pos c11).trans (if_neg c13))
      exact vx_out (fun x hx => (ht0 x hx).elim) hlocks hq9 hce hcl (fun t ht9 hal9 => ⟨(), trivial, (by rw [e14]; exact hX), hS.F ht9⟩) hS.2.2 (by decide) (by decide)
    · have c15 : k_X4_requireLongitude o2 = 0 := hw
      have hP := zk hP hk1
      refine W.widen (k := 2) (n := 12) (by decide) (by decide) ?_
      refine lv_iload_n hx hb dX4_apart_8 rfl (lv_at hl 1 rfl) ?_
      refine lv_iload_n hx hb dX4_apart_9 rfl (lv_at hl 2 rfl) ?_
      refine va_calli (va_runS (As := [.int o1, .int o2]) (rest := []) ⟨hx, hb, hml, hown, hts⟩ (c_X4_shorterWay l D cI cZ cJ cD o1 o2 ) (va_cwS 2 hts gX4_apart_X4_shorterWay rfl rfl rfl (by decide +kernel) ⟨Nat.le_of_ble_eq_true rfl, Nat.le_of_ble_eq_true rfl⟩) ⟨zblind, (fun U hU hW => ⟨rfl, by rw [hU]; exact hP.sub (ws' := []) [] rfl, va_K.moved hW.alike hK⟩)⟩ rfl rfl hl.1 rfl (lv_room (Nat.le_of_ble_eq_true rfl)) dX4_apart_10 ⟨Nat.le_of_ble_eq_true rfl, Nat.le_of_ble_eq_true rfl⟩) hS (fun q _ h => h.elim) (fun q h => h.elim) (fun r16 u t H locs ht hvm hw hB hz1 hk1 hS => ?_)
      rw [hw]
      have hP := zk hP hk1
      have e17 : s_X4_apart o1 o2 = s_X4_shorterWay o1 o2 := by
        unfold s_X4_apart
        exact ((if_pos c11).trans (if_pos c15))
      have e18 : k_X4_apart o1 o2 = 0 := by
        unfold k_X4_apart
        exact ((if_pos c11).trans (if_pos c15))
      refine vx_ret ?_
      exact W.iret (v := (s_X4_shorterWay o1 o2)) hx hb hr (fun t ht hW => ⟨⟨_, (), rfl, ⟨e18, e17.symm⟩, trivial⟩, hS.F ht⟩) hS.2.2 dX4_apart_13
def s_X4_ringWay (fw : Nat → Int32) (fh : Nat → Int32) (lat : Int32) (o1 : Int32) (o2 : Int32) : Int32 := (if k_X4_requireLatitude lat = 0 then (if k_X4_requireLongitude o1 = 0 then (if k_X4_requireLongitude o2 = 0 then (s_X4_shorterWay o1 o2) * (s_X2_tenWidths fw fh lat) else 0) else 0) else 0)
def k_X4_ringWay (fw : Nat → Int32) (fh : Nat → Int32) (lat : Int32) (o1 : Int32) (o2 : Int32) : Nat := (if k_X4_requireLatitude lat = 0 then (if k_X4_requireLongitude o1 = 0 then (if k_X4_requireLongitude o2 = 0 then 0 else k_X4_requireLongitude o2) else k_X4_requireLongitude o1) else k_X4_requireLatitude lat)
abbrev rm_X4_ringWay : Room := { frames := 7, cells := 3, slots := 18, locals := 110 }
abbrev Qc_X4_ringWay (D : va_G) (cI cZ cJ cD : ClassId) (qo : Nat) (qm : Nat) (qb : Nat) (qr : Nat) (qf : Nat) (qw : Nat) (qh : Nat) (fw : Nat → Int32) (fh : Nat → Int32) (lat : Int32) (o1 : Int32) (o2 : Int32) : Array Value → State → Outcome → State → Prop := va_Qi (fun (r : Int32) (_ : Unit) => k_X4_ringWay fw fh lat o1 o2 = 0 ∧ r = s_X4_ringWay fw fh lat o1 o2) (fun _ _ => True) (fun _ : Nat => False)
abbrev Xc_X4_ringWay (D : va_G) (cI cZ cJ cD : ClassId) (qo : Nat) (qm : Nat) (qb : Nat) (qr : Nat) (qf : Nat) (qw : Nat) (qh : Nat) (fw : Nat → Int32) (fh : Nat → Int32) (lat : Int32) (o1 : Int32) (o2 : Int32) : String → State → State → Prop := vx_X (fun _ : Unit => True) (fun E _ _ => zX E (k_X4_ringWay fw fh lat o1 o2)) (fun _ : Nat => False)
set_option maxHeartbeats 4000000 in
set_option maxRecDepth 100000 in
theorem c_X4_ringWay (l : Launch) (hnt : l.stackTraces = false) (D : va_G) (cI cZ cJ cD : ClassId) (qo : Nat) (qm : Nat) (qb : Nat) (qr : Nat) (qf : Nat) (qw : Nat) (qh : Nat) (fw : Nat → Int32) (fh : Nat → Int32) (lat : Int32) (o1 : Int32) (o2 : Int32)  : vx_Met l yX4_ringWay wsX4_ringWay rm_X4_ringWay (va_Pc [.ref qo, .int lat, .int o1, .int o2] (zPreE D cI cZ cJ cD [(qo, .inr (4, [.ref qm, .ref qb, .ref qr, .ref qf])), (qm, .inr (2, [.ref qw, .ref qh])), (qw, .inl (cI, 10, .inl fw)), (qh, .inl (cI, 10, .inl fh))])) (Qc_X4_ringWay D cI cZ cJ cD qo qm qb qr qf qw qh fw fh lat o1 o2 ) (Xc_X4_ringWay D cI cZ cJ cD qo qm qb qr qf qw qh fw fh lat o1 o2 ) 3 18 (fun _ : Nat => False) := by
  refine vx_ofW (cc := cX4_ringWay) (maxL := 4) (ret := (some .int)) (by decide) rfl ?_
  intro p e s m args below meth c s₁ B hml ht0 hv
  obtain ⟨rfl, hP, hK, hE⟩ := hv
  have hx := B.exec
  have hb := B.bytes
  have hr := B.returns
  have hts := atoms_spec (ws := wsX4_ringWay) B.pre
  have hown : s.vm.findClass RX4 = some m.cls := findClass_of_methodNamed B.named
  have hlocks := B.notSynchronized
  have hS : va_S (fun _ : Nat => False) s.heap s.heap [] := va_S.rf
  have hl := lv_entry ([.ref qo, .int lat, .int o1, .int o2]) (n := 4) (Nat.le_of_ble_eq_true rfl)
  rw [lg_entry_eq]
  generalize (lg_sl ([.ref qo, .int lat, .int o1, .int o2]) ++ List.replicate (4 - (lg_sl ([.ref qo, .int lat, .int o1, .int o2])).length) Slot.unset).toArray = ls at hl ⊢
  have hl : lv_has ls 4 [(0, .ref qo), (1, .int lat), (2, .int o1), (3, .int o2)] := hl
  have hP : va_P D vwCl [(qo, .inr (4, [.ref qm, .ref qb, .ref qr, .ref qf])), (qm, .inr (2, [.ref qw, .ref qh])), (qw, .inl (cI, 10, .inl fw)), (qh, .inl (cI, 10, .inl fh))] s.heap := hP
  have hP := hP
  refine lv_iload_n hx hb dX4_ringWay_0 rfl (lv_at hl 1 rfl) ?_
  refine vx_callv (vx_runS (As := [.int lat]) (rest := []) ⟨hx, hb, hml, hown, hts⟩ (c_X4_requireLatitude l hnt D cI cZ cJ cD lat ) (va_cwS 1 hts gX4_ringWay_X4_requireLatitude rfl rfl rfl (by decide +kernel) ⟨Nat.le_of_ble_eq_true rfl, Nat.le_of_ble_eq_true rfl⟩) ⟨zblindE, (fun U hU hW => ⟨rfl, by rw [hU]; exact hP.sub (ws' := []) [] rfl, va_K.moved hW.alike hK, zEnv.go hE hS (fun q h => h.elim) hU hW⟩)⟩ rfl rfl hl.1 rfl (lv_room (Nat.le_of_ble_eq_true rfl)) dX4_ringWay_1 ⟨Nat.le_of_ble_eq_true rfl, Nat.le_of_ble_eq_true rfl⟩) hS (fun q _ h => h.elim) (fun q h => h.elim) (fun q _ h => h.elim) (fun E ce q9 u t H locs ht hvm hpx hB hz1 hk1 hS hq9 hce hcl => ?_) (fun u t H locs ht hvm hw hB hz1 hk1 hS => ?_)
  · have hX := hB
    have hP := zk hP hk1
    have c13 : ¬ k_X4_requireLatitude lat = 0 := zX_ne hX
    have e14 : k_X4_ringWay fw fh lat o1 o2 = k_X4_requireLatitude lat := by
      unfold k_X4_ringWay
      exact (if_neg c13)
    exact vx_out (fun x hx => (ht0 x hx).elim) hlocks hq9 hce hcl (fun t ht9 hal9 => ⟨(), trivial, (by rw [e14]; exact hX), hS.F ht9⟩) hS.2.2 (by decide) (by decide)
  · have c15 : k_X4_requireLatitude lat = 0 := hw
    have hP := zk hP hk1
    refine W.widen (k := 1) (n := 6) (by decide) (by decide) ?_
    refine lv_iload_n hx hb dX4_ringWay_4 rfl (lv_at hl 2 rfl) ?_
    refine vx_callv (vx_runS (As := [.int o1]) (rest := []) ⟨hx, hb, hml, hown, hts⟩ (c_X4_requireLongitude l hnt D cI cZ cJ cD o1 ) (va_cwS 1 hts gX4_ringWay_X4_requireLongitude rfl rfl rfl (by decide +kernel) ⟨Nat.le_of_ble_eq_true rfl, Nat.le_of_ble_eq_true rfl⟩) ⟨zblindE, (fun U hU hW => ⟨rfl, by rw [hU]; exact hP.sub (ws' := []) [] rfl, va_K.moved hW.alike hK, zEnv.go hE hS (fun q h => h.elim) hU hW⟩)⟩ rfl rfl hl.1 rfl (lv_room (Nat.le_of_ble_eq_true rfl)) dX4_ringWay_5 ⟨Nat.le_of_ble_eq_true rfl, Nat.le_of_ble_eq_true rfl⟩) hS (fun q _ h => h.elim) (fun q h => h.elim) (fun q _ h => h.elim) (fun E ce q9 u t H locs ht hvm hpx hB hz1 hk1 hS hq9 hce hcl => ?_) (fun u t H locs ht hvm hw hB hz1 hk1 hS => ?_)
    · have hX := hB
      have hP := zk hP hk1
      have c17 : ¬ k_X4_requireLongitude o1 = 0 := zX_ne hX
      have e18 : k_X4_ringWay fw fh lat o1 o2 = k_X4_requireLongitude o1 := by
        unfold k_X4_ringWay
        exact ((if_pos c15).trans (if_neg c17))
      exact vx_out (fun x hx => (ht0 x hx).elim) hlocks hq9 hce hcl (fun t ht9 hal9 => ⟨(), trivial, (by rw [e18]; exact hX), hS.F ht9⟩) hS.2.2 (by decide) (by decide)
    · have c19 : k_X4_requireLongitude o1 = 0 := hw
      have hP := zk hP hk1
      refine W.widen (k := 2) (n := 12) (by decide) (by decide) ?_
      refine lv_iload_n hx hb dX4_ringWay_8 rfl (lv_at hl 3 rfl) ?_
      refine vx_callv (vx_runS (As := [.int o2]) (rest := []) ⟨hx, hb, hml, hown, hts⟩ (c_X4_requireLongitude l hnt D cI cZ cJ cD o2 ) (va_cwS 1 hts gX4_ringWay_X4_requireLongitude rfl rfl rfl (by decide +kernel) ⟨Nat.le_of_ble_eq_true rfl, Nat.le_of_ble_eq_true rfl⟩) ⟨zblindE, (fun U hU hW => ⟨rfl, by rw [hU]; exact hP.sub (ws' := []) [] rfl, va_K.moved hW.alike hK, zEnv.go hE hS (fun q h => h.elim) hU hW⟩)⟩ rfl rfl hl.1 rfl (lv_room (Nat.le_of_ble_eq_true rfl)) dX4_ringWay_9 ⟨Nat.le_of_ble_eq_true rfl, Nat.le_of_ble_eq_true rfl⟩) hS (fun q _ h => h.elim) (fun q h => h.elim) (fun q _ h => h.elim) (fun E ce q9 u t H locs ht hvm hpx hB hz1 hk1 hS hq9 hce hcl => ?_) (fun u t H locs ht hvm hw hB hz1 hk1 hS => ?_)
      · have hX := hB
        have hP := zk hP hk1
        have c21 : ¬ k_X4_requireLongitude o2 = 0 := zX_ne hX
        have e22 : k_X4_ringWay fw fh lat o1 o2 = k_X4_requireLongitude o2 := by
          unfold k_X4_ringWay
          exact ((if_pos c15).trans ((if_pos c19).trans (if_neg c21)))
        exact vx_out (fun x hx => (ht0 x hx).elim) hlocks hq9 hce hcl (fun t ht9 hal9 => ⟨(), trivial, (by rw [e22]; exact hX), hS.F ht9⟩) hS.2.2 (by decide) (by decide)
      · have c23 : k_X4_requireLongitude o2 = 0 := hw
        have hP := zk hP hk1
        refine W.widen (k := 3) (n := 18) (by decide) (by decide) ?_
        refine lv_iload_n hx hb dX4_ringWay_12 rfl (lv_at hl 2 rfl) ?_
        refine lv_iload_n hx hb dX4_ringWay_13 rfl (lv_at hl 3 rfl) ?_
        refine va_calli (va_runS (As := [.int o1, .int o2]) (rest := []) ⟨hx, hb, hml, hown, hts⟩ (c_X4_shorterWay l D cI cZ cJ cD o1 o2 ) (va_cwS 2 hts gX4_ringWay_X4_shorterWay rfl rfl rfl (by decide +kernel) ⟨Nat.le_of_ble_eq_true rfl, Nat.le_of_ble_eq_true rfl⟩) ⟨zblind, (fun U hU hW => ⟨rfl, by rw [hU]; exact hP.sub (ws' := []) [] rfl, va_K.moved hW.alike hK⟩)⟩ rfl rfl hl.1 rfl (lv_room (Nat.le_of_ble_eq_true rfl)) dX4_ringWay_14 ⟨Nat.le_of_ble_eq_true rfl, Nat.le_of_ble_eq_true rfl⟩) hS (fun q _ h => h.elim) (fun q h => h.elim) (fun r24 u t H locs ht hvm hw hB hz1 hk1 hS => ?_)
        rw [hw]
        have hP := zk hP hk1
        refine lv_aload_n hx hb dX4_ringWay_17 rfl (lv_at hl 0 rfl) ?_
        refine va_get (D := D) (ci := 4) (v := .ref qm) (C := RX4) (T := TX4) (N := 4) hx hb hts (fun w h => List.mem_cons_of_mem _ (List.mem_append_left _ (List.mem_append_left _ (List.mem_append_right _ h)))) hown hK hP 0 rfl rfl 0 (by decide) (hts (.fieldLink RX4 10 "AtlasFolder" "map" "LAtlasFolder$MapTable;") (List.mem_cons_of_mem _ (List.mem_append_left _ (List.mem_append_left _ (List.mem_append_left _ (List.mem_append_left _ (List.mem_of_getElem? (i := 0) rfl))))))) (fun _ h9 => h9) rfl dX4_ringWay_18 ?_
        refine lv_iload_n hx hb dX4_ringWay_21 rfl (lv_at hl 1 rfl) ?_
        refine va_calli (va_runV (As := [.int lat]) (rest := [.int (s_X4_shorterWay o1 o2)]) ⟨hx, hb, hml, hown, hts⟩ (c_X2_tenWidths l D cI cZ cJ cD qm qw qh fw fh lat ) (cwV 1 hts gX4_ringWay_X2_tenWidths rfl rfl rfl (by decide +kernel) ⟨Nat.le_of_ble_eq_true rfl, Nat.le_of_ble_eq_true rfl⟩) ⟨zblind, va_recv hK hP (ci := 2) (q0 := 1) rfl rfl, (fun U hU hW => ⟨rfl, by rw [hU]; exact hP.sub (ws' := [(qm, .inr (2, [.ref qw, .ref qh])), (qw, .inl (cI, 10, .inl fw)), (qh, .inl (cI, 10, .inl fh))]) [1, 2, 3] rfl, va_K.moved hW.alike hK⟩)⟩ rfl rfl hl.1 rfl (lv_room (Nat.le_of_ble_eq_true rfl)) dX4_ringWay_22 ⟨Nat.le_of_ble_eq_true rfl, Nat.le_of_ble_eq_true rfl⟩) hS (fun q _ h => h.elim) (fun q h => h.elim) (fun r25 u t H locs ht hvm hw hB hz1 hk1 hS => ?_)
        rw [hw]
        have hP := zk hP hk1
        refine lv_imul hx hb dX4_ringWay_25 ?_
        have e26 : s_X4_ringWay fw fh lat o1 o2 = (s_X4_shorterWay o1 o2) * (s_X2_tenWidths fw fh lat) := by
          unfold s_X4_ringWay
          exact ((if_pos c15).trans ((if_pos c19).trans (if_pos c23)))
        have e27 : k_X4_ringWay fw fh lat o1 o2 = 0 := by
          unfold k_X4_ringWay
          exact ((if_pos c15).trans ((if_pos c19).trans (if_pos c23)))
        refine vx_ret ?_
        exact W.iret (v := ((s_X4_shorterWay o1 o2) * (s_X2_tenWidths fw fh lat))) hx hb hr (fun t ht hW => ⟨⟨_, (), rfl, ⟨e27, e26.symm⟩, trivial⟩, hS.F ht⟩) hS.2.2 dX4_ringWay_26
def s_X4_zones (br : Int32) (nb : Int32) : Int32 := (if nb < 1 then 0 else (if 360 < nb then 0 else (if (360 - 360 / nb * nb) = 0 then s_X3_replaceBreadth br nb else 0)))
def k_X4_zones (br : Int32) (nb : Int32) : Nat := (if nb < 1 then 2 else (if 360 < nb then 2 else (if (360 - 360 / nb * nb) = 0 then 0 else 2)))
def n_X4_zones_qr_0 (br : Int32) (nb : Int32) : Int32 := (if nb < 1 then br else (if 360 < nb then br else (if (360 - 360 / nb * nb) = 0 then n_X3_replaceBreadth_qz_0 br nb else br)))
abbrev rm_X4_zones : Room := { frames := 6, cells := 1, slots := 6, locals := 90 }
abbrev Qc_X4_zones (D : va_G) (cI cZ cJ cD : ClassId) (qo : Nat) (qm : Nat) (qb : Nat) (qr : Nat) (qf : Nat) (br : Int32) (nb : Int32) (A : Nat → Prop) : Array Value → State → Outcome → State → Prop := va_Qi (fun (r : Int32) (_ : Unit) => k_X4_zones br nb = 0 ∧ r = s_X4_zones br nb) (zPost D cI cZ cJ cD A [(qo, .inr (4, [.ref qm, .ref qb, .ref qr, .ref qf])), (qr, .inr (3, [.int (n_X4_zones_qr_0 br nb)]))]) A
abbrev Xc_X4_zones (D : va_G) (cI cZ cJ cD : ClassId) (qo : Nat) (qm : Nat) (qb : Nat) (qr : Nat) (qf : Nat) (br : Int32) (nb : Int32) (A : Nat → Prop) : String → State → State → Prop := vx_X (fun _ : Unit => True) (fun E u t => zX E (k_X4_zones br nb) ∧ zPost D cI cZ cJ cD A [(qo, .inr (4, [.ref qm, .ref qb, .ref qr, .ref qf])), (qr, .inr (3, [.int (n_X4_zones_qr_0 br nb)]))] u t) A
set_option maxHeartbeats 4000000 in
set_option maxRecDepth 100000 in
theorem c_X4_zones (l : Launch) (hnt : l.stackTraces = false) (D : va_G) (cI cZ cJ cD : ClassId) (qo : Nat) (qm : Nat) (qb : Nat) (qr : Nat) (qf : Nat) (br : Int32) (nb : Int32) (sz : Nat)  : vx_Met l yX4_zones wsX4_zones rm_X4_zones (va_Pc [.ref qo, .int nb] (zPreWE D cI cZ cJ cD [(qo, .inr (4, [.ref qm, .ref qb, .ref qr, .ref qf])), (qr, .inr (3, [.int br]))] sz)) (Qc_X4_zones D cI cZ cJ cD qo qm qb qr qf br nb (va_A [(qo, .inr (4, [.ref qm, .ref qb, .ref qr, .ref qf])), (qr, .inr (3, [.int br]))] sz)) (Xc_X4_zones D cI cZ cJ cD qo qm qb qr qf br nb (va_A [(qo, .inr (4, [.ref qm, .ref qb, .ref qr, .ref qf])), (qr, .inr (3, [.int br]))] sz)) 1 6 (va_A [(qo, .inr (4, [.ref qm, .ref qb, .ref qr, .ref qf])), (qr, .inr (3, [.int br]))] sz) := by
  refine vx_ofW (cc := cX4_zones) (maxL := 2) (ret := (some .int)) (by decide) rfl ?_
  intro p e s m args below meth c s₁ B hml ht0 hv
  obtain ⟨rfl, hsz, hP, hK, hD0, hE⟩ := hv
  have hx := B.exec
  have hb := B.bytes
  have hr := B.returns
  have hts := atoms_spec (ws := wsX4_zones) B.pre
  have hown : s.vm.findClass RX4 = some m.cls := findClass_of_methodNamed B.named
  have hlocks := B.notSynchronized
  subst hsz
  have hD := hD0.self (sz := s.heap.size)
  generalize hAe : va_A [(qo, .inr (4, [.ref qm, .ref qb, .ref qr, .ref qf])), (qr, .inr (3, [.int br]))] s.heap.size = A at hE hD ⊢
  have hA : ∀ q : Nat, s.heap.size ≤ q → A q := fun q h => by rw [← hAe]; exact Or.inr h
  have hS : va_S A s.heap s.heap [] := va_S.rf
  have hl := lv_entry ([.ref qo, .int nb]) (n := 2) (Nat.le_of_ble_eq_true rfl)
  rw [lg_entry_eq]
  generalize (lg_sl ([.ref qo, .int nb]) ++ List.replicate (2 - (lg_sl ([.ref qo, .int nb])).length) Slot.unset).toArray = ls at hl ⊢
  have hl : lv_has ls 2 [(0, .ref qo), (1, .int nb)] := hl
  have hP : va_P D vwCl [(qo, .inr (4, [.ref qm, .ref qb, .ref qr, .ref qf])), (qr, .inr (3, [.int br]))] s.heap := hP
  have hP := hP
  refine lv_iload_n hx hb dX4_zones_0 rfl (lv_at hl 1 rfl) ?_
  refine lv_iconst (v := 1) hx hb dX4_zones_1 (by decide) ?_
  refine lv_icmp_lt (tgt := 20) hx hb dX4_zones_2 (by decide) (fun c5 => ?_) (fun c5 => ?_)
  · have e6 : k_X4_zones br nb = 2 := by
      unfold k_X4_zones
      exact (if_pos c5)
    have e7 : n_X4_zones_qr_0 br nb = br := by
      unfold n_X4_zones_qr_0
      exact (if_pos c5)
    obtain ⟨sa, hstr⟩ := hE.str 122 "breadth does not divide 360" (by decide)
    have hat : ∀ w ∈ vx_atS RX4 48 "java/lang/IllegalArgumentException" ["java/lang/RuntimeException", "java/lang/Exception"], w.before _ s = true := vx_hat (fun w h => hts w (List.mem_cons_of_mem _ (List.mem_append_right _ h))) (B := zBad2) (by decide +kernel) (hE.bad2 _)
    exact vx_throwS (text := "breadth does not divide 360") (names := ["java/lang/RuntimeException", "java/lang/Exception"]) (A := A) hx hb hnt hown (by decide) (by decide) (hts (.classLink RX4 44 "java/lang/IllegalArgumentException") (List.mem_cons_of_mem _ (List.mem_append_left _ (List.mem_append_left _ (List.mem_append_left _ (List.mem_of_getElem? (i := 0) rfl)))))) (hts (.initialized "java/lang/IllegalArgumentException") (List.mem_cons_of_mem _ (List.mem_append_left _ (List.mem_append_left _ (List.mem_append_left _ (List.mem_of_getElem? (i := 1) rfl)))))) hstr hat (by decide +kernel) hE.1 hE.2.1 hS (hl.1.trans hml.symm) dX4_zones_20 dX4_zones_23 dX4_zones_24 dX4_zones_26 dX4_zones_29 (fun x hx => (ht0 x hx).elim) (by decide) (by decide) (by decide) (by decide) hlocks (fun t hal9 hz9 hk9 => ⟨(), trivial, ⟨zX2 e6, (by rw [e7]; exact zkP hP hk9), va_K.moved hal9 hK, (by rw [e7]; exact hD)⟩, zF hS hz9 hk9⟩) hS.2.2 (by decide) (by decide)
  · refine lv_iload_n hx hb dX4_zones_5 rfl (lv_at hl 1 rfl) ?_
    refine lv_sipush (v := 360) hx hb dX4_zones_6 (by decide) ?_
    refine lv_icmp_gt (tgt := 20) hx hb dX4_zones_9 (by decide) (fun c8 => ?_) (fun c8 => ?_)
    · have e9 : k_X4_zones br nb = 2 := by
        unfold k_X4_zones
        exact ((if_neg c5).trans (if_pos c8))
      have e10 : n_X4_zones_qr_0 br nb = br := by
        unfold n_X4_zones_qr_0
        exact ((if_neg c5).trans (if_pos c8))
      obtain ⟨sa, hstr⟩ := hE.str 122 "breadth does not divide 360" (by decide)
      have hat : ∀ w ∈ vx_atS RX4 48 "java/lang/IllegalArgumentException" ["java/lang/RuntimeException", "java/lang/Exception"], w.before _ s = true := vx_hat (fun w h => hts w (List.mem_cons_of_mem _ (List.mem_append_right _ h))) (B := zBad2) (by decide +kernel) (hE.bad2 _)
      exact vx_throwS (text := "breadth does not divide 360") (names := ["java/lang/RuntimeException", "java/lang/Exception"]) (A := A) hx hb hnt hown (by decide) (by decide) (hts (.classLink RX4 44 "java/lang/IllegalArgumentException") (List.mem_cons_of_mem _ (List.mem_append_left _ (List.mem_append_left _ (List.mem_append_left _ (List.mem_of_getElem? (i := 0) rfl)))))) (hts (.initialized "java/lang/IllegalArgumentException") (List.mem_cons_of_mem _ (List.mem_append_left _ (List.mem_append_left _ (List.mem_append_left _ (List.mem_of_getElem? (i := 1) rfl)))))) hstr hat (by decide +kernel) hE.1 hE.2.1 hS (hl.1.trans hml.symm) dX4_zones_20 dX4_zones_23 dX4_zones_24 dX4_zones_26 dX4_zones_29 (fun x hx => (ht0 x hx).elim) (by decide) (by decide) (by decide) (by decide) hlocks (fun t hal9 hz9 hk9 => ⟨(), trivial, ⟨zX2 e9, (by rw [e10]; exact zkP hP hk9), va_K.moved hal9 hK, (by rw [e10]; exact hD)⟩, zF hS hz9 hk9⟩) hS.2.2 (by decide) (by decide)
    · refine lv_sipush (v := 360) hx hb dX4_zones_12 (by decide) ?_
      refine lv_iload_n hx hb dX4_zones_15 rfl (lv_at hl 1 rfl) ?_
      refine lv_irem hx hb dX4_zones_16 (z_nz2 c5) ?_
      refine lv_if_eq (tgt := 30) hx hb dX4_zones_17 (by decide) (fun c11 => ?_) (fun c11 => ?_)
      · refine lv_aload_n hx hb dX4_zones_30 rfl (lv_at hl 0 rfl) ?_
        refine va_get (D := D) (ci := 4) (v := .ref qr) (C := RX4) (T := TX4) (N := 4) hx hb hts (fun w h => List.mem_cons_of_mem _ (List.mem_append_left _ (List.mem_append_left _ (List.mem_append_right _ h)))) hown hK hP 0 rfl rfl 2 (by decide) (hts (.fieldLink RX4 26 "AtlasFolder" "ring" "LAtlasFolder$ZoneRing;") (List.mem_cons_of_mem _ (List.mem_append_left _ (List.mem_append_left _ (List.mem_append_left _ (List.mem_of_getElem? (i := 2) rfl)))))) (fun _ h9 => h9) rfl dX4_zones_31 ?_
        refine lv_iload_n hx hb dX4_zones_34 rfl (lv_at hl 1 rfl) ?_
        have hPc := hP.sub (ws' := [(qr, .inr (3, [.int br]))]) [1] rfl
        have hDc := hD.sub (ws' := [(qr, .inr (3, [.int br]))]) [1] (by decide) rfl
        have hFc := va_free (wc := [(qr, .inr (3, [.int br]))]) hD hS hA [1] rfl
        refine va_calli (va_runV (As := [.int nb]) (rest := []) ⟨hx, hb, hml, hown, hts⟩ (c_X3_replaceBreadth l D cI cZ cJ cD qr br nb s.heap.size ) (cwV 1 hts gX4_zones_X3_replaceBreadth rfl rfl rfl (by decide +kernel) ⟨Nat.le_of_ble_eq_true rfl, Nat.le_of_ble_eq_true rfl⟩) ⟨zblindW, va_recv hK hP (ci := 3) (q0 := 1) rfl rfl, (fun U hU hW => ⟨rfl, by rw [hU], by rw [hU]; exact hPc, va_K.moved hW.alike hK, hDc.weaken (fun _ _ _ _ => trivial)⟩)⟩ rfl rfl hl.1 rfl (lv_room (Nat.le_of_ble_eq_true rfl)) dX4_zones_35 ⟨Nat.le_of_ble_eq_true rfl, Nat.le_of_ble_eq_true rfl⟩) hS (fun q _ h => hFc q h) hFc (fun r12 u t H locs ht hvm hw hB hz1 hk1 hS => ?_)
        rw [hw]
        obtain ⟨hP1, hK1, hD1⟩ := hB
        rw [ht] at hP1
        obtain ⟨hP, hD⟩ := va_join (wr := [(qo, .inr (4, [.ref qm, .ref qb, .ref qr, .ref qf]))]) (w1 := [(qr, .inr (3, [.int (n_X3_replaceBreadth_qz_0 br nb)]))]) hP hD [1] [0] rfl rfl (by decide) (by decide) hk1 hFc hP1 hD1
        have hP := hP.sub (ws' := [(qo, .inr (4, [.ref qm, .ref qb, .ref qr, .ref qf])), (qr, .inr (3, [.int (n_X3_replaceBreadth_qz_0 br nb)]))]) [0, 1] rfl
        have hD := hD.sub (ws' := [(qo, .inr (4, [.ref qm, .ref qb, .ref qr, .ref qf])), (qr, .inr (3, [.int (n_X3_replaceBreadth_qz_0 br nb)]))]) [0, 1] (by decide) rfl
        refine W.widen (k := 1) (n := 6) (by decide) (by decide) ?_
        have e13 : s_X4_zones br nb = s_X3_replaceBreadth br nb := by
          unfold s_X4_zones
          exact ((if_neg c5).trans ((if_neg c8).trans (if_pos c11)))
        have e14 : k_X4_zones br nb = 0 := by
          unfold k_X4_zones
          exact ((if_neg c5).trans ((if_neg c8).trans (if_pos c11)))
        have e15 : n_X4_zones_qr_0 br nb = n_X3_replaceBreadth_qz_0 br nb := by
          unfold n_X4_zones_qr_0
          exact ((if_neg c5).trans ((if_neg c8).trans (if_pos c11)))
        refine vx_ret ?_
        exact W.iret (v := (s_X3_replaceBreadth br nb)) hx hb hr (fun t ht hW => ⟨⟨_, (), rfl, ⟨e14, e13.symm⟩, ⟨(by rw [e15]; rw [ht]; exact hP), va_K.moved hW.alike hK, (by rw [e15]; exact hD)⟩⟩, hS.F ht⟩) hS.2.2 dX4_zones_38
      · have e16 : k_X4_zones br nb = 2 := by
          unfold k_X4_zones
          exact ((if_neg c5).trans ((if_neg c8).trans (if_neg c11)))
        have e17 : n_X4_zones_qr_0 br nb = br := by
          unfold n_X4_zones_qr_0
          exact ((if_neg c5).trans ((if_neg c8).trans (if_neg c11)))
        obtain ⟨sa, hstr⟩ := hE.str 122 "breadth does not divide 360" (by decide)
        have hat : ∀ w ∈ vx_atS RX4 48 "java/lang/IllegalArgumentException" ["java/lang/RuntimeException", "java/lang/Exception"], w.before _ s = true := vx_hat (fun w h => hts w (List.mem_cons_of_mem _ (List.mem_append_right _ h))) (B := zBad2) (by decide +kernel) (hE.bad2 _)
        exact vx_throwS (text := "breadth does not divide 360") (names := ["java/lang/RuntimeException", "java/lang/Exception"]) (A := A) hx hb hnt hown (by decide) (by decide) (hts (.classLink RX4 44 "java/lang/IllegalArgumentException") (List.mem_cons_of_mem _ (List.mem_append_left _ (List.mem_append_left _ (List.mem_append_left _ (List.mem_of_getElem? (i := 0) rfl)))))) (hts (.initialized "java/lang/IllegalArgumentException") (List.mem_cons_of_mem _ (List.mem_append_left _ (List.mem_append_left _ (List.mem_append_left _ (List.mem_of_getElem? (i := 1) rfl)))))) hstr hat (by decide +kernel) hE.1 hE.2.1 hS (hl.1.trans hml.symm) dX4_zones_20 dX4_zones_23 dX4_zones_24 dX4_zones_26 dX4_zones_29 (fun x hx => (ht0 x hx).elim) (by decide) (by decide) (by decide) (by decide) hlocks (fun t hal9 hz9 hk9 => ⟨(), trivial, ⟨zX2 e16, (by rw [e17]; exact zkP hP hk9), va_K.moved hal9 hK, (by rw [e17]; exact hD)⟩, zF hS hz9 hk9⟩) hS.2.2 (by decide) (by decide)
def s_X4_zone (br : Int32) (lon : Int32) : Int32 := (if k_X4_requireLongitude lon = 0 then s_X3_zonesBefore br lon else 0)
def k_X4_zone (br : Int32) (lon : Int32) : Nat := (if k_X4_requireLongitude lon = 0 then 0 else k_X4_requireLongitude lon)
abbrev rm_X4_zone : Room := { frames := 7, cells := 1, slots := 6, locals := 110 }
abbrev Qc_X4_zone (D : va_G) (cI cZ cJ cD : ClassId) (qo : Nat) (qm : Nat) (qb : Nat) (qr : Nat) (qf : Nat) (br : Int32) (lon : Int32) : Array Value → State → Outcome → State → Prop := va_Qi (fun (r : Int32) (_ : Unit) => k_X4_zone br lon = 0 ∧ r = s_X4_zone br lon) (fun _ _ => True) (fun _ : Nat => False)
abbrev Xc_X4_zone (D : va_G) (cI cZ cJ cD : ClassId) (qo : Nat) (qm : Nat) (qb : Nat) (qr : Nat) (qf : Nat) (br : Int32) (lon : Int32) : String → State → State → Prop := vx_X (fun _ : Unit => True) (fun E _ _ => zX E (k_X4_zone br lon)) (fun _ : Nat => False)
set_option maxHeartbeats 4000000 in
set_option maxRecDepth 100000 in
theorem c_X4_zone (l : Launch) (hnt : l.stackTraces = false) (D : va_G) (cI cZ cJ cD : ClassId) (qo : Nat) (qm : Nat) (qb : Nat) (qr : Nat) (qf : Nat) (br : Int32) (lon : Int32)  : vx_Met l yX4_zone wsX4_zone rm_X4_zone (va_Pc [.ref qo, .int lon] (zPreE D cI cZ cJ cD [(qo, .inr (4, [.ref qm, .ref qb, .ref qr, .ref qf])), (qr, .inr (3, [.int br]))])) (Qc_X4_zone D cI cZ cJ cD qo qm qb qr qf br lon ) (Xc_X4_zone D cI cZ cJ cD qo qm qb qr qf br lon ) 1 6 (fun _ : Nat => False) := by
  refine vx_ofW (cc := cX4_zone) (maxL := 2) (ret := (some .int)) (by decide) rfl ?_
  intro p e s m args below meth c s₁ B hml ht0 hv
  obtain ⟨rfl, hP, hK, hE⟩ := hv
  have hx := B.exec
  have hb := B.bytes
  have hr := B.returns
  have hts := atoms_spec (ws := wsX4_zone) B.pre
  have hown : s.vm.findClass RX4 = some m.cls := findClass_of_methodNamed B.named
  have hlocks := B.notSynchronized
  have hS : va_S (fun _ : Nat => False) s.heap s.heap [] := va_S.rf
  have hl := lv_entry ([.ref qo, .int lon]) (n := 2) (Nat.le_of_ble_eq_true rfl)
  rw [lg_entry_eq]
  generalize (lg_sl ([.ref qo, .int lon]) ++ List.replicate (2 - (lg_sl ([.ref qo, .int lon])).length) Slot.unset).toArray = ls at hl ⊢
  have hl : lv_has ls 2 [(0, .ref qo), (1, .int lon)] := hl
  have hP : va_P D vwCl [(qo, .inr (4, [.ref qm, .ref qb, .ref qr, .ref qf])), (qr, .inr (3, [.int br]))] s.heap := hP
  have hP := hP
  refine lv_iload_n hx hb dX4_zone_0 rfl (lv_at hl 1 rfl) ?_
  refine vx_callv (vx_runS (As := [.int lon]) (rest := []) ⟨hx, hb, hml, hown, hts⟩ (c_X4_requireLongitude l hnt D cI cZ cJ cD lon ) (va_cwS 1 hts gX4_zone_X4_requireLongitude rfl rfl rfl (by decide +kernel) ⟨Nat.le_of_ble_eq_true rfl, Nat.le_of_ble_eq_true rfl⟩) ⟨zblindE, (fun U hU hW => ⟨rfl, by rw [hU]; exact hP.sub (ws' := []) [] rfl, va_K.moved hW.alike hK, zEnv.go hE hS (fun q h => h.elim) hU hW⟩)⟩ rfl rfl hl.1 rfl (lv_room (Nat.le_of_ble_eq_true rfl)) dX4_zone_1 ⟨Nat.le_of_ble_eq_true rfl, Nat.le_of_ble_eq_true rfl⟩) hS (fun q _ h => h.elim) (fun q h => h.elim) (fun q _ h => h.elim) (fun E ce q9 u t H locs ht hvm hpx hB hz1 hk1 hS hq9 hce hcl => ?_) (fun u t H locs ht hvm hw hB hz1 hk1 hS => ?_)
  · have hX := hB
    have hP := zk hP hk1
    have c6 : ¬ k_X4_requireLongitude lon = 0 := zX_ne hX
    have e7 : k_X4_zone br lon = k_X4_requireLongitude lon := by
      unfold k_X4_zone
      exact (if_neg c6)
    exact vx_out (fun x hx => (ht0 x hx).elim) hlocks hq9 hce hcl (fun t ht9 hal9 => ⟨(), trivial, (by rw [e7]; exact hX), hS.F ht9⟩) hS.2.2 (by decide) (by decide)
  · have c8 : k_X4_requireLongitude lon = 0 := hw
    have hP := zk hP hk1
    refine W.widen (k := 1) (n := 6) (by decide) (by decide) ?_
    refine lv_aload_n hx hb dX4_zone_4 rfl (lv_at hl 0 rfl) ?_
    refine va_get (D := D) (ci := 4) (v := .ref qr) (C := RX4) (T := TX4) (N := 4) hx hb hts (fun w h => List.mem_cons_of_mem _ (List.mem_append_left _ (List.mem_append_left _ (List.mem_append_right _ h)))) hown hK hP 0 rfl rfl 2 (by decide) (hts (.fieldLink RX4 26 "AtlasFolder" "ring" "LAtlasFolder$ZoneRing;") (List.mem_cons_of_mem _ (List.mem_append_left _ (List.mem_append_left _ (List.mem_append_left _ (List.mem_of_getElem? (i := 0) rfl)))))) (fun _ h9 => h9) rfl dX4_zone_5 ?_
    refine lv_iload_n hx hb dX4_zone_8 rfl (lv_at hl 1 rfl) ?_
    refine va_calli (va_runV (As := [.int lon]) (rest := []) ⟨hx, hb, hml, hown, hts⟩ (c_X3_zonesBefore l D cI cZ cJ cD qr br lon ) (cwV 1 hts gX4_zone_X3_zonesBefore rfl rfl rfl (by decide +kernel) ⟨Nat.le_of_ble_eq_true rfl, Nat.le_of_ble_eq_true rfl⟩) ⟨zblind, va_recv hK hP (ci := 3) (q0 := 1) rfl rfl, (fun U hU hW => ⟨rfl, by rw [hU]; exact hP.sub (ws' := [(qr, .inr (3, [.int br]))]) [1] rfl, va_K.moved hW.alike hK⟩)⟩ rfl rfl hl.1 rfl (lv_room (Nat.le_of_ble_eq_true rfl)) dX4_zone_9 ⟨Nat.le_of_ble_eq_true rfl, Nat.le_of_ble_eq_true rfl⟩) hS (fun q _ h => h.elim) (fun q h => h.elim) (fun r9 u t H locs ht hvm hw hB hz1 hk1 hS => ?_)
    rw [hw]
    have hP := zk hP hk1
    have e10 : s_X4_zone br lon = s_X3_zonesBefore br lon := by
      unfold s_X4_zone
      exact (if_pos c8)
    have e11 : k_X4_zone br lon = 0 := by
      unfold k_X4_zone
      exact (if_pos c8)
    refine vx_ret ?_
    exact W.iret (v := (s_X3_zonesBefore br lon)) hx hb hr (fun t ht hW => ⟨⟨_, (), rfl, ⟨e11, e10.symm⟩, trivial⟩, hS.F ht⟩) hS.2.2 dX4_zone_12
def s_X4_seams (br : Int32) (o1 : Int32) (o2 : Int32) : Int32 := (if k_X4_requireLongitude o1 = 0 then (if k_X4_requireLongitude o2 = 0 then s_X3_seamsEastOf br (if (s_X4_goesEast o1 o2) = 0 then o2 else o1) (s_X4_shorterWay o1 o2) else 0) else 0)
def k_X4_seams (br : Int32) (o1 : Int32) (o2 : Int32) : Nat := (if k_X4_requireLongitude o1 = 0 then (if k_X4_requireLongitude o2 = 0 then 0 else k_X4_requireLongitude o2) else k_X4_requireLongitude o1)
abbrev rm_X4_seams : Room := { frames := 7, cells := 2, slots := 12, locals := 110 }
abbrev Qc_X4_seams (D : va_G) (cI cZ cJ cD : ClassId) (qo : Nat) (qm : Nat) (qb : Nat) (qr : Nat) (qf : Nat) (br : Int32) (o1 : Int32) (o2 : Int32) : Array Value → State → Outcome → State → Prop := va_Qi (fun (r : Int32) (_ : Unit) => k_X4_seams br o1 o2 = 0 ∧ r = s_X4_seams br o1 o2) (fun _ _ => True) (fun _ : Nat => False)
abbrev Xc_X4_seams (D : va_G) (cI cZ cJ cD : ClassId) (qo : Nat) (qm : Nat) (qb : Nat) (qr : Nat) (qf : Nat) (br : Int32) (o1 : Int32) (o2 : Int32) : String → State → State → Prop := vx_X (fun _ : Unit => True) (fun E _ _ => zX E (k_X4_seams br o1 o2)) (fun _ : Nat => False)
set_option maxHeartbeats 4000000 in
set_option maxRecDepth 100000 in
theorem c_X4_seams (l : Launch) (hnt : l.stackTraces = false) (D : va_G) (cI cZ cJ cD : ClassId) (qo : Nat) (qm : Nat) (qb : Nat) (qr : Nat) (qf : Nat) (br : Int32) (o1 : Int32) (o2 : Int32)  : vx_Met l yX4_seams wsX4_seams rm_X4_seams (va_Pc [.ref qo, .int o1, .int o2] (zPreE D cI cZ cJ cD [(qo, .inr (4, [.ref qm, .ref qb, .ref qr, .ref qf])), (qr, .inr (3, [.int br]))])) (Qc_X4_seams D cI cZ cJ cD qo qm qb qr qf br o1 o2 ) (Xc_X4_seams D cI cZ cJ cD qo qm qb qr qf br o1 o2 ) 2 12 (fun _ : Nat => False) := by
  refine vx_ofW (cc := cX4_seams) (maxL := 4) (ret := (some .int)) (by decide) rfl ?_
  intro p e s m args below meth c s₁ B hml ht0 hv
  obtain ⟨rfl, hP, hK, hE⟩ := hv
  have hx := B.exec
  have hb := B.bytes
  have hr := B.returns
  have hts := atoms_spec (ws := wsX4_seams) B.pre
  have hown : s.vm.findClass RX4 = some m.cls := findClass_of_methodNamed B.named
  have hlocks := B.notSynchronized
  have hS : va_S (fun _ : Nat => False) s.heap s.heap [] := va_S.rf
  have hl := lv_entry ([.ref qo, .int o1, .int o2]) (n := 4) (Nat.le_of_ble_eq_true rfl)
  rw [lg_entry_eq]
  generalize (lg_sl ([.ref qo, .int o1, .int o2]) ++ List.replicate (4 - (lg_sl ([.ref qo, .int o1, .int o2])).length) Slot.unset).toArray = ls at hl ⊢
  have hl : lv_has ls 4 [(0, .ref qo), (1, .int o1), (2, .int o2)] := hl
  have hP : va_P D vwCl [(qo, .inr (4, [.ref qm, .ref qb, .ref qr, .ref qf])), (qr, .inr (3, [.int br]))] s.heap := hP
  have hP := hP
  refine lv_iload_n hx hb dX4_seams_0 rfl (lv_at hl 1 rfl) ?_
  refine vx_callv (vx_runS (As := [.int o1]) (rest := []) ⟨hx, hb, hml, hown, hts⟩ (c_X4_requireLongitude l hnt D cI cZ cJ cD o1 ) (va_cwS 1 hts gX4_seams_X4_requireLongitude rfl rfl rfl (by decide +kernel) ⟨Nat.le_of_ble_eq_true rfl, Nat.le_of_ble_eq_true rfl⟩) ⟨zblindE, (fun U hU hW => ⟨rfl, by rw [hU]; exact hP.sub (ws' := []) [] rfl, va_K.moved hW.alike hK, zEnv.go hE hS (fun q h => h.elim) hU hW⟩)⟩ rfl rfl hl.1 rfl (lv_room (Nat.le_of_ble_eq_true rfl)) dX4_seams_1 ⟨Nat.le_of_ble_eq_true rfl, Nat.le_of_ble_eq_true rfl⟩) hS (fun q _ h => h.elim) (fun q h => h.elim) (fun q _ h => h.elim) (fun E ce q9 u t H locs ht hvm hpx hB hz1 hk1 hS hq9 hce hcl => ?_) (fun u t H locs ht hvm hw hB hz1 hk1 hS => ?_)
  · have hX := hB
    have hP := zk hP hk1
    have c14 : ¬ k_X4_requireLongitude o1 = 0 := zX_ne hX
    have e15 : k_X4_seams br o1 o2 = k_X4_requireLongitude o1 := by
      unfold k_X4_seams
      exact (if_neg c14)
    exact vx_out (fun x hx => (ht0 x hx).elim) hlocks hq9 hce hcl (fun t ht9 hal9 => ⟨(), trivial, (by rw [e15]; exact hX), hS.F ht9⟩) hS.2.2 (by decide) (by decide)
  · have c16 : k_X4_requireLongitude o1 = 0 := hw
    have hP := zk hP hk1
    refine W.widen (k := 1) (n := 6) (by decide) (by decide) ?_
    refine lv_iload_n hx hb dX4_seams_4 rfl (lv_at hl 2 rfl) ?_
    refine vx_callv (vx_runS (As := [.int o2]) (rest := []) ⟨hx, hb, hml, hown, hts⟩ (c_X4_requireLongitude l hnt D cI cZ cJ cD o2 ) (va_cwS 1 hts gX4_seams_X4_requireLongitude rfl rfl rfl (by decide +kernel) ⟨Nat.le_of_ble_eq_true rfl, Nat.le_of_ble_eq_true rfl⟩) ⟨zblindE, (fun U hU hW => ⟨rfl, by rw [hU]; exact hP.sub (ws' := []) [] rfl, va_K.moved hW.alike hK, zEnv.go hE hS (fun q h => h.elim) hU hW⟩)⟩ rfl rfl hl.1 rfl (lv_room (Nat.le_of_ble_eq_true rfl)) dX4_seams_5 ⟨Nat.le_of_ble_eq_true rfl, Nat.le_of_ble_eq_true rfl⟩) hS (fun q _ h => h.elim) (fun q h => h.elim) (fun q _ h => h.elim) (fun E ce q9 u t H locs ht hvm hpx hB hz1 hk1 hS hq9 hce hcl => ?_) (fun u t H locs ht hvm hw hB hz1 hk1 hS => ?_)
    · have hX := hB
      have hP := zk hP hk1
      have c18 : ¬ k_X4_requireLongitude o2 = 0 := zX_ne hX
      have e19 : k_X4_seams br o1 o2 = k_X4_requireLongitude o2 := by
        unfold k_X4_seams
        exact ((if_pos c16).trans (if_neg c18))
      exact vx_out (fun x hx => (ht0 x hx).elim) hlocks hq9 hce hcl (fun t ht9 hal9 => ⟨(), trivial, (by rw [e19]; exact hX), hS.F ht9⟩) hS.2.2 (by decide) (by decide)
    · have c20 : k_X4_requireLongitude o2 = 0 := hw
      have hP := zk hP hk1
      refine W.widen (k := 2) (n := 12) (by decide) (by decide) ?_
      refine lv_iload_n hx hb dX4_seams_8 rfl (lv_at hl 1 rfl) ?_
      refine lv_iload_n hx hb dX4_seams_9 rfl (lv_at hl 2 rfl) ?_
      refine va_calli (va_runS (As := [.int o1, .int o2]) (rest := []) ⟨hx, hb, hml, hown, hts⟩ (c_X4_goesEast l D cI cZ cJ cD o1 o2 ) (va_cwS 2 hts gX4_seams_X4_goesEast rfl rfl rfl (by decide +kernel) ⟨Nat.le_of_ble_eq_true rfl, Nat.le_of_ble_eq_true rfl⟩) ⟨zblind, (fun U hU hW => ⟨rfl, by rw [hU]; exact hP.sub (ws' := []) [] rfl, va_K.moved hW.alike hK⟩)⟩ rfl rfl hl.1 rfl (lv_room (Nat.le_of_ble_eq_true rfl)) dX4_seams_10 ⟨Nat.le_of_ble_eq_true rfl, Nat.le_of_ble_eq_true rfl⟩) hS (fun q _ h => h.elim) (fun q h => h.elim) (fun r21 u t H locs ht hvm hw hB hz1 hk1 hS => ?_)
      rw [hw]
      have hP := zk hP hk1
      have K23 : ∀ v23_0 : Int32, v23_0 = (if (s_X4_goesEast o1 o2) = 0 then o2 else o1) → ∀ (H : Heap) (locs : List Loc), va_P D vwCl [(qo, .inr (4, [.ref qm, .ref qb, .ref qr, .ref qf])), (qr, .inr (3, [.int br]))] H → va_S (fun _ : Nat => False) s.heap H locs → ∀ (ls : Array Slot), lv_has ls 4 [(0, .ref qo), (1, .int o1), (2, .int o2)] → W p l e (headSpec wsX4_seams rm_X4_seams).room s m ([.ref qo, .int o1, .int o2]).toArray below meth c H locs 2 12 (vx_MQ below (Qc_X4_seams D cI cZ cJ cD qo qm qb qr qf br o1 o2) (Xc_X4_seams D cI cZ cJ cD qo qm qb qr qf br o1 o2) ([.ref qo, .int o1, .int o2]).toArray s 2 12 (fun _ : Nat => False)) (F0 m 21 ls [.int v23_0]) := by
        intro v23_0 hv23_0 H locs hP hS ls hl
        subst hv23_0
        refine lv_istore_n (lv' := [(3, .int (if (s_X4_goesEast o1 o2) = 0 then o2 else o1)), (0, .ref qo), (1, .int o1), (2, .int o2)]) hx hb dX4_seams_21 rfl hl (by decide) rfl (fun ls hl => ?_)
        refine lv_aload_n hx hb dX4_seams_22 rfl (lv_at hl 1 rfl) ?_
        refine va_get (D := D) (ci := 4) (v := .ref qr) (C := RX4) (T := TX4) (N := 4) hx hb hts (fun w h => List.mem_cons_of_mem _ (List.mem_append_left _ (List.mem_append_left _ (List.mem_append_right _ h)))) hown hK hP 0 rfl rfl 2 (by decide) (hts (.fieldLink RX4 26 "AtlasFolder" "ring" "LAtlasFolder$ZoneRing;") (List.mem_cons_of_mem _ (List.mem_append_left _ (List.mem_append_left _ (List.mem_append_left _ (List.mem_append_left _ (List.mem_of_getElem? (i := 0) rfl))))))) (fun _ h9 => h9) rfl dX4_seams_23 ?_
        refine lv_iload_n hx hb dX4_seams_26 rfl (lv_at hl 0 rfl) ?_
        refine lv_iload_n hx hb dX4_seams_27 rfl (lv_at hl 2 rfl) ?_
        refine lv_iload_n hx hb dX4_seams_28 rfl (lv_at hl 3 rfl) ?_
        refine va_calli (va_runS (As := [.int o1, .int o2]) (rest := [.int (if (s_X4_goesEast o1 o2) = 0 then o2 else o1), .ref qr]) ⟨hx, hb, hml, hown, hts⟩ (c_X4_shorterWay l D cI cZ cJ cD o1 o2 ) (va_cwS 2 hts gX4_seams_X4_shorterWay rfl rfl rfl (by decide +kernel) ⟨Nat.le_of_ble_eq_true rfl, Nat.le_of_ble_eq_true rfl⟩) ⟨zblind, (fun U hU hW => ⟨rfl, by rw [hU]; exact hP.sub (ws' := []) [] rfl, va_K.moved hW.alike hK⟩)⟩ rfl rfl hl.1 rfl (lv_room (Nat.le_of_ble_eq_true rfl)) dX4_seams_29 ⟨Nat.le_of_ble_eq_true rfl, Nat.le_of_ble_eq_true rfl⟩) hS (fun q _ h => h.elim) (fun q h => h.elim) (fun r24 u t H locs ht hvm hw hB hz1 hk1 hS => ?_)
        rw [hw]
        have hP := zk hP hk1
        refine va_calli (va_runV (As := [.int (if (s_X4_goesEast o1 o2) = 0 then o2 else o1), .int (s_X4_shorterWay o1 o2)]) (rest := []) ⟨hx, hb, hml, hown, hts⟩ (c_X3_seamsEastOf l D cI cZ cJ cD qr br (if (s_X4_goesEast o1 o2) = 0 then o2 else o1) (s_X4_shorterWay o1 o2) ) (cwV 2 hts gX4_seams_X3_seamsEastOf rfl rfl rfl (by decide +kernel) ⟨Nat.le_of_ble_eq_true rfl, Nat.le_of_ble_eq_true rfl⟩) ⟨zblind, va_recv hK hP (ci := 3) (q0 := 1) rfl rfl, (fun U hU hW => ⟨rfl, by rw [hU]; exact hP.sub (ws' := [(qr, .inr (3, [.int br]))]) [1] rfl, va_K.moved hW.alike hK⟩)⟩ rfl rfl hl.1 rfl (lv_room (Nat.le_of_ble_eq_true rfl)) dX4_seams_32 ⟨Nat.le_of_ble_eq_true rfl, Nat.le_of_ble_eq_true rfl⟩) hS (fun q _ h => h.elim) (fun q h => h.elim) (fun r25 u t H locs ht hvm hw hB hz1 hk1 hS => ?_)
        rw [hw]
        have hP := zk hP hk1
        have e26 : s_X4_seams br o1 o2 = s_X3_seamsEastOf br (if (s_X4_goesEast o1 o2) = 0 then o2 else o1) (s_X4_shorterWay o1 o2) := by
          unfold s_X4_seams
          exact ((if_pos c16).trans (if_pos c20))
        have e27 : k_X4_seams br o1 o2 = 0 := by
          unfold k_X4_seams
          exact ((if_pos c16).trans (if_pos c20))
        refine vx_ret ?_
        exact W.iret (v := (s_X3_seamsEastOf br (if (s_X4_goesEast o1 o2) = 0 then o2 else o1) (s_X4_shorterWay o1 o2))) hx hb hr (fun t ht hW => ⟨⟨_, (), rfl, ⟨e27, e26.symm⟩, trivial⟩, hS.F ht⟩) hS.2.2 dX4_seams_35
      refine lv_if_eq (tgt := 20) hx hb dX4_seams_13 (by decide) (fun c28 => ?_) (fun c28 => ?_)
      · refine lv_iload_n hx hb dX4_seams_20 rfl (lv_at hl 2 rfl) ?_
        exact K23 _ (if_pos c28).symm _ _ hP hS _ (lv_sub hl [0, 1, 2] rfl)
      · refine lv_iload_n hx hb dX4_seams_16 rfl (lv_at hl 1 rfl) ?_
        refine lv_goto (tgt := 21) hx hb dX4_seams_17 (by decide) ?_
        exact K23 _ (if_neg c28).symm _ _ hP hS _ (lv_sub hl [0, 1, 2] rfl)
def s_X4_dateLine (o1 : Int32) (o2 : Int32) : Int32 := (if k_X4_requireLongitude o1 = 0 then (if k_X4_requireLongitude o2 = 0 then (if (s_X4_goesEast o1 o2) = 0 then (if o2 ≤ o1 then 0 else (-1)) else (if o1 ≤ o2 then 0 else 1)) else 0) else 0)
def k_X4_dateLine (o1 : Int32) (o2 : Int32) : Nat := (if k_X4_requireLongitude o1 = 0 then (if k_X4_requireLongitude o2 = 0 then 0 else k_X4_requireLongitude o2) else k_X4_requireLongitude o1)
abbrev rm_X4_dateLine : Room := { frames := 7, cells := 2, slots := 12, locals := 110 }
abbrev Qc_X4_dateLine (D : va_G) (cI cZ cJ cD : ClassId) (qo : Nat) (o1 : Int32) (o2 : Int32) : Array Value → State → Outcome → State → Prop := va_Qi (fun (r : Int32) (_ : Unit) => k_X4_dateLine o1 o2 = 0 ∧ r = s_X4_dateLine o1 o2) (fun _ _ => True) (fun _ : Nat => False)
abbrev Xc_X4_dateLine (D : va_G) (cI cZ cJ cD : ClassId) (qo : Nat) (o1 : Int32) (o2 : Int32) : String → State → State → Prop := vx_X (fun _ : Unit => True) (fun E _ _ => zX E (k_X4_dateLine o1 o2)) (fun _ : Nat => False)
set_option maxHeartbeats 4000000 in
set_option maxRecDepth 100000 in
theorem c_X4_dateLine (l : Launch) (hnt : l.stackTraces = false) (D : va_G) (cI cZ cJ cD : ClassId) (qo : Nat) (o1 : Int32) (o2 : Int32)  : vx_Met l yX4_dateLine wsX4_dateLine rm_X4_dateLine (va_Pc [.ref qo, .int o1, .int o2] (zPreE D cI cZ cJ cD [])) (Qc_X4_dateLine D cI cZ cJ cD qo o1 o2 ) (Xc_X4_dateLine D cI cZ cJ cD qo o1 o2 ) 2 12 (fun _ : Nat => False) := by
  refine vx_ofW (cc := cX4_dateLine) (maxL := 3) (ret := (some .int)) (by decide) rfl ?_
  intro p e s m args below meth c s₁ B hml ht0 hv
  obtain ⟨rfl, hP, hK, hE⟩ := hv
  have hx := B.exec
  have hb := B.bytes
  have hr := B.returns
  have hts := atoms_spec (ws := wsX4_dateLine) B.pre
  have hown : s.vm.findClass RX4 = some m.cls := findClass_of_methodNamed B.named
  have hlocks := B.notSynchronized
  have hS : va_S (fun _ : Nat => False) s.heap s.heap [] := va_S.rf
  have hl := lv_entry ([.ref qo, .int o1, .int o2]) (n := 3) (Nat.le_of_ble_eq_true rfl)
  rw [lg_entry_eq]
  generalize (lg_sl ([.ref qo, .int o1, .int o2]) ++ List.replicate (3 - (lg_sl ([.ref qo, .int o1, .int o2])).length) Slot.unset).toArray = ls at hl ⊢
  have hl : lv_has ls 3 [(0, .ref qo), (1, .int o1), (2, .int o2)] := hl
  have hP : va_P D vwCl [] s.heap := hP
  have hP := hP
  refine lv_iload_n hx hb dX4_dateLine_0 rfl (lv_at hl 1 rfl) ?_
  refine vx_callv (vx_runS (As := [.int o1]) (rest := []) ⟨hx, hb, hml, hown, hts⟩ (c_X4_requireLongitude l hnt D cI cZ cJ cD o1 ) (va_cwS 1 hts gX4_dateLine_X4_requireLongitude rfl rfl rfl (by decide +kernel) ⟨Nat.le_of_ble_eq_true rfl, Nat.le_of_ble_eq_true rfl⟩) ⟨zblindE, (fun U hU hW => ⟨rfl, by rw [hU]; exact hP.sub (ws' := []) [] rfl, va_K.moved hW.alike hK, zEnv.go hE hS (fun q h => h.elim) hU hW⟩)⟩ rfl rfl hl.1 rfl (lv_room (Nat.le_of_ble_eq_true rfl)) dX4_dateLine_1 ⟨Nat.le_of_ble_eq_true rfl, Nat.le_of_ble_eq_true rfl⟩) hS (fun q _ h => h.elim) (fun q h => h.elim) (fun q _ h => h.elim) (fun E ce q9 u t H locs ht hvm hpx hB hz1 hk1 hS hq9 hce hcl => ?_) (fun u t H locs ht hvm hw hB hz1 hk1 hS => ?_)
  · have hX := hB
    have hP := zk hP hk1
    have c16 : ¬ k_X4_requireLongitude o1 = 0 := zX_ne hX
    have e17 : k_X4_dateLine o1 o2 = k_X4_requireLongitude o1 := by
      unfold k_X4_dateLine
      exact (if_neg c16)
    exact vx_out (fun x hx => (ht0 x hx).elim) hlocks hq9 hce hcl (fun t ht9 hal9 => ⟨(), trivial, (by rw [e17]; exact hX), hS.F ht9⟩) hS.2.2 (by decide) (by decide)
  · have c18 : k_X4_requireLongitude o1 = 0 := hw
    have hP := zk hP hk1
    refine W.widen (k := 1) (n := 6) (by decide) (by decide) ?_
    refine lv_iload_n hx hb dX4_dateLine_4 rfl (lv_at hl 2 rfl) ?_
    refine vx_callv (vx_runS (As := [.int o2]) (rest := []) ⟨hx, hb, hml, hown, hts⟩ (c_X4_requireLongitude l hnt D cI cZ cJ cD o2 ) (va_cwS 1 hts gX4_dateLine_X4_requireLongitude rfl rfl rfl (by decide +kernel) ⟨Nat.le_of_ble_eq_true rfl, Nat.le_of_ble_eq_true rfl⟩) ⟨zblindE, (fun U hU hW => ⟨rfl, by rw [hU]; exact hP.sub (ws' := []) [] rfl, va_K.moved hW.alike hK, zEnv.go hE hS (fun q h => h.elim) hU hW⟩)⟩ rfl rfl hl.1 rfl (lv_room (Nat.le_of_ble_eq_true rfl)) dX4_dateLine_5 ⟨Nat.le_of_ble_eq_true rfl, Nat.le_of_ble_eq_true rfl⟩) hS (fun q _ h => h.elim) (fun q h => h.elim) (fun q _ h => h.elim) (fun E ce q9 u t H locs ht hvm hpx hB hz1 hk1 hS hq9 hce hcl => ?_) (fun u t H locs ht hvm hw hB hz1 hk1 hS => ?_)
    · have hX := hB
      have hP := zk hP hk1
      have c20 : ¬ k_X4_requireLongitude o2 = 0 := zX_ne hX
      have e21 : k_X4_dateLine o1 o2 = k_X4_requireLongitude o2 := by
        unfold k_X4_dateLine
        exact ((if_pos c18).trans (if_neg c20))
      exact vx_out (fun x hx => (ht0 x hx).elim) hlocks hq9 hce hcl (fun t ht9 hal9 => ⟨(), trivial, (by rw [e21]; exact hX), hS.F ht9⟩) hS.2.2 (by decide) (by decide)
    · have c22 : k_X4_requireLongitude o2 = 0 := hw
      have hP := zk hP hk1
      refine W.widen (k := 2) (n := 12) (by decide) (by decide) ?_
      refine lv_iload_n hx hb dX4_dateLine_8 rfl (lv_at hl 1 rfl) ?_
      refine lv_iload_n hx hb dX4_dateLine_9 rfl (lv_at hl 2 rfl) ?_
      refine va_calli (va_runS (As := [.int o1, .int o2]) (rest := []) ⟨hx, hb, hml, hown, hts⟩ (c_X4_goesEast l D cI cZ cJ cD o1 o2 ) (va_cwS 2 hts gX4_dateLine_X4_goesEast rfl rfl rfl (by decide +kernel) ⟨Nat.le_of_ble_eq_true rfl, Nat.le_of_ble_eq_true rfl⟩) ⟨zblind, (fun U hU hW => ⟨rfl, by rw [hU]; exact hP.sub (ws' := []) [] rfl, va_K.moved hW.alike hK⟩)⟩ rfl rfl hl.1 rfl (lv_room (Nat.le_of_ble_eq_true rfl)) dX4_dateLine_10 ⟨Nat.le_of_ble_eq_true rfl, Nat.le_of_ble_eq_true rfl⟩) hS (fun q _ h => h.elim) (fun q h => h.elim) (fun r23 u t H locs ht hvm hw hB hz1 hk1 hS => ?_)
      rw [hw]
      have hP := zk hP hk1
      refine lv_if_eq (tgt := 27) hx hb dX4_dateLine_13 (by decide) (fun c24 => ?_) (fun c24 => ?_)
      · refine lv_iload_n hx hb dX4_dateLine_27 rfl (lv_at hl 2 rfl) ?_
        refine lv_iload_n hx hb dX4_dateLine_28 rfl (lv_at hl 1 rfl) ?_
        have K26 : ∀ v26_0 : Int32, v26_0 = (if o2 ≤ o1 then 0 else (-1)) → ∀ (H : Heap) (locs : List Loc), va_P D vwCl [] H → va_S (fun _ : Nat => False) s.heap H locs → ∀ (ls : Array Slot), lv_has ls 3 [(0, .ref qo), (1, .int o1), (2, .int o2)] → W p l e (headSpec wsX4_dateLine rm_X4_dateLine).room s m ([.ref qo, .int o1, .int o2]).toArray below meth c H locs 2 12 (vx_MQ below (Qc_X4_dateLine D cI cZ cJ cD qo o1 o2) (Xc_X4_dateLine D cI cZ cJ cD qo o1 o2) ([.ref qo, .int o1, .int o2]).toArray s 2 12 (fun _ : Nat => False)) (F0 m 37 ls [.int v26_0]) := by
          intro v26_0 hv26_0 H locs hP hS ls hl
          subst hv26_0
          have e27 : s_X4_dateLine o1 o2 = (if o2 ≤ o1 then 0 else (-1)) := by
            unfold s_X4_dateLine
            exact ((if_pos c18).trans ((if_pos c22).trans (if_pos c24)))
          have e28 : k_X4_dateLine o1 o2 = 0 := by
            unfold k_X4_dateLine
            exact ((if_pos c18).trans (if_pos c22))
          refine vx_ret ?_
          exact W.iret (v := (if o2 ≤ o1 then 0 else (-1))) hx hb hr (fun t ht hW => ⟨⟨_, (), rfl, ⟨e28, e27.symm⟩, trivial⟩, hS.F ht⟩) hS.2.2 dX4_dateLine_37
        refine lv_icmp_le (tgt := 36) hx hb dX4_dateLine_29 (by decide) (fun c29 => ?_) (fun c29 => ?_)
        · refine lv_iconst (v := 0) hx hb dX4_dateLine_36 (by decide) ?_
          exact K26 _ (if_pos c29).symm _ _ hP hS _ (lv_sub hl [0, 1, 2] rfl)
        · refine lv_iconst (v := (-1)) hx hb dX4_dateLine_32 (by decide) ?_
          refine lv_goto (tgt := 37) hx hb dX4_dateLine_33 (by decide) ?_
          exact K26 _ (if_neg c29).symm _ _ hP hS _ (lv_sub hl [0, 1, 2] rfl)
      · refine lv_iload_n hx hb dX4_dateLine_16 rfl (lv_at hl 2 rfl) ?_
        refine lv_iload_n hx hb dX4_dateLine_17 rfl (lv_at hl 1 rfl) ?_
        have K31 : ∀ v31_0 : Int32, v31_0 = (if o1 ≤ o2 then 0 else 1) → ∀ (H : Heap) (locs : List Loc), va_P D vwCl [] H → va_S (fun _ : Nat => False) s.heap H locs → ∀ (ls : Array Slot), lv_has ls 3 [(0, .ref qo), (1, .int o1), (2, .int o2)] → W p l e (headSpec wsX4_dateLine rm_X4_dateLine).room s m ([.ref qo, .int o1, .int o2]).toArray below meth c H locs 2 12 (vx_MQ below (Qc_X4_dateLine D cI cZ cJ cD qo o1 o2) (Xc_X4_dateLine D cI cZ cJ cD qo o1 o2) ([.ref qo, .int o1, .int o2]).toArray s 2 12 (fun _ : Nat => False)) (F0 m 26 ls [.int v31_0]) := by
          intro v31_0 hv31_0 H locs hP hS ls hl
          subst hv31_0
          have e32 : s_X4_dateLine o1 o2 = (if o1 ≤ o2 then 0 else 1) := by
            unfold s_X4_dateLine
            exact ((if_pos c18).trans ((if_pos c22).trans (if_neg c24)))
          have e33 : k_X4_dateLine o1 o2 = 0 := by
            unfold k_X4_dateLine
            exact ((if_pos c18).trans (if_pos c22))
          refine vx_ret ?_
          exact W.iret (v := (if o1 ≤ o2 then 0 else 1)) hx hb hr (fun t ht hW => ⟨⟨_, (), rfl, ⟨e33, e32.symm⟩, trivial⟩, hS.F ht⟩) hS.2.2 dX4_dateLine_26
        refine lv_icmp_ge (tgt := 25) hx hb dX4_dateLine_18 (by decide) (fun c34 => ?_) (fun c34 => ?_)
        · refine lv_iconst (v := 0) hx hb dX4_dateLine_25 (by decide) ?_
          exact K31 _ (if_pos c34).symm _ _ hP hS _ (lv_sub hl [0, 1, 2] rfl)
        · refine lv_iconst (v := 1) hx hb dX4_dateLine_21 (by decide) ?_
          refine lv_goto (tgt := 26) hx hb dX4_dateLine_22 (by decide) ?_
          exact K31 _ (if_neg c34).symm _ _ hP hS _ (lv_sub hl [0, 1, 2] rfl)
def k_X4_sheet (jC : Int32) (jR : Int32) (nf : Int32) (fx : Nat → Int32) (fy : Nat → Int32) (fz : Nat → Int32) (fu : Nat → Int32) (co : Int32) (ro : Int32) : Nat := (if co < 1 then 2 else (if 6 < co then 2 else (if ro < 1 then 2 else (if ro ≤ 6 then 0 else 2))))
def n_X4_sheet_qf_4 (jC : Int32) (jR : Int32) (nf : Int32) (fx : Nat → Int32) (fy : Nat → Int32) (fz : Nat → Int32) (fu : Nat → Int32) (co : Int32) (ro : Int32) : Int32 := (if co < 1 then jC else (if 6 < co then jC else (if ro < 1 then jC else (if ro ≤ 6 then n_X1_layOut_qf_4 jC jR nf fx fy fz fu co.toNatClampNeg ro.toNatClampNeg else jC))))
def n_X4_sheet_qf_5 (jC : Int32) (jR : Int32) (nf : Int32) (fx : Nat → Int32) (fy : Nat → Int32) (fz : Nat → Int32) (fu : Nat → Int32) (co : Int32) (ro : Int32) : Int32 := (if co < 1 then jR else (if 6 < co then jR else (if ro < 1 then jR else (if ro ≤ 6 then n_X1_layOut_qf_5 jC jR nf fx fy fz fu co.toNatClampNeg ro.toNatClampNeg else jR))))
def n_X4_sheet_qf_6 (jC : Int32) (jR : Int32) (nf : Int32) (fx : Nat → Int32) (fy : Nat → Int32) (fz : Nat → Int32) (fu : Nat → Int32) (co : Int32) (ro : Int32) : Int32 := (if co < 1 then nf else (if 6 < co then nf else (if ro < 1 then nf else (if ro ≤ 6 then n_X1_layOut_qf_6 jC jR nf fx fy fz fu co.toNatClampNeg ro.toNatClampNeg else nf))))
def n_X4_sheet_qx (jC : Int32) (jR : Int32) (nf : Int32) (fx : Nat → Int32) (fy : Nat → Int32) (fz : Nat → Int32) (fu : Nat → Int32) (co : Int32) (ro : Int32) : Nat → Int32 := (if co < 1 then fx else (if 6 < co then fx else (if ro < 1 then fx else (if ro ≤ 6 then n_X1_layOut_qx jC jR nf fx fy fz fu co.toNatClampNeg ro.toNatClampNeg else fx))))
def n_X4_sheet_qy (jC : Int32) (jR : Int32) (nf : Int32) (fx : Nat → Int32) (fy : Nat → Int32) (fz : Nat → Int32) (fu : Nat → Int32) (co : Int32) (ro : Int32) : Nat → Int32 := (if co < 1 then fy else (if 6 < co then fy else (if ro < 1 then fy else (if ro ≤ 6 then n_X1_layOut_qy jC jR nf fx fy fz fu co.toNatClampNeg ro.toNatClampNeg else fy))))
def n_X4_sheet_qz (jC : Int32) (jR : Int32) (nf : Int32) (fx : Nat → Int32) (fy : Nat → Int32) (fz : Nat → Int32) (fu : Nat → Int32) (co : Int32) (ro : Int32) : Nat → Int32 := (if co < 1 then fz else (if 6 < co then fz else (if ro < 1 then fz else (if ro ≤ 6 then n_X1_layOut_qz jC jR nf fx fy fz fu co.toNatClampNeg ro.toNatClampNeg else fz))))
def n_X4_sheet_qu (jC : Int32) (jR : Int32) (nf : Int32) (fx : Nat → Int32) (fy : Nat → Int32) (fz : Nat → Int32) (fu : Nat → Int32) (co : Int32) (ro : Int32) : Nat → Int32 := (if co < 1 then fu else (if 6 < co then fu else (if ro < 1 then fu else (if ro ≤ 6 then n_X1_layOut_qu jC jR nf fx fy fz fu co.toNatClampNeg ro.toNatClampNeg else fu))))
abbrev rm_X4_sheet : Room := { frames := 6, cells := 1, slots := 6, locals := 90 }
abbrev Qc_X4_sheet (D : va_G) (cI cZ cJ cD : ClassId) (qo : Nat) (qm : Nat) (qb : Nat) (qr : Nat) (qf : Nat) (qx : Nat) (qy : Nat) (qz : Nat) (qu : Nat) (jC : Int32) (jR : Int32) (nf : Int32) (fx : Nat → Int32) (fy : Nat → Int32) (fz : Nat → Int32) (fu : Nat → Int32) (co : Int32) (ro : Int32) (A : Nat → Prop) : Array Value → State → Outcome → State → Prop := va_Qv (fun _ : Unit => k_X4_sheet jC jR nf fx fy fz fu co ro = 0) (zPost D cI cZ cJ cD A [(qo, .inr (4, [.ref qm, .ref qb, .ref qr, .ref qf])), (qf, .inr (1, [.ref qx, .ref qy, .ref qz, .ref qu, .int (n_X4_sheet_qf_4 jC jR nf fx fy fz fu co ro), .int (n_X4_sheet_qf_5 jC jR nf fx fy fz fu co ro), .int (n_X4_sheet_qf_6 jC jR nf fx fy fz fu co ro)])), (qx, .inl (cI, 36, .inl (n_X4_sheet_qx jC jR nf fx fy fz fu co ro))), (qy, .inl (cI, 36, .inl (n_X4_sheet_qy jC jR nf fx fy fz fu co ro))), (qz, .inl (cI, 36, .inl (n_X4_sheet_qz jC jR nf fx fy fz fu co ro))), (qu, .inl (cZ, 36, .inl (n_X4_sheet_qu jC jR nf fx fy fz fu co ro)))]) A
abbrev Xc_X4_sheet (D : va_G) (cI cZ cJ cD : ClassId) (qo : Nat) (qm : Nat) (qb : Nat) (qr : Nat) (qf : Nat) (qx : Nat) (qy : Nat) (qz : Nat) (qu : Nat) (jC : Int32) (jR : Int32) (nf : Int32) (fx : Nat → Int32) (fy : Nat → Int32) (fz : Nat → Int32) (fu : Nat → Int32) (co : Int32) (ro : Int32) (A : Nat → Prop) : String → State → State → Prop := vx_X (fun _ : Unit => True) (fun E u t => zX E (k_X4_sheet jC jR nf fx fy fz fu co ro) ∧ zPost D cI cZ cJ cD A [(qo, .inr (4, [.ref qm, .ref qb, .ref qr, .ref qf])), (qf, .inr (1, [.ref qx, .ref qy, .ref qz, .ref qu, .int (n_X4_sheet_qf_4 jC jR nf fx fy fz fu co ro), .int (n_X4_sheet_qf_5 jC jR nf fx fy fz fu co ro), .int (n_X4_sheet_qf_6 jC jR nf fx fy fz fu co ro)])), (qx, .inl (cI, 36, .inl (n_X4_sheet_qx jC jR nf fx fy fz fu co ro))), (qy, .inl (cI, 36, .inl (n_X4_sheet_qy jC jR nf fx fy fz fu co ro))), (qz, .inl (cI, 36, .inl (n_X4_sheet_qz jC jR nf fx fy fz fu co ro))), (qu, .inl (cZ, 36, .inl (n_X4_sheet_qu jC jR nf fx fy fz fu co ro)))] u t) A
set_option maxHeartbeats 4000000 in
set_option maxRecDepth 100000 in
theorem c_X4_sheet (l : Launch) (hnt : l.stackTraces = false) (D : va_G) (cI cZ cJ cD : ClassId) (qo : Nat) (qm : Nat) (qb : Nat) (qr : Nat) (qf : Nat) (qx : Nat) (qy : Nat) (qz : Nat) (qu : Nat) (jC : Int32) (jR : Int32) (nf : Int32) (fx : Nat → Int32) (fy : Nat → Int32) (fz : Nat → Int32) (fu : Nat → Int32) (co : Int32) (ro : Int32) (sz : Nat)  : vx_Met l yX4_sheet wsX4_sheet rm_X4_sheet (va_Pc [.ref qo, .int co, .int ro] (zPreWE D cI cZ cJ cD [(qo, .inr (4, [.ref qm, .ref qb, .ref qr, .ref qf])), (qf, .inr (1, [.ref qx, .ref qy, .ref qz, .ref qu, .int jC, .int jR, .int nf])), (qx, .inl (cI, 36, .inl fx)), (qy, .inl (cI, 36, .inl fy)), (qz, .inl (cI, 36, .inl fz)), (qu, .inl (cZ, 36, .inl fu))] sz)) (Qc_X4_sheet D cI cZ cJ cD qo qm qb qr qf qx qy qz qu jC jR nf fx fy fz fu co ro (va_A [(qo, .inr (4, [.ref qm, .ref qb, .ref qr, .ref qf])), (qf, .inr (1, [.ref qx, .ref qy, .ref qz, .ref qu, .int jC, .int jR, .int nf])), (qx, .inl (cI, 36, .inl fx)), (qy, .inl (cI, 36, .inl fy)), (qz, .inl (cI, 36, .inl fz)), (qu, .inl (cZ, 36, .inl fu))] sz)) (Xc_X4_sheet D cI cZ cJ cD qo qm qb qr qf qx qy qz qu jC jR nf fx fy fz fu co ro (va_A [(qo, .inr (4, [.ref qm, .ref qb, .ref qr, .ref qf])), (qf, .inr (1, [.ref qx, .ref qy, .ref qz, .ref qu, .int jC, .int jR, .int nf])), (qx, .inl (cI, 36, .inl fx)), (qy, .inl (cI, 36, .inl fy)), (qz, .inl (cI, 36, .inl fz)), (qu, .inl (cZ, 36, .inl fu))] sz)) 1 6 (va_A [(qo, .inr (4, [.ref qm, .ref qb, .ref qr, .ref qf])), (qf, .inr (1, [.ref qx, .ref qy, .ref qz, .ref qu, .int jC, .int jR, .int nf])), (qx, .inl (cI, 36, .inl fx)), (qy, .inl (cI, 36, .inl fy)), (qz, .inl (cI, 36, .inl fz)), (qu, .inl (cZ, 36, .inl fu))] sz) := by
  refine vx_ofW (cc := cX4_sheet) (maxL := 3) (ret := none) (by decide) rfl ?_
  intro p e s m args below meth c s₁ B hml ht0 hv
  obtain ⟨rfl, hsz, hP, hK, hD0, hE⟩ := hv
  have hx := B.exec
  have hb := B.bytes
  have hr := B.returns
  have hts := atoms_spec (ws := wsX4_sheet) B.pre
  have hown : s.vm.findClass RX4 = some m.cls := findClass_of_methodNamed B.named
  have hlocks := B.notSynchronized
  subst hsz
  have hD := hD0.self (sz := s.heap.size)
  generalize hAe : va_A [(qo, .inr (4, [.ref qm, .ref qb, .ref qr, .ref qf])), (qf, .inr (1, [.ref qx, .ref qy, .ref qz, .ref qu, .int jC, .int jR, .int nf])), (qx, .inl (cI, 36, .inl fx)), (qy, .inl (cI, 36, .inl fy)), (qz, .inl (cI, 36, .inl fz)), (qu, .inl (cZ, 36, .inl fu))] s.heap.size = A at hE hD ⊢
  have hA : ∀ q : Nat, s.heap.size ≤ q → A q := fun q h => by rw [← hAe]; exact Or.inr h
  have hS : va_S A s.heap s.heap [] := va_S.rf
  have hl := lv_entry ([.ref qo, .int co, .int ro]) (n := 3) (Nat.le_of_ble_eq_true rfl)
  rw [lg_entry_eq]
  generalize (lg_sl ([.ref qo, .int co, .int ro]) ++ List.replicate (3 - (lg_sl ([.ref qo, .int co, .int ro])).length) Slot.unset).toArray = ls at hl ⊢
  have hl : lv_has ls 3 [(0, .ref qo), (1, .int co), (2, .int ro)] := hl
  have hP : va_P D vwCl [(qo, .inr (4, [.ref qm, .ref qb, .ref qr, .ref qf])), (qf, .inr (1, [.ref qx, .ref qy, .ref qz, .ref qu, .int jC, .int jR, .int nf])), (qx, .inl (cI, 36, .inl fx)), (qy, .inl (cI, 36, .inl fy)), (qz, .inl (cI, 36, .inl fz)), (qu, .inl (cZ, 36, .inl fu))] s.heap := hP
  have hP := hP
  refine lv_iload_n hx hb dX4_sheet_0 rfl (lv_at hl 1 rfl) ?_
  refine lv_iconst (v := 1) hx hb dX4_sheet_1 (by decide) ?_
  refine lv_icmp_lt (tgt := 22) hx hb dX4_sheet_2 (by decide) (fun c6 => ?_) (fun c6 => ?_)
  · have e7 : k_X4_sheet jC jR nf fx fy fz fu co ro = 2 := by
      unfold k_X4_sheet
      exact (if_pos c6)
    have e8 : n_X4_sheet_qf_4 jC jR nf fx fy fz fu co ro = jC := by
      unfold n_X4_sheet_qf_4
      exact (if_pos c6)
    have e9 : n_X4_sheet_qf_5 jC jR nf fx fy fz fu co ro = jR := by
      unfold n_X4_sheet_qf_5
      exact (if_pos c6)
    have e10 : n_X4_sheet_qf_6 jC jR nf fx fy fz fu co ro = nf := by
      unfold n_X4_sheet_qf_6
      exact (if_pos c6)
    have e11 : n_X4_sheet_qx jC jR nf fx fy fz fu co ro = fx := by
      unfold n_X4_sheet_qx
      exact (if_pos c6)
    have e12 : n_X4_sheet_qy jC jR nf fx fy fz fu co ro = fy := by
      unfold n_X4_sheet_qy
      exact (if_pos c6)
    have e13 : n_X4_sheet_qz jC jR nf fx fy fz fu co ro = fz := by
      unfold n_X4_sheet_qz
      exact (if_pos c6)
    have e14 : n_X4_sheet_qu jC jR nf fx fy fz fu co ro = fu := by
      unfold n_X4_sheet_qu
      exact (if_pos c6)
    obtain ⟨sa, hstr⟩ := hE.str 136 "columns or rows is out of its range" (by decide)
    have hat : ∀ w ∈ vx_atS RX4 48 "java/lang/IllegalArgumentException" ["java/lang/RuntimeException", "java/lang/Exception"], w.before _ s = true := vx_hat (fun w h => hts w (List.mem_cons_of_mem _ (List.mem_append_right _ h))) (B := zBad2) (by decide +kernel) (hE.bad2 _)
    exact vx_throwS (text := "columns or rows is out of its range") (names := ["java/lang/RuntimeException", "java/lang/Exception"]) (A := A) hx hb hnt hown (by decide) (by decide) (hts (.classLink RX4 44 "java/lang/IllegalArgumentException") (List.mem_cons_of_mem _ (List.mem_append_left _ (List.mem_append_left _ (List.mem_append_left _ (List.mem_of_getElem? (i := 0) rfl)))))) (hts (.initialized "java/lang/IllegalArgumentException") (List.mem_cons_of_mem _ (List.mem_append_left _ (List.mem_append_left _ (List.mem_append_left _ (List.mem_of_getElem? (i := 1) rfl)))))) hstr hat (by decide +kernel) hE.1 hE.2.1 hS (hl.1.trans hml.symm) dX4_sheet_22 dX4_sheet_25 dX4_sheet_26 dX4_sheet_28 dX4_sheet_31 (fun x hx => (ht0 x hx).elim) (by decide) (by decide) (by decide) (by decide) hlocks (fun t hal9 hz9 hk9 => ⟨(), trivial, ⟨zX2 e7, (by rw [e8, e9, e10, e11, e12, e13, e14]; exact zkP hP hk9), va_K.moved hal9 hK, (by rw [e8, e9, e10, e11, e12, e13, e14]; exact hD)⟩, zF hS hz9 hk9⟩) hS.2.2 (by decide) (by decide)
  · refine lv_iload_n hx hb dX4_sheet_5 rfl (lv_at hl 1 rfl) ?_
    refine lv_bipush (v := 6) hx hb dX4_sheet_6 (by decide) ?_
    refine lv_icmp_gt (tgt := 22) hx hb dX4_sheet_8 (by decide) (fun c15 => ?_) (fun c15 => ?_)
    · have e16 : k_X4_sheet jC jR nf fx fy fz fu co ro = 2 := by
        unfold k_X4_sheet
        exact ((if_neg c6).trans (if_pos c15))
      have e17 : n_X4_sheet_qf_4 jC jR nf fx fy fz fu co ro = jC := by
        unfold n_X4_sheet_qf_4
        exact ((if_neg c6).trans (if_pos c15))
      have e18 : n_X4_sheet_qf_5 jC jR nf fx fy fz fu co ro = jR := by
        unfold n_X4_sheet_qf_5
        exact ((if_neg c6).trans (if_pos c15))
      have e19 : n_X4_sheet_qf_6 jC jR nf fx fy fz fu co ro = nf := by
        unfold n_X4_sheet_qf_6
        exact ((if_neg c6).trans (if_pos c15))
      have e20 : n_X4_sheet_qx jC jR nf fx fy fz fu co ro = fx := by
        unfold n_X4_sheet_qx
        exact ((if_neg c6).trans (if_pos c15))
      have e21 : n_X4_sheet_qy jC jR nf fx fy fz fu co ro = fy := by
        unfold n_X4_sheet_qy
        exact ((if_neg c6).trans (if_pos c15))
      have e22 : n_X4_sheet_qz jC jR nf fx fy fz fu co ro = fz := by
        unfold n_X4_sheet_qz
        exact ((if_neg c6).trans (if_pos c15))
      have e23 : n_X4_sheet_qu jC jR nf fx fy fz fu co ro = fu := by
        unfold n_X4_sheet_qu
        exact ((if_neg c6).trans (if_pos c15))
      obtain ⟨sa, hstr⟩ := hE.str 136 "columns or rows is out of its range" (by decide)
      have hat : ∀ w ∈ vx_atS RX4 48 "java/lang/IllegalArgumentException" ["java/lang/RuntimeException", "java/lang/Exception"], w.before _ s = true := vx_hat (fun w h => hts w (List.mem_cons_of_mem _ (List.mem_append_right _ h))) (B := zBad2) (by decide +kernel) (hE.bad2 _)
      exact vx_throwS (text := "columns or rows is out of its range") (names := ["java/lang/RuntimeException", "java/lang/Exception"]) (A := A) hx hb hnt hown (by decide) (by decide) (hts (.classLink RX4 44 "java/lang/IllegalArgumentException") (List.mem_cons_of_mem _ (List.mem_append_left _ (List.mem_append_left _ (List.mem_append_left _ (List.mem_of_getElem? (i := 0) rfl)))))) (hts (.initialized "java/lang/IllegalArgumentException") (List.mem_cons_of_mem _ (List.mem_append_left _ (List.mem_append_left _ (List.mem_append_left _ (List.mem_of_getElem? (i := 1) rfl)))))) hstr hat (by decide +kernel) hE.1 hE.2.1 hS (hl.1.trans hml.symm) dX4_sheet_22 dX4_sheet_25 dX4_sheet_26 dX4_sheet_28 dX4_sheet_31 (fun x hx => (ht0 x hx).elim) (by decide) (by decide) (by decide) (by decide) hlocks (fun t hal9 hz9 hk9 => ⟨(), trivial, ⟨zX2 e16, (by rw [e17, e18, e19, e20, e21, e22, e23]; exact zkP hP hk9), va_K.moved hal9 hK, (by rw [e17, e18, e19, e20, e21, e22, e23]; exact hD)⟩, zF hS hz9 hk9⟩) hS.2.2 (by decide) (by decide)
    · refine lv_iload_n hx hb dX4_sheet_11 rfl (lv_at hl 2 rfl) ?_
      refine lv_iconst (v := 1) hx hb dX4_sheet_12 (by decide) ?_
      refine lv_icmp_lt (tgt := 22) hx hb dX4_sheet_13 (by decide) (fun c24 => ?_) (fun c24 => ?_)
      · have e25 : k_X4_sheet jC jR nf fx fy fz fu co ro = 2 := by
          unfold k_X4_sheet
          exact ((if_neg c6).trans ((if_neg c15).trans (if_pos c24)))
        have e26 : n_X4_sheet_qf_4 jC jR nf fx fy fz fu co ro = jC := by
          unfold n_X4_sheet_qf_4
          exact ((if_neg c6).trans ((if_neg c15).trans (if_pos c24)))
        have e27 : n_X4_sheet_qf_5 jC jR nf fx fy fz fu co ro = jR := by
          unfold n_X4_sheet_qf_5
          exact ((if_neg c6).trans ((if_neg c15).trans (if_pos c24)))
        have e28 : n_X4_sheet_qf_6 jC jR nf fx fy fz fu co ro = nf := by
          unfold n_X4_sheet_qf_6
          exact ((if_neg c6).trans ((if_neg c15).trans (if_pos c24)))
        have e29 : n_X4_sheet_qx jC jR nf fx fy fz fu co ro = fx := by
          unfold n_X4_sheet_qx
          exact ((if_neg c6).trans ((if_neg c15).trans (if_pos c24)))
        have e30 : n_X4_sheet_qy jC jR nf fx fy fz fu co ro = fy := by
          unfold n_X4_sheet_qy
          exact ((if_neg c6).trans ((if_neg c15).trans (if_pos c24)))
        have e31 : n_X4_sheet_qz jC jR nf fx fy fz fu co ro = fz := by
          unfold n_X4_sheet_qz
          exact ((if_neg c6).trans ((if_neg c15).trans (if_pos c24)))
        have e32 : n_X4_sheet_qu jC jR nf fx fy fz fu co ro = fu := by
          unfold n_X4_sheet_qu
          exact ((if_neg c6).trans ((if_neg c15).trans (if_pos c24)))
        obtain ⟨sa, hstr⟩ := hE.str 136 "columns or rows is out of its range" (by decide)
        have hat : ∀ w ∈ vx_atS RX4 48 "java/lang/IllegalArgumentException" ["java/lang/RuntimeException", "java/lang/Exception"], w.before _ s = true := vx_hat (fun w h => hts w (List.mem_cons_of_mem _ (List.mem_append_right _ h))) (B := zBad2) (by decide +kernel) (hE.bad2 _)
        exact vx_throwS (text := "columns or rows is out of its range") (names := ["java/lang/RuntimeException", "java/lang/Exception"]) (A := A) hx hb hnt hown (by decide) (by decide) (hts (.classLink RX4 44 "java/lang/IllegalArgumentException") (List.mem_cons_of_mem _ (List.mem_append_left _ (List.mem_append_left _ (List.mem_append_left _ (List.mem_of_getElem? (i := 0) rfl)))))) (hts (.initialized "java/lang/IllegalArgumentException") (List.mem_cons_of_mem _ (List.mem_append_left _ (List.mem_append_left _ (List.mem_append_left _ (List.mem_of_getElem? (i := 1) rfl)))))) hstr hat (by decide +kernel) hE.1 hE.2.1 hS (hl.1.trans hml.symm) dX4_sheet_22 dX4_sheet_25 dX4_sheet_26 dX4_sheet_28 dX4_sheet_31 (fun x hx => (ht0 x hx).elim) (by decide) (by decide) (by decide) (by decide) hlocks (fun t hal9 hz9 hk9 => ⟨(), trivial, ⟨zX2 e25, (by rw [e26, e27, e28, e29, e30, e31, e32]; exact zkP hP hk9), va_K.moved hal9 hK, (by rw [e26, e27, e28, e29, e30, e31, e32]; exact hD)⟩, zF hS hz9 hk9⟩) hS.2.2 (by decide) (by decide)
      · refine lv_iload_n hx hb dX4_sheet_16 rfl (lv_at hl 2 rfl) ?_
        refine lv_bipush (v := 6) hx hb dX4_sheet_17 (by decide) ?_
        refine lv_icmp_le (tgt := 32) hx hb dX4_sheet_19 (by decide) (fun c33 => ?_) (fun c33 => ?_)
        · refine lv_aload_n hx hb dX4_sheet_32 rfl (lv_at hl 0 rfl) ?_
          refine va_get (D := D) (ci := 4) (v := .ref qf) (C := RX4) (T := TX4) (N := 4) hx hb hts (fun w h => List.mem_cons_of_mem _ (List.mem_append_left _ (List.mem_append_left _ (List.mem_append_right _ h)))) hown hK hP 0 rfl rfl 3 (by decide) (hts (.fieldLink RX4 33 "AtlasFolder" "stack" "LAtlasFolder$FoldedSheet;") (List.mem_cons_of_mem _ (List.mem_append_left _ (List.mem_append_left _ (List.mem_append_left _ (List.mem_of_getElem? (i := 2) rfl)))))) (fun _ h9 => h9) rfl dX4_sheet_33 ?_
          refine lv_iload_n hx hb dX4_sheet_36 rfl (lv_at hl 1 rfl) ?_
          refine lv_iload_n hx hb dX4_sheet_37 rfl (lv_at hl 2 rfl) ?_
          have hPc := hP.sub (ws' := [(qf, .inr (1, [.ref qx, .ref qy, .ref qz, .ref qu, .int jC, .int jR, .int nf])), (qx, .inl (cI, 36, .inl fx)), (qy, .inl (cI, 36, .inl fy)), (qz, .inl (cI, 36, .inl fz)), (qu, .inl (cZ, 36, .inl fu))]) [1, 2, 3, 4, 5] rfl
          have hDc := hD.sub (ws' := [(qf, .inr (1, [.ref qx, .ref qy, .ref qz, .ref qu, .int jC, .int jR, .int nf])), (qx, .inl (cI, 36, .inl fx)), (qy, .inl (cI, 36, .inl fy)), (qz, .inl (cI, 36, .inl fz)), (qu, .inl (cZ, 36, .inl fu))]) [1, 2, 3, 4, 5] (by decide) rfl
          have hFc := va_free (wc := [(qf, .inr (1, [.ref qx, .ref qy, .ref qz, .ref qu, .int jC, .int jR, .int nf])), (qx, .inl (cI, 36, .inl fx)), (qy, .inl (cI, 36, .inl fy)), (qz, .inl (cI, 36, .inl fz)), (qu, .inl (cZ, 36, .inl fu))]) hD hS hA [1, 2, 3, 4, 5] rfl
          refine va_callv (va_runV (As := [.int co, .int ro]) (rest := []) ⟨hx, hb, hml, hown, hts⟩ (c_X1_layOut l D cI cZ cJ cD qf qx qy qz qu jC jR nf fx fy fz fu co.toNatClampNeg ro.toNatClampNeg co ro s.heap.size (z_36 (z_c6 c15) (z_c6' c33)) (Nat.le_trans (z_c6 c15) (by decide)) (Nat.le_trans (z_c6' c33) (by decide)) (z_nIc c6) (z_nIc c24)) (cwV 2 hts gX4_sheet_X1_layOut rfl rfl rfl (by decide +kernel) ⟨Nat.le_of_ble_eq_true rfl, Nat.le_of_ble_eq_true rfl⟩) ⟨zblindW, va_recv hK hP (ci := 1) (q0 := 1) rfl rfl, (fun U hU hW => ⟨rfl, by rw [hU], by rw [hU]; exact hPc, va_K.moved hW.alike hK, hDc.weaken (fun _ _ _ _ => trivial)⟩)⟩ rfl rfl hl.1 rfl (lv_room (Nat.le_of_ble_eq_true rfl)) dX4_sheet_38 ⟨Nat.le_of_ble_eq_true rfl, Nat.le_of_ble_eq_true rfl⟩) hS (fun q _ h => hFc q h) hFc (fun u t H locs ht hvm hw hB hz1 hk1 hS => ?_)
          obtain ⟨hP1, hK1, hD1⟩ := hB
          rw [ht] at hP1
          obtain ⟨hP, hD⟩ := va_join (wr := [(qo, .inr (4, [.ref qm, .ref qb, .ref qr, .ref qf]))]) (w1 := [(qf, .inr (1, [.ref qx, .ref qy, .ref qz, .ref qu, .int (n_X1_layOut_qf_4 jC jR nf fx fy fz fu co.toNatClampNeg ro.toNatClampNeg), .int (n_X1_layOut_qf_5 jC jR nf fx fy fz fu co.toNatClampNeg ro.toNatClampNeg), .int (n_X1_layOut_qf_6 jC jR nf fx fy fz fu co.toNatClampNeg ro.toNatClampNeg)])), (qx, .inl (cI, 36, .inl (n_X1_layOut_qx jC jR nf fx fy fz fu co.toNatClampNeg ro.toNatClampNeg))), (qy, .inl (cI, 36, .inl (n_X1_layOut_qy jC jR nf fx fy fz fu co.toNatClampNeg ro.toNatClampNeg))), (qz, .inl (cI, 36, .inl (n_X1_layOut_qz jC jR nf fx fy fz fu co.toNatClampNeg ro.toNatClampNeg))), (qu, .inl (cZ, 36, .inl (n_X1_layOut_qu jC jR nf fx fy fz fu co.toNatClampNeg ro.toNatClampNeg)))]) hP hD [1, 2, 3, 4, 5] [0] rfl rfl (by decide) (by decide) hk1 hFc hP1 hD1
          have hP := hP.sub (ws' := [(qo, .inr (4, [.ref qm, .ref qb, .ref qr, .ref qf])), (qf, .inr (1, [.ref qx, .ref qy, .ref qz, .ref qu, .int (n_X1_layOut_qf_4 jC jR nf fx fy fz fu co.toNatClampNeg ro.toNatClampNeg), .int (n_X1_layOut_qf_5 jC jR nf fx fy fz fu co.toNatClampNeg ro.toNatClampNeg), .int (n_X1_layOut_qf_6 jC jR nf fx fy fz fu co.toNatClampNeg ro.toNatClampNeg)])), (qx, .inl (cI, 36, .inl (n_X1_layOut_qx jC jR nf fx fy fz fu co.toNatClampNeg ro.toNatClampNeg))), (qy, .inl (cI, 36, .inl (n_X1_layOut_qy jC jR nf fx fy fz fu co.toNatClampNeg ro.toNatClampNeg))), (qz, .inl (cI, 36, .inl (n_X1_layOut_qz jC jR nf fx fy fz fu co.toNatClampNeg ro.toNatClampNeg))), (qu, .inl (cZ, 36, .inl (n_X1_layOut_qu jC jR nf fx fy fz fu co.toNatClampNeg ro.toNatClampNeg)))]) [0, 1, 2, 3, 4, 5] rfl
          have hD := hD.sub (ws' := [(qo, .inr (4, [.ref qm, .ref qb, .ref qr, .ref qf])), (qf, .inr (1, [.ref qx, .ref qy, .ref qz, .ref qu, .int (n_X1_layOut_qf_4 jC jR nf fx fy fz fu co.toNatClampNeg ro.toNatClampNeg), .int (n_X1_layOut_qf_5 jC jR nf fx fy fz fu co.toNatClampNeg ro.toNatClampNeg), .int (n_X1_layOut_qf_6 jC jR nf fx fy fz fu co.toNatClampNeg ro.toNatClampNeg)])), (qx, .inl (cI, 36, .inl (n_X1_layOut_qx jC jR nf fx fy fz fu co.toNatClampNeg ro.toNatClampNeg))), (qy, .inl (cI, 36, .inl (n_X1_layOut_qy jC jR nf fx fy fz fu co.toNatClampNeg ro.toNatClampNeg))), (qz, .inl (cI, 36, .inl (n_X1_layOut_qz jC jR nf fx fy fz fu co.toNatClampNeg ro.toNatClampNeg))), (qu, .inl (cZ, 36, .inl (n_X1_layOut_qu jC jR nf fx fy fz fu co.toNatClampNeg ro.toNatClampNeg)))]) [0, 1, 2, 3, 4, 5] (by decide) rfl
          refine W.widen (k := 1) (n := 6) (by decide) (by decide) ?_
          have e35 : k_X4_sheet jC jR nf fx fy fz fu co ro = 0 := by
            unfold k_X4_sheet
            exact ((if_neg c6).trans ((if_neg c15).trans ((if_neg c24).trans (if_pos c33))))
          have e36 : n_X4_sheet_qf_4 jC jR nf fx fy fz fu co ro = n_X1_layOut_qf_4 jC jR nf fx fy fz fu co.toNatClampNeg ro.toNatClampNeg := by
            unfold n_X4_sheet_qf_4
            exact ((if_neg c6).trans ((if_neg c15).trans ((if_neg c24).trans (if_pos c33))))
          have e37 : n_X4_sheet_qf_5 jC jR nf fx fy fz fu co ro = n_X1_layOut_qf_5 jC jR nf fx fy fz fu co.toNatClampNeg ro.toNatClampNeg := by
            unfold n_X4_sheet_qf_5
            exact ((if_neg c6).trans ((if_neg c15).trans ((if_neg c24).trans (if_pos c33))))
          have e38 : n_X4_sheet_qf_6 jC jR nf fx fy fz fu co ro = n_X1_layOut_qf_6 jC jR nf fx fy fz fu co.toNatClampNeg ro.toNatClampNeg := by
            unfold n_X4_sheet_qf_6
            exact ((if_neg c6).trans ((if_neg c15).trans ((if_neg c24).trans (if_pos c33))))
          have e39 : n_X4_sheet_qx jC jR nf fx fy fz fu co ro = n_X1_layOut_qx jC jR nf fx fy fz fu co.toNatClampNeg ro.toNatClampNeg := by
            unfold n_X4_sheet_qx
            exact ((if_neg c6).trans ((if_neg c15).trans ((if_neg c24).trans (if_pos c33))))
          have e40 : n_X4_sheet_qy jC jR nf fx fy fz fu co ro = n_X1_layOut_qy jC jR nf fx fy fz fu co.toNatClampNeg ro.toNatClampNeg := by
            unfold n_X4_sheet_qy
            exact ((if_neg c6).trans ((if_neg c15).trans ((if_neg c24).trans (if_pos c33))))
          have e41 : n_X4_sheet_qz jC jR nf fx fy fz fu co ro = n_X1_layOut_qz jC jR nf fx fy fz fu co.toNatClampNeg ro.toNatClampNeg := by
            unfold n_X4_sheet_qz
            exact ((if_neg c6).trans ((if_neg c15).trans ((if_neg c24).trans (if_pos c33))))
          have e42 : n_X4_sheet_qu jC jR nf fx fy fz fu co ro = n_X1_layOut_qu jC jR nf fx fy fz fu co.toNatClampNeg ro.toNatClampNeg := by
            unfold n_X4_sheet_qu
            exact ((if_neg c6).trans ((if_neg c15).trans ((if_neg c24).trans (if_pos c33))))
          refine vx_ret ?_
          exact W.vret hx hb hr (fun t ht hW => ⟨⟨(), rfl, e35, ⟨(by rw [e36, e37, e38, e39, e40, e41, e42]; rw [ht]; exact hP), va_K.moved hW.alike hK, (by rw [e36, e37, e38, e39, e40, e41, e42]; exact hD)⟩⟩, hS.F ht⟩) hS.2.2 dX4_sheet_41
        · have e43 : k_X4_sheet jC jR nf fx fy fz fu co ro = 2 := by
            unfold k_X4_sheet
            exact ((if_neg c6).trans ((if_neg c15).trans ((if_neg c24).trans (if_neg c33))))
          have e44 : n_X4_sheet_qf_4 jC jR nf fx fy fz fu co ro = jC := by
            unfold n_X4_sheet_qf_4
            exact ((if_neg c6).trans ((if_neg c15).trans ((if_neg c24).trans (if_neg c33))))
          have e45 : n_X4_sheet_qf_5 jC jR nf fx fy fz fu co ro = jR := by
            unfold n_X4_sheet_qf_5
            exact ((if_neg c6).trans ((if_neg c15).trans ((if_neg c24).trans (if_neg c33))))
          have e46 : n_X4_sheet_qf_6 jC jR nf fx fy fz fu co ro = nf := by
            unfold n_X4_sheet_qf_6
            exact ((if_neg c6).trans ((if_neg c15).trans ((if_neg c24).trans (if_neg c33))))
          have e47 : n_X4_sheet_qx jC jR nf fx fy fz fu co ro = fx := by
            unfold n_X4_sheet_qx
            exact ((if_neg c6).trans ((if_neg c15).trans ((if_neg c24).trans (if_neg c33))))
          have e48 : n_X4_sheet_qy jC jR nf fx fy fz fu co ro = fy := by
            unfold n_X4_sheet_qy
            exact ((if_neg c6).trans ((if_neg c15).trans ((if_neg c24).trans (if_neg c33))))
          have e49 : n_X4_sheet_qz jC jR nf fx fy fz fu co ro = fz := by
            unfold n_X4_sheet_qz
            exact ((if_neg c6).trans ((if_neg c15).trans ((if_neg c24).trans (if_neg c33))))
          have e50 : n_X4_sheet_qu jC jR nf fx fy fz fu co ro = fu := by
            unfold n_X4_sheet_qu
            exact ((if_neg c6).trans ((if_neg c15).trans ((if_neg c24).trans (if_neg c33))))
          obtain ⟨sa, hstr⟩ := hE.str 136 "columns or rows is out of its range" (by decide)
          have hat : ∀ w ∈ vx_atS RX4 48 "java/lang/IllegalArgumentException" ["java/lang/RuntimeException", "java/lang/Exception"], w.before _ s = true := vx_hat (fun w h => hts w (List.mem_cons_of_mem _ (List.mem_append_right _ h))) (B := zBad2) (by decide +kernel) (hE.bad2 _)
          exact vx_throwS (text := "columns or rows is out of its range") (names := ["java/lang/RuntimeException", "java/lang/Exception"]) (A := A) hx hb hnt hown (by decide) (by decide) (hts (.classLink RX4 44 "java/lang/IllegalArgumentException") (List.mem_cons_of_mem _ (List.mem_append_left _ (List.mem_append_left _ (List.mem_append_left _ (List.mem_of_getElem? (i := 0) rfl)))))) (hts (.initialized "java/lang/IllegalArgumentException") (List.mem_cons_of_mem _ (List.mem_append_left _ (List.mem_append_left _ (List.mem_append_left _ (List.mem_of_getElem? (i := 1) rfl)))))) hstr hat (by decide +kernel) hE.1 hE.2.1 hS (hl.1.trans hml.symm) dX4_sheet_22 dX4_sheet_25 dX4_sheet_26 dX4_sheet_28 dX4_sheet_31 (fun x hx => (ht0 x hx).elim) (by decide) (by decide) (by decide) (by decide) hlocks (fun t hal9 hz9 hk9 => ⟨(), trivial, ⟨zX2 e43, (by rw [e44, e45, e46, e47, e48, e49, e50]; exact zkP hP hk9), va_K.moved hal9 hK, (by rw [e44, e45, e46, e47, e48, e49, e50]; exact hD)⟩, zF hS hz9 hk9⟩) hS.2.2 (by decide) (by decide)
def s_X4_foldColumns (nC : Nat) (nR : Nat) (nf : Int32) (fx : Nat → Int32) (fz : Nat → Int32) (fu : Nat → Int32) (b : Int32) : Int32 := (if k_X4_someTurned (s_X1_turnOverColumns nC nR nf fx fz fu b) = 0 then s_X4_someTurned (s_X1_turnOverColumns nC nR nf fx fz fu b) else 0)
def k_X4_foldColumns (nC : Nat) (nR : Nat) (nf : Int32) (fx : Nat → Int32) (fz : Nat → Int32) (fu : Nat → Int32) (b : Int32) : Nat := (if k_X4_someTurned (s_X1_turnOverColumns nC nR nf fx fz fu b) = 0 then 0 else k_X4_someTurned (s_X1_turnOverColumns nC nR nf fx fz fu b))
def n_X4_foldColumns_qf_6 (nC : Nat) (nR : Nat) (nf : Int32) (fx : Nat → Int32) (fz : Nat → Int32) (fu : Nat → Int32) (b : Int32) : Int32 := n_X1_turnOverColumns_qf_6 nC nR nf fx fz fu b
def n_X4_foldColumns_qx (nC : Nat) (nR : Nat) (nf : Int32) (fx : Nat → Int32) (fz : Nat → Int32) (fu : Nat → Int32) (b : Int32) : Nat → Int32 := n_X1_turnOverColumns_qx nC nR nf fx fz fu b
def n_X4_foldColumns_qz (nC : Nat) (nR : Nat) (nf : Int32) (fx : Nat → Int32) (fz : Nat → Int32) (fu : Nat → Int32) (b : Int32) : Nat → Int32 := n_X1_turnOverColumns_qz nC nR nf fx fz fu b
def n_X4_foldColumns_qu (nC : Nat) (nR : Nat) (nf : Int32) (fx : Nat → Int32) (fz : Nat → Int32) (fu : Nat → Int32) (b : Int32) : Nat → Int32 := n_X1_turnOverColumns_qu nC nR nf fx fz fu b
abbrev rm_X4_foldColumns : Room := { frames := 7, cells := 1, slots := 6, locals := 110 }
abbrev Qc_X4_foldColumns (D : va_G) (cI cZ cJ cD : ClassId) (qo : Nat) (qm : Nat) (qb : Nat) (qr : Nat) (qf : Nat) (qx : Nat) (qy : Nat) (qz : Nat) (qu : Nat) (nC : Nat) (nR : Nat) (nf : Int32) (fx : Nat → Int32) (fz : Nat → Int32) (fu : Nat → Int32) (b : Int32) (A : Nat → Prop) : Array Value → State → Outcome → State → Prop := va_Qi (fun (r : Int32) (_ : Unit) => k_X4_foldColumns nC nR nf fx fz fu b = 0 ∧ r = s_X4_foldColumns nC nR nf fx fz fu b) (zPost D cI cZ cJ cD A [(qo, .inr (4, [.ref qm, .ref qb, .ref qr, .ref qf])), (qf, .inr (1, [.ref qx, .ref qy, .ref qz, .ref qu, .int (nI nC), .int (nI nR), .int (n_X4_foldColumns_qf_6 nC nR nf fx fz fu b)])), (qx, .inl (cI, 36, .inl (n_X4_foldColumns_qx nC nR nf fx fz fu b))), (qz, .inl (cI, 36, .inl (n_X4_foldColumns_qz nC nR nf fx fz fu b))), (qu, .inl (cZ, 36, .inl (n_X4_foldColumns_qu nC nR nf fx fz fu b)))]) A
abbrev Xc_X4_foldColumns (D : va_G) (cI cZ cJ cD : ClassId) (qo : Nat) (qm : Nat) (qb : Nat) (qr : Nat) (qf : Nat) (qx : Nat) (qy : Nat) (qz : Nat) (qu : Nat) (nC : Nat) (nR : Nat) (nf : Int32) (fx : Nat → Int32) (fz : Nat → Int32) (fu : Nat → Int32) (b : Int32) (A : Nat → Prop) : String → State → State → Prop := vx_X (fun _ : Unit => True) (fun E u t => zX E (k_X4_foldColumns nC nR nf fx fz fu b) ∧ zPost D cI cZ cJ cD A [(qo, .inr (4, [.ref qm, .ref qb, .ref qr, .ref qf])), (qf, .inr (1, [.ref qx, .ref qy, .ref qz, .ref qu, .int (nI nC), .int (nI nR), .int (n_X4_foldColumns_qf_6 nC nR nf fx fz fu b)])), (qx, .inl (cI, 36, .inl (n_X4_foldColumns_qx nC nR nf fx fz fu b))), (qz, .inl (cI, 36, .inl (n_X4_foldColumns_qz nC nR nf fx fz fu b))), (qu, .inl (cZ, 36, .inl (n_X4_foldColumns_qu nC nR nf fx fz fu b)))] u t) A
set_option maxHeartbeats 4000000 in
set_option maxRecDepth 100000 in
theorem c_X4_foldColumns (l : Launch) (hnt : l.stackTraces = false) (D : va_G) (cI cZ cJ cD : ClassId) (qo : Nat) (qm : Nat) (qb : Nat) (qr : Nat) (qf : Nat) (qx : Nat) (qy : Nat) (qz : Nat) (qu : Nat) (nC : Nat) (nR : Nat) (nf : Int32) (fx : Nat → Int32) (fz : Nat → Int32) (fu : Nat → Int32) (b : Int32) (sz : Nat) (hN : nC * nR ≤ 36) : vx_Met l yX4_foldColumns wsX4_foldColumns rm_X4_foldColumns (va_Pc [.ref qo, .int b] (zPreWE D cI cZ cJ cD [(qo, .inr (4, [.ref qm, .ref qb, .ref qr, .ref qf])), (qf, .inr (1, [.ref qx, .ref qy, .ref qz, .ref qu, .int (nI nC), .int (nI nR), .int nf])), (qx, .inl (cI, 36, .inl fx)), (qz, .inl (cI, 36, .inl fz)), (qu, .inl (cZ, 36, .inl fu))] sz)) (Qc_X4_foldColumns D cI cZ cJ cD qo qm qb qr qf qx qy qz qu nC nR nf fx fz fu b (va_A [(qo, .inr (4, [.ref qm, .ref qb, .ref qr, .ref qf])), (qf, .inr (1, [.ref qx, .ref qy, .ref qz, .ref qu, .int (nI nC), .int (nI nR), .int nf])), (qx, .inl (cI, 36, .inl fx)), (qz, .inl (cI, 36, .inl fz)), (qu, .inl (cZ, 36, .inl fu))] sz)) (Xc_X4_foldColumns D cI cZ cJ cD qo qm qb qr qf qx qy qz qu nC nR nf fx fz fu b (va_A [(qo, .inr (4, [.ref qm, .ref qb, .ref qr, .ref qf])), (qf, .inr (1, [.ref qx, .ref qy, .ref qz, .ref qu, .int (nI nC), .int (nI nR), .int nf])), (qx, .inl (cI, 36, .inl fx)), (qz, .inl (cI, 36, .inl fz)), (qu, .inl (cZ, 36, .inl fu))] sz)) 1 6 (va_A [(qo, .inr (4, [.ref qm, .ref qb, .ref qr, .ref qf])), (qf, .inr (1, [.ref qx, .ref qy, .ref qz, .ref qu, .int (nI nC), .int (nI nR), .int nf])), (qx, .inl (cI, 36, .inl fx)), (qz, .inl (cI, 36, .inl fz)), (qu, .inl (cZ, 36, .inl fu))] sz) := by
  refine vx_ofW (cc := cX4_foldColumns) (maxL := 2) (ret := (some .int)) (by decide) rfl ?_
  intro p e s m args below meth c s₁ B hml ht0 hv
  obtain ⟨rfl, hsz, hP, hK, hD0, hE⟩ := hv
  have hx := B.exec
  have hb := B.bytes
  have hr := B.returns
  have hts := atoms_spec (ws := wsX4_foldColumns) B.pre
  have hown : s.vm.findClass RX4 = some m.cls := findClass_of_methodNamed B.named
  have hlocks := B.notSynchronized
  subst hsz
  have hD := hD0.self (sz := s.heap.size)
  generalize hAe : va_A [(qo, .inr (4, [.ref qm, .ref qb, .ref qr, .ref qf])), (qf, .inr (1, [.ref qx, .ref qy, .ref qz, .ref qu, .int (nI nC), .int (nI nR), .int nf])), (qx, .inl (cI, 36, .inl fx)), (qz, .inl (cI, 36, .inl fz)), (qu, .inl (cZ, 36, .inl fu))] s.heap.size = A at hE hD ⊢
  have hA : ∀ q : Nat, s.heap.size ≤ q → A q := fun q h => by rw [← hAe]; exact Or.inr h
  have hS : va_S A s.heap s.heap [] := va_S.rf
  have hl := lv_entry ([.ref qo, .int b]) (n := 2) (Nat.le_of_ble_eq_true rfl)
  rw [lg_entry_eq]
  generalize (lg_sl ([.ref qo, .int b]) ++ List.replicate (2 - (lg_sl ([.ref qo, .int b])).length) Slot.unset).toArray = ls at hl ⊢
  have hl : lv_has ls 2 [(0, .ref qo), (1, .int b)] := hl
  have hP : va_P D vwCl [(qo, .inr (4, [.ref qm, .ref qb, .ref qr, .ref qf])), (qf, .inr (1, [.ref qx, .ref qy, .ref qz, .ref qu, .int (nI nC), .int (nI nR), .int nf])), (qx, .inl (cI, 36, .inl fx)), (qz, .inl (cI, 36, .inl fz)), (qu, .inl (cZ, 36, .inl fu))] s.heap := hP
  have hP := hP
  refine lv_aload_n hx hb dX4_foldColumns_0 rfl (lv_at hl 0 rfl) ?_
  refine va_get (D := D) (ci := 4) (v := .ref qf) (C := RX4) (T := TX4) (N := 4) hx hb hts (fun w h => List.mem_cons_of_mem _ (List.mem_append_left _ (List.mem_append_left _ (List.mem_append_right _ h)))) hown hK hP 0 rfl rfl 3 (by decide) (hts (.fieldLink RX4 33 "AtlasFolder" "stack" "LAtlasFolder$FoldedSheet;") (List.mem_cons_of_mem _ (List.mem_append_left _ (List.mem_append_left _ (List.mem_append_left _ (List.mem_append_left _ (List.mem_of_getElem? (i := 0) rfl))))))) (fun _ h9 => h9) rfl dX4_foldColumns_1 ?_
  refine lv_iload_n hx hb dX4_foldColumns_4 rfl (lv_at hl 1 rfl) ?_
  have hPc := hP.sub (ws' := [(qf, .inr (1, [.ref qx, .ref qy, .ref qz, .ref qu, .int (nI nC), .int (nI nR), .int nf])), (qx, .inl (cI, 36, .inl fx)), (qz, .inl (cI, 36, .inl fz)), (qu, .inl (cZ, 36, .inl fu))]) [1, 2, 3, 4] rfl
  have hDc := hD.sub (ws' := [(qf, .inr (1, [.ref qx, .ref qy, .ref qz, .ref qu, .int (nI nC), .int (nI nR), .int nf])), (qx, .inl (cI, 36, .inl fx)), (qz, .inl (cI, 36, .inl fz)), (qu, .inl (cZ, 36, .inl fu))]) [1, 2, 3, 4] (by decide) rfl
  have hFc := va_free (wc := [(qf, .inr (1, [.ref qx, .ref qy, .ref qz, .ref qu, .int (nI nC), .int (nI nR), .int nf])), (qx, .inl (cI, 36, .inl fx)), (qz, .inl (cI, 36, .inl fz)), (qu, .inl (cZ, 36, .inl fu))]) hD hS hA [1, 2, 3, 4] rfl
  refine va_calli (va_runV (As := [.int b]) (rest := []) ⟨hx, hb, hml, hown, hts⟩ (c_X1_turnOverColumns l D cI cZ cJ cD qf qx qy qz qu nC nR nf fx fz fu b s.heap.size (by assumption)) (cwV 1 hts gX4_foldColumns_X1_turnOverColumns rfl rfl rfl (by decide +kernel) ⟨Nat.le_of_ble_eq_true rfl, Nat.le_of_ble_eq_true rfl⟩) ⟨zblindW, va_recv hK hP (ci := 1) (q0 := 1) rfl rfl, (fun U hU hW => ⟨rfl, by rw [hU], by rw [hU]; exact hPc, va_K.moved hW.alike hK, hDc.weaken (fun _ _ _ _ => trivial)⟩)⟩ rfl rfl hl.1 rfl (lv_room (Nat.le_of_ble_eq_true rfl)) dX4_foldColumns_5 ⟨Nat.le_of_ble_eq_true rfl, Nat.le_of_ble_eq_true rfl⟩) hS (fun q _ h => hFc q h) hFc (fun r5 u t H locs ht hvm hw hB hz1 hk1 hS => ?_)
  rw [hw]
  obtain ⟨hP1, hK1, hD1⟩ := hB
  rw [ht] at hP1
  obtain ⟨hP, hD⟩ := va_join (wr := [(qo, .inr (4, [.ref qm, .ref qb, .ref qr, .ref qf]))]) (w1 := [(qf, .inr (1, [.ref qx, .ref qy, .ref qz, .ref qu, .int (nI nC), .int (nI nR), .int (n_X1_turnOverColumns_qf_6 nC nR nf fx fz fu b)])), (qx, .inl (cI, 36, .inl (n_X1_turnOverColumns_qx nC nR nf fx fz fu b))), (qz, .inl (cI, 36, .inl (n_X1_turnOverColumns_qz nC nR nf fx fz fu b))), (qu, .inl (cZ, 36, .inl (n_X1_turnOverColumns_qu nC nR nf fx fz fu b)))]) hP hD [1, 2, 3, 4] [0] rfl rfl (by decide) (by decide) hk1 hFc hP1 hD1
  have hP := hP.sub (ws' := [(qo, .inr (4, [.ref qm, .ref qb, .ref qr, .ref qf])), (qf, .inr (1, [.ref qx, .ref qy, .ref qz, .ref qu, .int (nI nC), .int (nI nR), .int (n_X1_turnOverColumns_qf_6 nC nR nf fx fz fu b)])), (qx, .inl (cI, 36, .inl (n_X1_turnOverColumns_qx nC nR nf fx fz fu b))), (qz, .inl (cI, 36, .inl (n_X1_turnOverColumns_qz nC nR nf fx fz fu b))), (qu, .inl (cZ, 36, .inl (n_X1_turnOverColumns_qu nC nR nf fx fz fu b)))]) [0, 1, 2, 3, 4] rfl
  have hD := hD.sub (ws' := [(qo, .inr (4, [.ref qm, .ref qb, .ref qr, .ref qf])), (qf, .inr (1, [.ref qx, .ref qy, .ref qz, .ref qu, .int (nI nC), .int (nI nR), .int (n_X1_turnOverColumns_qf_6 nC nR nf fx fz fu b)])), (qx, .inl (cI, 36, .inl (n_X1_turnOverColumns_qx nC nR nf fx fz fu b))), (qz, .inl (cI, 36, .inl (n_X1_turnOverColumns_qz nC nR nf fx fz fu b))), (qu, .inl (cZ, 36, .inl (n_X1_turnOverColumns_qu nC nR nf fx fz fu b)))]) [0, 1, 2, 3, 4] (by decide) rfl
  refine vx_calli (vx_runS (As := [.int (s_X1_turnOverColumns nC nR nf fx fz fu b)]) (rest := []) ⟨hx, hb, hml, hown, hts⟩ (c_X4_someTurned l hnt D cI cZ cJ cD (s_X1_turnOverColumns nC nR nf fx fz fu b) ) (va_cwS 1 hts gX4_foldColumns_X4_someTurned rfl rfl rfl (by decide +kernel) ⟨Nat.le_of_ble_eq_true rfl, Nat.le_of_ble_eq_true rfl⟩) ⟨zblindE, (fun U hU hW => ⟨rfl, by rw [hU]; exact hP.sub (ws' := []) [] rfl, va_K.moved hW.alike hK, zEnv.go hE hS (fun q h => h.elim) hU hW⟩)⟩ rfl rfl hl.1 rfl (lv_room (Nat.le_of_ble_eq_true rfl)) dX4_foldColumns_8 ⟨Nat.le_of_ble_eq_true rfl, Nat.le_of_ble_eq_true rfl⟩) hS (fun q _ h => h.elim) (fun q h => h.elim) (fun q _ h => h.elim) (fun E ce q9 u t H locs ht hvm hpx hB hz1 hk1 hS hq9 hce hcl => ?_) (fun r6 u t H locs ht hvm hw hB hz1 hk1 hS => ?_)
  · have hX := hB
    have hP := zk hP hk1
    have c7 : ¬ k_X4_someTurned (s_X1_turnOverColumns nC nR nf fx fz fu b) = 0 := zX_ne hX
    have e8 : k_X4_foldColumns nC nR nf fx fz fu b = k_X4_someTurned (s_X1_turnOverColumns nC nR nf fx fz fu b) := by
      unfold k_X4_foldColumns
      exact (if_neg c7)
    have e9 : n_X4_foldColumns_qf_6 nC nR nf fx fz fu b = n_X1_turnOverColumns_qf_6 nC nR nf fx fz fu b := rfl
    have e10 : n_X4_foldColumns_qx nC nR nf fx fz fu b = n_X1_turnOverColumns_qx nC nR nf fx fz fu b := rfl
    have e11 : n_X4_foldColumns_qz nC nR nf fx fz fu b = n_X1_turnOverColumns_qz nC nR nf fx fz fu b := rfl
    have e12 : n_X4_foldColumns_qu nC nR nf fx fz fu b = n_X1_turnOverColumns_qu nC nR nf fx fz fu b := rfl
    exact vx_out (fun x hx => (ht0 x hx).elim) hlocks hq9 hce hcl (fun t ht9 hal9 => ⟨(), trivial, ⟨(by rw [e8]; exact hX), (by rw [e9, e10, e11, e12]; rw [ht9]; exact hP), va_K.moved hal9 hK, (by rw [e9, e10, e11, e12]; exact hD)⟩, hS.F ht9⟩) hS.2.2 (by decide) (by decide)
  · obtain ⟨c13, hw⟩ := hw
    rw [hw]
    have hP := zk hP hk1
    refine W.widen (k := 1) (n := 6) (by decide) (by decide) ?_
    have e14 : s_X4_foldColumns nC nR nf fx fz fu b = s_X4_someTurned (s_X1_turnOverColumns nC nR nf fx fz fu b) := by
      unfold s_X4_foldColumns
      exact (if_pos c13)
    have e15 : k_X4_foldColumns nC nR nf fx fz fu b = 0 := by
      unfold k_X4_foldColumns
      exact (if_pos c13)
    have e16 : n_X4_foldColumns_qf_6 nC nR nf fx fz fu b = n_X1_turnOverColumns_qf_6 nC nR nf fx fz fu b := rfl
    have e17 : n_X4_foldColumns_qx nC nR nf fx fz fu b = n_X1_turnOverColumns_qx nC nR nf fx fz fu b := rfl
    have e18 : n_X4_foldColumns_qz nC nR nf fx fz fu b = n_X1_turnOverColumns_qz nC nR nf fx fz fu b := rfl
    have e19 : n_X4_foldColumns_qu nC nR nf fx fz fu b = n_X1_turnOverColumns_qu nC nR nf fx fz fu b := rfl
    refine vx_ret ?_
    exact W.iret (v := (s_X4_someTurned (s_X1_turnOverColumns nC nR nf fx fz fu b))) hx hb hr (fun t ht hW => ⟨⟨_, (), rfl, ⟨e15, e14.symm⟩, ⟨(by rw [e16, e17, e18, e19]; rw [ht]; exact hP), va_K.moved hW.alike hK, (by rw [e16, e17, e18, e19]; exact hD)⟩⟩, hS.F ht⟩) hS.2.2 dX4_foldColumns_11
def s_X4_foldRows (nC : Nat) (nR : Nat) (nf : Int32) (fy : Nat → Int32) (fz : Nat → Int32) (fu : Nat → Int32) (b : Int32) : Int32 := (if k_X4_someTurned (s_X1_turnOverRows nC nR nf fy fz fu b) = 0 then s_X4_someTurned (s_X1_turnOverRows nC nR nf fy fz fu b) else 0)
def k_X4_foldRows (nC : Nat) (nR : Nat) (nf : Int32) (fy : Nat → Int32) (fz : Nat → Int32) (fu : Nat → Int32) (b : Int32) : Nat := (if k_X4_someTurned (s_X1_turnOverRows nC nR nf fy fz fu b) = 0 then 0 else k_X4_someTurned (s_X1_turnOverRows nC nR nf fy fz fu b))
def n_X4_foldRows_qf_6 (nC : Nat) (nR : Nat) (nf : Int32) (fy : Nat → Int32) (fz : Nat → Int32) (fu : Nat → Int32) (b : Int32) : Int32 := n_X1_turnOverRows_qf_6 nC nR nf fy fz fu b
def n_X4_foldRows_qy (nC : Nat) (nR : Nat) (nf : Int32) (fy : Nat → Int32) (fz : Nat → Int32) (fu : Nat → Int32) (b : Int32) : Nat → Int32 := n_X1_turnOverRows_qy nC nR nf fy fz fu b
def n_X4_foldRows_qz (nC : Nat) (nR : Nat) (nf : Int32) (fy : Nat → Int32) (fz : Nat → Int32) (fu : Nat → Int32) (b : Int32) : Nat → Int32 := n_X1_turnOverRows_qz nC nR nf fy fz fu b
def n_X4_foldRows_qu (nC : Nat) (nR : Nat) (nf : Int32) (fy : Nat → Int32) (fz : Nat → Int32) (fu : Nat → Int32) (b : Int32) : Nat → Int32 := n_X1_turnOverRows_qu nC nR nf fy fz fu b
abbrev rm_X4_foldRows : Room := { frames := 7, cells := 1, slots := 6, locals := 110 }
abbrev Qc_X4_foldRows (D : va_G) (cI cZ cJ cD : ClassId) (qo : Nat) (qm : Nat) (qb : Nat) (qr : Nat) (qf : Nat) (qx : Nat) (qy : Nat) (qz : Nat) (qu : Nat) (nC : Nat) (nR : Nat) (nf : Int32) (fy : Nat → Int32) (fz : Nat → Int32) (fu : Nat → Int32) (b : Int32) (A : Nat → Prop) : Array Value → State → Outcome → State → Prop := va_Qi (fun (r : Int32) (_ : Unit) => k_X4_foldRows nC nR nf fy fz fu b = 0 ∧ r = s_X4_foldRows nC nR nf fy fz fu b) (zPost D cI cZ cJ cD A [(qo, .inr (4, [.ref qm, .ref qb, .ref qr, .ref qf])), (qf, .inr (1, [.ref qx, .ref qy, .ref qz, .ref qu, .int (nI nC), .int (nI nR), .int (n_X4_foldRows_qf_6 nC nR nf fy fz fu b)])), (qy, .inl (cI, 36, .inl (n_X4_foldRows_qy nC nR nf fy fz fu b))), (qz, .inl (cI, 36, .inl (n_X4_foldRows_qz nC nR nf fy fz fu b))), (qu, .inl (cZ, 36, .inl (n_X4_foldRows_qu nC nR nf fy fz fu b)))]) A
abbrev Xc_X4_foldRows (D : va_G) (cI cZ cJ cD : ClassId) (qo : Nat) (qm : Nat) (qb : Nat) (qr : Nat) (qf : Nat) (qx : Nat) (qy : Nat) (qz : Nat) (qu : Nat) (nC : Nat) (nR : Nat) (nf : Int32) (fy : Nat → Int32) (fz : Nat → Int32) (fu : Nat → Int32) (b : Int32) (A : Nat → Prop) : String → State → State → Prop := vx_X (fun _ : Unit => True) (fun E u t => zX E (k_X4_foldRows nC nR nf fy fz fu b) ∧ zPost D cI cZ cJ cD A [(qo, .inr (4, [.ref qm, .ref qb, .ref qr, .ref qf])), (qf, .inr (1, [.ref qx, .ref qy, .ref qz, .ref qu, .int (nI nC), .int (nI nR), .int (n_X4_foldRows_qf_6 nC nR nf fy fz fu b)])), (qy, .inl (cI, 36, .inl (n_X4_foldRows_qy nC nR nf fy fz fu b))), (qz, .inl (cI, 36, .inl (n_X4_foldRows_qz nC nR nf fy fz fu b))), (qu, .inl (cZ, 36, .inl (n_X4_foldRows_qu nC nR nf fy fz fu b)))] u t) A
set_option maxHeartbeats 4000000 in
set_option maxRecDepth 100000 in
theorem c_X4_foldRows (l : Launch) (hnt : l.stackTraces = false) (D : va_G) (cI cZ cJ cD : ClassId) (qo : Nat) (qm : Nat) (qb : Nat) (qr : Nat) (qf : Nat) (qx : Nat) (qy : Nat) (qz : Nat) (qu : Nat) (nC : Nat) (nR : Nat) (nf : Int32) (fy : Nat → Int32) (fz : Nat → Int32) (fu : Nat → Int32) (b : Int32) (sz : Nat) (hN : nC * nR ≤ 36) : vx_Met l yX4_foldRows wsX4_foldRows rm_X4_foldRows (va_Pc [.ref qo, .int b] (zPreWE D cI cZ cJ cD [(qo, .inr (4, [.ref qm, .ref qb, .ref qr, .ref qf])), (qf, .inr (1, [.ref qx, .ref qy, .ref qz, .ref qu, .int (nI nC), .int (nI nR), .int nf])), (qy, .inl (cI, 36, .inl fy)), (qz, .inl (cI, 36, .inl fz)), (qu, .inl (cZ, 36, .inl fu))] sz)) (Qc_X4_foldRows D cI cZ cJ cD qo qm qb qr qf qx qy qz qu nC nR nf fy fz fu b (va_A [(qo, .inr (4, [.ref qm, .ref qb, .ref qr, .ref qf])), (qf, .inr (1, [.ref qx, .ref qy, .ref qz, .ref qu, .int (nI nC), .int (nI nR), .int nf])), (qy, .inl (cI, 36, .inl fy)), (qz, .inl (cI, 36, .inl fz)), (qu, .inl (cZ, 36, .inl fu))] sz)) (Xc_X4_foldRows D cI cZ cJ cD qo qm qb qr qf qx qy qz qu nC nR nf fy fz fu b (va_A [(qo, .inr (4, [.ref qm, .ref qb, .ref qr, .ref qf])), (qf, .inr (1, [.ref qx, .ref qy, .ref qz, .ref qu, .int (nI nC), .int (nI nR), .int nf])), (qy, .inl (cI, 36, .inl fy)), (qz, .inl (cI, 36, .inl fz)), (qu, .inl (cZ, 36, .inl fu))] sz)) 1 6 (va_A [(qo, .inr (4, [.ref qm, .ref qb, .ref qr, .ref qf])), (qf, .inr (1, [.ref qx, .ref qy, .ref qz, .ref qu, .int (nI nC), .int (nI nR), .int nf])), (qy, .inl (cI, 36, .inl fy)), (qz, .inl (cI, 36, .inl fz)), (qu, .inl (cZ, 36, .inl fu))] sz) := by
  refine vx_ofW (cc := cX4_foldRows) (maxL := 2) (ret := (some .int)) (by decide) rfl ?_
  intro p e s m args below meth c s₁ B hml ht0 hv
  obtain ⟨rfl, hsz, hP, hK, hD0, hE⟩ := hv
  have hx := B.exec
  have hb := B.bytes
  have hr := B.returns
  have hts := atoms_spec (ws := wsX4_foldRows) B.pre
  have hown : s.vm.findClass RX4 = some m.cls := findClass_of_methodNamed B.named
  have hlocks := B.notSynchronized
  subst hsz
  have hD := hD0.self (sz := s.heap.size)
  generalize hAe : va_A [(qo, .inr (4, [.ref qm, .ref qb, .ref qr, .ref qf])), (qf, .inr (1, [.ref qx, .ref qy, .ref qz, .ref qu, .int (nI nC), .int (nI nR), .int nf])), (qy, .inl (cI, 36, .inl fy)), (qz, .inl (cI, 36, .inl fz)), (qu, .inl (cZ, 36, .inl fu))] s.heap.size = A at hE hD ⊢
  have hA : ∀ q : Nat, s.heap.size ≤ q → A q := fun q h => by rw [← hAe]; exact Or.inr h
  have hS : va_S A s.heap s.heap [] := va_S.rf
  have hl := lv_entry ([.ref qo, .int b]) (n := 2) (Nat.le_of_ble_eq_true rfl)
  rw [lg_entry_eq]
  generalize (lg_sl ([.ref qo, .int b]) ++ List.replicate (2 - (lg_sl ([.ref qo, .int b])).length) Slot.unset).toArray = ls at hl ⊢
  have hl : lv_has ls 2 [(0, .ref qo), (1, .int b)] := hl
  have hP : va_P D vwCl [(qo, .inr (4, [.ref qm, .ref qb, .ref qr, .ref qf])), (qf, .inr (1, [.ref qx, .ref qy, .ref qz, .ref qu, .int (nI nC), .int (nI nR), .int nf])), (qy, .inl (cI, 36, .inl fy)), (qz, .inl (cI, 36, .inl fz)), (qu, .inl (cZ, 36, .inl fu))] s.heap := hP
  have hP := hP
  refine lv_aload_n hx hb dX4_foldRows_0 rfl (lv_at hl 0 rfl) ?_
  refine va_get (D := D) (ci := 4) (v := .ref qf) (C := RX4) (T := TX4) (N := 4) hx hb hts (fun w h => List.mem_cons_of_mem _ (List.mem_append_left _ (List.mem_append_left _ (List.mem_append_right _ h)))) hown hK hP 0 rfl rfl 3 (by decide) (hts (.fieldLink RX4 33 "AtlasFolder" "stack" "LAtlasFolder$FoldedSheet;") (List.mem_cons_of_mem _ (List.mem_append_left _ (List.mem_append_left _ (List.mem_append_left _ (List.mem_append_left _ (List.mem_of_getElem? (i := 0) rfl))))))) (fun _ h9 => h9) rfl dX4_foldRows_1 ?_
  refine lv_iload_n hx hb dX4_foldRows_4 rfl (lv_at hl 1 rfl) ?_
  have hPc := hP.sub (ws' := [(qf, .inr (1, [.ref qx, .ref qy, .ref qz, .ref qu, .int (nI nC), .int (nI nR), .int nf])), (qy, .inl (cI, 36, .inl fy)), (qz, .inl (cI, 36, .inl fz)), (qu, .inl (cZ, 36, .inl fu))]) [1, 2, 3, 4] rfl
  have hDc := hD.sub (ws' := [(qf, .inr (1, [.ref qx, .ref qy, .ref qz, .ref qu, .int (nI nC), .int (nI nR), .int nf])), (qy, .inl (cI, 36, .inl fy)), (qz, .inl (cI, 36, .inl fz)), (qu, .inl (cZ, 36, .inl fu))]) [1, 2, 3, 4] (by decide) rfl
  have hFc := va_free (wc := [(qf, .inr (1, [.ref qx, .ref qy, .ref qz, .ref qu, .int (nI nC), .int (nI nR), .int nf])), (qy, .inl (cI, 36, .inl fy)), (qz, .inl (cI, 36, .inl fz)), (qu, .inl (cZ, 36, .inl fu))]) hD hS hA [1, 2, 3, 4] rfl
  refine va_calli (va_runV (As := [.int b]) (rest := []) ⟨hx, hb, hml, hown, hts⟩ (c_X1_turnOverRows l D cI cZ cJ cD qf qx qy qz qu nC nR nf fy fz fu b s.heap.size (by assumption)) (cwV 1 hts gX4_foldRows_X1_turnOverRows rfl rfl rfl (by decide +kernel) ⟨Nat.le_of_ble_eq_true rfl, Nat.le_of_ble_eq_true rfl⟩) ⟨zblindW, va_recv hK hP (ci := 1) (q0 := 1) rfl rfl, (fun U hU hW => ⟨rfl, by rw [hU], by rw [hU]; exact hPc, va_K.moved hW.alike hK, hDc.weaken (fun _ _ _ _ => trivial)⟩)⟩ rfl rfl hl.1 rfl (lv_room (Nat.le_of_ble_eq_true rfl)) dX4_foldRows_5 ⟨Nat.le_of_ble_eq_true rfl, Nat.le_of_ble_eq_true rfl⟩) hS (fun q _ h => hFc q h) hFc (fun r5 u t H locs ht hvm hw hB hz1 hk1 hS => ?_)
  rw [hw]
  obtain ⟨hP1, hK1, hD1⟩ := hB
  rw [ht] at hP1
  obtain ⟨hP, hD⟩ := va_join (wr := [(qo, .inr (4, [.ref qm, .ref qb, .ref qr, .ref qf]))]) (w1 := [(qf, .inr (1, [.ref qx, .ref qy, .ref qz, .ref qu, .int (nI nC), .int (nI nR), .int (n_X1_turnOverRows_qf_6 nC nR nf fy fz fu b)])), (qy, .inl (cI, 36, .inl (n_X1_turnOverRows_qy nC nR nf fy fz fu b))), (qz, .inl (cI, 36, .inl (n_X1_turnOverRows_qz nC nR nf fy fz fu b))), (qu, .inl (cZ, 36, .inl (n_X1_turnOverRows_qu nC nR nf fy fz fu b)))]) hP hD [1, 2, 3, 4] [0] rfl rfl (by decide) (by decide) hk1 hFc hP1 hD1
  have hP := hP.sub (ws' := [(qo, .inr (4, [.ref qm, .ref qb, .ref qr, .ref qf])), (qf, .inr (1, [.ref qx, .ref qy, .ref qz, .ref qu, .int (nI nC), .int (nI nR), .int (n_X1_turnOverRows_qf_6 nC nR nf fy fz fu b)])), (qy, .inl (cI, 36, .inl (n_X1_turnOverRows_qy nC nR nf fy fz fu b))), (qz, .inl (cI, 36, .inl (n_X1_turnOverRows_qz nC nR nf fy fz fu b))), (qu, .inl (cZ, 36, .inl (n_X1_turnOverRows_qu nC nR nf fy fz fu b)))]) [0, 1, 2, 3, 4] rfl
  have hD := hD.sub (ws' := [(qo, .inr (4, [.ref qm, .ref qb, .ref qr, .ref qf])), (qf, .inr (1, [.ref qx, .ref qy, .ref qz, .ref qu, .int (nI nC), .int (nI nR), .int (n_X1_turnOverRows_qf_6 nC nR nf fy fz fu b)])), (qy, .inl (cI, 36, .inl (n_X1_turnOverRows_qy nC nR nf fy fz fu b))), (qz, .inl (cI, 36, .inl (n_X1_turnOverRows_qz nC nR nf fy fz fu b))), (qu, .inl (cZ, 36, .inl (n_X1_turnOverRows_qu nC nR nf fy fz fu b)))]) [0, 1, 2, 3, 4] (by decide) rfl
  refine vx_calli (vx_runS (As := [.int (s_X1_turnOverRows nC nR nf fy fz fu b)]) (rest := []) ⟨hx, hb, hml, hown, hts⟩ (c_X4_someTurned l hnt D cI cZ cJ cD (s_X1_turnOverRows nC nR nf fy fz fu b) ) (va_cwS 1 hts gX4_foldRows_X4_someTurned rfl rfl rfl (by decide +kernel) ⟨Nat.le_of_ble_eq_true rfl, Nat.le_of_ble_eq_true rfl⟩) ⟨zblindE, (fun U hU hW => ⟨rfl, by rw [hU]; exact hP.sub (ws' := []) [] rfl, va_K.moved hW.alike hK, zEnv.go hE hS (fun q h => h.elim) hU hW⟩)⟩ rfl rfl hl.1 rfl (lv_room (Nat.le_of_ble_eq_true rfl)) dX4_foldRows_8 ⟨Nat.le_of_ble_eq_true rfl, Nat.le_of_ble_eq_true rfl⟩) hS (fun q _ h => h.elim) (fun q h => h.elim) (fun q _ h => h.elim) (fun E ce q9 u t H locs ht hvm hpx hB hz1 hk1 hS hq9 hce hcl => ?_) (fun r6 u t H locs ht hvm hw hB hz1 hk1 hS => ?_)
  · have hX := hB
    have hP := zk hP hk1
    have c7 : ¬ k_X4_someTurned (s_X1_turnOverRows nC nR nf fy fz fu b) = 0 := zX_ne hX
    have e8 : k_X4_foldRows nC nR nf fy fz fu b = k_X4_someTurned (s_X1_turnOverRows nC nR nf fy fz fu b) := by
      unfold k_X4_foldRows
      exact (if_neg c7)
    have e9 : n_X4_foldRows_qf_6 nC nR nf fy fz fu b = n_X1_turnOverRows_qf_6 nC nR nf fy fz fu b := rfl
    have e10 : n_X4_foldRows_qy nC nR nf fy fz fu b = n_X1_turnOverRows_qy nC nR nf fy fz fu b := rfl
    have e11 : n_X4_foldRows_qz nC nR nf fy fz fu b = n_X1_turnOverRows_qz nC nR nf fy fz fu b := rfl
    have e12 : n_X4_foldRows_qu nC nR nf fy fz fu b = n_X1_turnOverRows_qu nC nR nf fy fz fu b := rfl
    exact vx_out (fun x hx => (ht0 x hx).elim) hlocks hq9 hce hcl (fun t ht9 hal9 => ⟨(), trivial, ⟨(by rw [e8]; exact hX), (by rw [e9, e10, e11, e12]; rw [ht9]; exact hP), va_K.moved hal9 hK, (by rw [e9, e10, e11, e12]; exact hD)⟩, hS.F ht9⟩) hS.2.2 (by decide) (by decide)
  · obtain ⟨c13, hw⟩ := hw
    rw [hw]
    have hP := zk hP hk1
    refine W.widen (k := 1) (n := 6) (by decide) (by decide) ?_
    have e14 : s_X4_foldRows nC nR nf fy fz fu b = s_X4_someTurned (s_X1_turnOverRows nC nR nf fy fz fu b) := by
      unfold s_X4_foldRows
      exact (if_pos c13)
    have e15 : k_X4_foldRows nC nR nf fy fz fu b = 0 := by
      unfold k_X4_foldRows
      exact (if_pos c13)
    have e16 : n_X4_foldRows_qf_6 nC nR nf fy fz fu b = n_X1_turnOverRows_qf_6 nC nR nf fy fz fu b := rfl
    have e17 : n_X4_foldRows_qy nC nR nf fy fz fu b = n_X1_turnOverRows_qy nC nR nf fy fz fu b := rfl
    have e18 : n_X4_foldRows_qz nC nR nf fy fz fu b = n_X1_turnOverRows_qz nC nR nf fy fz fu b := rfl
    have e19 : n_X4_foldRows_qu nC nR nf fy fz fu b = n_X1_turnOverRows_qu nC nR nf fy fz fu b := rfl
    refine vx_ret ?_
    exact W.iret (v := (s_X4_someTurned (s_X1_turnOverRows nC nR nf fy fz fu b))) hx hb hr (fun t ht hW => ⟨⟨_, (), rfl, ⟨e15, e14.symm⟩, ⟨(by rw [e16, e17, e18, e19]; rw [ht]; exact hP), va_K.moved hW.alike hK, (by rw [e16, e17, e18, e19]; exact hD)⟩⟩, hS.F ht⟩) hS.2.2 dX4_foldRows_11
def s_X4_unfold (nC : Nat) (nR : Nat) (nf : Int32) (fx : Nat → Int32) (fy : Nat → Int32) (fz : Nat → Int32) (fu : Nat → Int32) : Int32 := s_X1_spread nC nR nf fx fy fz fu
def n_X4_unfold_qf_6 (nC : Nat) (nR : Nat) (nf : Int32) (fx : Nat → Int32) (fy : Nat → Int32) (fz : Nat → Int32) (fu : Nat → Int32) : Int32 := n_X1_spread_qf_6 nC nR nf fx fy fz fu
def n_X4_unfold_qx (nC : Nat) (nR : Nat) (nf : Int32) (fx : Nat → Int32) (fy : Nat → Int32) (fz : Nat → Int32) (fu : Nat → Int32) : Nat → Int32 := n_X1_spread_qx nC nR nf fx fy fz fu
def n_X4_unfold_qy (nC : Nat) (nR : Nat) (nf : Int32) (fx : Nat → Int32) (fy : Nat → Int32) (fz : Nat → Int32) (fu : Nat → Int32) : Nat → Int32 := n_X1_spread_qy nC nR nf fx fy fz fu
def n_X4_unfold_qz (nC : Nat) (nR : Nat) (nf : Int32) (fx : Nat → Int32) (fy : Nat → Int32) (fz : Nat → Int32) (fu : Nat → Int32) : Nat → Int32 := n_X1_spread_qz nC nR nf fx fy fz fu
def n_X4_unfold_qu (nC : Nat) (nR : Nat) (nf : Int32) (fx : Nat → Int32) (fy : Nat → Int32) (fz : Nat → Int32) (fu : Nat → Int32) : Nat → Int32 := n_X1_spread_qu nC nR nf fx fy fz fu
abbrev rm_X4_unfold : Room := { frames := 2, cells := 0, slots := 0, locals := 45 }
abbrev Qc_X4_unfold (D : va_G) (cI cZ cJ cD : ClassId) (qo : Nat) (qm : Nat) (qb : Nat) (qr : Nat) (qf : Nat) (qx : Nat) (qy : Nat) (qz : Nat) (qu : Nat) (nC : Nat) (nR : Nat) (nf : Int32) (fx : Nat → Int32) (fy : Nat → Int32) (fz : Nat → Int32) (fu : Nat → Int32) (A : Nat → Prop) : Array Value → State → Outcome → State → Prop := va_Qi (fun (r : Int32) (_ : Unit) => r = s_X4_unfold nC nR nf fx fy fz fu) (zPost D cI cZ cJ cD A [(qo, .inr (4, [.ref qm, .ref qb, .ref qr, .ref qf])), (qf, .inr (1, [.ref qx, .ref qy, .ref qz, .ref qu, .int (nI nC), .int (nI nR), .int (n_X4_unfold_qf_6 nC nR nf fx fy fz fu)])), (qx, .inl (cI, 36, .inl (n_X4_unfold_qx nC nR nf fx fy fz fu))), (qy, .inl (cI, 36, .inl (n_X4_unfold_qy nC nR nf fx fy fz fu))), (qz, .inl (cI, 36, .inl (n_X4_unfold_qz nC nR nf fx fy fz fu))), (qu, .inl (cZ, 36, .inl (n_X4_unfold_qu nC nR nf fx fy fz fu)))]) A
set_option maxHeartbeats 4000000 in
set_option maxRecDepth 100000 in
theorem c_X4_unfold (l : Launch) (D : va_G) (cI cZ cJ cD : ClassId) (qo : Nat) (qm : Nat) (qb : Nat) (qr : Nat) (qf : Nat) (qx : Nat) (qy : Nat) (qz : Nat) (qu : Nat) (nC : Nat) (nR : Nat) (nf : Int32) (fx : Nat → Int32) (fy : Nat → Int32) (fz : Nat → Int32) (fu : Nat → Int32) (sz : Nat) (hN : nC * nR ≤ 36) (hC : nC ≤ 36) (hR : nR ≤ 36) : Met l yX4_unfold wsX4_unfold rm_X4_unfold (va_Pc [.ref qo] (zPreW D cI cZ cJ cD [(qo, .inr (4, [.ref qm, .ref qb, .ref qr, .ref qf])), (qf, .inr (1, [.ref qx, .ref qy, .ref qz, .ref qu, .int (nI nC), .int (nI nR), .int nf])), (qx, .inl (cI, 36, .inl fx)), (qy, .inl (cI, 36, .inl fy)), (qz, .inl (cI, 36, .inl fz)), (qu, .inl (cZ, 36, .inl fu))] sz)) (Qc_X4_unfold D cI cZ cJ cD qo qm qb qr qf qx qy qz qu nC nR nf fx fy fz fu (va_A [(qo, .inr (4, [.ref qm, .ref qb, .ref qr, .ref qf])), (qf, .inr (1, [.ref qx, .ref qy, .ref qz, .ref qu, .int (nI nC), .int (nI nR), .int nf])), (qx, .inl (cI, 36, .inl fx)), (qy, .inl (cI, 36, .inl fy)), (qz, .inl (cI, 36, .inl fz)), (qu, .inl (cZ, 36, .inl fu))] sz)) 0 0 (va_A [(qo, .inr (4, [.ref qm, .ref qb, .ref qr, .ref qf])), (qf, .inr (1, [.ref qx, .ref qy, .ref qz, .ref qu, .int (nI nC), .int (nI nR), .int nf])), (qx, .inl (cI, 36, .inl fx)), (qy, .inl (cI, 36, .inl fy)), (qz, .inl (cI, 36, .inl fz)), (qu, .inl (cZ, 36, .inl fu))] sz) := by
  refine Met.ofW (cc := cX4_unfold) (maxL := 1) (ret := (some .int)) (by decide) rfl ?_
  intro p e s m args below meth c s₁ B hml hv
  obtain ⟨rfl, hsz, hP, hK, hD0⟩ := hv
  have hx := B.exec
  have hb := B.bytes
  have hr := B.returns
  have hts := atoms_spec (ws := wsX4_unfold) B.pre
  have hown : s.vm.findClass RX4 = some m.cls := findClass_of_methodNamed B.named
  have hlocks := B.notSynchronized
  subst hsz
  have hD := hD0.self (sz := s.heap.size)
  generalize hAe : va_A [(qo, .inr (4, [.ref qm, .ref qb, .ref qr, .ref qf])), (qf, .inr (1, [.ref qx, .ref qy, .ref qz, .ref qu, .int (nI nC), .int (nI nR), .int nf])), (qx, .inl (cI, 36, .inl fx)), (qy, .inl (cI, 36, .inl fy)), (qz, .inl (cI, 36, .inl fz)), (qu, .inl (cZ, 36, .inl fu))] s.heap.size = A at hD ⊢
  have hA : ∀ q : Nat, s.heap.size ≤ q → A q := fun q h => by rw [← hAe]; exact Or.inr h
  have hS : va_S A s.heap s.heap [] := va_S.rf
  have hl := lv_entry ([.ref qo]) (n := 1) (Nat.le_of_ble_eq_true rfl)
  rw [lg_entry_eq]
  generalize (lg_sl ([.ref qo]) ++ List.replicate (1 - (lg_sl ([.ref qo])).length) Slot.unset).toArray = ls at hl ⊢
  have hl : lv_has ls 1 [(0, .ref qo)] := hl
  have hP : va_P D vwCl [(qo, .inr (4, [.ref qm, .ref qb, .ref qr, .ref qf])), (qf, .inr (1, [.ref qx, .ref qy, .ref qz, .ref qu, .int (nI nC), .int (nI nR), .int nf])), (qx, .inl (cI, 36, .inl fx)), (qy, .inl (cI, 36, .inl fy)), (qz, .inl (cI, 36, .inl fz)), (qu, .inl (cZ, 36, .inl fu))] s.heap := hP
  have hP := hP
  refine lv_aload_n hx hb dX4_unfold_0 rfl (lv_at hl 0 rfl) ?_
  refine va_get (D := D) (ci := 4) (v := .ref qf) (C := RX4) (T := TX4) (N := 4) hx hb hts (fun w h => List.mem_cons_of_mem _ (List.mem_append_left _ (List.mem_append_right _ h))) hown hK hP 0 rfl rfl 3 (by decide) (hts (.fieldLink RX4 33 "AtlasFolder" "stack" "LAtlasFolder$FoldedSheet;") (List.mem_cons_of_mem _ (List.mem_append_left _ (List.mem_append_left _ (List.mem_of_getElem? (i := 0) rfl))))) (fun _ h9 => h9) rfl dX4_unfold_1 ?_
  have hPc := hP.sub (ws' := [(qf, .inr (1, [.ref qx, .ref qy, .ref qz, .ref qu, .int (nI nC), .int (nI nR), .int nf])), (qx, .inl (cI, 36, .inl fx)), (qy, .inl (cI, 36, .inl fy)), (qz, .inl (cI, 36, .inl fz)), (qu, .inl (cZ, 36, .inl fu))]) [1, 2, 3, 4, 5] rfl
  have hDc := hD.sub (ws' := [(qf, .inr (1, [.ref qx, .ref qy, .ref qz, .ref qu, .int (nI nC), .int (nI nR), .int nf])), (qx, .inl (cI, 36, .inl fx)), (qy, .inl (cI, 36, .inl fy)), (qz, .inl (cI, 36, .inl fz)), (qu, .inl (cZ, 36, .inl fu))]) [1, 2, 3, 4, 5] (by decide) rfl
  have hFc := va_free (wc := [(qf, .inr (1, [.ref qx, .ref qy, .ref qz, .ref qu, .int (nI nC), .int (nI nR), .int nf])), (qx, .inl (cI, 36, .inl fx)), (qy, .inl (cI, 36, .inl fy)), (qz, .inl (cI, 36, .inl fz)), (qu, .inl (cZ, 36, .inl fu))]) hD hS hA [1, 2, 3, 4, 5] rfl
  refine va_calli (va_runV (As := []) (rest := []) ⟨hx, hb, hml, hown, hts⟩ (c_X1_spread l D cI cZ cJ cD qf qx qy qz qu nC nR nf fx fy fz fu s.heap.size (by assumption) (by assumption) (by assumption)) (cwV 0 hts gX4_unfold_X1_spread rfl rfl rfl (by decide +kernel) ⟨Nat.le_of_ble_eq_true rfl, Nat.le_of_ble_eq_true rfl⟩) ⟨zblindW, va_recv hK hP (ci := 1) (q0 := 1) rfl rfl, (fun U hU hW => ⟨rfl, by rw [hU], by rw [hU]; exact hPc, va_K.moved hW.alike hK, hDc.weaken (fun _ _ _ _ => trivial)⟩)⟩ rfl rfl hl.1 rfl (lv_room (Nat.le_of_ble_eq_true rfl)) dX4_unfold_4 ⟨Nat.le_of_ble_eq_true rfl, Nat.le_of_ble_eq_true rfl⟩) hS (fun q _ h => hFc q h) hFc (fun r2 u t H locs ht hvm hw hB hz1 hk1 hS => ?_)
  rw [hw]
  obtain ⟨hP1, hK1, hD1⟩ := hB
  rw [ht] at hP1
  obtain ⟨hP, hD⟩ := va_join (wr := [(qo, .inr (4, [.ref qm, .ref qb, .ref qr, .ref qf]))]) (w1 := [(qf, .inr (1, [.ref qx, .ref qy, .ref qz, .ref qu, .int (nI nC), .int (nI nR), .int (n_X1_spread_qf_6 nC nR nf fx fy fz fu)])), (qx, .inl (cI, 36, .inl (n_X1_spread_qx nC nR nf fx fy fz fu))), (qy, .inl (cI, 36, .inl (n_X1_spread_qy nC nR nf fx fy fz fu))), (qz, .inl (cI, 36, .inl (n_X1_spread_qz nC nR nf fx fy fz fu))), (qu, .inl (cZ, 36, .inl (n_X1_spread_qu nC nR nf fx fy fz fu)))]) hP hD [1, 2, 3, 4, 5] [0] rfl rfl (by decide) (by decide) hk1 hFc hP1 hD1
  have hP := hP.sub (ws' := [(qo, .inr (4, [.ref qm, .ref qb, .ref qr, .ref qf])), (qf, .inr (1, [.ref qx, .ref qy, .ref qz, .ref qu, .int (nI nC), .int (nI nR), .int (n_X1_spread_qf_6 nC nR nf fx fy fz fu)])), (qx, .inl (cI, 36, .inl (n_X1_spread_qx nC nR nf fx fy fz fu))), (qy, .inl (cI, 36, .inl (n_X1_spread_qy nC nR nf fx fy fz fu))), (qz, .inl (cI, 36, .inl (n_X1_spread_qz nC nR nf fx fy fz fu))), (qu, .inl (cZ, 36, .inl (n_X1_spread_qu nC nR nf fx fy fz fu)))]) [0, 1, 2, 3, 4, 5] rfl
  have hD := hD.sub (ws' := [(qo, .inr (4, [.ref qm, .ref qb, .ref qr, .ref qf])), (qf, .inr (1, [.ref qx, .ref qy, .ref qz, .ref qu, .int (nI nC), .int (nI nR), .int (n_X1_spread_qf_6 nC nR nf fx fy fz fu)])), (qx, .inl (cI, 36, .inl (n_X1_spread_qx nC nR nf fx fy fz fu))), (qy, .inl (cI, 36, .inl (n_X1_spread_qy nC nR nf fx fy fz fu))), (qz, .inl (cI, 36, .inl (n_X1_spread_qz nC nR nf fx fy fz fu))), (qu, .inl (cZ, 36, .inl (n_X1_spread_qu nC nR nf fx fy fz fu)))]) [0, 1, 2, 3, 4, 5] (by decide) rfl
  have e3 : s_X4_unfold nC nR nf fx fy fz fu = s_X1_spread nC nR nf fx fy fz fu := rfl
  have e4 : n_X4_unfold_qf_6 nC nR nf fx fy fz fu = n_X1_spread_qf_6 nC nR nf fx fy fz fu := rfl
  have e5 : n_X4_unfold_qx nC nR nf fx fy fz fu = n_X1_spread_qx nC nR nf fx fy fz fu := rfl
  have e6 : n_X4_unfold_qy nC nR nf fx fy fz fu = n_X1_spread_qy nC nR nf fx fy fz fu := rfl
  have e7 : n_X4_unfold_qz nC nR nf fx fy fz fu = n_X1_spread_qz nC nR nf fx fy fz fu := rfl
  have e8 : n_X4_unfold_qu nC nR nf fx fy fz fu = n_X1_spread_qu nC nR nf fx fy fz fu := rfl
  exact W.iret (v := (s_X1_spread nC nR nf fx fy fz fu)) hx hb hr (fun t ht hW => ⟨⟨_, (), rfl, e3.symm, ⟨(by rw [e4, e5, e6, e7, e8]; rw [ht]; exact hP), va_K.moved hW.alike hK, (by rw [e4, e5, e6, e7, e8]; exact hD)⟩⟩, hS.F ht⟩) hS.2.2 dX4_unfold_7
def s_X4_panel (nC : Nat) (nR : Nat) (nf : Int32) (lat : Int32) (lon : Int32) : Int32 := (if k_X4_requireLatitude lat = 0 then (if k_X4_requireLongitude lon = 0 then (10 * (s_X1_columnOf nC nR nf lon)) + (s_X1_rowOf nC nR nf lat) else 0) else 0)
def k_X4_panel (nC : Nat) (nR : Nat) (nf : Int32) (lat : Int32) (lon : Int32) : Nat := (if k_X4_requireLatitude lat = 0 then (if k_X4_requireLongitude lon = 0 then 0 else k_X4_requireLongitude lon) else k_X4_requireLatitude lat)
abbrev rm_X4_panel : Room := { frames := 7, cells := 2, slots := 12, locals := 110 }
abbrev Qc_X4_panel (D : va_G) (cI cZ cJ cD : ClassId) (qo : Nat) (qm : Nat) (qb : Nat) (qr : Nat) (qf : Nat) (qx : Nat) (qy : Nat) (qz : Nat) (qu : Nat) (nC : Nat) (nR : Nat) (nf : Int32) (lat : Int32) (lon : Int32) : Array Value → State → Outcome → State → Prop := va_Qi (fun (r : Int32) (_ : Unit) => k_X4_panel nC nR nf lat lon = 0 ∧ r = s_X4_panel nC nR nf lat lon) (fun _ _ => True) (fun _ : Nat => False)
abbrev Xc_X4_panel (D : va_G) (cI cZ cJ cD : ClassId) (qo : Nat) (qm : Nat) (qb : Nat) (qr : Nat) (qf : Nat) (qx : Nat) (qy : Nat) (qz : Nat) (qu : Nat) (nC : Nat) (nR : Nat) (nf : Int32) (lat : Int32) (lon : Int32) : String → State → State → Prop := vx_X (fun _ : Unit => True) (fun E _ _ => zX E (k_X4_panel nC nR nf lat lon)) (fun _ : Nat => False)
set_option maxHeartbeats 4000000 in
set_option maxRecDepth 100000 in
theorem c_X4_panel (l : Launch) (hnt : l.stackTraces = false) (D : va_G) (cI cZ cJ cD : ClassId) (qo : Nat) (qm : Nat) (qb : Nat) (qr : Nat) (qf : Nat) (qx : Nat) (qy : Nat) (qz : Nat) (qu : Nat) (nC : Nat) (nR : Nat) (nf : Int32) (lat : Int32) (lon : Int32)  : vx_Met l yX4_panel wsX4_panel rm_X4_panel (va_Pc [.ref qo, .int lat, .int lon] (zPreE D cI cZ cJ cD [(qo, .inr (4, [.ref qm, .ref qb, .ref qr, .ref qf])), (qf, .inr (1, [.ref qx, .ref qy, .ref qz, .ref qu, .int (nI nC), .int (nI nR), .int nf]))])) (Qc_X4_panel D cI cZ cJ cD qo qm qb qr qf qx qy qz qu nC nR nf lat lon ) (Xc_X4_panel D cI cZ cJ cD qo qm qb qr qf qx qy qz qu nC nR nf lat lon ) 2 12 (fun _ : Nat => False) := by
  refine vx_ofW (cc := cX4_panel) (maxL := 3) (ret := (some .int)) (by decide) rfl ?_
  intro p e s m args below meth c s₁ B hml ht0 hv
  obtain ⟨rfl, hP, hK, hE⟩ := hv
  have hx := B.exec
  have hb := B.bytes
  have hr := B.returns
  have hts := atoms_spec (ws := wsX4_panel) B.pre
  have hown : s.vm.findClass RX4 = some m.cls := findClass_of_methodNamed B.named
  have hlocks := B.notSynchronized
  have hS : va_S (fun _ : Nat => False) s.heap s.heap [] := va_S.rf
  have hl := lv_entry ([.ref qo, .int lat, .int lon]) (n := 3) (Nat.le_of_ble_eq_true rfl)
  rw [lg_entry_eq]
  generalize (lg_sl ([.ref qo, .int lat, .int lon]) ++ List.replicate (3 - (lg_sl ([.ref qo, .int lat, .int lon])).length) Slot.unset).toArray = ls at hl ⊢
  have hl : lv_has ls 3 [(0, .ref qo), (1, .int lat), (2, .int lon)] := hl
  have hP : va_P D vwCl [(qo, .inr (4, [.ref qm, .ref qb, .ref qr, .ref qf])), (qf, .inr (1, [.ref qx, .ref qy, .ref qz, .ref qu, .int (nI nC), .int (nI nR), .int nf]))] s.heap := hP
  have hP := hP
  refine lv_iload_n hx hb dX4_panel_0 rfl (lv_at hl 1 rfl) ?_
  refine vx_callv (vx_runS (As := [.int lat]) (rest := []) ⟨hx, hb, hml, hown, hts⟩ (c_X4_requireLatitude l hnt D cI cZ cJ cD lat ) (va_cwS 1 hts gX4_panel_X4_requireLatitude rfl rfl rfl (by decide +kernel) ⟨Nat.le_of_ble_eq_true rfl, Nat.le_of_ble_eq_true rfl⟩) ⟨zblindE, (fun U hU hW => ⟨rfl, by rw [hU]; exact hP.sub (ws' := []) [] rfl, va_K.moved hW.alike hK, zEnv.go hE hS (fun q h => h.elim) hU hW⟩)⟩ rfl rfl hl.1 rfl (lv_room (Nat.le_of_ble_eq_true rfl)) dX4_panel_1 ⟨Nat.le_of_ble_eq_true rfl, Nat.le_of_ble_eq_true rfl⟩) hS (fun q _ h => h.elim) (fun q h => h.elim) (fun q _ h => h.elim) (fun E ce q9 u t H locs ht hvm hpx hB hz1 hk1 hS hq9 hce hcl => ?_) (fun u t H locs ht hvm hw hB hz1 hk1 hS => ?_)
  · have hX := hB
    have hP := zk hP hk1
    have c10 : ¬ k_X4_requireLatitude lat = 0 := zX_ne hX
    have e11 : k_X4_panel nC nR nf lat lon = k_X4_requireLatitude lat := by
      unfold k_X4_panel
      exact (if_neg c10)
    exact vx_out (fun x hx => (ht0 x hx).elim) hlocks hq9 hce hcl (fun t ht9 hal9 => ⟨(), trivial, (by rw [e11]; exact hX), hS.F ht9⟩) hS.2.2 (by decide) (by decide)
  · have c12 : k_X4_requireLatitude lat = 0 := hw
    have hP := zk hP hk1
    refine W.widen (k := 1) (n := 6) (by decide) (by decide) ?_
    refine lv_iload_n hx hb dX4_panel_4 rfl (lv_at hl 2 rfl) ?_
    refine vx_callv (vx_runS (As := [.int lon]) (rest := []) ⟨hx, hb, hml, hown, hts⟩ (c_X4_requireLongitude l hnt D cI cZ cJ cD lon ) (va_cwS 1 hts gX4_panel_X4_requireLongitude rfl rfl rfl (by decide +kernel) ⟨Nat.le_of_ble_eq_true rfl, Nat.le_of_ble_eq_true rfl⟩) ⟨zblindE, (fun U hU hW => ⟨rfl, by rw [hU]; exact hP.sub (ws' := []) [] rfl, va_K.moved hW.alike hK, zEnv.go hE hS (fun q h => h.elim) hU hW⟩)⟩ rfl rfl hl.1 rfl (lv_room (Nat.le_of_ble_eq_true rfl)) dX4_panel_5 ⟨Nat.le_of_ble_eq_true rfl, Nat.le_of_ble_eq_true rfl⟩) hS (fun q _ h => h.elim) (fun q h => h.elim) (fun q _ h => h.elim) (fun E ce q9 u t H locs ht hvm hpx hB hz1 hk1 hS hq9 hce hcl => ?_) (fun u t H locs ht hvm hw hB hz1 hk1 hS => ?_)
    · have hX := hB
      have hP := zk hP hk1
      have c14 : ¬ k_X4_requireLongitude lon = 0 := zX_ne hX
      have e15 : k_X4_panel nC nR nf lat lon = k_X4_requireLongitude lon := by
        unfold k_X4_panel
        exact ((if_pos c12).trans (if_neg c14))
      exact vx_out (fun x hx => (ht0 x hx).elim) hlocks hq9 hce hcl (fun t ht9 hal9 => ⟨(), trivial, (by rw [e15]; exact hX), hS.F ht9⟩) hS.2.2 (by decide) (by decide)
    · have c16 : k_X4_requireLongitude lon = 0 := hw
      have hP := zk hP hk1
      refine W.widen (k := 2) (n := 12) (by decide) (by decide) ?_
      refine lv_bipush (v := 10) hx hb dX4_panel_8 (by decide) ?_
      refine lv_aload_n hx hb dX4_panel_10 rfl (lv_at hl 0 rfl) ?_
      refine va_get (D := D) (ci := 4) (v := .ref qf) (C := RX4) (T := TX4) (N := 4) hx hb hts (fun w h => List.mem_cons_of_mem _ (List.mem_append_left _ (List.mem_append_left _ (List.mem_append_right _ h)))) hown hK hP 0 rfl rfl 3 (by decide) (hts (.fieldLink RX4 33 "AtlasFolder" "stack" "LAtlasFolder$FoldedSheet;") (List.mem_cons_of_mem _ (List.mem_append_left _ (List.mem_append_left _ (List.mem_append_left _ (List.mem_append_left _ (List.mem_of_getElem? (i := 0) rfl))))))) (fun _ h9 => h9) rfl dX4_panel_11 ?_
      refine lv_iload_n hx hb dX4_panel_14 rfl (lv_at hl 2 rfl) ?_
      refine va_calli (va_runV (As := [.int lon]) (rest := [.int 10]) ⟨hx, hb, hml, hown, hts⟩ (c_X1_columnOf l D cI cZ cJ cD qf qx qy qz qu nC nR nf lon ) (cwV 1 hts gX4_panel_X1_columnOf rfl rfl rfl (by decide +kernel) ⟨Nat.le_of_ble_eq_true rfl, Nat.le_of_ble_eq_true rfl⟩) ⟨zblind, va_recv hK hP (ci := 1) (q0 := 1) rfl rfl, (fun U hU hW => ⟨rfl, by rw [hU]; exact hP.sub (ws' := [(qf, .inr (1, [.ref qx, .ref qy, .ref qz, .ref qu, .int (nI nC), .int (nI nR), .int nf]))]) [1] rfl, va_K.moved hW.alike hK⟩)⟩ rfl rfl hl.1 rfl (lv_room (Nat.le_of_ble_eq_true rfl)) dX4_panel_15 ⟨Nat.le_of_ble_eq_true rfl, Nat.le_of_ble_eq_true rfl⟩) hS (fun q _ h => h.elim) (fun q h => h.elim) (fun r17 u t H locs ht hvm hw hB hz1 hk1 hS => ?_)
      rw [hw]
      have hP := zk hP hk1
      refine lv_imul hx hb dX4_panel_18 ?_
      refine lv_aload_n hx hb dX4_panel_19 rfl (lv_at hl 0 rfl) ?_
      refine va_get (D := D) (ci := 4) (v := .ref qf) (C := RX4) (T := TX4) (N := 4) hx hb hts (fun w h => List.mem_cons_of_mem _ (List.mem_append_left _ (List.mem_append_left _ (List.mem_append_right _ h)))) hown hK hP 0 rfl rfl 3 (by decide) (hts (.fieldLink RX4 33 "AtlasFolder" "stack" "LAtlasFolder$FoldedSheet;") (List.mem_cons_of_mem _ (List.mem_append_left _ (List.mem_append_left _ (List.mem_append_left _ (List.mem_append_left _ (List.mem_of_getElem? (i := 0) rfl))))))) (fun _ h9 => h9) rfl dX4_panel_20 ?_
      refine lv_iload_n hx hb dX4_panel_23 rfl (lv_at hl 1 rfl) ?_
      refine va_calli (va_runV (As := [.int lat]) (rest := [.int (10 * (s_X1_columnOf nC nR nf lon))]) ⟨hx, hb, hml, hown, hts⟩ (c_X1_rowOf l D cI cZ cJ cD qf qx qy qz qu nC nR nf lat ) (cwV 1 hts gX4_panel_X1_rowOf rfl rfl rfl (by decide +kernel) ⟨Nat.le_of_ble_eq_true rfl, Nat.le_of_ble_eq_true rfl⟩) ⟨zblind, va_recv hK hP (ci := 1) (q0 := 1) rfl rfl, (fun U hU hW => ⟨rfl, by rw [hU]; exact hP.sub (ws' := [(qf, .inr (1, [.ref qx, .ref qy, .ref qz, .ref qu, .int (nI nC), .int (nI nR), .int nf]))]) [1] rfl, va_K.moved hW.alike hK⟩)⟩ rfl rfl hl.1 rfl (lv_room (Nat.le_of_ble_eq_true rfl)) dX4_panel_24 ⟨Nat.le_of_ble_eq_true rfl, Nat.le_of_ble_eq_true rfl⟩) hS (fun q _ h => h.elim) (fun q h => h.elim) (fun r18 u t H locs ht hvm hw hB hz1 hk1 hS => ?_)
      rw [hw]
      have hP := zk hP hk1
      refine lv_iadd hx hb dX4_panel_27 ?_
      have e19 : s_X4_panel nC nR nf lat lon = (10 * (s_X1_columnOf nC nR nf lon)) + (s_X1_rowOf nC nR nf lat) := by
        unfold s_X4_panel
        exact ((if_pos c12).trans (if_pos c16))
      have e20 : k_X4_panel nC nR nf lat lon = 0 := by
        unfold k_X4_panel
        exact ((if_pos c12).trans (if_pos c16))
      refine vx_ret ?_
      exact W.iret (v := ((10 * (s_X1_columnOf nC nR nf lon)) + (s_X1_rowOf nC nR nf lat))) hx hb hr (fun t ht hW => ⟨⟨_, (), rfl, ⟨e20, e19.symm⟩, trivial⟩, hS.F ht⟩) hS.2.2 dX4_panel_28
def k_X4_requirePanel (nC : Nat) (nR : Nat) (nf : Int32) (co : Int32) (ro : Int32) : Nat := (if (s_X1_hasPanel nC nR nf co ro) = 0 then 1 else 0)
abbrev rm_X4_requirePanel : Room := { frames := 6, cells := 1, slots := 6, locals := 90 }
abbrev Qc_X4_requirePanel (D : va_G) (cI cZ cJ cD : ClassId) (qo : Nat) (qm : Nat) (qb : Nat) (qr : Nat) (qf : Nat) (qx : Nat) (qy : Nat) (qz : Nat) (qu : Nat) (nC : Nat) (nR : Nat) (nf : Int32) (co : Int32) (ro : Int32) : Array Value → State → Outcome → State → Prop := va_Qv (fun _ : Unit => k_X4_requirePanel nC nR nf co ro = 0) (fun _ _ => True) (fun _ : Nat => False)
abbrev Xc_X4_requirePanel (D : va_G) (cI cZ cJ cD : ClassId) (qo : Nat) (qm : Nat) (qb : Nat) (qr : Nat) (qf : Nat) (qx : Nat) (qy : Nat) (qz : Nat) (qu : Nat) (nC : Nat) (nR : Nat) (nf : Int32) (co : Int32) (ro : Int32) : String → State → State → Prop := vx_X (fun _ : Unit => True) (fun E _ _ => zX E (k_X4_requirePanel nC nR nf co ro)) (fun _ : Nat => False)
set_option maxHeartbeats 4000000 in
set_option maxRecDepth 100000 in
theorem c_X4_requirePanel (l : Launch) (hnt : l.stackTraces = false) (D : va_G) (cI cZ cJ cD : ClassId) (qo : Nat) (qm : Nat) (qb : Nat) (qr : Nat) (qf : Nat) (qx : Nat) (qy : Nat) (qz : Nat) (qu : Nat) (nC : Nat) (nR : Nat) (nf : Int32) (co : Int32) (ro : Int32)  : vx_Met l yX4_requirePanel wsX4_requirePanel rm_X4_requirePanel (va_Pc [.ref qo, .int co, .int ro] (zPreE D cI cZ cJ cD [(qo, .inr (4, [.ref qm, .ref qb, .ref qr, .ref qf])), (qf, .inr (1, [.ref qx, .ref qy, .ref qz, .ref qu, .int (nI nC), .int (nI nR), .int nf]))])) (Qc_X4_requirePanel D cI cZ cJ cD qo qm qb qr qf qx qy qz qu nC nR nf co ro ) (Xc_X4_requirePanel D cI cZ cJ cD qo qm qb qr qf qx qy qz qu nC nR nf co ro ) 1 6 (fun _ : Nat => False) := by
  refine vx_ofW (cc := cX4_requirePanel) (maxL := 3) (ret := none) (by decide) rfl ?_
  intro p e s m args below meth c s₁ B hml ht0 hv
  obtain ⟨rfl, hP, hK, hE⟩ := hv
  have hx := B.exec
  have hb := B.bytes
  have hr := B.returns
  have hts := atoms_spec (ws := wsX4_requirePanel) B.pre
  have hown : s.vm.findClass RX4 = some m.cls := findClass_of_methodNamed B.named
  have hlocks := B.notSynchronized
  have hS : va_S (fun _ : Nat => False) s.heap s.heap [] := va_S.rf
  have hl := lv_entry ([.ref qo, .int co, .int ro]) (n := 3) (Nat.le_of_ble_eq_true rfl)
  rw [lg_entry_eq]
  generalize (lg_sl ([.ref qo, .int co, .int ro]) ++ List.replicate (3 - (lg_sl ([.ref qo, .int co, .int ro])).length) Slot.unset).toArray = ls at hl ⊢
  have hl : lv_has ls 3 [(0, .ref qo), (1, .int co), (2, .int ro)] := hl
  have hP : va_P D vwCl [(qo, .inr (4, [.ref qm, .ref qb, .ref qr, .ref qf])), (qf, .inr (1, [.ref qx, .ref qy, .ref qz, .ref qu, .int (nI nC), .int (nI nR), .int nf]))] s.heap := hP
  have hP := hP
  refine lv_aload_n hx hb dX4_requirePanel_0 rfl (lv_at hl 0 rfl) ?_
  refine va_get (D := D) (ci := 4) (v := .ref qf) (C := RX4) (T := TX4) (N := 4) hx hb hts (fun w h => List.mem_cons_of_mem _ (List.mem_append_left _ (List.mem_append_left _ (List.mem_append_right _ h)))) hown hK hP 0 rfl rfl 3 (by decide) (hts (.fieldLink RX4 33 "AtlasFolder" "stack" "LAtlasFolder$FoldedSheet;") (List.mem_cons_of_mem _ (List.mem_append_left _ (List.mem_append_left _ (List.mem_append_left _ (List.mem_of_getElem? (i := 2) rfl)))))) (fun _ h9 => h9) rfl dX4_requirePanel_1 ?_
  refine lv_iload_n hx hb dX4_requirePanel_4 rfl (lv_at hl 1 rfl) ?_
  refine lv_iload_n hx hb dX4_requirePanel_5 rfl (lv_at hl 2 rfl) ?_
  refine va_calli (va_runV (As := [.int co, .int ro]) (rest := []) ⟨hx, hb, hml, hown, hts⟩ (c_X1_hasPanel l D cI cZ cJ cD qf qx qy qz qu nC nR nf co ro ) (cwV 2 hts gX4_requirePanel_X1_hasPanel rfl rfl rfl (by decide +kernel) ⟨Nat.le_of_ble_eq_true rfl, Nat.le_of_ble_eq_true rfl⟩) ⟨zblind, va_recv hK hP (ci := 1) (q0 := 1) rfl rfl, (fun U hU hW => ⟨rfl, by rw [hU]; exact hP.sub (ws' := [(qf, .inr (1, [.ref qx, .ref qy, .ref qz, .ref qu, .int (nI nC), .int (nI nR), .int nf]))]) [1] rfl, va_K.moved hW.alike hK⟩)⟩ rfl rfl hl.1 rfl (lv_room (Nat.le_of_ble_eq_true rfl)) dX4_requirePanel_6 ⟨Nat.le_of_ble_eq_true rfl, Nat.le_of_ble_eq_true rfl⟩) hS (fun q _ h => h.elim) (fun q h => h.elim) (fun r3 u t H locs ht hvm hw hB hz1 hk1 hS => ?_)
  rw [hw]
  have hP := zk hP hk1
  refine lv_if_ne (tgt := 22) hx hb dX4_requirePanel_9 (by decide) (fun c4 => ?_) (fun c4 => ?_)
  · refine W.widen (k := 1) (n := 6) (by decide) (by decide) ?_
    have e5 : k_X4_requirePanel nC nR nf co ro = 0 := by
      unfold k_X4_requirePanel
      exact (if_neg c4)
    refine vx_ret ?_
    exact W.vret hx hb hr (fun t ht hW => ⟨⟨(), rfl, e5, trivial⟩, hS.F ht⟩) hS.2.2 dX4_requirePanel_22
  · have e6 : k_X4_requirePanel nC nR nf co ro = 1 := by
      unfold k_X4_requirePanel
      exact (if_pos c4)
    obtain ⟨sa, hstr⟩ := hE.str 191 "the sheet has no such column or row" (by decide)
    have hat : ∀ w ∈ vx_atS RX4 41 "java/lang/IndexOutOfBoundsException" ["java/lang/RuntimeException", "java/lang/Exception"], w.before _ s = true := vx_hat (fun w h => hts w (List.mem_cons_of_mem _ (List.mem_append_right _ h))) (B := zBad1) (by decide +kernel) (hE.bad1 _)
    exact vx_throwS (text := "the sheet has no such column or row") (names := ["java/lang/RuntimeException", "java/lang/Exception"]) (A := (fun _ : Nat => False)) hx hb hnt hown (by decide) (by decide) (hts (.classLink RX4 37 "java/lang/IndexOutOfBoundsException") (List.mem_cons_of_mem _ (List.mem_append_left _ (List.mem_append_left _ (List.mem_append_left _ (List.mem_of_getElem? (i := 0) rfl)))))) (hts (.initialized "java/lang/IndexOutOfBoundsException") (List.mem_cons_of_mem _ (List.mem_append_left _ (List.mem_append_left _ (List.mem_append_left _ (List.mem_of_getElem? (i := 1) rfl)))))) hstr hat (by decide +kernel) hE.1 hE.2.1 hS (hl.1.trans hml.symm) dX4_requirePanel_12 dX4_requirePanel_15 dX4_requirePanel_16 dX4_requirePanel_18 dX4_requirePanel_21 (fun x hx => (ht0 x hx).elim) (by decide) (by decide) (by decide) (by decide) hlocks (fun t hal9 hz9 hk9 => ⟨(), trivial, zX1 e6, zF hS hz9 hk9⟩) hS.2.2 (by decide) (by decide)
def s_X4_placeX (nC : Nat) (nR : Nat) (nf : Int32) (fx : Nat → Int32) (co : Int32) (ro : Int32) : Int32 := (if k_X4_requirePanel nC nR nf co ro = 0 then s_X1_columnPlace nC nR nf fx co ro else 0)
def k_X4_placeX (nC : Nat) (nR : Nat) (nf : Int32) (fx : Nat → Int32) (co : Int32) (ro : Int32) : Nat := (if k_X4_requirePanel nC nR nf co ro = 0 then 0 else k_X4_requirePanel nC nR nf co ro)
abbrev rm_X4_placeX : Room := { frames := 7, cells := 1, slots := 6, locals := 112 }
abbrev Qc_X4_placeX (D : va_G) (cI cZ cJ cD : ClassId) (qo : Nat) (qm : Nat) (qb : Nat) (qr : Nat) (qf : Nat) (qx : Nat) (qy : Nat) (qz : Nat) (qu : Nat) (nC : Nat) (nR : Nat) (nf : Int32) (fx : Nat → Int32) (co : Int32) (ro : Int32) : Array Value → State → Outcome → State → Prop := va_Qi (fun (r : Int32) (_ : Unit) => k_X4_placeX nC nR nf fx co ro = 0 ∧ r = s_X4_placeX nC nR nf fx co ro) (fun _ _ => True) (fun _ : Nat => False)
abbrev Xc_X4_placeX (D : va_G) (cI cZ cJ cD : ClassId) (qo : Nat) (qm : Nat) (qb : Nat) (qr : Nat) (qf : Nat) (qx : Nat) (qy : Nat) (qz : Nat) (qu : Nat) (nC : Nat) (nR : Nat) (nf : Int32) (fx : Nat → Int32) (co : Int32) (ro : Int32) : String → State → State → Prop := vx_X (fun _ : Unit => True) (fun E _ _ => zX E (k_X4_placeX nC nR nf fx co ro)) (fun _ : Nat => False)
set_option maxHeartbeats 4000000 in
set_option maxRecDepth 100000 in
theorem c_X4_placeX (l : Launch) (hnt : l.stackTraces = false) (D : va_G) (cI cZ cJ cD : ClassId) (qo : Nat) (qm : Nat) (qb : Nat) (qr : Nat) (qf : Nat) (qx : Nat) (qy : Nat) (qz : Nat) (qu : Nat) (nC : Nat) (nR : Nat) (nf : Int32) (fx : Nat → Int32) (co : Int32) (ro : Int32) (hN : nC * nR ≤ 36) (hC : nC ≤ 36) (hR : nR ≤ 36) : vx_Met l yX4_placeX wsX4_placeX rm_X4_placeX (va_Pc [.ref qo, .int co, .int ro] (zPreE D cI cZ cJ cD [(qo, .inr (4, [.ref qm, .ref qb, .ref qr, .ref qf])), (qf, .inr (1, [.ref qx, .ref qy, .ref qz, .ref qu, .int (nI nC), .int (nI nR), .int nf])), (qx, .inl (cI, 36, .inl fx))])) (Qc_X4_placeX D cI cZ cJ cD qo qm qb qr qf qx qy qz qu nC nR nf fx co ro ) (Xc_X4_placeX D cI cZ cJ cD qo qm qb qr qf qx qy qz qu nC nR nf fx co ro ) 1 6 (fun _ : Nat => False) := by
  refine vx_ofW (cc := cX4_placeX) (maxL := 3) (ret := (some .int)) (by decide) rfl ?_
  intro p e s m args below meth c s₁ B hml ht0 hv
  obtain ⟨rfl, hP, hK, hE⟩ := hv
  have hx := B.exec
  have hb := B.bytes
  have hr := B.returns
  have hts := atoms_spec (ws := wsX4_placeX) B.pre
  have hown : s.vm.findClass RX4 = some m.cls := findClass_of_methodNamed B.named
  have hlocks := B.notSynchronized
  have hS : va_S (fun _ : Nat => False) s.heap s.heap [] := va_S.rf
  have hl := lv_entry ([.ref qo, .int co, .int ro]) (n := 3) (Nat.le_of_ble_eq_true rfl)
  rw [lg_entry_eq]
  generalize (lg_sl ([.ref qo, .int co, .int ro]) ++ List.replicate (3 - (lg_sl ([.ref qo, .int co, .int ro])).length) Slot.unset).toArray = ls at hl ⊢
  have hl : lv_has ls 3 [(0, .ref qo), (1, .int co), (2, .int ro)] := hl
  have hP : va_P D vwCl [(qo, .inr (4, [.ref qm, .ref qb, .ref qr, .ref qf])), (qf, .inr (1, [.ref qx, .ref qy, .ref qz, .ref qu, .int (nI nC), .int (nI nR), .int nf])), (qx, .inl (cI, 36, .inl fx))] s.heap := hP
  have hP := hP
  refine lv_aload_n hx hb dX4_placeX_0 rfl (lv_at hl 0 rfl) ?_
  refine lv_iload_n hx hb dX4_placeX_1 rfl (lv_at hl 1 rfl) ?_
  refine lv_iload_n hx hb dX4_placeX_2 rfl (lv_at hl 2 rfl) ?_
  refine vx_callv (vx_runV (As := [.int co, .int ro]) (rest := []) ⟨hx, hb, hml, hown, hts⟩ (c_X4_requirePanel l hnt D cI cZ cJ cD qo qm qb qr qf qx qy qz qu nC nR nf co ro ) (cwV 2 hts gX4_placeX_X4_requirePanel rfl rfl rfl (by decide +kernel) ⟨Nat.le_of_ble_eq_true rfl, Nat.le_of_ble_eq_true rfl⟩) ⟨zblindE, va_recv hK hP (ci := 4) (q0 := 0) rfl rfl, (fun U hU hW => ⟨rfl, by rw [hU]; exact hP.sub (ws' := [(qo, .inr (4, [.ref qm, .ref qb, .ref qr, .ref qf])), (qf, .inr (1, [.ref qx, .ref qy, .ref qz, .ref qu, .int (nI nC), .int (nI nR), .int nf]))]) [0, 1] rfl, va_K.moved hW.alike hK, zEnv.go hE hS (fun q h => h.elim) hU hW⟩)⟩ rfl rfl hl.1 rfl (lv_room (Nat.le_of_ble_eq_true rfl)) dX4_placeX_3 ⟨Nat.le_of_ble_eq_true rfl, Nat.le_of_ble_eq_true rfl⟩) hS (fun q _ h => h.elim) (fun q h => h.elim) (fun q _ h => h.elim) (fun E ce q9 u t H locs ht hvm hpx hB hz1 hk1 hS hq9 hce hcl => ?_) (fun u t H locs ht hvm hw hB hz1 hk1 hS => ?_)
  · have hX := hB
    have hP := zk hP hk1
    have c6 : ¬ k_X4_requirePanel nC nR nf co ro = 0 := zX_ne hX
    have e7 : k_X4_placeX nC nR nf fx co ro = k_X4_requirePanel nC nR nf co ro := by
      unfold k_X4_placeX
      exact (if_neg c6)
    exact vx_out (fun x hx => (ht0 x hx).elim) hlocks hq9 hce hcl (fun t ht9 hal9 => ⟨(), trivial, (by rw [e7]; exact hX), hS.F ht9⟩) hS.2.2 (by decide) (by decide)
  · have c8 : k_X4_requirePanel nC nR nf co ro = 0 := hw
    have hP := zk hP hk1
    refine W.widen (k := 1) (n := 6) (by decide) (by decide) ?_
    refine lv_aload_n hx hb dX4_placeX_6 rfl (lv_at hl 0 rfl) ?_
    refine va_get (D := D) (ci := 4) (v := .ref qf) (C := RX4) (T := TX4) (N := 4) hx hb hts (fun w h => List.mem_cons_of_mem _ (List.mem_append_left _ (List.mem_append_left _ (List.mem_append_right _ h)))) hown hK hP 0 rfl rfl 3 (by decide) (hts (.fieldLink RX4 33 "AtlasFolder" "stack" "LAtlasFolder$FoldedSheet;") (List.mem_cons_of_mem _ (List.mem_append_left _ (List.mem_append_left _ (List.mem_append_left _ (List.mem_append_left _ (List.mem_of_getElem? (i := 0) rfl))))))) (fun _ h9 => h9) rfl dX4_placeX_7 ?_
    refine lv_iload_n hx hb dX4_placeX_10 rfl (lv_at hl 1 rfl) ?_
    refine lv_iload_n hx hb dX4_placeX_11 rfl (lv_at hl 2 rfl) ?_
    refine va_calli (va_runV (As := [.int co, .int ro]) (rest := []) ⟨hx, hb, hml, hown, hts⟩ (c_X1_columnPlace l D cI cZ cJ cD qf qx qy qz qu nC nR nf fx co ro (by assumption) (by assumption) (by assumption)) (cwV 2 hts gX4_placeX_X1_columnPlace rfl rfl rfl (by decide +kernel) ⟨Nat.le_of_ble_eq_true rfl, Nat.le_of_ble_eq_true rfl⟩) ⟨zblind, va_recv hK hP (ci := 1) (q0 := 1) rfl rfl, (fun U hU hW => ⟨rfl, by rw [hU]; exact hP.sub (ws' := [(qf, .inr (1, [.ref qx, .ref qy, .ref qz, .ref qu, .int (nI nC), .int (nI nR), .int nf])), (qx, .inl (cI, 36, .inl fx))]) [1, 2] rfl, va_K.moved hW.alike hK⟩)⟩ rfl rfl hl.1 rfl (lv_room (Nat.le_of_ble_eq_true rfl)) dX4_placeX_12 ⟨Nat.le_of_ble_eq_true rfl, Nat.le_of_ble_eq_true rfl⟩) hS (fun q _ h => h.elim) (fun q h => h.elim) (fun r9 u t H locs ht hvm hw hB hz1 hk1 hS => ?_)
    rw [hw]
    have hP := zk hP hk1
    have e10 : s_X4_placeX nC nR nf fx co ro = s_X1_columnPlace nC nR nf fx co ro := by
      unfold s_X4_placeX
      exact (if_pos c8)
    have e11 : k_X4_placeX nC nR nf fx co ro = 0 := by
      unfold k_X4_placeX
      exact (if_pos c8)
    refine vx_ret ?_
    exact W.iret (v := (s_X1_columnPlace nC nR nf fx co ro)) hx hb hr (fun t ht hW => ⟨⟨_, (), rfl, ⟨e11, e10.symm⟩, trivial⟩, hS.F ht⟩) hS.2.2 dX4_placeX_15
def s_X4_placeY (nC : Nat) (nR : Nat) (nf : Int32) (fy : Nat → Int32) (co : Int32) (ro : Int32) : Int32 := (if k_X4_requirePanel nC nR nf co ro = 0 then s_X1_rowPlace nC nR nf fy co ro else 0)
def k_X4_placeY (nC : Nat) (nR : Nat) (nf : Int32) (fy : Nat → Int32) (co : Int32) (ro : Int32) : Nat := (if k_X4_requirePanel nC nR nf co ro = 0 then 0 else k_X4_requirePanel nC nR nf co ro)
abbrev rm_X4_placeY : Room := { frames := 7, cells := 1, slots := 6, locals := 112 }
abbrev Qc_X4_placeY (D : va_G) (cI cZ cJ cD : ClassId) (qo : Nat) (qm : Nat) (qb : Nat) (qr : Nat) (qf : Nat) (qx : Nat) (qy : Nat) (qz : Nat) (qu : Nat) (nC : Nat) (nR : Nat) (nf : Int32) (fy : Nat → Int32) (co : Int32) (ro : Int32) : Array Value → State → Outcome → State → Prop := va_Qi (fun (r : Int32) (_ : Unit) => k_X4_placeY nC nR nf fy co ro = 0 ∧ r = s_X4_placeY nC nR nf fy co ro) (fun _ _ => True) (fun _ : Nat => False)
abbrev Xc_X4_placeY (D : va_G) (cI cZ cJ cD : ClassId) (qo : Nat) (qm : Nat) (qb : Nat) (qr : Nat) (qf : Nat) (qx : Nat) (qy : Nat) (qz : Nat) (qu : Nat) (nC : Nat) (nR : Nat) (nf : Int32) (fy : Nat → Int32) (co : Int32) (ro : Int32) : String → State → State → Prop := vx_X (fun _ : Unit => True) (fun E _ _ => zX E (k_X4_placeY nC nR nf fy co ro)) (fun _ : Nat => False)
set_option maxHeartbeats 4000000 in
set_option maxRecDepth 100000 in
theorem c_X4_placeY (l : Launch) (hnt : l.stackTraces = false) (D : va_G) (cI cZ cJ cD : ClassId) (qo : Nat) (qm : Nat) (qb : Nat) (qr : Nat) (qf : Nat) (qx : Nat) (qy : Nat) (qz : Nat) (qu : Nat) (nC : Nat) (nR : Nat) (nf : Int32) (fy : Nat → Int32) (co : Int32) (ro : Int32) (hN : nC * nR ≤ 36) (hC : nC ≤ 36) (hR : nR ≤ 36) : vx_Met l yX4_placeY wsX4_placeY rm_X4_placeY (va_Pc [.ref qo, .int co, .int ro] (zPreE D cI cZ cJ cD [(qo, .inr (4, [.ref qm, .ref qb, .ref qr, .ref qf])), (qf, .inr (1, [.ref qx, .ref qy, .ref qz, .ref qu, .int (nI nC), .int (nI nR), .int nf])), (qy, .inl (cI, 36, .inl fy))])) (Qc_X4_placeY D cI cZ cJ cD qo qm qb qr qf qx qy qz qu nC nR nf fy co ro ) (Xc_X4_placeY D cI cZ cJ cD qo qm qb qr qf qx qy qz qu nC nR nf fy co ro ) 1 6 (fun _ : Nat => False) := by
  refine vx_ofW (cc := cX4_placeY) (maxL := 3) (ret := (some .int)) (by decide) rfl ?_
  intro p e s m args below meth c s₁ B hml ht0 hv
  obtain ⟨rfl, hP, hK, hE⟩ := hv
  have hx := B.exec
  have hb := B.bytes
  have hr := B.returns
  have hts := atoms_spec (ws := wsX4_placeY) B.pre
  have hown : s.vm.findClass RX4 = some m.cls := findClass_of_methodNamed B.named
  have hlocks := B.notSynchronized
  have hS : va_S (fun _ : Nat => False) s.heap s.heap [] := va_S.rf
  have hl := lv_entry ([.ref qo, .int co, .int ro]) (n := 3) (Nat.le_of_ble_eq_true rfl)
  rw [lg_entry_eq]
  generalize (lg_sl ([.ref qo, .int co, .int ro]) ++ List.replicate (3 - (lg_sl ([.ref qo, .int co, .int ro])).length) Slot.unset).toArray = ls at hl ⊢
  have hl : lv_has ls 3 [(0, .ref qo), (1, .int co), (2, .int ro)] := hl
  have hP : va_P D vwCl [(qo, .inr (4, [.ref qm, .ref qb, .ref qr, .ref qf])), (qf, .inr (1, [.ref qx, .ref qy, .ref qz, .ref qu, .int (nI nC), .int (nI nR), .int nf])), (qy, .inl (cI, 36, .inl fy))] s.heap := hP
  have hP := hP
  refine lv_aload_n hx hb dX4_placeY_0 rfl (lv_at hl 0 rfl) ?_
  refine lv_iload_n hx hb dX4_placeY_1 rfl (lv_at hl 1 rfl) ?_
  refine lv_iload_n hx hb dX4_placeY_2 rfl (lv_at hl 2 rfl) ?_
  refine vx_callv (vx_runV (As := [.int co, .int ro]) (rest := []) ⟨hx, hb, hml, hown, hts⟩ (c_X4_requirePanel l hnt D cI cZ cJ cD qo qm qb qr qf qx qy qz qu nC nR nf co ro ) (cwV 2 hts gX4_placeY_X4_requirePanel rfl rfl rfl (by decide +kernel) ⟨Nat.le_of_ble_eq_true rfl, Nat.le_of_ble_eq_true rfl⟩) ⟨zblindE, va_recv hK hP (ci := 4) (q0 := 0) rfl rfl, (fun U hU hW => ⟨rfl, by rw [hU]; exact hP.sub (ws' := [(qo, .inr (4, [.ref qm, .ref qb, .ref qr, .ref qf])), (qf, .inr (1, [.ref qx, .ref qy, .ref qz, .ref qu, .int (nI nC), .int (nI nR), .int nf]))]) [0, 1] rfl, va_K.moved hW.alike hK, zEnv.go hE hS (fun q h => h.elim) hU hW⟩)⟩ rfl rfl hl.1 rfl (lv_room (Nat.le_of_ble_eq_true rfl)) dX4_placeY_3 ⟨Nat.le_of_ble_eq_true rfl, Nat.le_of_ble_eq_true rfl⟩) hS (fun q _ h => h.elim) (fun q h => h.elim) (fun q _ h => h.elim) (fun E ce q9 u t H locs ht hvm hpx hB hz1 hk1 hS hq9 hce hcl => ?_) (fun u t H locs ht hvm hw hB hz1 hk1 hS => ?_)
  · have hX := hB
    have hP := zk hP hk1
    have c6 : ¬ k_X4_requirePanel nC nR nf co ro = 0 := zX_ne hX
    have e7 : k_X4_placeY nC nR nf fy co ro = k_X4_requirePanel nC nR nf co ro := by
      unfold k_X4_placeY
      exact (if_neg c6)
    exact vx_out (fun x hx => (ht0 x hx).elim) hlocks hq9 hce hcl (fun t ht9 hal9 => ⟨(), trivial, (by rw [e7]; exact hX), hS.F ht9⟩) hS.2.2 (by decide) (by decide)
  · have c8 : k_X4_requirePanel nC nR nf co ro = 0 := hw
    have hP := zk hP hk1
    refine W.widen (k := 1) (n := 6) (by decide) (by decide) ?_
    refine lv_aload_n hx hb dX4_placeY_6 rfl (lv_at hl 0 rfl) ?_
    refine va_get (D := D) (ci := 4) (v := .ref qf) (C := RX4) (T := TX4) (N := 4) hx hb hts (fun w h => List.mem_cons_of_mem _ (List.mem_append_left _ (List.mem_append_left _ (List.mem_append_right _ h)))) hown hK hP 0 rfl rfl 3 (by decide) (hts (.fieldLink RX4 33 "AtlasFolder" "stack" "LAtlasFolder$FoldedSheet;") (List.mem_cons_of_mem _ (List.mem_append_left _ (List.mem_append_left _ (List.mem_append_left _ (List.mem_append_left _ (List.mem_of_getElem? (i := 0) rfl))))))) (fun _ h9 => h9) rfl dX4_placeY_7 ?_
    refine lv_iload_n hx hb dX4_placeY_10 rfl (lv_at hl 1 rfl) ?_
    refine lv_iload_n hx hb dX4_placeY_11 rfl (lv_at hl 2 rfl) ?_
    refine va_calli (va_runV (As := [.int co, .int ro]) (rest := []) ⟨hx, hb, hml, hown, hts⟩ (c_X1_rowPlace l D cI cZ cJ cD qf qx qy qz qu nC nR nf fy co ro (by assumption) (by assumption) (by assumption)) (cwV 2 hts gX4_placeY_X1_rowPlace rfl rfl rfl (by decide +kernel) ⟨Nat.le_of_ble_eq_true rfl, Nat.le_of_ble_eq_true rfl⟩) ⟨zblind, va_recv hK hP (ci := 1) (q0 := 1) rfl rfl, (fun U hU hW => ⟨rfl, by rw [hU]; exact hP.sub (ws' := [(qf, .inr (1, [.ref qx, .ref qy, .ref qz, .ref qu, .int (nI nC), .int (nI nR), .int nf])), (qy, .inl (cI, 36, .inl fy))]) [1, 2] rfl, va_K.moved hW.alike hK⟩)⟩ rfl rfl hl.1 rfl (lv_room (Nat.le_of_ble_eq_true rfl)) dX4_placeY_12 ⟨Nat.le_of_ble_eq_true rfl, Nat.le_of_ble_eq_true rfl⟩) hS (fun q _ h => h.elim) (fun q h => h.elim) (fun r9 u t H locs ht hvm hw hB hz1 hk1 hS => ?_)
    rw [hw]
    have hP := zk hP hk1
    have e10 : s_X4_placeY nC nR nf fy co ro = s_X1_rowPlace nC nR nf fy co ro := by
      unfold s_X4_placeY
      exact (if_pos c8)
    have e11 : k_X4_placeY nC nR nf fy co ro = 0 := by
      unfold k_X4_placeY
      exact (if_pos c8)
    refine vx_ret ?_
    exact W.iret (v := (s_X1_rowPlace nC nR nf fy co ro)) hx hb hr (fun t ht hW => ⟨⟨_, (), rfl, ⟨e11, e10.symm⟩, trivial⟩, hS.F ht⟩) hS.2.2 dX4_placeY_15
def s_X4_above (nC : Nat) (nR : Nat) (nf : Int32) (fx : Nat → Int32) (fy : Nat → Int32) (fz : Nat → Int32) (co : Int32) (ro : Int32) : Int32 := (if k_X4_requirePanel nC nR nf co ro = 0 then s_X1_panelsAbove nC nR nf fx fy fz co ro else 0)
def k_X4_above (nC : Nat) (nR : Nat) (nf : Int32) (fx : Nat → Int32) (fy : Nat → Int32) (fz : Nat → Int32) (co : Int32) (ro : Int32) : Nat := (if k_X4_requirePanel nC nR nf co ro = 0 then 0 else k_X4_requirePanel nC nR nf co ro)
abbrev rm_X4_above : Room := { frames := 7, cells := 1, slots := 6, locals := 112 }
abbrev Qc_X4_above (D : va_G) (cI cZ cJ cD : ClassId) (qo : Nat) (qm : Nat) (qb : Nat) (qr : Nat) (qf : Nat) (qx : Nat) (qy : Nat) (qz : Nat) (qu : Nat) (nC : Nat) (nR : Nat) (nf : Int32) (fx : Nat → Int32) (fy : Nat → Int32) (fz : Nat → Int32) (co : Int32) (ro : Int32) : Array Value → State → Outcome → State → Prop := va_Qi (fun (r : Int32) (_ : Unit) => k_X4_above nC nR nf fx fy fz co ro = 0 ∧ r = s_X4_above nC nR nf fx fy fz co ro) (fun _ _ => True) (fun _ : Nat => False)
abbrev Xc_X4_above (D : va_G) (cI cZ cJ cD : ClassId) (qo : Nat) (qm : Nat) (qb : Nat) (qr : Nat) (qf : Nat) (qx : Nat) (qy : Nat) (qz : Nat) (qu : Nat) (nC : Nat) (nR : Nat) (nf : Int32) (fx : Nat → Int32) (fy : Nat → Int32) (fz : Nat → Int32) (co : Int32) (ro : Int32) : String → State → State → Prop := vx_X (fun _ : Unit => True) (fun E _ _ => zX E (k_X4_above nC nR nf fx fy fz co ro)) (fun _ : Nat => False)
set_option maxHeartbeats 4000000 in
set_option maxRecDepth 100000 in
theorem c_X4_above (l : Launch) (hnt : l.stackTraces = false) (D : va_G) (cI cZ cJ cD : ClassId) (qo : Nat) (qm : Nat) (qb : Nat) (qr : Nat) (qf : Nat) (qx : Nat) (qy : Nat) (qz : Nat) (qu : Nat) (nC : Nat) (nR : Nat) (nf : Int32) (fx : Nat → Int32) (fy : Nat → Int32) (fz : Nat → Int32) (co : Int32) (ro : Int32) (hN : nC * nR ≤ 36) (hC : nC ≤ 36) (hR : nR ≤ 36) : vx_Met l yX4_above wsX4_above rm_X4_above (va_Pc [.ref qo, .int co, .int ro] (zPreE D cI cZ cJ cD [(qo, .inr (4, [.ref qm, .ref qb, .ref qr, .ref qf])), (qf, .inr (1, [.ref qx, .ref qy, .ref qz, .ref qu, .int (nI nC), .int (nI nR), .int nf])), (qx, .inl (cI, 36, .inl fx)), (qy, .inl (cI, 36, .inl fy)), (qz, .inl (cI, 36, .inl fz))])) (Qc_X4_above D cI cZ cJ cD qo qm qb qr qf qx qy qz qu nC nR nf fx fy fz co ro ) (Xc_X4_above D cI cZ cJ cD qo qm qb qr qf qx qy qz qu nC nR nf fx fy fz co ro ) 1 6 (fun _ : Nat => False) := by
  refine vx_ofW (cc := cX4_above) (maxL := 3) (ret := (some .int)) (by decide) rfl ?_
  intro p e s m args below meth c s₁ B hml ht0 hv
  obtain ⟨rfl, hP, hK, hE⟩ := hv
  have hx := B.exec
  have hb := B.bytes
  have hr := B.returns
  have hts := atoms_spec (ws := wsX4_above) B.pre
  have hown : s.vm.findClass RX4 = some m.cls := findClass_of_methodNamed B.named
  have hlocks := B.notSynchronized
  have hS : va_S (fun _ : Nat => False) s.heap s.heap [] := va_S.rf
  have hl := lv_entry ([.ref qo, .int co, .int ro]) (n := 3) (Nat.le_of_ble_eq_true rfl)
  rw [lg_entry_eq]
  generalize (lg_sl ([.ref qo, .int co, .int ro]) ++ List.replicate (3 - (lg_sl ([.ref qo, .int co, .int ro])).length) Slot.unset).toArray = ls at hl ⊢
  have hl : lv_has ls 3 [(0, .ref qo), (1, .int co), (2, .int ro)] := hl
  have hP : va_P D vwCl [(qo, .inr (4, [.ref qm, .ref qb, .ref qr, .ref qf])), (qf, .inr (1, [.ref qx, .ref qy, .ref qz, .ref qu, .int (nI nC), .int (nI nR), .int nf])), (qx, .inl (cI, 36, .inl fx)), (qy, .inl (cI, 36, .inl fy)), (qz, .inl (cI, 36, .inl fz))] s.heap := hP
  have hP := hP
  refine lv_aload_n hx hb dX4_above_0 rfl (lv_at hl 0 rfl) ?_
  refine lv_iload_n hx hb dX4_above_1 rfl (lv_at hl 1 rfl) ?_
  refine lv_iload_n hx hb dX4_above_2 rfl (lv_at hl 2 rfl) ?_
  refine vx_callv (vx_runV (As := [.int co, .int ro]) (rest := []) ⟨hx, hb, hml, hown, hts⟩ (c_X4_requirePanel l hnt D cI cZ cJ cD qo qm qb qr qf qx qy qz qu nC nR nf co ro ) (cwV 2 hts gX4_above_X4_requirePanel rfl rfl rfl (by decide +kernel) ⟨Nat.le_of_ble_eq_true rfl, Nat.le_of_ble_eq_true rfl⟩) ⟨zblindE, va_recv hK hP (ci := 4) (q0 := 0) rfl rfl, (fun U hU hW => ⟨rfl, by rw [hU]; exact hP.sub (ws' := [(qo, .inr (4, [.ref qm, .ref qb, .ref qr, .ref qf])), (qf, .inr (1, [.ref qx, .ref qy, .ref qz, .ref qu, .int (nI nC), .int (nI nR), .int nf]))]) [0, 1] rfl, va_K.moved hW.alike hK, zEnv.go hE hS (fun q h => h.elim) hU hW⟩)⟩ rfl rfl hl.1 rfl (lv_room (Nat.le_of_ble_eq_true rfl)) dX4_above_3 ⟨Nat.le_of_ble_eq_true rfl, Nat.le_of_ble_eq_true rfl⟩) hS (fun q _ h => h.elim) (fun q h => h.elim) (fun q _ h => h.elim) (fun E ce q9 u t H locs ht hvm hpx hB hz1 hk1 hS hq9 hce hcl => ?_) (fun u t H locs ht hvm hw hB hz1 hk1 hS => ?_)
  · have hX := hB
    have hP := zk hP hk1
    have c6 : ¬ k_X4_requirePanel nC nR nf co ro = 0 := zX_ne hX
    have e7 : k_X4_above nC nR nf fx fy fz co ro = k_X4_requirePanel nC nR nf co ro := by
      unfold k_X4_above
      exact (if_neg c6)
    exact vx_out (fun x hx => (ht0 x hx).elim) hlocks hq9 hce hcl (fun t ht9 hal9 => ⟨(), trivial, (by rw [e7]; exact hX), hS.F ht9⟩) hS.2.2 (by decide) (by decide)
  · have c8 : k_X4_requirePanel nC nR nf co ro = 0 := hw
    have hP := zk hP hk1
    refine W.widen (k := 1) (n := 6) (by decide) (by decide) ?_
    refine lv_aload_n hx hb dX4_above_6 rfl (lv_at hl 0 rfl) ?_
    refine va_get (D := D) (ci := 4) (v := .ref qf) (C := RX4) (T := TX4) (N := 4) hx hb hts (fun w h => List.mem_cons_of_mem _ (List.mem_append_left _ (List.mem_append_left _ (List.mem_append_right _ h)))) hown hK hP 0 rfl rfl 3 (by decide) (hts (.fieldLink RX4 33 "AtlasFolder" "stack" "LAtlasFolder$FoldedSheet;") (List.mem_cons_of_mem _ (List.mem_append_left _ (List.mem_append_left _ (List.mem_append_left _ (List.mem_append_left _ (List.mem_of_getElem? (i := 0) rfl))))))) (fun _ h9 => h9) rfl dX4_above_7 ?_
    refine lv_iload_n hx hb dX4_above_10 rfl (lv_at hl 1 rfl) ?_
    refine lv_iload_n hx hb dX4_above_11 rfl (lv_at hl 2 rfl) ?_
    refine va_calli (va_runV (As := [.int co, .int ro]) (rest := []) ⟨hx, hb, hml, hown, hts⟩ (c_X1_panelsAbove l D cI cZ cJ cD qf qx qy qz qu nC nR nf fx fy fz co ro (by assumption) (by assumption) (by assumption)) (cwV 2 hts gX4_above_X1_panelsAbove rfl rfl rfl (by decide +kernel) ⟨Nat.le_of_ble_eq_true rfl, Nat.le_of_ble_eq_true rfl⟩) ⟨zblind, va_recv hK hP (ci := 1) (q0 := 1) rfl rfl, (fun U hU hW => ⟨rfl, by rw [hU]; exact hP.sub (ws' := [(qf, .inr (1, [.ref qx, .ref qy, .ref qz, .ref qu, .int (nI nC), .int (nI nR), .int nf])), (qx, .inl (cI, 36, .inl fx)), (qy, .inl (cI, 36, .inl fy)), (qz, .inl (cI, 36, .inl fz))]) [1, 2, 3, 4] rfl, va_K.moved hW.alike hK⟩)⟩ rfl rfl hl.1 rfl (lv_room (Nat.le_of_ble_eq_true rfl)) dX4_above_12 ⟨Nat.le_of_ble_eq_true rfl, Nat.le_of_ble_eq_true rfl⟩) hS (fun q _ h => h.elim) (fun q h => h.elim) (fun r9 u t H locs ht hvm hw hB hz1 hk1 hS => ?_)
    rw [hw]
    have hP := zk hP hk1
    have e10 : s_X4_above nC nR nf fx fy fz co ro = s_X1_panelsAbove nC nR nf fx fy fz co ro := by
      unfold s_X4_above
      exact (if_pos c8)
    have e11 : k_X4_above nC nR nf fx fy fz co ro = 0 := by
      unfold k_X4_above
      exact (if_pos c8)
    refine vx_ret ?_
    exact W.iret (v := (s_X1_panelsAbove nC nR nf fx fy fz co ro)) hx hb hr (fun t ht hW => ⟨⟨_, (), rfl, ⟨e11, e10.symm⟩, trivial⟩, hS.F ht⟩) hS.2.2 dX4_above_15
def s_X4_isUp (nC : Nat) (nR : Nat) (nf : Int32) (fu : Nat → Int32) (co : Int32) (ro : Int32) : Int32 := (if k_X4_requirePanel nC nR nf co ro = 0 then s_X1_liesFaceUp nC nR nf fu co ro else 0)
def k_X4_isUp (nC : Nat) (nR : Nat) (nf : Int32) (fu : Nat → Int32) (co : Int32) (ro : Int32) : Nat := (if k_X4_requirePanel nC nR nf co ro = 0 then 0 else k_X4_requirePanel nC nR nf co ro)
abbrev rm_X4_isUp : Room := { frames := 7, cells := 1, slots := 6, locals := 112 }
abbrev Qc_X4_isUp (D : va_G) (cI cZ cJ cD : ClassId) (qo : Nat) (qm : Nat) (qb : Nat) (qr : Nat) (qf : Nat) (qx : Nat) (qy : Nat) (qz : Nat) (qu : Nat) (nC : Nat) (nR : Nat) (nf : Int32) (fu : Nat → Int32) (co : Int32) (ro : Int32) : Array Value → State → Outcome → State → Prop := va_Qi (fun (r : Int32) (_ : Unit) => k_X4_isUp nC nR nf fu co ro = 0 ∧ r = s_X4_isUp nC nR nf fu co ro) (fun _ _ => True) (fun _ : Nat => False)
abbrev Xc_X4_isUp (D : va_G) (cI cZ cJ cD : ClassId) (qo : Nat) (qm : Nat) (qb : Nat) (qr : Nat) (qf : Nat) (qx : Nat) (qy : Nat) (qz : Nat) (qu : Nat) (nC : Nat) (nR : Nat) (nf : Int32) (fu : Nat → Int32) (co : Int32) (ro : Int32) : String → State → State → Prop := vx_X (fun _ : Unit => True) (fun E _ _ => zX E (k_X4_isUp nC nR nf fu co ro)) (fun _ : Nat => False)
set_option maxHeartbeats 4000000 in
set_option maxRecDepth 100000 in
theorem c_X4_isUp (l : Launch) (hnt : l.stackTraces = false) (D : va_G) (cI cZ cJ cD : ClassId) (qo : Nat) (qm : Nat) (qb : Nat) (qr : Nat) (qf : Nat) (qx : Nat) (qy : Nat) (qz : Nat) (qu : Nat) (nC : Nat) (nR : Nat) (nf : Int32) (fu : Nat → Int32) (co : Int32) (ro : Int32) (hN : nC * nR ≤ 36) (hC : nC ≤ 36) (hR : nR ≤ 36) : vx_Met l yX4_isUp wsX4_isUp rm_X4_isUp (va_Pc [.ref qo, .int co, .int ro] (zPreE D cI cZ cJ cD [(qo, .inr (4, [.ref qm, .ref qb, .ref qr, .ref qf])), (qf, .inr (1, [.ref qx, .ref qy, .ref qz, .ref qu, .int (nI nC), .int (nI nR), .int nf])), (qu, .inl (cZ, 36, .inl fu))])) (Qc_X4_isUp D cI cZ cJ cD qo qm qb qr qf qx qy qz qu nC nR nf fu co ro ) (Xc_X4_isUp D cI cZ cJ cD qo qm qb qr qf qx qy qz qu nC nR nf fu co ro ) 1 6 (fun _ : Nat => False) := by
  refine vx_ofW (cc := cX4_isUp) (maxL := 3) (ret := (some .boolean)) (by decide) rfl ?_
  intro p e s m args below meth c s₁ B hml ht0 hv
  obtain ⟨rfl, hP, hK, hE⟩ := hv
  have hx := B.exec
  have hb := B.bytes
  have hr := B.returns
  have hts := atoms_spec (ws := wsX4_isUp) B.pre
  have hown : s.vm.findClass RX4 = some m.cls := findClass_of_methodNamed B.named
  have hlocks := B.notSynchronized
  have hS : va_S (fun _ : Nat => False) s.heap s.heap [] := va_S.rf
  have hl := lv_entry ([.ref qo, .int co, .int ro]) (n := 3) (Nat.le_of_ble_eq_true rfl)
  rw [lg_entry_eq]
  generalize (lg_sl ([.ref qo, .int co, .int ro]) ++ List.replicate (3 - (lg_sl ([.ref qo, .int co, .int ro])).length) Slot.unset).toArray = ls at hl ⊢
  have hl : lv_has ls 3 [(0, .ref qo), (1, .int co), (2, .int ro)] := hl
  have hP : va_P D vwCl [(qo, .inr (4, [.ref qm, .ref qb, .ref qr, .ref qf])), (qf, .inr (1, [.ref qx, .ref qy, .ref qz, .ref qu, .int (nI nC), .int (nI nR), .int nf])), (qu, .inl (cZ, 36, .inl fu))] s.heap := hP
  have hP := hP
  refine lv_aload_n hx hb dX4_isUp_0 rfl (lv_at hl 0 rfl) ?_
  refine lv_iload_n hx hb dX4_isUp_1 rfl (lv_at hl 1 rfl) ?_
  refine lv_iload_n hx hb dX4_isUp_2 rfl (lv_at hl 2 rfl) ?_
  refine vx_callv (vx_runV (As := [.int co, .int ro]) (rest := []) ⟨hx, hb, hml, hown, hts⟩ (c_X4_requirePanel l hnt D cI cZ cJ cD qo qm qb qr qf qx qy qz qu nC nR nf co ro ) (cwV 2 hts gX4_isUp_X4_requirePanel rfl rfl rfl (by decide +kernel) ⟨Nat.le_of_ble_eq_true rfl, Nat.le_of_ble_eq_true rfl⟩) ⟨zblindE, va_recv hK hP (ci := 4) (q0 := 0) rfl rfl, (fun U hU hW => ⟨rfl, by rw [hU]; exact hP.sub (ws' := [(qo, .inr (4, [.ref qm, .ref qb, .ref qr, .ref qf])), (qf, .inr (1, [.ref qx, .ref qy, .ref qz, .ref qu, .int (nI nC), .int (nI nR), .int nf]))]) [0, 1] rfl, va_K.moved hW.alike hK, zEnv.go hE hS (fun q h => h.elim) hU hW⟩)⟩ rfl rfl hl.1 rfl (lv_room (Nat.le_of_ble_eq_true rfl)) dX4_isUp_3 ⟨Nat.le_of_ble_eq_true rfl, Nat.le_of_ble_eq_true rfl⟩) hS (fun q _ h => h.elim) (fun q h => h.elim) (fun q _ h => h.elim) (fun E ce q9 u t H locs ht hvm hpx hB hz1 hk1 hS hq9 hce hcl => ?_) (fun u t H locs ht hvm hw hB hz1 hk1 hS => ?_)
  · have hX := hB
    have hP := zk hP hk1
    have c6 : ¬ k_X4_requirePanel nC nR nf co ro = 0 := zX_ne hX
    have e7 : k_X4_isUp nC nR nf fu co ro = k_X4_requirePanel nC nR nf co ro := by
      unfold k_X4_isUp
      exact (if_neg c6)
    exact vx_out (fun x hx => (ht0 x hx).elim) hlocks hq9 hce hcl (fun t ht9 hal9 => ⟨(), trivial, (by rw [e7]; exact hX), hS.F ht9⟩) hS.2.2 (by decide) (by decide)
  · have c8 : k_X4_requirePanel nC nR nf co ro = 0 := hw
    have hP := zk hP hk1
    refine W.widen (k := 1) (n := 6) (by decide) (by decide) ?_
    refine lv_aload_n hx hb dX4_isUp_6 rfl (lv_at hl 0 rfl) ?_
    refine va_get (D := D) (ci := 4) (v := .ref qf) (C := RX4) (T := TX4) (N := 4) hx hb hts (fun w h => List.mem_cons_of_mem _ (List.mem_append_left _ (List.mem_append_left _ (List.mem_append_right _ h)))) hown hK hP 0 rfl rfl 3 (by decide) (hts (.fieldLink RX4 33 "AtlasFolder" "stack" "LAtlasFolder$FoldedSheet;") (List.mem_cons_of_mem _ (List.mem_append_left _ (List.mem_append_left _ (List.mem_append_left _ (List.mem_append_left _ (List.mem_of_getElem? (i := 0) rfl))))))) (fun _ h9 => h9) rfl dX4_isUp_7 ?_
    refine lv_iload_n hx hb dX4_isUp_10 rfl (lv_at hl 1 rfl) ?_
    refine lv_iload_n hx hb dX4_isUp_11 rfl (lv_at hl 2 rfl) ?_
    refine va_calli (va_runV (As := [.int co, .int ro]) (rest := []) ⟨hx, hb, hml, hown, hts⟩ (c_X1_liesFaceUp l D cI cZ cJ cD qf qx qy qz qu nC nR nf fu co ro (by assumption) (by assumption) (by assumption)) (cwV 2 hts gX4_isUp_X1_liesFaceUp rfl rfl rfl (by decide +kernel) ⟨Nat.le_of_ble_eq_true rfl, Nat.le_of_ble_eq_true rfl⟩) ⟨zblind, va_recv hK hP (ci := 1) (q0 := 1) rfl rfl, (fun U hU hW => ⟨rfl, by rw [hU]; exact hP.sub (ws' := [(qf, .inr (1, [.ref qx, .ref qy, .ref qz, .ref qu, .int (nI nC), .int (nI nR), .int nf])), (qu, .inl (cZ, 36, .inl fu))]) [1, 2] rfl, va_K.moved hW.alike hK⟩)⟩ rfl rfl hl.1 rfl (lv_room (Nat.le_of_ble_eq_true rfl)) dX4_isUp_12 ⟨Nat.le_of_ble_eq_true rfl, Nat.le_of_ble_eq_true rfl⟩) hS (fun q _ h => h.elim) (fun q h => h.elim) (fun r9 u t H locs ht hvm hw hB hz1 hk1 hS => ?_)
    rw [hw]
    have hP := zk hP hk1
    have e10 : s_X4_isUp nC nR nf fu co ro = s_X1_liesFaceUp nC nR nf fu co ro := by
      unfold s_X4_isUp
      exact (if_pos c8)
    have e11 : k_X4_isUp nC nR nf fu co ro = 0 := by
      unfold k_X4_isUp
      exact (if_pos c8)
    refine vx_ret ?_
    exact W.zret (v := (s_X1_liesFaceUp nC nR nf fu co ro)) hx hb hr (z_b (by unfold s_X1_liesFaceUp; (repeat' split) <;> simp)) (fun t ht hW => ⟨⟨_, (), rfl, ⟨e11, e10.symm⟩, trivial⟩, hS.F ht⟩) hS.2.2 dX4_isUp_15
def s_X4_thickness (nC : Nat) (nR : Nat) (nf : Int32) (fx : Nat → Int32) (fy : Nat → Int32) (fz : Nat → Int32) : Int32 := s_X1_mostPanels nC nR nf fx fy fz
abbrev rm_X4_thickness : Room := { frames := 3, cells := 0, slots := 0, locals := 65 }
abbrev Qc_X4_thickness (D : va_G) (cI cZ cJ cD : ClassId) (qo : Nat) (qm : Nat) (qb : Nat) (qr : Nat) (qf : Nat) (qx : Nat) (qy : Nat) (qz : Nat) (qu : Nat) (nC : Nat) (nR : Nat) (nf : Int32) (fx : Nat → Int32) (fy : Nat → Int32) (fz : Nat → Int32) : Array Value → State → Outcome → State → Prop := va_Qi (fun (r : Int32) (_ : Unit) => r = s_X4_thickness nC nR nf fx fy fz) (fun _ _ => True) (fun _ : Nat => False)
set_option maxHeartbeats 4000000 in
set_option maxRecDepth 100000 in
theorem c_X4_thickness (l : Launch) (D : va_G) (cI cZ cJ cD : ClassId) (qo : Nat) (qm : Nat) (qb : Nat) (qr : Nat) (qf : Nat) (qx : Nat) (qy : Nat) (qz : Nat) (qu : Nat) (nC : Nat) (nR : Nat) (nf : Int32) (fx : Nat → Int32) (fy : Nat → Int32) (fz : Nat → Int32) (hN : nC * nR ≤ 36) : Met l yX4_thickness wsX4_thickness rm_X4_thickness (va_Pc [.ref qo] (zPre D cI cZ cJ cD [(qo, .inr (4, [.ref qm, .ref qb, .ref qr, .ref qf])), (qf, .inr (1, [.ref qx, .ref qy, .ref qz, .ref qu, .int (nI nC), .int (nI nR), .int nf])), (qx, .inl (cI, 36, .inl fx)), (qy, .inl (cI, 36, .inl fy)), (qz, .inl (cI, 36, .inl fz))])) (Qc_X4_thickness D cI cZ cJ cD qo qm qb qr qf qx qy qz qu nC nR nf fx fy fz ) 0 0 (fun _ : Nat => False) := by
  refine Met.ofW (cc := cX4_thickness) (maxL := 1) (ret := (some .int)) (by decide) rfl ?_
  intro p e s m args below meth c s₁ B hml hv
  obtain ⟨rfl, hP, hK⟩ := hv
  have hx := B.exec
  have hb := B.bytes
  have hr := B.returns
  have hts := atoms_spec (ws := wsX4_thickness) B.pre
  have hown : s.vm.findClass RX4 = some m.cls := findClass_of_methodNamed B.named
  have hlocks := B.notSynchronized
  have hS : va_S (fun _ : Nat => False) s.heap s.heap [] := va_S.rf
  have hl := lv_entry ([.ref qo]) (n := 1) (Nat.le_of_ble_eq_true rfl)
  rw [lg_entry_eq]
  generalize (lg_sl ([.ref qo]) ++ List.replicate (1 - (lg_sl ([.ref qo])).length) Slot.unset).toArray = ls at hl ⊢
  have hl : lv_has ls 1 [(0, .ref qo)] := hl
  have hP : va_P D vwCl [(qo, .inr (4, [.ref qm, .ref qb, .ref qr, .ref qf])), (qf, .inr (1, [.ref qx, .ref qy, .ref qz, .ref qu, .int (nI nC), .int (nI nR), .int nf])), (qx, .inl (cI, 36, .inl fx)), (qy, .inl (cI, 36, .inl fy)), (qz, .inl (cI, 36, .inl fz))] s.heap := hP
  have hP := hP
  refine lv_aload_n hx hb dX4_thickness_0 rfl (lv_at hl 0 rfl) ?_
  refine va_get (D := D) (ci := 4) (v := .ref qf) (C := RX4) (T := TX4) (N := 4) hx hb hts (fun w h => List.mem_cons_of_mem _ (List.mem_append_left _ (List.mem_append_right _ h))) hown hK hP 0 rfl rfl 3 (by decide) (hts (.fieldLink RX4 33 "AtlasFolder" "stack" "LAtlasFolder$FoldedSheet;") (List.mem_cons_of_mem _ (List.mem_append_left _ (List.mem_append_left _ (List.mem_of_getElem? (i := 0) rfl))))) (fun _ h9 => h9) rfl dX4_thickness_1 ?_
  refine va_calli (va_runV (As := []) (rest := []) ⟨hx, hb, hml, hown, hts⟩ (c_X1_mostPanels l D cI cZ cJ cD qf qx qy qz qu nC nR nf fx fy fz (by assumption)) (cwV 0 hts gX4_thickness_X1_mostPanels rfl rfl rfl (by decide +kernel) ⟨Nat.le_of_ble_eq_true rfl, Nat.le_of_ble_eq_true rfl⟩) ⟨zblind, va_recv hK hP (ci := 1) (q0 := 1) rfl rfl, (fun U hU hW => ⟨rfl, by rw [hU]; exact hP.sub (ws' := [(qf, .inr (1, [.ref qx, .ref qy, .ref qz, .ref qu, .int (nI nC), .int (nI nR), .int nf])), (qx, .inl (cI, 36, .inl fx)), (qy, .inl (cI, 36, .inl fy)), (qz, .inl (cI, 36, .inl fz))]) [1, 2, 3, 4] rfl, va_K.moved hW.alike hK⟩)⟩ rfl rfl hl.1 rfl (lv_room (Nat.le_of_ble_eq_true rfl)) dX4_thickness_4 ⟨Nat.le_of_ble_eq_true rfl, Nat.le_of_ble_eq_true rfl⟩) hS (fun q _ h => h.elim) (fun q h => h.elim) (fun r2 u t H locs ht hvm hw hB hz1 hk1 hS => ?_)
  rw [hw]
  have hP := zk hP hk1
  have e3 : s_X4_thickness nC nR nf fx fy fz = s_X1_mostPanels nC nR nf fx fy fz := rfl
  exact W.iret (v := (s_X1_mostPanels nC nR nf fx fy fz)) hx hb hr (fun t ht hW => ⟨⟨_, (), rfl, e3.symm, trivial⟩, hS.F ht⟩) hS.2.2 dX4_thickness_7
def s_X4_readable (nC : Nat) (nR : Nat) (nf : Int32) (fx : Nat → Int32) (fy : Nat → Int32) (fz : Nat → Int32) (fu : Nat → Int32) : Int32 := s_X1_readablePanels nC nR nf fx fy fz fu
abbrev rm_X4_readable : Room := { frames := 3, cells := 0, slots := 0, locals := 65 }
abbrev Qc_X4_readable (D : va_G) (cI cZ cJ cD : ClassId) (qo : Nat) (qm : Nat) (qb : Nat) (qr : Nat) (qf : Nat) (qx : Nat) (qy : Nat) (qz : Nat) (qu : Nat) (nC : Nat) (nR : Nat) (nf : Int32) (fx : Nat → Int32) (fy : Nat → Int32) (fz : Nat → Int32) (fu : Nat → Int32) : Array Value → State → Outcome → State → Prop := va_Qi (fun (r : Int32) (_ : Unit) => r = s_X4_readable nC nR nf fx fy fz fu) (fun _ _ => True) (fun _ : Nat => False)
set_option maxHeartbeats 4000000 in
set_option maxRecDepth 100000 in
theorem c_X4_readable (l : Launch) (D : va_G) (cI cZ cJ cD : ClassId) (qo : Nat) (qm : Nat) (qb : Nat) (qr : Nat) (qf : Nat) (qx : Nat) (qy : Nat) (qz : Nat) (qu : Nat) (nC : Nat) (nR : Nat) (nf : Int32) (fx : Nat → Int32) (fy : Nat → Int32) (fz : Nat → Int32) (fu : Nat → Int32) (hN : nC * nR ≤ 36) : Met l yX4_readable wsX4_readable rm_X4_readable (va_Pc [.ref qo] (zPre D cI cZ cJ cD [(qo, .inr (4, [.ref qm, .ref qb, .ref qr, .ref qf])), (qf, .inr (1, [.ref qx, .ref qy, .ref qz, .ref qu, .int (nI nC), .int (nI nR), .int nf])), (qx, .inl (cI, 36, .inl fx)), (qy, .inl (cI, 36, .inl fy)), (qz, .inl (cI, 36, .inl fz)), (qu, .inl (cZ, 36, .inl fu))])) (Qc_X4_readable D cI cZ cJ cD qo qm qb qr qf qx qy qz qu nC nR nf fx fy fz fu ) 0 0 (fun _ : Nat => False) := by
  refine Met.ofW (cc := cX4_readable) (maxL := 1) (ret := (some .int)) (by decide) rfl ?_
  intro p e s m args below meth c s₁ B hml hv
  obtain ⟨rfl, hP, hK⟩ := hv
  have hx := B.exec
  have hb := B.bytes
  have hr := B.returns
  have hts := atoms_spec (ws := wsX4_readable) B.pre
  have hown : s.vm.findClass RX4 = some m.cls := findClass_of_methodNamed B.named
  have hlocks := B.notSynchronized
  have hS : va_S (fun _ : Nat => False) s.heap s.heap [] := va_S.rf
  have hl := lv_entry ([.ref qo]) (n := 1) (Nat.le_of_ble_eq_true rfl)
  rw [lg_entry_eq]
  generalize (lg_sl ([.ref qo]) ++ List.replicate (1 - (lg_sl ([.ref qo])).length) Slot.unset).toArray = ls at hl ⊢
  have hl : lv_has ls 1 [(0, .ref qo)] := hl
  have hP : va_P D vwCl [(qo, .inr (4, [.ref qm, .ref qb, .ref qr, .ref qf])), (qf, .inr (1, [.ref qx, .ref qy, .ref qz, .ref qu, .int (nI nC), .int (nI nR), .int nf])), (qx, .inl (cI, 36, .inl fx)), (qy, .inl (cI, 36, .inl fy)), (qz, .inl (cI, 36, .inl fz)), (qu, .inl (cZ, 36, .inl fu))] s.heap := hP
  have hP := hP
  refine lv_aload_n hx hb dX4_readable_0 rfl (lv_at hl 0 rfl) ?_
  refine va_get (D := D) (ci := 4) (v := .ref qf) (C := RX4) (T := TX4) (N := 4) hx hb hts (fun w h => List.mem_cons_of_mem _ (List.mem_append_left _ (List.mem_append_right _ h))) hown hK hP 0 rfl rfl 3 (by decide) (hts (.fieldLink RX4 33 "AtlasFolder" "stack" "LAtlasFolder$FoldedSheet;") (List.mem_cons_of_mem _ (List.mem_append_left _ (List.mem_append_left _ (List.mem_of_getElem? (i := 0) rfl))))) (fun _ h9 => h9) rfl dX4_readable_1 ?_
  refine va_calli (va_runV (As := []) (rest := []) ⟨hx, hb, hml, hown, hts⟩ (c_X1_readablePanels l D cI cZ cJ cD qf qx qy qz qu nC nR nf fx fy fz fu (by assumption)) (cwV 0 hts gX4_readable_X1_readablePanels rfl rfl rfl (by decide +kernel) ⟨Nat.le_of_ble_eq_true rfl, Nat.le_of_ble_eq_true rfl⟩) ⟨zblind, va_recv hK hP (ci := 1) (q0 := 1) rfl rfl, (fun U hU hW => ⟨rfl, by rw [hU]; exact hP.sub (ws' := [(qf, .inr (1, [.ref qx, .ref qy, .ref qz, .ref qu, .int (nI nC), .int (nI nR), .int nf])), (qx, .inl (cI, 36, .inl fx)), (qy, .inl (cI, 36, .inl fy)), (qz, .inl (cI, 36, .inl fz)), (qu, .inl (cZ, 36, .inl fu))]) [1, 2, 3, 4, 5] rfl, va_K.moved hW.alike hK⟩)⟩ rfl rfl hl.1 rfl (lv_room (Nat.le_of_ble_eq_true rfl)) dX4_readable_4 ⟨Nat.le_of_ble_eq_true rfl, Nat.le_of_ble_eq_true rfl⟩) hS (fun q _ h => h.elim) (fun q h => h.elim) (fun r2 u t H locs ht hvm hw hB hz1 hk1 hS => ?_)
  rw [hw]
  have hP := zk hP hk1
  have e3 : s_X4_readable nC nR nf fx fy fz fu = s_X1_readablePanels nC nR nf fx fy fz fu := rfl
  exact W.iret (v := (s_X1_readablePanels nC nR nf fx fy fz fu)) hx hb hr (fun t ht hW => ⟨⟨_, (), rfl, e3.symm, trivial⟩, hS.F ht⟩) hS.2.2 dX4_readable_7
