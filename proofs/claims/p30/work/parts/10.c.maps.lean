def v_L_maps_24 (y : Int32) : Int32 := (if (s_L_some y 60) = 0 then 91 else (s_L_some y 181) - 90)
def v_L_maps_55 (y : Int32) : Int32 := (if (s_L_some (y >>> ((5 : Int32) &&& 31)) 60) = 0 then 180 else (s_L_some (y >>> ((5 : Int32) &&& 31)) 360) - 180)
def v_L_maps_68 (y : Int32) : Int32 := (if 91 ≤ (v_L_maps_24 y) then 0 else 1)
def v_L_maps_88 (y : Int32) : Int32 := (if (v_L_maps_68 y) = 0 then 0 else (if 180 ≤ (v_L_maps_55 y) then 0 else 1))
def v_L_maps_211 (fw : Nat → Int32) (fh : Nat → Int32) (y : Int32) : Int32 := (if (s_L_some (y >>> ((3 : Int32) &&& 31)) 50) = 0 then 99991 else (if (v_L_maps_68 y) = 0 then (s_L_some (y >>> ((2 : Int32) &&& 31)) 199981) - 99990 else (if (s_L_some (y >>> ((6 : Int32) &&& 31)) 3) ≤ 0 then (s_L_some (y >>> ((2 : Int32) &&& 31)) 199981) - 99990 else ((s_L_high fw fh (v_L_maps_24 y)) + (s_L_some (y >>> ((7 : Int32) &&& 31)) 9)) - 4)))
def v_L_maps_246 (fw : Nat → Int32) (fh : Nat → Int32) (y : Int32) (a221_0 : Int32) (k : Nat) : Int32 := (if (v_L_maps_211 fw fh y) < (s_L_high fw fh ((-90) + nI k)) then a221_0 else (-90) + nI k)
def lp_L_maps_221 (fw : Nat → Int32) (fh : Nat → Int32) (y : Int32) : Nat → Int32
  | 0 => (-91)
  | k + 1 => v_L_maps_246 fw fh y (lp_L_maps_221 fw fh y k) k
def v_L_maps_312 (y : Int32) : Int32 := (s_L_some (y >>> ((4 : Int32) &&& 31)) 181) - 90
def v_L_maps_326 (y : Int32) : Int32 := (if (v_L_maps_312 y) ≤ (v_L_maps_24 y) then v_L_maps_312 y else v_L_maps_24 y)
def v_L_maps_340 (y : Int32) : Int32 := (if (v_L_maps_312 y) ≤ (v_L_maps_24 y) then v_L_maps_24 y else v_L_maps_312 y)
def v_L_maps_356 (y : Int32) : Int32 := (s_L_some (y >>> ((7 : Int32) &&& 31)) 362) - 181
def v_L_maps_383 (y : Int32) : Int32 := (if (v_L_maps_68 y) = 0 then 0 else (if (v_L_maps_356 y) < (-180) then 0 else (if (v_L_maps_55 y) < (v_L_maps_356 y) then 0 else 1)))
def v_L_maps_409 (fw : Nat → Int32) (fh : Nat → Int32) (y : Int32) : Int64 := (if (v_L_maps_383 y) = 0 then (-1) else s_L_area fw fh (v_L_maps_326 y) (v_L_maps_340 y) ((v_L_maps_55 y) - (v_L_maps_356 y)))
def s_L_maps (fw : Nat → Int32) (fh : Nat → Int32) (br : Int32) (nC : Nat) (nR : Nat) (nf : Int32) (y : Int32) : Int32 := (if (s_L_by fw fh br nC nR nf 0 (v_L_maps_24 y) (v_L_maps_55 y) 0) = (if (v_L_maps_88 y) = 0 then (-9000001) else (v_L_maps_55 y) * (s_L_wide fw fh (v_L_maps_24 y))) then (if (s_L_by fw fh br nC nR nf 1 (v_L_maps_24 y) 0 0) = (if (v_L_maps_68 y) = 0 then (-9000001) else s_L_high fw fh (v_L_maps_24 y)) then (if (s_L_latitude fw fh (v_L_maps_211 fw fh y)) = (if 99990 < (v_L_maps_211 fw fh y) then (-1001) else (if (-99990) ≤ (v_L_maps_211 fw fh y) then (if (lp_L_maps_221 fw fh y 181) = (-91) then (-1002) else lp_L_maps_221 fw fh y 181) else (-1001))) then (if (lg_cmp (s_L_field fw fh 0 (v_L_maps_326 y) (v_L_maps_340 y) (v_L_maps_356 y) (v_L_maps_55 y)) (v_L_maps_409 fw fh y)) = 0 then (if (lg_cmp (s_L_field fw fh 1 (v_L_maps_326 y) (v_L_maps_340 y) (v_L_maps_356 y) (v_L_maps_55 y)) (v_L_maps_409 fw fh y)) = 0 then (if (lg_cmp (s_L_field fw fh 0 5 4 0 0) (-1)) = 0 then 1 else 0) else 0) else 0) else 0) else 0) else 0)
theorem mp_n (y : Int32) : -90 ≤ (v_L_maps_24 y).toInt ∧ (v_L_maps_24 y).toInt ≤ 91 := by
  unfold v_L_maps_24
  split
  · decide
  · have := l_off y (n := 181) (c := 90) 181 90 rfl rfl (by decide) (by decide) (by decide)
    omega
theorem mp_e (y : Int32) : -180 ≤ (v_L_maps_55 y).toInt ∧ (v_L_maps_55 y).toInt ≤ 180 := by
  unfold v_L_maps_55
  split
  · decide
  · have := l_off (y >>> ((5 : Int32) &&& 31)) (n := 360) (c := 180) 360 180 rfl rfl (by decide) (by decide) (by decide)
    omega
theorem mp_isn {y : Int32} (h : ¬ v_L_maps_68 y = 0) : -90 ≤ (v_L_maps_24 y).toInt ∧ (v_L_maps_24 y).toInt ≤ 90 := by
  have h1 := mp_n y
  unfold v_L_maps_68 at h
  have h2 := z_n1 h
  rw [Int32.le_iff_toInt_le, show (91 : Int32).toInt = 91 from rfl] at h2
  omega
theorem mp_fine {y : Int32} (h : ¬ v_L_maps_88 y = 0) : -90 ≤ (v_L_maps_24 y).toInt ∧ (v_L_maps_24 y).toInt ≤ 90 := by
  unfold v_L_maps_88 at h
  exact mp_isn (z_n1 h)
theorem mp_t {k : Nat} (h : k ≤ 181) : (-90 + nI k).toInt = -90 + (k : Int) := by
  have e : (nI k).toInt = (k : Int) := nI_toInt (by omega)
  have e2 : (-90 : Int32).toInt = -90 := rfl
  rw [z_addI (by rw [e, e2]; omega) (by rw [e, e2]; omega), e, e2]
theorem mp_lk {k : Nat} (h : k < 181) : -90 ≤ (-90 + nI k).toInt ∧ (-90 + nI k).toInt ≤ 90 := by
  rw [mp_t (by omega)]
  omega
theorem mp_ge {k : Nat} (hk : k ≤ 181) (h : 91 ≤ -90 + nI k) : 181 ≤ k := by
  rw [Int32.le_iff_toInt_le, mp_t hk, show (91 : Int32).toInt = 91 from rfl] at h
  omega
theorem mp_lt {k : Nat} (hk : k ≤ 181) (h : ¬ 91 ≤ -90 + nI k) : k < 181 := by
  rw [Int32.le_iff_toInt_le, mp_t hk, show (91 : Int32).toInt = 91 from rfl] at h
  omega
theorem mp_o (y : Int32) : -90 ≤ (v_L_maps_312 y).toInt ∧ (v_L_maps_312 y).toInt ≤ 90 := by
  unfold v_L_maps_312
  have := l_off (y >>> ((4 : Int32) &&& 31)) (n := 181) (c := 90) 181 90 rfl rfl (by decide) (by decide) (by decide)
  omega
theorem mp_r {y : Int32} (h : ¬ v_L_maps_383 y = 0) : ¬ v_L_maps_68 y = 0 := by
  unfold v_L_maps_383 at h
  exact z_n1 h
theorem mp_mm (y : Int32) : ((v_L_maps_326 y).toInt = (v_L_maps_312 y).toInt ∧ (v_L_maps_340 y).toInt = (v_L_maps_24 y).toInt ∨ (v_L_maps_326 y).toInt = (v_L_maps_24 y).toInt ∧ (v_L_maps_340 y).toInt = (v_L_maps_312 y).toInt) ∧ (v_L_maps_326 y).toInt ≤ (v_L_maps_340 y).toInt := by
  unfold v_L_maps_326 v_L_maps_340
  by_cases c : v_L_maps_312 y ≤ v_L_maps_24 y
  · rw [if_pos c, if_pos c]
    exact ⟨Or.inl ⟨rfl, rfl⟩, Int32.le_iff_toInt_le.mp c⟩
  · rw [if_neg c, if_neg c]
    rw [Int32.le_iff_toInt_le] at c
    exact ⟨Or.inr ⟨rfl, rfl⟩, by omega⟩
theorem mp_a1 {y : Int32} (h : ¬ v_L_maps_383 y = 0) : -90 ≤ (v_L_maps_326 y).toInt := by
  have h1 := mp_isn (mp_r h)
  have h2 := mp_o y
  have h3 := mp_mm y
  omega
theorem mp_a2 (y : Int32) : (v_L_maps_326 y).toInt ≤ (v_L_maps_340 y).toInt := (mp_mm y).2
theorem mp_a3 {y : Int32} (h : ¬ v_L_maps_383 y = 0) : (v_L_maps_340 y).toInt ≤ 90 := by
  have h1 := mp_isn (mp_r h)
  have h2 := mp_o y
  have h3 := mp_mm y
  omega
abbrev rm_L_maps : Room := { frames := 9, cells := 39, slots := 234, locals := 189 }
abbrev Qc_L_maps (D : va_G) (cI cZ cJ cD : ClassId) (qo : Nat) (qm : Nat) (qb : Nat) (qr : Nat) (qf : Nat) (qw : Nat) (qh : Nat) (fw : Nat → Int32) (fh : Nat → Int32) (br : Int32) (qx : Nat) (qy : Nat) (qz : Nat) (qu : Nat) (nC : Nat) (nR : Nat) (nf : Int32) (qT : Nat) (gt : Nat → Int32) (y : Int32) (A : Nat → Prop) : Array Value → State → Outcome → State → Prop := va_Qi (fun (r : Int32) (_ : Unit) => r = s_L_maps fw fh br nC nR nf y) (zPost D cI cZ cJ cD A [(qo, .inr (4, [.ref qm, .ref qb, .ref qr, .ref qf])), (qm, .inr (2, [.ref qw, .ref qh])), (qw, .inl (cI, 10, .inl fw)), (qh, .inl (cI, 10, .inl fh)), (qr, .inr (3, [.int br])), (qf, .inr (1, [.ref qx, .ref qy, .ref qz, .ref qu, .int (nI nC), .int (nI nR), .int nf])), (qT, .inl (cI, 33, .inl gt))]) A
set_option maxHeartbeats 4000000 in
set_option maxRecDepth 100000 in
theorem c_L_maps (l : Launch) (hnt : l.stackTraces = false) (D : va_G) (cI cZ cJ cD : ClassId) (qo : Nat) (qm : Nat) (qb : Nat) (qr : Nat) (qf : Nat) (qw : Nat) (qh : Nat) (fw : Nat → Int32) (fh : Nat → Int32) (br : Int32) (qx : Nat) (qy : Nat) (qz : Nat) (qu : Nat) (nC : Nat) (nR : Nat) (nf : Int32) (qT : Nat) (gt : Nat → Int32) (y : Int32) (sz : Nat) (hT : zLT gt fw fh) (hWB : zWB fw) : Met l yL_maps wsL_maps rm_L_maps (va_Pc [.ref qo, .int y, .ref qT] (zPreWE D cI cZ cJ cD [(qo, .inr (4, [.ref qm, .ref qb, .ref qr, .ref qf])), (qm, .inr (2, [.ref qw, .ref qh])), (qw, .inl (cI, 10, .inl fw)), (qh, .inl (cI, 10, .inl fh)), (qr, .inr (3, [.int br])), (qf, .inr (1, [.ref qx, .ref qy, .ref qz, .ref qu, .int (nI nC), .int (nI nR), .int nf])), (qT, .inl (cI, 33, .inl gt))] sz)) (Qc_L_maps D cI cZ cJ cD qo qm qb qr qf qw qh fw fh br qx qy qz qu nC nR nf qT gt y (va_A [(qo, .inr (4, [.ref qm, .ref qb, .ref qr, .ref qf])), (qm, .inr (2, [.ref qw, .ref qh])), (qw, .inl (cI, 10, .inl fw)), (qh, .inl (cI, 10, .inl fh)), (qr, .inr (3, [.int br])), (qf, .inr (1, [.ref qx, .ref qy, .ref qz, .ref qu, .int (nI nC), .int (nI nR), .int nf])), (qT, .inl (cI, 33, .inl gt))] sz)) 39 234 (va_A [(qo, .inr (4, [.ref qm, .ref qb, .ref qr, .ref qf])), (qm, .inr (2, [.ref qw, .ref qh])), (qw, .inl (cI, 10, .inl fw)), (qh, .inl (cI, 10, .inl fh)), (qr, .inr (3, [.int br])), (qf, .inr (1, [.ref qx, .ref qy, .ref qz, .ref qu, .int (nI nC), .int (nI nR), .int nf])), (qT, .inl (cI, 33, .inl gt))] sz) := by
  refine Met.ofW (cc := cL_maps) (maxL := 16) (ret := (some .boolean)) (by decide) rfl ?_
  intro p e s m args below meth c s₁ B hml hv
  obtain ⟨rfl, hsz, hP, hK, hD0, hE⟩ := hv
  have hx := B.exec
  have hb := B.bytes
  have hr := B.returns
  have hts := atoms_spec (ws := wsL_maps) B.pre
  have hown : s.vm.findClass RL = some m.cls := findClass_of_methodNamed B.named
  have hlocks := B.notSynchronized
  subst hsz
  have hD := hD0.self (sz := s.heap.size)
  generalize hAe : va_A [(qo, .inr (4, [.ref qm, .ref qb, .ref qr, .ref qf])), (qm, .inr (2, [.ref qw, .ref qh])), (qw, .inl (cI, 10, .inl fw)), (qh, .inl (cI, 10, .inl fh)), (qr, .inr (3, [.int br])), (qf, .inr (1, [.ref qx, .ref qy, .ref qz, .ref qu, .int (nI nC), .int (nI nR), .int nf])), (qT, .inl (cI, 33, .inl gt))] s.heap.size = A at hE hD ⊢
  have hA : ∀ q : Nat, s.heap.size ≤ q → A q := fun q h => by rw [← hAe]; exact Or.inr h
  have hS : va_S A s.heap s.heap [] := va_S.rf
  have hl := lv_entry ([.ref qo, .int y, .ref qT]) (n := 16) (Nat.le_of_ble_eq_true rfl)
  rw [lg_entry_eq]
  generalize (lg_sl ([.ref qo, .int y, .ref qT]) ++ List.replicate (16 - (lg_sl ([.ref qo, .int y, .ref qT])).length) Slot.unset).toArray = ls at hl ⊢
  have hl : lv_has ls 16 [(0, .ref qo), (1, .int y), (2, .ref qT)] := hl
  have hP : va_P D vwCl [(qo, .inr (4, [.ref qm, .ref qb, .ref qr, .ref qf])), (qm, .inr (2, [.ref qw, .ref qh])), (qw, .inl (cI, 10, .inl fw)), (qh, .inl (cI, 10, .inl fh)), (qr, .inr (3, [.int br])), (qf, .inr (1, [.ref qx, .ref qy, .ref qz, .ref qu, .int (nI nC), .int (nI nR), .int nf])), (qT, .inl (cI, 33, .inl gt))] s.heap := hP
  have hP := hP
  refine lv_iload_n hx hb dL_maps_0 rfl (lv_at hl 1 rfl) ?_
  refine lv_bipush (v := 60) hx hb dL_maps_1 (by decide) ?_
  refine va_calli (va_runS (As := [.int y, .int 60]) (rest := []) ⟨hx, hb, hml, hown, hts⟩ (c_L_some l D cI cZ cJ cD y 60 (by decide)) (va_cwS 2 hts gL_maps_L_some rfl rfl rfl (by decide +kernel) ⟨Nat.le_of_ble_eq_true rfl, Nat.le_of_ble_eq_true rfl⟩) ⟨zblind, (fun U hU hW => ⟨rfl, by rw [hU]; exact hP.sub (ws' := []) [] rfl, va_K.moved hW.alike hK⟩)⟩ rfl rfl hl.1 rfl (lv_room (Nat.le_of_ble_eq_true rfl)) dL_maps_3 ⟨(show _ ≤ 39 from by omega), (show _ ≤ 234 from by omega)⟩) hS (fun q _ h => h.elim) (fun q h => h.elim) (fun r73 u t H locs ht hvm hw hB hz1 hk1 hS => ?_)
  rw [hw]
  have hP := zk hP hk1
  have K75 : ∀ v75_0 : Int32, v75_0 = (if (s_L_some y 60) = 0 then 91 else (s_L_some y 181) - 90) → ∀ (H : Heap) (locs : List Loc), va_P D vwCl [(qo, .inr (4, [.ref qm, .ref qb, .ref qr, .ref qf])), (qm, .inr (2, [.ref qw, .ref qh])), (qw, .inl (cI, 10, .inl fw)), (qh, .inl (cI, 10, .inl fh)), (qr, .inr (3, [.int br])), (qf, .inr (1, [.ref qx, .ref qy, .ref qz, .ref qu, .int (nI nC), .int (nI nR), .int nf])), (qT, .inl (cI, 33, .inl gt))] H → va_D A [(qo, .inr (4, [.ref qm, .ref qb, .ref qr, .ref qf])), (qm, .inr (2, [.ref qw, .ref qh])), (qw, .inl (cI, 10, .inl fw)), (qh, .inl (cI, 10, .inl fh)), (qr, .inr (3, [.int br])), (qf, .inr (1, [.ref qx, .ref qy, .ref qz, .ref qu, .int (nI nC), .int (nI nR), .int nf])), (qT, .inl (cI, 33, .inl gt))] → va_S A s.heap H locs → ∀ (ls : Array Slot), lv_has ls 16 [(0, .ref qo), (1, .int y), (2, .ref qT)] → W p l e (headSpec wsL_maps rm_L_maps).room s m ([.ref qo, .int y, .ref qT]).toArray below meth c H locs 0 0 (MQ below (Qc_L_maps D cI cZ cJ cD qo qm qb qr qf qw qh fw fh br qx qy qz qu nC nR nf qT gt y A) ([.ref qo, .int y, .ref qT]).toArray s 39 234 A) (F0 m 24 ls [.int v75_0]) := by
    intro v75_0 hv75_0 H locs hP hD hS ls hl
    subst hv75_0
    refine lv_istore_n (lv' := [(3, .int (if (s_L_some y 60) = 0 then 91 else (s_L_some y 181) - 90)), (0, .ref qo), (1, .int y), (2, .ref qT)]) hx hb dL_maps_24 rfl hl (by decide) rfl (fun ls hl => ?_)
    have hl : lv_has ls 16 [(3, .int (v_L_maps_24 y)), (0, .ref qo), (1, .int y), (2, .ref qT)] := hl
    refine lv_iload_n hx hb dL_maps_25 rfl (lv_at hl 2 rfl) ?_
    refine lv_iconst (v := 5) hx hb dL_maps_26 (by decide) ?_
    refine lv_ishr hx hb dL_maps_27 ?_
    refine lv_bipush (v := 60) hx hb dL_maps_28 (by decide) ?_
    refine va_calli (va_runS (As := [.int (y >>> ((5 : Int32) &&& 31)), .int 60]) (rest := []) ⟨hx, hb, hml, hown, hts⟩ (c_L_some l D cI cZ cJ cD (y >>> ((5 : Int32) &&& 31)) 60 (by decide)) (va_cwS 2 hts gL_maps_L_some rfl rfl rfl (by decide +kernel) ⟨Nat.le_of_ble_eq_true rfl, Nat.le_of_ble_eq_true rfl⟩) ⟨zblind, (fun U hU hW => ⟨rfl, by rw [hU]; exact hP.sub (ws' := []) [] rfl, va_K.moved hW.alike hK⟩)⟩ rfl rfl hl.1 rfl (lv_room (Nat.le_of_ble_eq_true rfl)) dL_maps_30 ⟨(show _ ≤ 39 from by omega), (show _ ≤ 234 from by omega)⟩) hS (fun q _ h => h.elim) (fun q h => h.elim) (fun r76 u t H locs ht hvm hw hB hz1 hk1 hS => ?_)
    rw [hw]
    have hP := zk hP hk1
    have K78 : ∀ v78_0 : Int32, v78_0 = (if (s_L_some (y >>> ((5 : Int32) &&& 31)) 60) = 0 then 180 else (s_L_some (y >>> ((5 : Int32) &&& 31)) 360) - 180) → ∀ (H : Heap) (locs : List Loc), va_P D vwCl [(qo, .inr (4, [.ref qm, .ref qb, .ref qr, .ref qf])), (qm, .inr (2, [.ref qw, .ref qh])), (qw, .inl (cI, 10, .inl fw)), (qh, .inl (cI, 10, .inl fh)), (qr, .inr (3, [.int br])), (qf, .inr (1, [.ref qx, .ref qy, .ref qz, .ref qu, .int (nI nC), .int (nI nR), .int nf])), (qT, .inl (cI, 33, .inl gt))] H → va_D A [(qo, .inr (4, [.ref qm, .ref qb, .ref qr, .ref qf])), (qm, .inr (2, [.ref qw, .ref qh])), (qw, .inl (cI, 10, .inl fw)), (qh, .inl (cI, 10, .inl fh)), (qr, .inr (3, [.int br])), (qf, .inr (1, [.ref qx, .ref qy, .ref qz, .ref qu, .int (nI nC), .int (nI nR), .int nf])), (qT, .inl (cI, 33, .inl gt))] → va_S A s.heap H locs → ∀ (ls : Array Slot), lv_has ls 16 [(3, .int (v_L_maps_24 y)), (0, .ref qo), (1, .int y), (2, .ref qT)] → W p l e (headSpec wsL_maps rm_L_maps).room s m ([.ref qo, .int y, .ref qT]).toArray below meth c H locs 0 0 (MQ below (Qc_L_maps D cI cZ cJ cD qo qm qb qr qf qw qh fw fh br qx qy qz qu nC nR nf qT gt y A) ([.ref qo, .int y, .ref qT]).toArray s 39 234 A) (F0 m 55 ls [.int v78_0]) := by
      intro v78_0 hv78_0 H locs hP hD hS ls hl
      subst hv78_0
      refine lv_istore (lv' := [(4, .int (if (s_L_some (y >>> ((5 : Int32) &&& 31)) 60) = 0 then 180 else (s_L_some (y >>> ((5 : Int32) &&& 31)) 360) - 180)), (3, .int (v_L_maps_24 y)), (0, .ref qo), (1, .int y), (2, .ref qT)]) hx hb dL_maps_55 hl (by decide) rfl (fun ls hl => ?_)
      have hl : lv_has ls 16 [(4, .int (v_L_maps_55 y)), (3, .int (v_L_maps_24 y)), (0, .ref qo), (1, .int y), (2, .ref qT)] := hl
      refine lv_iload_n hx hb dL_maps_57 rfl (lv_at hl 1 rfl) ?_
      refine lv_bipush (v := 91) hx hb dL_maps_58 (by decide) ?_
      have K80 : ∀ v80_0 : Int32, v80_0 = (if 91 ≤ (v_L_maps_24 y) then 0 else 1) → ∀ (H : Heap) (locs : List Loc), va_P D vwCl [(qo, .inr (4, [.ref qm, .ref qb, .ref qr, .ref qf])), (qm, .inr (2, [.ref qw, .ref qh])), (qw, .inl (cI, 10, .inl fw)), (qh, .inl (cI, 10, .inl fh)), (qr, .inr (3, [.int br])), (qf, .inr (1, [.ref qx, .ref qy, .ref qz, .ref qu, .int (nI nC), .int (nI nR), .int nf])), (qT, .inl (cI, 33, .inl gt))] H → va_D A [(qo, .inr (4, [.ref qm, .ref qb, .ref qr, .ref qf])), (qm, .inr (2, [.ref qw, .ref qh])), (qw, .inl (cI, 10, .inl fw)), (qh, .inl (cI, 10, .inl fh)), (qr, .inr (3, [.int br])), (qf, .inr (1, [.ref qx, .ref qy, .ref qz, .ref qu, .int (nI nC), .int (nI nR), .int nf])), (qT, .inl (cI, 33, .inl gt))] → va_S A s.heap H locs → ∀ (ls : Array Slot), lv_has ls 16 [(4, .int (v_L_maps_55 y)), (3, .int (v_L_maps_24 y)), (0, .ref qo), (1, .int y), (2, .ref qT)] → W p l e (headSpec wsL_maps rm_L_maps).room s m ([.ref qo, .int y, .ref qT]).toArray below meth c H locs 0 0 (MQ below (Qc_L_maps D cI cZ cJ cD qo qm qb qr qf qw qh fw fh br qx qy qz qu nC nR nf qT gt y A) ([.ref qo, .int y, .ref qT]).toArray s 39 234 A) (F0 m 68 ls [.int v80_0]) := by
        intro v80_0 hv80_0 H locs hP hD hS ls hl
        subst hv80_0
        refine lv_istore (lv' := [(5, .int (if 91 ≤ (v_L_maps_24 y) then 0 else 1)), (4, .int (v_L_maps_55 y)), (3, .int (v_L_maps_24 y)), (0, .ref qo), (1, .int y), (2, .ref qT)]) hx hb dL_maps_68 hl (by decide) rfl (fun ls hl => ?_)
        have hl : lv_has ls 16 [(5, .int (v_L_maps_68 y)), (4, .int (v_L_maps_55 y)), (3, .int (v_L_maps_24 y)), (0, .ref qo), (1, .int y), (2, .ref qT)] := hl
        refine lv_iload hx hb dL_maps_70 (lv_at hl 0 rfl) ?_
        have K82 : ∀ v82_0 : Int32, v82_0 = (if (v_L_maps_68 y) = 0 then 0 else (if 180 ≤ (v_L_maps_55 y) then 0 else 1)) → ∀ (H : Heap) (locs : List Loc), va_P D vwCl [(qo, .inr (4, [.ref qm, .ref qb, .ref qr, .ref qf])), (qm, .inr (2, [.ref qw, .ref qh])), (qw, .inl (cI, 10, .inl fw)), (qh, .inl (cI, 10, .inl fh)), (qr, .inr (3, [.int br])), (qf, .inr (1, [.ref qx, .ref qy, .ref qz, .ref qu, .int (nI nC), .int (nI nR), .int nf])), (qT, .inl (cI, 33, .inl gt))] H → va_D A [(qo, .inr (4, [.ref qm, .ref qb, .ref qr, .ref qf])), (qm, .inr (2, [.ref qw, .ref qh])), (qw, .inl (cI, 10, .inl fw)), (qh, .inl (cI, 10, .inl fh)), (qr, .inr (3, [.int br])), (qf, .inr (1, [.ref qx, .ref qy, .ref qz, .ref qu, .int (nI nC), .int (nI nR), .int nf])), (qT, .inl (cI, 33, .inl gt))] → va_S A s.heap H locs → ∀ (ls : Array Slot), lv_has ls 16 [(5, .int (v_L_maps_68 y)), (4, .int (v_L_maps_55 y)), (3, .int (v_L_maps_24 y)), (0, .ref qo), (1, .int y), (2, .ref qT)] → W p l e (headSpec wsL_maps rm_L_maps).room s m ([.ref qo, .int y, .ref qT]).toArray below meth c H locs 0 0 (MQ below (Qc_L_maps D cI cZ cJ cD qo qm qb qr qf qw qh fw fh br qx qy qz qu nC nR nf qT gt y A) ([.ref qo, .int y, .ref qT]).toArray s 39 234 A) (F0 m 88 ls [.int v82_0]) := by
          intro v82_0 hv82_0 H locs hP hD hS ls hl
          subst hv82_0
          refine lv_istore (lv' := [(6, .int (if (v_L_maps_68 y) = 0 then 0 else (if 180 ≤ (v_L_maps_55 y) then 0 else 1))), (5, .int (v_L_maps_68 y)), (4, .int (v_L_maps_55 y)), (3, .int (v_L_maps_24 y)), (0, .ref qo), (1, .int y), (2, .ref qT)]) hx hb dL_maps_88 hl (by decide) rfl (fun ls hl => ?_)
          have hl : lv_has ls 16 [(6, .int (v_L_maps_88 y)), (5, .int (v_L_maps_68 y)), (4, .int (v_L_maps_55 y)), (3, .int (v_L_maps_24 y)), (0, .ref qo), (1, .int y), (2, .ref qT)] := hl
          refine lv_aload_n hx hb dL_maps_90 rfl (lv_at hl 4 rfl) ?_
          refine lv_iconst (v := 0) hx hb dL_maps_91 (by decide) ?_
          refine lv_iload_n hx hb dL_maps_92 rfl (lv_at hl 3 rfl) ?_
          refine lv_iload hx hb dL_maps_93 (lv_at hl 2 rfl) ?_
          refine lv_iconst (v := 0) hx hb dL_maps_95 (by decide) ?_
          have hPc := hP.sub (ws' := [(qo, .inr (4, [.ref qm, .ref qb, .ref qr, .ref qf])), (qm, .inr (2, [.ref qw, .ref qh])), (qw, .inl (cI, 10, .inl fw)), (qh, .inl (cI, 10, .inl fh)), (qr, .inr (3, [.int br])), (qf, .inr (1, [.ref qx, .ref qy, .ref qz, .ref qu, .int (nI nC), .int (nI nR), .int nf]))]) [0, 1, 2, 3, 4, 5] rfl
          have hDc := hD.sub (ws' := [(qo, .inr (4, [.ref qm, .ref qb, .ref qr, .ref qf])), (qm, .inr (2, [.ref qw, .ref qh])), (qw, .inl (cI, 10, .inl fw)), (qh, .inl (cI, 10, .inl fh)), (qr, .inr (3, [.int br])), (qf, .inr (1, [.ref qx, .ref qy, .ref qz, .ref qu, .int (nI nC), .int (nI nR), .int nf]))]) [0, 1, 2, 3, 4, 5] (by decide) rfl
          have hFc := va_free (wc := [(qo, .inr (4, [.ref qm, .ref qb, .ref qr, .ref qf])), (qm, .inr (2, [.ref qw, .ref qh])), (qw, .inl (cI, 10, .inl fw)), (qh, .inl (cI, 10, .inl fh)), (qr, .inr (3, [.int br])), (qf, .inr (1, [.ref qx, .ref qy, .ref qz, .ref qu, .int (nI nC), .int (nI nR), .int nf]))]) hD hS hA [0, 1, 2, 3, 4, 5] rfl
          refine vx_calli (vx_runSX (As := [.ref qo, .int 0, .int (v_L_maps_24 y), .int (v_L_maps_55 y), .int 0]) (rest := []) ⟨hx, hb, hml, hown, hts⟩ (c_L_byK l hnt D cI cZ cJ cD qo qm qb qr qf qw qh fw fh br qx qy qz qu nC nR nf 0 (v_L_maps_24 y) (v_L_maps_55 y) 0 H.size (by decide)) (vx_cwSW 5 hts gL_maps_L_by rfl rfl rfl (by decide +kernel) ⟨Nat.le_of_ble_eq_true rfl, Nat.le_of_ble_eq_true rfl⟩) ⟨zblindWE, (fun U hU hW => ⟨rfl, by rw [hU], by rw [hU]; exact hPc, va_K.moved hW.alike hK, hDc.weaken (fun _ _ _ _ => trivial), zEnv.go hE hS hFc hU hW⟩)⟩ rfl rfl hl.1 rfl (lv_room (Nat.le_of_ble_eq_true rfl)) dL_maps_96 ⟨(show _ ≤ 39 from by omega), (show _ ≤ 234 from by omega)⟩) hS (fun q _ h => hFc q h) hFc (fun q _ h => hFc q h) (fun E ce q9 u t H locs ht hvm hpx hB hz1 hk1 hS hq9 hce hcl => ?_) (fun r83 u t H locs ht hvm hw hB hz1 hk1 hS => ?_)
          · exact hB.elim
          rw [hw]
          obtain ⟨hP1, hK1, hD1⟩ := hB
          rw [ht] at hP1
          obtain ⟨hP, hD⟩ := va_join (wr := [(qT, .inl (cI, 33, .inl gt))]) (w1 := [(qo, .inr (4, [.ref qm, .ref qb, .ref qr, .ref qf])), (qm, .inr (2, [.ref qw, .ref qh])), (qw, .inl (cI, 10, .inl fw)), (qh, .inl (cI, 10, .inl fh)), (qr, .inr (3, [.int br])), (qf, .inr (1, [.ref qx, .ref qy, .ref qz, .ref qu, .int (nI nC), .int (nI nR), .int nf]))]) hP hD [0, 1, 2, 3, 4, 5] [6] rfl rfl (by decide) (by decide) hk1 hFc hP1 hD1
          have hP := hP.sub (ws' := [(qo, .inr (4, [.ref qm, .ref qb, .ref qr, .ref qf])), (qm, .inr (2, [.ref qw, .ref qh])), (qw, .inl (cI, 10, .inl fw)), (qh, .inl (cI, 10, .inl fh)), (qr, .inr (3, [.int br])), (qf, .inr (1, [.ref qx, .ref qy, .ref qz, .ref qu, .int (nI nC), .int (nI nR), .int nf])), (qT, .inl (cI, 33, .inl gt))]) [1, 2, 3, 4, 5, 6, 0] rfl
          have hD := hD.sub (ws' := [(qo, .inr (4, [.ref qm, .ref qb, .ref qr, .ref qf])), (qm, .inr (2, [.ref qw, .ref qh])), (qw, .inl (cI, 10, .inl fw)), (qh, .inl (cI, 10, .inl fh)), (qr, .inr (3, [.int br])), (qf, .inr (1, [.ref qx, .ref qy, .ref qz, .ref qu, .int (nI nC), .int (nI nR), .int nf])), (qT, .inl (cI, 33, .inl gt))]) [1, 2, 3, 4, 5, 6, 0] (by decide) rfl
          refine W.widen (k := 16) (n := 96) (by omega) (by omega) ?_
          refine lv_iload hx hb dL_maps_99 (lv_at hl 0 rfl) ?_
          have K85 : ∀ v85_0 : Int32, v85_0 = (if (v_L_maps_88 y) = 0 then (-9000001) else (v_L_maps_55 y) * (s_L_wide fw fh (v_L_maps_24 y))) → ∀ (H : Heap) (locs : List Loc), va_P D vwCl [(qo, .inr (4, [.ref qm, .ref qb, .ref qr, .ref qf])), (qm, .inr (2, [.ref qw, .ref qh])), (qw, .inl (cI, 10, .inl fw)), (qh, .inl (cI, 10, .inl fh)), (qr, .inr (3, [.int br])), (qf, .inr (1, [.ref qx, .ref qy, .ref qz, .ref qu, .int (nI nC), .int (nI nR), .int nf])), (qT, .inl (cI, 33, .inl gt))] H → va_D A [(qo, .inr (4, [.ref qm, .ref qb, .ref qr, .ref qf])), (qm, .inr (2, [.ref qw, .ref qh])), (qw, .inl (cI, 10, .inl fw)), (qh, .inl (cI, 10, .inl fh)), (qr, .inr (3, [.int br])), (qf, .inr (1, [.ref qx, .ref qy, .ref qz, .ref qu, .int (nI nC), .int (nI nR), .int nf])), (qT, .inl (cI, 33, .inl gt))] → va_S A s.heap H locs → ∀ (ls : Array Slot), lv_has ls 16 [(6, .int (v_L_maps_88 y)), (5, .int (v_L_maps_68 y)), (4, .int (v_L_maps_55 y)), (3, .int (v_L_maps_24 y)), (0, .ref qo), (1, .int y), (2, .ref qT)] → W p l e (headSpec wsL_maps rm_L_maps).room s m ([.ref qo, .int y, .ref qT]).toArray below meth c H locs 16 96 (MQ below (Qc_L_maps D cI cZ cJ cD qo qm qb qr qf qw qh fw fh br qx qy qz qu nC nR nf qT gt y A) ([.ref qo, .int y, .ref qT]).toArray s 39 234 A) (F0 m 117 ls [.int v85_0, .int (s_L_by fw fh br nC nR nf 0 (v_L_maps_24 y) (v_L_maps_55 y) 0)]) := by
            intro v85_0 hv85_0 H locs hP hD hS ls hl
            subst hv85_0
            refine lv_icmp_ne (tgt := 146) hx hb dL_maps_117 (by decide) (fun c86 => ?_) (fun c86 => ?_)
            · refine lv_iconst (v := 0) hx hb dL_maps_146 (by decide) ?_
              refine W.widen (k := 39) (n := 234) (by decide) (by decide) ?_
              have e87 : s_L_maps fw fh br nC nR nf y = 0 := by
                unfold s_L_maps
                exact (if_neg c86)
              exact W.zret (v := 0) hx hb hr (z_b (by (repeat' split) <;> simp)) (fun t ht hW => ⟨⟨_, (), rfl, e87.symm, ⟨(by rw [ht]; exact hP), va_K.moved hW.alike hK, hD⟩⟩, hS.F ht⟩) hS.2.2 dL_maps_147
            · refine lv_aload_n hx hb dL_maps_120 rfl (lv_at hl 4 rfl) ?_
              refine lv_iconst (v := 1) hx hb dL_maps_121 (by decide) ?_
              refine lv_iload_n hx hb dL_maps_122 rfl (lv_at hl 3 rfl) ?_
              refine lv_iconst (v := 0) hx hb dL_maps_123 (by decide) ?_
              refine lv_iconst (v := 0) hx hb dL_maps_124 (by decide) ?_
              have hPc := hP.sub (ws' := [(qo, .inr (4, [.ref qm, .ref qb, .ref qr, .ref qf])), (qm, .inr (2, [.ref qw, .ref qh])), (qw, .inl (cI, 10, .inl fw)), (qh, .inl (cI, 10, .inl fh)), (qr, .inr (3, [.int br])), (qf, .inr (1, [.ref qx, .ref qy, .ref qz, .ref qu, .int (nI nC), .int (nI nR), .int nf]))]) [0, 1, 2, 3, 4, 5] rfl
              have hDc := hD.sub (ws' := [(qo, .inr (4, [.ref qm, .ref qb, .ref qr, .ref qf])), (qm, .inr (2, [.ref qw, .ref qh])), (qw, .inl (cI, 10, .inl fw)), (qh, .inl (cI, 10, .inl fh)), (qr, .inr (3, [.int br])), (qf, .inr (1, [.ref qx, .ref qy, .ref qz, .ref qu, .int (nI nC), .int (nI nR), .int nf]))]) [0, 1, 2, 3, 4, 5] (by decide) rfl
              have hFc := va_free (wc := [(qo, .inr (4, [.ref qm, .ref qb, .ref qr, .ref qf])), (qm, .inr (2, [.ref qw, .ref qh])), (qw, .inl (cI, 10, .inl fw)), (qh, .inl (cI, 10, .inl fh)), (qr, .inr (3, [.int br])), (qf, .inr (1, [.ref qx, .ref qy, .ref qz, .ref qu, .int (nI nC), .int (nI nR), .int nf]))]) hD hS hA [0, 1, 2, 3, 4, 5] rfl
              refine vx_calli (vx_runSX (As := [.ref qo, .int 1, .int (v_L_maps_24 y), .int 0, .int 0]) (rest := []) ⟨hx, hb, hml, hown, hts⟩ (c_L_byK l hnt D cI cZ cJ cD qo qm qb qr qf qw qh fw fh br qx qy qz qu nC nR nf 1 (v_L_maps_24 y) 0 0 H.size (by decide)) (vx_cwSW 5 hts gL_maps_L_by rfl rfl rfl (by decide +kernel) ⟨Nat.le_of_ble_eq_true rfl, Nat.le_of_ble_eq_true rfl⟩) ⟨zblindWE, (fun U hU hW => ⟨rfl, by rw [hU], by rw [hU]; exact hPc, va_K.moved hW.alike hK, hDc.weaken (fun _ _ _ _ => trivial), zEnv.go hE hS hFc hU hW⟩)⟩ rfl rfl hl.1 rfl (lv_room (Nat.le_of_ble_eq_true rfl)) dL_maps_125 ⟨(show _ ≤ 39 from by omega), (show _ ≤ 234 from by omega)⟩) hS (fun q _ h => hFc q h) hFc (fun q _ h => hFc q h) (fun E ce q9 u t H locs ht hvm hpx hB hz1 hk1 hS hq9 hce hcl => ?_) (fun r88 u t H locs ht hvm hw hB hz1 hk1 hS => ?_)
              · exact hB.elim
              rw [hw]
              obtain ⟨hP1, hK1, hD1⟩ := hB
              rw [ht] at hP1
              obtain ⟨hP, hD⟩ := va_join (wr := [(qT, .inl (cI, 33, .inl gt))]) (w1 := [(qo, .inr (4, [.ref qm, .ref qb, .ref qr, .ref qf])), (qm, .inr (2, [.ref qw, .ref qh])), (qw, .inl (cI, 10, .inl fw)), (qh, .inl (cI, 10, .inl fh)), (qr, .inr (3, [.int br])), (qf, .inr (1, [.ref qx, .ref qy, .ref qz, .ref qu, .int (nI nC), .int (nI nR), .int nf]))]) hP hD [0, 1, 2, 3, 4, 5] [6] rfl rfl (by decide) (by decide) hk1 hFc hP1 hD1
              have hP := hP.sub (ws' := [(qo, .inr (4, [.ref qm, .ref qb, .ref qr, .ref qf])), (qm, .inr (2, [.ref qw, .ref qh])), (qw, .inl (cI, 10, .inl fw)), (qh, .inl (cI, 10, .inl fh)), (qr, .inr (3, [.int br])), (qf, .inr (1, [.ref qx, .ref qy, .ref qz, .ref qu, .int (nI nC), .int (nI nR), .int nf])), (qT, .inl (cI, 33, .inl gt))]) [1, 2, 3, 4, 5, 6, 0] rfl
              have hD := hD.sub (ws' := [(qo, .inr (4, [.ref qm, .ref qb, .ref qr, .ref qf])), (qm, .inr (2, [.ref qw, .ref qh])), (qw, .inl (cI, 10, .inl fw)), (qh, .inl (cI, 10, .inl fh)), (qr, .inr (3, [.int br])), (qf, .inr (1, [.ref qx, .ref qy, .ref qz, .ref qu, .int (nI nC), .int (nI nR), .int nf])), (qT, .inl (cI, 33, .inl gt))]) [1, 2, 3, 4, 5, 6, 0] (by decide) rfl
              refine W.widen (k := 32) (n := 192) (by omega) (by omega) ?_
              refine lv_iload hx hb dL_maps_128 (lv_at hl 1 rfl) ?_
              have K90 : ∀ v90_0 : Int32, v90_0 = (if (v_L_maps_68 y) = 0 then (-9000001) else s_L_high fw fh (v_L_maps_24 y)) → ∀ (H : Heap) (locs : List Loc), va_P D vwCl [(qo, .inr (4, [.ref qm, .ref qb, .ref qr, .ref qf])), (qm, .inr (2, [.ref qw, .ref qh])), (qw, .inl (cI, 10, .inl fw)), (qh, .inl (cI, 10, .inl fh)), (qr, .inr (3, [.int br])), (qf, .inr (1, [.ref qx, .ref qy, .ref qz, .ref qu, .int (nI nC), .int (nI nR), .int nf])), (qT, .inl (cI, 33, .inl gt))] H → va_D A [(qo, .inr (4, [.ref qm, .ref qb, .ref qr, .ref qf])), (qm, .inr (2, [.ref qw, .ref qh])), (qw, .inl (cI, 10, .inl fw)), (qh, .inl (cI, 10, .inl fh)), (qr, .inr (3, [.int br])), (qf, .inr (1, [.ref qx, .ref qy, .ref qz, .ref qu, .int (nI nC), .int (nI nR), .int nf])), (qT, .inl (cI, 33, .inl gt))] → va_S A s.heap H locs → ∀ (ls : Array Slot), lv_has ls 16 [(6, .int (v_L_maps_88 y)), (5, .int (v_L_maps_68 y)), (4, .int (v_L_maps_55 y)), (3, .int (v_L_maps_24 y)), (0, .ref qo), (1, .int y), (2, .ref qT)] → W p l e (headSpec wsL_maps rm_L_maps).room s m ([.ref qo, .int y, .ref qT]).toArray below meth c H locs 32 192 (MQ below (Qc_L_maps D cI cZ cJ cD qo qm qb qr qf qw qh fw fh br qx qy qz qu nC nR nf qT gt y A) ([.ref qo, .int y, .ref qT]).toArray s 39 234 A) (F0 m 143 ls [.int v90_0, .int (s_L_by fw fh br nC nR nf 1 (v_L_maps_24 y) 0 0)]) := by
                intro v90_0 hv90_0 H locs hP hD hS ls hl
                subst hv90_0
                refine lv_icmp_eq (tgt := 148) hx hb dL_maps_143 (by decide) (fun c91 => ?_) (fun c91 => ?_)
                · refine lv_iload_n hx hb dL_maps_148 rfl (lv_at hl 5 rfl) ?_
                  refine lv_iconst (v := 3) hx hb dL_maps_149 (by decide) ?_
                  refine lv_ishr hx hb dL_maps_150 ?_
                  refine lv_bipush (v := 50) hx hb dL_maps_151 (by decide) ?_
                  refine va_calli (va_runS (As := [.int (y >>> ((3 : Int32) &&& 31)), .int 50]) (rest := []) ⟨hx, hb, hml, hown, hts⟩ (c_L_some l D cI cZ cJ cD (y >>> ((3 : Int32) &&& 31)) 50 (by decide)) (va_cwS 2 hts gL_maps_L_some rfl rfl rfl (by decide +kernel) ⟨Nat.le_of_ble_eq_true rfl, Nat.le_of_ble_eq_true rfl⟩) ⟨zblind, (fun U hU hW => ⟨rfl, by rw [hU]; exact hP.sub (ws' := []) [] rfl, va_K.moved hW.alike hK⟩)⟩ rfl rfl hl.1 rfl (lv_room (Nat.le_of_ble_eq_true rfl)) dL_maps_153 ⟨(show _ ≤ 39 from by omega), (show _ ≤ 234 from by omega)⟩) hS (fun q _ h => h.elim) (fun q h => h.elim) (fun r92 u t H locs ht hvm hw hB hz1 hk1 hS => ?_)
                  rw [hw]
                  have hP := zk hP hk1
                  have K94 : ∀ v94_0 : Int32, v94_0 = (if (s_L_some (y >>> ((3 : Int32) &&& 31)) 50) = 0 then 99991 else (if (v_L_maps_68 y) = 0 then (s_L_some (y >>> ((2 : Int32) &&& 31)) 199981) - 99990 else (if (s_L_some (y >>> ((6 : Int32) &&& 31)) 3) ≤ 0 then (s_L_some (y >>> ((2 : Int32) &&& 31)) 199981) - 99990 else ((s_L_high fw fh (v_L_maps_24 y)) + (s_L_some (y >>> ((7 : Int32) &&& 31)) 9)) - 4))) → ∀ (H : Heap) (locs : List Loc), va_P D vwCl [(qo, .inr (4, [.ref qm, .ref qb, .ref qr, .ref qf])), (qm, .inr (2, [.ref qw, .ref qh])), (qw, .inl (cI, 10, .inl fw)), (qh, .inl (cI, 10, .inl fh)), (qr, .inr (3, [.int br])), (qf, .inr (1, [.ref qx, .ref qy, .ref qz, .ref qu, .int (nI nC), .int (nI nR), .int nf])), (qT, .inl (cI, 33, .inl gt))] H → va_D A [(qo, .inr (4, [.ref qm, .ref qb, .ref qr, .ref qf])), (qm, .inr (2, [.ref qw, .ref qh])), (qw, .inl (cI, 10, .inl fw)), (qh, .inl (cI, 10, .inl fh)), (qr, .inr (3, [.int br])), (qf, .inr (1, [.ref qx, .ref qy, .ref qz, .ref qu, .int (nI nC), .int (nI nR), .int nf])), (qT, .inl (cI, 33, .inl gt))] → va_S A s.heap H locs → ∀ (ls : Array Slot), lv_has ls 16 [(6, .int (v_L_maps_88 y)), (5, .int (v_L_maps_68 y)), (4, .int (v_L_maps_55 y)), (3, .int (v_L_maps_24 y)), (0, .ref qo), (1, .int y), (2, .ref qT)] → W p l e (headSpec wsL_maps rm_L_maps).room s m ([.ref qo, .int y, .ref qT]).toArray below meth c H locs 32 192 (MQ below (Qc_L_maps D cI cZ cJ cD qo qm qb qr qf qw qh fw fh br qx qy qz qu nC nR nf qT gt y A) ([.ref qo, .int y, .ref qT]).toArray s 39 234 A) (F0 m 211 ls [.int v94_0]) := by
                    intro v94_0 hv94_0 H locs hP hD hS ls hl
                    subst hv94_0
                    refine lv_istore (lv' := [(7, .int (if (s_L_some (y >>> ((3 : Int32) &&& 31)) 50) = 0 then 99991 else (if (v_L_maps_68 y) = 0 then (s_L_some (y >>> ((2 : Int32) &&& 31)) 199981) - 99990 else (if (s_L_some (y >>> ((6 : Int32) &&& 31)) 3) ≤ 0 then (s_L_some (y >>> ((2 : Int32) &&& 31)) 199981) - 99990 else ((s_L_high fw fh (v_L_maps_24 y)) + (s_L_some (y >>> ((7 : Int32) &&& 31)) 9)) - 4)))), (6, .int (v_L_maps_88 y)), (5, .int (v_L_maps_68 y)), (4, .int (v_L_maps_55 y)), (3, .int (v_L_maps_24 y)), (0, .ref qo), (1, .int y), (2, .ref qT)]) hx hb dL_maps_211 hl (by decide) rfl (fun ls hl => ?_)
                    have hl : lv_has ls 16 [(7, .int (v_L_maps_211 fw fh y)), (6, .int (v_L_maps_88 y)), (5, .int (v_L_maps_68 y)), (4, .int (v_L_maps_55 y)), (3, .int (v_L_maps_24 y)), (0, .ref qo), (1, .int y), (2, .ref qT)] := hl
                    refine lv_bipush (v := (-91)) hx hb dL_maps_213 (by decide) ?_
                    refine lv_istore (lv' := [(8, .int (-91)), (7, .int (v_L_maps_211 fw fh y)), (6, .int (v_L_maps_88 y)), (5, .int (v_L_maps_68 y)), (4, .int (v_L_maps_55 y)), (3, .int (v_L_maps_24 y)), (0, .ref qo), (1, .int y), (2, .ref qT)]) hx hb dL_maps_215 hl (by decide) rfl (fun ls hl => ?_)
                    refine lv_bipush (v := (-90)) hx hb dL_maps_217 (by decide) ?_
                    refine lv_istore (lv' := [(9, .int (-90)), (8, .int (-91)), (7, .int (v_L_maps_211 fw fh y)), (6, .int (v_L_maps_88 y)), (5, .int (v_L_maps_68 y)), (4, .int (v_L_maps_55 y)), (3, .int (v_L_maps_24 y)), (0, .ref qo), (1, .int y), (2, .ref qT)]) hx hb dL_maps_219 hl (by decide) rfl (fun ls hl => ?_)
                    have X95 : ∀ (H : Heap) (locs : List Loc), va_P D vwCl [(qo, .inr (4, [.ref qm, .ref qb, .ref qr, .ref qf])), (qm, .inr (2, [.ref qw, .ref qh])), (qw, .inl (cI, 10, .inl fw)), (qh, .inl (cI, 10, .inl fh)), (qr, .inr (3, [.int br])), (qf, .inr (1, [.ref qx, .ref qy, .ref qz, .ref qu, .int (nI nC), .int (nI nR), .int nf])), (qT, .inl (cI, 33, .inl gt))] H → va_D A [(qo, .inr (4, [.ref qm, .ref qb, .ref qr, .ref qf])), (qm, .inr (2, [.ref qw, .ref qh])), (qw, .inl (cI, 10, .inl fw)), (qh, .inl (cI, 10, .inl fh)), (qr, .inr (3, [.int br])), (qf, .inr (1, [.ref qx, .ref qy, .ref qz, .ref qu, .int (nI nC), .int (nI nR), .int nf])), (qT, .inl (cI, 33, .inl gt))] → va_S A s.heap H locs → ∀ (ls : Array Slot), lv_has ls 16 [(7, .int (v_L_maps_211 fw fh y)), (6, .int (v_L_maps_88 y)), (5, .int (v_L_maps_68 y)), (4, .int (v_L_maps_55 y)), (3, .int (v_L_maps_24 y)), (0, .ref qo), (1, .int y), (2, .ref qT), (8, .int (lp_L_maps_221 fw fh y 181))] → W p l e (headSpec wsL_maps rm_L_maps).room s m ([.ref qo, .int y, .ref qT]).toArray below meth c H locs 32 192 (MQ below (Qc_L_maps D cI cZ cJ cD qo qm qb qr qf qw qh fw fh br qx qy qz qu nC nR nf qT gt y A) ([.ref qo, .int y, .ref qT]).toArray s 39 234 A) (F0 m 254 ls []) := by
                      intro H locs hP hD hS ls hl
                      refine lv_aload_n hx hb dL_maps_254 rfl (lv_at hl 5 rfl) ?_
                      refine lv_iload hx hb dL_maps_255 (lv_at hl 0 rfl) ?_
                      have hPc := hP.sub (ws' := [(qo, .inr (4, [.ref qm, .ref qb, .ref qr, .ref qf])), (qm, .inr (2, [.ref qw, .ref qh])), (qw, .inl (cI, 10, .inl fw)), (qh, .inl (cI, 10, .inl fh))]) [0, 1, 2, 3] rfl
                      have hDc := hD.sub (ws' := [(qo, .inr (4, [.ref qm, .ref qb, .ref qr, .ref qf])), (qm, .inr (2, [.ref qw, .ref qh])), (qw, .inl (cI, 10, .inl fw)), (qh, .inl (cI, 10, .inl fh))]) [0, 1, 2, 3] (by decide) rfl
                      have hFc := va_free (wc := [(qo, .inr (4, [.ref qm, .ref qb, .ref qr, .ref qf])), (qm, .inr (2, [.ref qw, .ref qh])), (qw, .inl (cI, 10, .inl fw)), (qh, .inl (cI, 10, .inl fh))]) hD hS hA [0, 1, 2, 3] rfl
                      refine vx_calli (vx_runSX (As := [.ref qo, .int (v_L_maps_211 fw fh y)]) (rest := []) ⟨hx, hb, hml, hown, hts⟩ (c_L_latitude l hnt D cI cZ cJ cD qo qm qb qr qf qw qh fw fh (v_L_maps_211 fw fh y) H.size ) (vx_cwSW 2 hts gL_maps_L_latitude rfl rfl rfl (by decide +kernel) ⟨Nat.le_of_ble_eq_true rfl, Nat.le_of_ble_eq_true rfl⟩) ⟨zblindWE, (fun U hU hW => ⟨rfl, by rw [hU], by rw [hU]; exact hPc, va_K.moved hW.alike hK, hDc.weaken (fun _ _ _ _ => trivial), zEnv.go hE hS hFc hU hW⟩)⟩ rfl rfl hl.1 rfl (lv_room (Nat.le_of_ble_eq_true rfl)) dL_maps_257 ⟨(show _ ≤ 39 from by omega), (show _ ≤ 234 from by omega)⟩) hS (fun q _ h => hFc q h) hFc (fun q _ h => hFc q h) (fun E ce q9 u t H locs ht hvm hpx hB hz1 hk1 hS hq9 hce hcl => ?_) (fun r96 u t H locs ht hvm hw hB hz1 hk1 hS => ?_)
                      · exact hB.elim
                      rw [hw]
                      obtain ⟨hP1, hK1, hD1⟩ := hB
                      rw [ht] at hP1
                      obtain ⟨hP, hD⟩ := va_join (wr := [(qr, .inr (3, [.int br])), (qf, .inr (1, [.ref qx, .ref qy, .ref qz, .ref qu, .int (nI nC), .int (nI nR), .int nf])), (qT, .inl (cI, 33, .inl gt))]) (w1 := [(qo, .inr (4, [.ref qm, .ref qb, .ref qr, .ref qf])), (qm, .inr (2, [.ref qw, .ref qh])), (qw, .inl (cI, 10, .inl fw)), (qh, .inl (cI, 10, .inl fh))]) hP hD [0, 1, 2, 3] [4, 5, 6] rfl rfl (by decide) (by decide) hk1 hFc hP1 hD1
                      have hP := hP.sub (ws' := [(qo, .inr (4, [.ref qm, .ref qb, .ref qr, .ref qf])), (qm, .inr (2, [.ref qw, .ref qh])), (qw, .inl (cI, 10, .inl fw)), (qh, .inl (cI, 10, .inl fh)), (qr, .inr (3, [.int br])), (qf, .inr (1, [.ref qx, .ref qy, .ref qz, .ref qu, .int (nI nC), .int (nI nR), .int nf])), (qT, .inl (cI, 33, .inl gt))]) [3, 4, 5, 6, 0, 1, 2] rfl
                      have hD := hD.sub (ws' := [(qo, .inr (4, [.ref qm, .ref qb, .ref qr, .ref qf])), (qm, .inr (2, [.ref qw, .ref qh])), (qw, .inl (cI, 10, .inl fw)), (qh, .inl (cI, 10, .inl fh)), (qr, .inr (3, [.int br])), (qf, .inr (1, [.ref qx, .ref qy, .ref qz, .ref qu, .int (nI nC), .int (nI nR), .int nf])), (qT, .inl (cI, 33, .inl gt))]) [3, 4, 5, 6, 0, 1, 2] (by decide) rfl
                      refine W.widen (k := 33) (n := 198) (by omega) (by omega) ?_
                      refine lv_iload hx hb dL_maps_260 (lv_at hl 0 rfl) ?_
                      refine lv_ldc (v := 99990) hx hb hown (hts (.constant RL 143 (99990)) (List.mem_cons_of_mem _ (List.mem_append_left _ (List.mem_append_left _ (List.mem_append_left _ (List.mem_append_left _ (List.mem_append_left _ (List.mem_append_left _ (List.mem_append_left _ (List.mem_of_getElem? (i := 3) rfl)))))))))) dL_maps_262 ?_
                      have K98 : ∀ v98_0 : Int32, v98_0 = (if 99990 < (v_L_maps_211 fw fh y) then (-1001) else (if (-99990) ≤ (v_L_maps_211 fw fh y) then (if (lp_L_maps_221 fw fh y 181) = (-91) then (-1002) else lp_L_maps_221 fw fh y 181) else (-1001))) → ∀ (H : Heap) (locs : List Loc), va_P D vwCl [(qo, .inr (4, [.ref qm, .ref qb, .ref qr, .ref qf])), (qm, .inr (2, [.ref qw, .ref qh])), (qw, .inl (cI, 10, .inl fw)), (qh, .inl (cI, 10, .inl fh)), (qr, .inr (3, [.int br])), (qf, .inr (1, [.ref qx, .ref qy, .ref qz, .ref qu, .int (nI nC), .int (nI nR), .int nf])), (qT, .inl (cI, 33, .inl gt))] H → va_D A [(qo, .inr (4, [.ref qm, .ref qb, .ref qr, .ref qf])), (qm, .inr (2, [.ref qw, .ref qh])), (qw, .inl (cI, 10, .inl fw)), (qh, .inl (cI, 10, .inl fh)), (qr, .inr (3, [.int br])), (qf, .inr (1, [.ref qx, .ref qy, .ref qz, .ref qu, .int (nI nC), .int (nI nR), .int nf])), (qT, .inl (cI, 33, .inl gt))] → va_S A s.heap H locs → ∀ (ls : Array Slot), lv_has ls 16 [(7, .int (v_L_maps_211 fw fh y)), (6, .int (v_L_maps_88 y)), (5, .int (v_L_maps_68 y)), (4, .int (v_L_maps_55 y)), (3, .int (v_L_maps_24 y)), (0, .ref qo), (1, .int y), (2, .ref qT), (8, .int (lp_L_maps_221 fw fh y 181))] → W p l e (headSpec wsL_maps rm_L_maps).room s m ([.ref qo, .int y, .ref qT]).toArray below meth c H locs 33 198 (MQ below (Qc_L_maps D cI cZ cJ cD qo qm qb qr qf qw qh fw fh br qx qy qz qu nC nR nf qT gt y A) ([.ref qo, .int y, .ref qT]).toArray s 39 234 A) (F0 m 295 ls [.int v98_0, .int (s_L_latitude fw fh (v_L_maps_211 fw fh y))]) := by
                        intro v98_0 hv98_0 H locs hP hD hS ls hl
                        subst hv98_0
                        refine lv_icmp_eq (tgt := 300) hx hb dL_maps_295 (by decide) (fun c99 => ?_) (fun c99 => ?_)
                        · refine lv_iload_n hx hb dL_maps_300 rfl (lv_at hl 6 rfl) ?_
                          refine lv_iconst (v := 4) hx hb dL_maps_301 (by decide) ?_
                          refine lv_ishr hx hb dL_maps_302 ?_
                          refine lv_sipush (v := 181) hx hb dL_maps_303 (by decide) ?_
                          refine va_calli (va_runS (As := [.int (y >>> ((4 : Int32) &&& 31)), .int 181]) (rest := []) ⟨hx, hb, hml, hown, hts⟩ (c_L_some l D cI cZ cJ cD (y >>> ((4 : Int32) &&& 31)) 181 (by decide)) (va_cwS 2 hts gL_maps_L_some rfl rfl rfl (by decide +kernel) ⟨Nat.le_of_ble_eq_true rfl, Nat.le_of_ble_eq_true rfl⟩) ⟨zblind, (fun U hU hW => ⟨rfl, by rw [hU]; exact hP.sub (ws' := []) [] rfl, va_K.moved hW.alike hK⟩)⟩ rfl rfl hl.1 rfl (lv_room (Nat.le_of_ble_eq_true rfl)) dL_maps_306 ⟨(show _ ≤ 39 from by omega), (show _ ≤ 234 from by omega)⟩) hS (fun q _ h => h.elim) (fun q h => h.elim) (fun r100 u t H locs ht hvm hw hB hz1 hk1 hS => ?_)
                          rw [hw]
                          have hP := zk hP hk1
                          refine lv_bipush (v := 90) hx hb dL_maps_309 (by decide) ?_
                          refine lv_isub hx hb dL_maps_311 ?_
                          refine lv_istore (lv' := [(9, .int ((s_L_some (y >>> ((4 : Int32) &&& 31)) 181) - 90)), (7, .int (v_L_maps_211 fw fh y)), (6, .int (v_L_maps_88 y)), (5, .int (v_L_maps_68 y)), (4, .int (v_L_maps_55 y)), (3, .int (v_L_maps_24 y)), (0, .ref qo), (1, .int y), (2, .ref qT), (8, .int (lp_L_maps_221 fw fh y 181))]) hx hb dL_maps_312 hl (by decide) rfl (fun ls hl => ?_)
                          have hl : lv_has ls 16 [(9, .int (v_L_maps_312 y)), (7, .int (v_L_maps_211 fw fh y)), (6, .int (v_L_maps_88 y)), (5, .int (v_L_maps_68 y)), (4, .int (v_L_maps_55 y)), (3, .int (v_L_maps_24 y)), (0, .ref qo), (1, .int y), (2, .ref qT), (8, .int (lp_L_maps_221 fw fh y 181))] := hl
                          refine lv_iload_n hx hb dL_maps_314 rfl (lv_at hl 5 rfl) ?_
                          refine lv_iload hx hb dL_maps_315 (lv_at hl 0 rfl) ?_
                          have K102 : ∀ v102_0 : Int32, v102_0 = (if (v_L_maps_312 y) ≤ (v_L_maps_24 y) then v_L_maps_312 y else v_L_maps_24 y) → ∀ (H : Heap) (locs : List Loc), va_P D vwCl [(qo, .inr (4, [.ref qm, .ref qb, .ref qr, .ref qf])), (qm, .inr (2, [.ref qw, .ref qh])), (qw, .inl (cI, 10, .inl fw)), (qh, .inl (cI, 10, .inl fh)), (qr, .inr (3, [.int br])), (qf, .inr (1, [.ref qx, .ref qy, .ref qz, .ref qu, .int (nI nC), .int (nI nR), .int nf])), (qT, .inl (cI, 33, .inl gt))] H → va_D A [(qo, .inr (4, [.ref qm, .ref qb, .ref qr, .ref qf])), (qm, .inr (2, [.ref qw, .ref qh])), (qw, .inl (cI, 10, .inl fw)), (qh, .inl (cI, 10, .inl fh)), (qr, .inr (3, [.int br])), (qf, .inr (1, [.ref qx, .ref qy, .ref qz, .ref qu, .int (nI nC), .int (nI nR), .int nf])), (qT, .inl (cI, 33, .inl gt))] → va_S A s.heap H locs → ∀ (ls : Array Slot), lv_has ls 16 [(9, .int (v_L_maps_312 y)), (7, .int (v_L_maps_211 fw fh y)), (6, .int (v_L_maps_88 y)), (5, .int (v_L_maps_68 y)), (4, .int (v_L_maps_55 y)), (3, .int (v_L_maps_24 y)), (0, .ref qo), (1, .int y), (2, .ref qT), (8, .int (lp_L_maps_221 fw fh y 181))] → W p l e (headSpec wsL_maps rm_L_maps).room s m ([.ref qo, .int y, .ref qT]).toArray below meth c H locs 33 198 (MQ below (Qc_L_maps D cI cZ cJ cD qo qm qb qr qf qw qh fw fh br qx qy qz qu nC nR nf qT gt y A) ([.ref qo, .int y, .ref qT]).toArray s 39 234 A) (F0 m 326 ls [.int v102_0]) := by
                            intro v102_0 hv102_0 H locs hP hD hS ls hl
                            subst hv102_0
                            refine lv_istore (lv' := [(10, .int (if (v_L_maps_312 y) ≤ (v_L_maps_24 y) then v_L_maps_312 y else v_L_maps_24 y)), (9, .int (v_L_maps_312 y)), (7, .int (v_L_maps_211 fw fh y)), (6, .int (v_L_maps_88 y)), (5, .int (v_L_maps_68 y)), (4, .int (v_L_maps_55 y)), (3, .int (v_L_maps_24 y)), (0, .ref qo), (1, .int y), (2, .ref qT), (8, .int (lp_L_maps_221 fw fh y 181))]) hx hb dL_maps_326 hl (by decide) rfl (fun ls hl => ?_)
                            have hl : lv_has ls 16 [(10, .int (v_L_maps_326 y)), (9, .int (v_L_maps_312 y)), (7, .int (v_L_maps_211 fw fh y)), (6, .int (v_L_maps_88 y)), (5, .int (v_L_maps_68 y)), (4, .int (v_L_maps_55 y)), (3, .int (v_L_maps_24 y)), (0, .ref qo), (1, .int y), (2, .ref qT), (8, .int (lp_L_maps_221 fw fh y 181))] := hl
                            refine lv_iload_n hx hb dL_maps_328 rfl (lv_at hl 6 rfl) ?_
                            refine lv_iload hx hb dL_maps_329 (lv_at hl 1 rfl) ?_
                            have K104 : ∀ v104_0 : Int32, v104_0 = (if (v_L_maps_312 y) ≤ (v_L_maps_24 y) then v_L_maps_24 y else v_L_maps_312 y) → ∀ (H : Heap) (locs : List Loc), va_P D vwCl [(qo, .inr (4, [.ref qm, .ref qb, .ref qr, .ref qf])), (qm, .inr (2, [.ref qw, .ref qh])), (qw, .inl (cI, 10, .inl fw)), (qh, .inl (cI, 10, .inl fh)), (qr, .inr (3, [.int br])), (qf, .inr (1, [.ref qx, .ref qy, .ref qz, .ref qu, .int (nI nC), .int (nI nR), .int nf])), (qT, .inl (cI, 33, .inl gt))] H → va_D A [(qo, .inr (4, [.ref qm, .ref qb, .ref qr, .ref qf])), (qm, .inr (2, [.ref qw, .ref qh])), (qw, .inl (cI, 10, .inl fw)), (qh, .inl (cI, 10, .inl fh)), (qr, .inr (3, [.int br])), (qf, .inr (1, [.ref qx, .ref qy, .ref qz, .ref qu, .int (nI nC), .int (nI nR), .int nf])), (qT, .inl (cI, 33, .inl gt))] → va_S A s.heap H locs → ∀ (ls : Array Slot), lv_has ls 16 [(10, .int (v_L_maps_326 y)), (9, .int (v_L_maps_312 y)), (7, .int (v_L_maps_211 fw fh y)), (6, .int (v_L_maps_88 y)), (5, .int (v_L_maps_68 y)), (4, .int (v_L_maps_55 y)), (3, .int (v_L_maps_24 y)), (0, .ref qo), (1, .int y), (2, .ref qT), (8, .int (lp_L_maps_221 fw fh y 181))] → W p l e (headSpec wsL_maps rm_L_maps).room s m ([.ref qo, .int y, .ref qT]).toArray below meth c H locs 33 198 (MQ below (Qc_L_maps D cI cZ cJ cD qo qm qb qr qf qw qh fw fh br qx qy qz qu nC nR nf qT gt y A) ([.ref qo, .int y, .ref qT]).toArray s 39 234 A) (F0 m 340 ls [.int v104_0]) := by
                              intro v104_0 hv104_0 H locs hP hD hS ls hl
                              subst hv104_0
                              refine lv_istore (lv' := [(11, .int (if (v_L_maps_312 y) ≤ (v_L_maps_24 y) then v_L_maps_24 y else v_L_maps_312 y)), (10, .int (v_L_maps_326 y)), (9, .int (v_L_maps_312 y)), (7, .int (v_L_maps_211 fw fh y)), (6, .int (v_L_maps_88 y)), (5, .int (v_L_maps_68 y)), (4, .int (v_L_maps_55 y)), (3, .int (v_L_maps_24 y)), (0, .ref qo), (1, .int y), (2, .ref qT), (8, .int (lp_L_maps_221 fw fh y 181))]) hx hb dL_maps_340 hl (by decide) rfl (fun ls hl => ?_)
                              have hl : lv_has ls 16 [(11, .int (v_L_maps_340 y)), (10, .int (v_L_maps_326 y)), (9, .int (v_L_maps_312 y)), (7, .int (v_L_maps_211 fw fh y)), (6, .int (v_L_maps_88 y)), (5, .int (v_L_maps_68 y)), (4, .int (v_L_maps_55 y)), (3, .int (v_L_maps_24 y)), (0, .ref qo), (1, .int y), (2, .ref qT), (8, .int (lp_L_maps_221 fw fh y 181))] := hl
                              refine lv_iload_n hx hb dL_maps_342 rfl (lv_at hl 9 rfl) ?_
                              refine lv_bipush (v := 7) hx hb dL_maps_343 (by decide) ?_
                              refine lv_ishr hx hb dL_maps_345 ?_
                              refine lv_sipush (v := 362) hx hb dL_maps_346 (by decide) ?_
                              refine va_calli (va_runS (As := [.int (y >>> ((7 : Int32) &&& 31)), .int 362]) (rest := []) ⟨hx, hb, hml, hown, hts⟩ (c_L_some l D cI cZ cJ cD (y >>> ((7 : Int32) &&& 31)) 362 (by decide)) (va_cwS 2 hts gL_maps_L_some rfl rfl rfl (by decide +kernel) ⟨Nat.le_of_ble_eq_true rfl, Nat.le_of_ble_eq_true rfl⟩) ⟨zblind, (fun U hU hW => ⟨rfl, by rw [hU]; exact hP.sub (ws' := []) [] rfl, va_K.moved hW.alike hK⟩)⟩ rfl rfl hl.1 rfl (lv_room (Nat.le_of_ble_eq_true rfl)) dL_maps_349 ⟨(show _ ≤ 39 from by omega), (show _ ≤ 234 from by omega)⟩) hS (fun q _ h => h.elim) (fun q h => h.elim) (fun r105 u t H locs ht hvm hw hB hz1 hk1 hS => ?_)
                              rw [hw]
                              have hP := zk hP hk1
                              refine lv_sipush (v := 181) hx hb dL_maps_352 (by decide) ?_
                              refine lv_isub hx hb dL_maps_355 ?_
                              refine lv_istore (lv' := [(12, .int ((s_L_some (y >>> ((7 : Int32) &&& 31)) 362) - 181)), (11, .int (v_L_maps_340 y)), (10, .int (v_L_maps_326 y)), (9, .int (v_L_maps_312 y)), (7, .int (v_L_maps_211 fw fh y)), (6, .int (v_L_maps_88 y)), (5, .int (v_L_maps_68 y)), (4, .int (v_L_maps_55 y)), (3, .int (v_L_maps_24 y)), (0, .ref qo), (1, .int y), (2, .ref qT), (8, .int (lp_L_maps_221 fw fh y 181))]) hx hb dL_maps_356 hl (by decide) rfl (fun ls hl => ?_)
                              have hl : lv_has ls 16 [(12, .int (v_L_maps_356 y)), (11, .int (v_L_maps_340 y)), (10, .int (v_L_maps_326 y)), (9, .int (v_L_maps_312 y)), (7, .int (v_L_maps_211 fw fh y)), (6, .int (v_L_maps_88 y)), (5, .int (v_L_maps_68 y)), (4, .int (v_L_maps_55 y)), (3, .int (v_L_maps_24 y)), (0, .ref qo), (1, .int y), (2, .ref qT), (8, .int (lp_L_maps_221 fw fh y 181))] := hl
                              refine lv_iload hx hb dL_maps_358 (lv_at hl 6 rfl) ?_
                              have K107 : ∀ v107_0 : Int32, v107_0 = (if (v_L_maps_68 y) = 0 then 0 else (if (v_L_maps_356 y) < (-180) then 0 else (if (v_L_maps_55 y) < (v_L_maps_356 y) then 0 else 1))) → ∀ (H : Heap) (locs : List Loc), va_P D vwCl [(qo, .inr (4, [.ref qm, .ref qb, .ref qr, .ref qf])), (qm, .inr (2, [.ref qw, .ref qh])), (qw, .inl (cI, 10, .inl fw)), (qh, .inl (cI, 10, .inl fh)), (qr, .inr (3, [.int br])), (qf, .inr (1, [.ref qx, .ref qy, .ref qz, .ref qu, .int (nI nC), .int (nI nR), .int nf])), (qT, .inl (cI, 33, .inl gt))] H → va_D A [(qo, .inr (4, [.ref qm, .ref qb, .ref qr, .ref qf])), (qm, .inr (2, [.ref qw, .ref qh])), (qw, .inl (cI, 10, .inl fw)), (qh, .inl (cI, 10, .inl fh)), (qr, .inr (3, [.int br])), (qf, .inr (1, [.ref qx, .ref qy, .ref qz, .ref qu, .int (nI nC), .int (nI nR), .int nf])), (qT, .inl (cI, 33, .inl gt))] → va_S A s.heap H locs → ∀ (ls : Array Slot), lv_has ls 16 [(12, .int (v_L_maps_356 y)), (11, .int (v_L_maps_340 y)), (10, .int (v_L_maps_326 y)), (9, .int (v_L_maps_312 y)), (7, .int (v_L_maps_211 fw fh y)), (6, .int (v_L_maps_88 y)), (5, .int (v_L_maps_68 y)), (4, .int (v_L_maps_55 y)), (3, .int (v_L_maps_24 y)), (0, .ref qo), (1, .int y), (2, .ref qT), (8, .int (lp_L_maps_221 fw fh y 181))] → W p l e (headSpec wsL_maps rm_L_maps).room s m ([.ref qo, .int y, .ref qT]).toArray below meth c H locs 33 198 (MQ below (Qc_L_maps D cI cZ cJ cD qo qm qb qr qf qw qh fw fh br qx qy qz qu nC nR nf qT gt y A) ([.ref qo, .int y, .ref qT]).toArray s 39 234 A) (F0 m 383 ls [.int v107_0]) := by
                                intro v107_0 hv107_0 H locs hP hD hS ls hl
                                subst hv107_0
                                refine lv_istore (lv' := [(13, .int (if (v_L_maps_68 y) = 0 then 0 else (if (v_L_maps_356 y) < (-180) then 0 else (if (v_L_maps_55 y) < (v_L_maps_356 y) then 0 else 1)))), (12, .int (v_L_maps_356 y)), (11, .int (v_L_maps_340 y)), (10, .int (v_L_maps_326 y)), (9, .int (v_L_maps_312 y)), (7, .int (v_L_maps_211 fw fh y)), (6, .int (v_L_maps_88 y)), (5, .int (v_L_maps_68 y)), (4, .int (v_L_maps_55 y)), (3, .int (v_L_maps_24 y)), (0, .ref qo), (1, .int y), (2, .ref qT), (8, .int (lp_L_maps_221 fw fh y 181))]) hx hb dL_maps_383 hl (by decide) rfl (fun ls hl => ?_)
                                have hl : lv_has ls 16 [(13, .int (v_L_maps_383 y)), (12, .int (v_L_maps_356 y)), (11, .int (v_L_maps_340 y)), (10, .int (v_L_maps_326 y)), (9, .int (v_L_maps_312 y)), (7, .int (v_L_maps_211 fw fh y)), (6, .int (v_L_maps_88 y)), (5, .int (v_L_maps_68 y)), (4, .int (v_L_maps_55 y)), (3, .int (v_L_maps_24 y)), (0, .ref qo), (1, .int y), (2, .ref qT), (8, .int (lp_L_maps_221 fw fh y 181))] := hl
                                refine lv_iload hx hb dL_maps_385 (lv_at hl 0 rfl) ?_
                                have K109 : ∀ v109_0 : Int64, v109_0 = (if (v_L_maps_383 y) = 0 then (-1) else s_L_area fw fh (v_L_maps_326 y) (v_L_maps_340 y) ((v_L_maps_55 y) - (v_L_maps_356 y))) → ∀ (H : Heap) (locs : List Loc), va_P D vwCl [(qo, .inr (4, [.ref qm, .ref qb, .ref qr, .ref qf])), (qm, .inr (2, [.ref qw, .ref qh])), (qw, .inl (cI, 10, .inl fw)), (qh, .inl (cI, 10, .inl fh)), (qr, .inr (3, [.int br])), (qf, .inr (1, [.ref qx, .ref qy, .ref qz, .ref qu, .int (nI nC), .int (nI nR), .int nf])), (qT, .inl (cI, 33, .inl gt))] H → va_D A [(qo, .inr (4, [.ref qm, .ref qb, .ref qr, .ref qf])), (qm, .inr (2, [.ref qw, .ref qh])), (qw, .inl (cI, 10, .inl fw)), (qh, .inl (cI, 10, .inl fh)), (qr, .inr (3, [.int br])), (qf, .inr (1, [.ref qx, .ref qy, .ref qz, .ref qu, .int (nI nC), .int (nI nR), .int nf])), (qT, .inl (cI, 33, .inl gt))] → va_S A s.heap H locs → ∀ (ls : Array Slot), lv_has ls 16 [(13, .int (v_L_maps_383 y)), (12, .int (v_L_maps_356 y)), (11, .int (v_L_maps_340 y)), (10, .int (v_L_maps_326 y)), (9, .int (v_L_maps_312 y)), (7, .int (v_L_maps_211 fw fh y)), (6, .int (v_L_maps_88 y)), (5, .int (v_L_maps_68 y)), (4, .int (v_L_maps_55 y)), (3, .int (v_L_maps_24 y)), (0, .ref qo), (1, .int y), (2, .ref qT), (8, .int (lp_L_maps_221 fw fh y 181))] → W p l e (headSpec wsL_maps rm_L_maps).room s m ([.ref qo, .int y, .ref qT]).toArray below meth c H locs 33 198 (MQ below (Qc_L_maps D cI cZ cJ cD qo qm qb qr qf qw qh fw fh br qx qy qz qu nC nR nf qT gt y A) ([.ref qo, .int y, .ref qT]).toArray s 39 234 A) (F0 m 409 ls [.long v109_0]) := by
                                  intro v109_0 hv109_0 H locs hP hD hS ls hl
                                  subst hv109_0
                                  refine lv_lstore (lv' := [(14, .long (if (v_L_maps_383 y) = 0 then (-1) else s_L_area fw fh (v_L_maps_326 y) (v_L_maps_340 y) ((v_L_maps_55 y) - (v_L_maps_356 y)))), (13, .int (v_L_maps_383 y)), (12, .int (v_L_maps_356 y)), (11, .int (v_L_maps_340 y)), (10, .int (v_L_maps_326 y)), (9, .int (v_L_maps_312 y)), (7, .int (v_L_maps_211 fw fh y)), (6, .int (v_L_maps_88 y)), (5, .int (v_L_maps_68 y)), (4, .int (v_L_maps_55 y)), (3, .int (v_L_maps_24 y)), (0, .ref qo), (1, .int y), (2, .ref qT), (8, .int (lp_L_maps_221 fw fh y 181))]) hx hb dL_maps_409 hl (by decide) rfl (fun ls hl => ?_)
                                  have hl : lv_has ls 16 [(14, .long (v_L_maps_409 fw fh y)), (13, .int (v_L_maps_383 y)), (12, .int (v_L_maps_356 y)), (11, .int (v_L_maps_340 y)), (10, .int (v_L_maps_326 y)), (9, .int (v_L_maps_312 y)), (7, .int (v_L_maps_211 fw fh y)), (6, .int (v_L_maps_88 y)), (5, .int (v_L_maps_68 y)), (4, .int (v_L_maps_55 y)), (3, .int (v_L_maps_24 y)), (0, .ref qo), (1, .int y), (2, .ref qT), (8, .int (lp_L_maps_221 fw fh y 181))] := hl
                                  refine lv_aload_n hx hb dL_maps_411 rfl (lv_at hl 11 rfl) ?_
                                  refine lv_iconst (v := 0) hx hb dL_maps_412 (by decide) ?_
                                  refine lv_iload hx hb dL_maps_413 (lv_at hl 4 rfl) ?_
                                  refine lv_iload hx hb dL_maps_415 (lv_at hl 3 rfl) ?_
                                  refine lv_iload hx hb dL_maps_417 (lv_at hl 2 rfl) ?_
                                  refine lv_iload hx hb dL_maps_419 (lv_at hl 9 rfl) ?_
                                  have hPc := hP.sub (ws' := [(qo, .inr (4, [.ref qm, .ref qb, .ref qr, .ref qf])), (qm, .inr (2, [.ref qw, .ref qh])), (qw, .inl (cI, 10, .inl fw)), (qh, .inl (cI, 10, .inl fh))]) [0, 1, 2, 3] rfl
                                  have hDc := hD.sub (ws' := [(qo, .inr (4, [.ref qm, .ref qb, .ref qr, .ref qf])), (qm, .inr (2, [.ref qw, .ref qh])), (qw, .inl (cI, 10, .inl fw)), (qh, .inl (cI, 10, .inl fh))]) [0, 1, 2, 3] (by decide) rfl
                                  have hFc := va_free (wc := [(qo, .inr (4, [.ref qm, .ref qb, .ref qr, .ref qf])), (qm, .inr (2, [.ref qw, .ref qh])), (qw, .inl (cI, 10, .inl fw)), (qh, .inl (cI, 10, .inl fh))]) hD hS hA [0, 1, 2, 3] rfl
                                  refine vx_calll (vx_runSX (As := [.ref qo, .int 0, .int (v_L_maps_326 y), .int (v_L_maps_340 y), .int (v_L_maps_356 y), .int (v_L_maps_55 y)]) (rest := []) ⟨hx, hb, hml, hown, hts⟩ (c_L_field l hnt D cI cZ cJ cD qo qm qb qr qf qw qh fw fh 0 (v_L_maps_326 y) (v_L_maps_340 y) (v_L_maps_356 y) (v_L_maps_55 y) H.size ) (vx_cwSW 6 hts gL_maps_L_field rfl rfl rfl (by decide +kernel) ⟨Nat.le_of_ble_eq_true rfl, Nat.le_of_ble_eq_true rfl⟩) ⟨zblindWE, (fun U hU hW => ⟨rfl, by rw [hU], by rw [hU]; exact hPc, va_K.moved hW.alike hK, hDc.weaken (fun _ _ _ _ => trivial), zEnv.go hE hS hFc hU hW⟩)⟩ rfl rfl hl.1 rfl (lv_room (Nat.le_of_ble_eq_true rfl)) dL_maps_421 ⟨(show _ ≤ 39 from by omega), (show _ ≤ 234 from by omega)⟩) hS (fun q _ h => hFc q h) hFc (fun q _ h => hFc q h) (fun E ce q9 u t H locs ht hvm hpx hB hz1 hk1 hS hq9 hce hcl => ?_) (fun r110 u t H locs ht hvm hw hB hz1 hk1 hS => ?_)
                                  · exact hB.elim
                                  rw [hw]
                                  obtain ⟨hP1, hK1, hD1⟩ := hB
                                  rw [ht] at hP1
                                  obtain ⟨hP, hD⟩ := va_join (wr := [(qr, .inr (3, [.int br])), (qf, .inr (1, [.ref qx, .ref qy, .ref qz, .ref qu, .int (nI nC), .int (nI nR), .int nf])), (qT, .inl (cI, 33, .inl gt))]) (w1 := [(qo, .inr (4, [.ref qm, .ref qb, .ref qr, .ref qf])), (qm, .inr (2, [.ref qw, .ref qh])), (qw, .inl (cI, 10, .inl fw)), (qh, .inl (cI, 10, .inl fh))]) hP hD [0, 1, 2, 3] [4, 5, 6] rfl rfl (by decide) (by decide) hk1 hFc hP1 hD1
                                  have hP := hP.sub (ws' := [(qo, .inr (4, [.ref qm, .ref qb, .ref qr, .ref qf])), (qm, .inr (2, [.ref qw, .ref qh])), (qw, .inl (cI, 10, .inl fw)), (qh, .inl (cI, 10, .inl fh)), (qr, .inr (3, [.int br])), (qf, .inr (1, [.ref qx, .ref qy, .ref qz, .ref qu, .int (nI nC), .int (nI nR), .int nf])), (qT, .inl (cI, 33, .inl gt))]) [3, 4, 5, 6, 0, 1, 2] rfl
                                  have hD := hD.sub (ws' := [(qo, .inr (4, [.ref qm, .ref qb, .ref qr, .ref qf])), (qm, .inr (2, [.ref qw, .ref qh])), (qw, .inl (cI, 10, .inl fw)), (qh, .inl (cI, 10, .inl fh)), (qr, .inr (3, [.int br])), (qf, .inr (1, [.ref qx, .ref qy, .ref qz, .ref qu, .int (nI nC), .int (nI nR), .int nf])), (qT, .inl (cI, 33, .inl gt))]) [3, 4, 5, 6, 0, 1, 2] (by decide) rfl
                                  refine W.widen (k := 35) (n := 210) (by omega) (by omega) ?_
                                  refine lv_lload hx hb dL_maps_424 (lv_at hl 0 rfl) ?_
                                  refine W.lcmp hx hb dL_maps_426 ?_
                                  refine lv_if_ne (tgt := 469) hx hb dL_maps_427 (by decide) (fun c111 => ?_) (fun c111 => ?_)
                                  · refine lv_iconst (v := 0) hx hb dL_maps_469 (by decide) ?_
                                    refine W.widen (k := 39) (n := 234) (by decide) (by decide) ?_
                                    have e112 : s_L_maps fw fh br nC nR nf y = 0 := by
                                      unfold s_L_maps
                                      exact ((if_pos c86).trans ((if_pos c91).trans ((if_pos c99).trans (if_neg c111))))
                                    exact W.zret (v := 0) hx hb hr (z_b (by (repeat' split) <;> simp)) (fun t ht hW => ⟨⟨_, (), rfl, e112.symm, ⟨(by rw [ht]; exact hP), va_K.moved hW.alike hK, hD⟩⟩, hS.F ht⟩) hS.2.2 dL_maps_470
                                  · refine lv_aload_n hx hb dL_maps_430 rfl (lv_at hl 11 rfl) ?_
                                    refine lv_iconst (v := 1) hx hb dL_maps_431 (by decide) ?_
                                    refine lv_iload hx hb dL_maps_432 (lv_at hl 4 rfl) ?_
                                    refine lv_iload hx hb dL_maps_434 (lv_at hl 3 rfl) ?_
                                    refine lv_iload hx hb dL_maps_436 (lv_at hl 2 rfl) ?_
                                    refine lv_iload hx hb dL_maps_438 (lv_at hl 9 rfl) ?_
                                    have hPc := hP.sub (ws' := [(qo, .inr (4, [.ref qm, .ref qb, .ref qr, .ref qf])), (qm, .inr (2, [.ref qw, .ref qh])), (qw, .inl (cI, 10, .inl fw)), (qh, .inl (cI, 10, .inl fh))]) [0, 1, 2, 3] rfl
                                    have hDc := hD.sub (ws' := [(qo, .inr (4, [.ref qm, .ref qb, .ref qr, .ref qf])), (qm, .inr (2, [.ref qw, .ref qh])), (qw, .inl (cI, 10, .inl fw)), (qh, .inl (cI, 10, .inl fh))]) [0, 1, 2, 3] (by decide) rfl
                                    have hFc := va_free (wc := [(qo, .inr (4, [.ref qm, .ref qb, .ref qr, .ref qf])), (qm, .inr (2, [.ref qw, .ref qh])), (qw, .inl (cI, 10, .inl fw)), (qh, .inl (cI, 10, .inl fh))]) hD hS hA [0, 1, 2, 3] rfl
                                    refine vx_calll (vx_runSX (As := [.ref qo, .int 1, .int (v_L_maps_326 y), .int (v_L_maps_340 y), .int (v_L_maps_356 y), .int (v_L_maps_55 y)]) (rest := []) ⟨hx, hb, hml, hown, hts⟩ (c_L_field l hnt D cI cZ cJ cD qo qm qb qr qf qw qh fw fh 1 (v_L_maps_326 y) (v_L_maps_340 y) (v_L_maps_356 y) (v_L_maps_55 y) H.size ) (vx_cwSW 6 hts gL_maps_L_field rfl rfl rfl (by decide +kernel) ⟨Nat.le_of_ble_eq_true rfl, Nat.le_of_ble_eq_true rfl⟩) ⟨zblindWE, (fun U hU hW => ⟨rfl, by rw [hU], by rw [hU]; exact hPc, va_K.moved hW.alike hK, hDc.weaken (fun _ _ _ _ => trivial), zEnv.go hE hS hFc hU hW⟩)⟩ rfl rfl hl.1 rfl (lv_room (Nat.le_of_ble_eq_true rfl)) dL_maps_440 ⟨(show _ ≤ 39 from by omega), (show _ ≤ 234 from by omega)⟩) hS (fun q _ h => hFc q h) hFc (fun q _ h => hFc q h) (fun E ce q9 u t H locs ht hvm hpx hB hz1 hk1 hS hq9 hce hcl => ?_) (fun r113 u t H locs ht hvm hw hB hz1 hk1 hS => ?_)
                                    · exact hB.elim
                                    rw [hw]
                                    obtain ⟨hP1, hK1, hD1⟩ := hB
                                    rw [ht] at hP1
                                    obtain ⟨hP, hD⟩ := va_join (wr := [(qr, .inr (3, [.int br])), (qf, .inr (1, [.ref qx, .ref qy, .ref qz, .ref qu, .int (nI nC), .int (nI nR), .int nf])), (qT, .inl (cI, 33, .inl gt))]) (w1 := [(qo, .inr (4, [.ref qm, .ref qb, .ref qr, .ref qf])), (qm, .inr (2, [.ref qw, .ref qh])), (qw, .inl (cI, 10, .inl fw)), (qh, .inl (cI, 10, .inl fh))]) hP hD [0, 1, 2, 3] [4, 5, 6] rfl rfl (by decide) (by decide) hk1 hFc hP1 hD1
                                    have hP := hP.sub (ws' := [(qo, .inr (4, [.ref qm, .ref qb, .ref qr, .ref qf])), (qm, .inr (2, [.ref qw, .ref qh])), (qw, .inl (cI, 10, .inl fw)), (qh, .inl (cI, 10, .inl fh)), (qr, .inr (3, [.int br])), (qf, .inr (1, [.ref qx, .ref qy, .ref qz, .ref qu, .int (nI nC), .int (nI nR), .int nf])), (qT, .inl (cI, 33, .inl gt))]) [3, 4, 5, 6, 0, 1, 2] rfl
                                    have hD := hD.sub (ws' := [(qo, .inr (4, [.ref qm, .ref qb, .ref qr, .ref qf])), (qm, .inr (2, [.ref qw, .ref qh])), (qw, .inl (cI, 10, .inl fw)), (qh, .inl (cI, 10, .inl fh)), (qr, .inr (3, [.int br])), (qf, .inr (1, [.ref qx, .ref qy, .ref qz, .ref qu, .int (nI nC), .int (nI nR), .int nf])), (qT, .inl (cI, 33, .inl gt))]) [3, 4, 5, 6, 0, 1, 2] (by decide) rfl
                                    refine W.widen (k := 37) (n := 222) (by omega) (by omega) ?_
                                    refine lv_lload hx hb dL_maps_443 (lv_at hl 0 rfl) ?_
                                    refine W.lcmp hx hb dL_maps_445 ?_
                                    refine lv_if_ne (tgt := 469) hx hb dL_maps_446 (by decide) (fun c114 => ?_) (fun c114 => ?_)
                                    · refine lv_iconst (v := 0) hx hb dL_maps_469 (by decide) ?_
                                      refine W.widen (k := 39) (n := 234) (by decide) (by decide) ?_
                                      have e115 : s_L_maps fw fh br nC nR nf y = 0 := by
                                        unfold s_L_maps
                                        exact ((if_pos c86).trans ((if_pos c91).trans ((if_pos c99).trans ((if_pos c111).trans (if_neg c114)))))
                                      exact W.zret (v := 0) hx hb hr (z_b (by (repeat' split) <;> simp)) (fun t ht hW => ⟨⟨_, (), rfl, e115.symm, ⟨(by rw [ht]; exact hP), va_K.moved hW.alike hK, hD⟩⟩, hS.F ht⟩) hS.2.2 dL_maps_470
                                    · refine lv_aload_n hx hb dL_maps_449 rfl (lv_at hl 11 rfl) ?_
                                      refine lv_iconst (v := 0) hx hb dL_maps_450 (by decide) ?_
                                      refine lv_iconst (v := 5) hx hb dL_maps_451 (by decide) ?_
                                      refine lv_iconst (v := 4) hx hb dL_maps_452 (by decide) ?_
                                      refine lv_iconst (v := 0) hx hb dL_maps_453 (by decide) ?_
                                      refine lv_iconst (v := 0) hx hb dL_maps_454 (by decide) ?_
                                      have hPc := hP.sub (ws' := [(qo, .inr (4, [.ref qm, .ref qb, .ref qr, .ref qf])), (qm, .inr (2, [.ref qw, .ref qh])), (qw, .inl (cI, 10, .inl fw)), (qh, .inl (cI, 10, .inl fh))]) [0, 1, 2, 3] rfl
                                      have hDc := hD.sub (ws' := [(qo, .inr (4, [.ref qm, .ref qb, .ref qr, .ref qf])), (qm, .inr (2, [.ref qw, .ref qh])), (qw, .inl (cI, 10, .inl fw)), (qh, .inl (cI, 10, .inl fh))]) [0, 1, 2, 3] (by decide) rfl
                                      have hFc := va_free (wc := [(qo, .inr (4, [.ref qm, .ref qb, .ref qr, .ref qf])), (qm, .inr (2, [.ref qw, .ref qh])), (qw, .inl (cI, 10, .inl fw)), (qh, .inl (cI, 10, .inl fh))]) hD hS hA [0, 1, 2, 3] rfl
                                      refine vx_calll (vx_runSX (As := [.ref qo, .int 0, .int 5, .int 4, .int 0, .int 0]) (rest := []) ⟨hx, hb, hml, hown, hts⟩ (c_L_field l hnt D cI cZ cJ cD qo qm qb qr qf qw qh fw fh 0 5 4 0 0 H.size ) (vx_cwSW 6 hts gL_maps_L_field rfl rfl rfl (by decide +kernel) ⟨Nat.le_of_ble_eq_true rfl, Nat.le_of_ble_eq_true rfl⟩) ⟨zblindWE, (fun U hU hW => ⟨rfl, by rw [hU], by rw [hU]; exact hPc, va_K.moved hW.alike hK, hDc.weaken (fun _ _ _ _ => trivial), zEnv.go hE hS hFc hU hW⟩)⟩ rfl rfl hl.1 rfl (lv_room (Nat.le_of_ble_eq_true rfl)) dL_maps_455 ⟨(show _ ≤ 39 from by omega), (show _ ≤ 234 from by omega)⟩) hS (fun q _ h => hFc q h) hFc (fun q _ h => hFc q h) (fun E ce q9 u t H locs ht hvm hpx hB hz1 hk1 hS hq9 hce hcl => ?_) (fun r116 u t H locs ht hvm hw hB hz1 hk1 hS => ?_)
                                      · exact hB.elim
                                      rw [hw]
                                      obtain ⟨hP1, hK1, hD1⟩ := hB
                                      rw [ht] at hP1
                                      obtain ⟨hP, hD⟩ := va_join (wr := [(qr, .inr (3, [.int br])), (qf, .inr (1, [.ref qx, .ref qy, .ref qz, .ref qu, .int (nI nC), .int (nI nR), .int nf])), (qT, .inl (cI, 33, .inl gt))]) (w1 := [(qo, .inr (4, [.ref qm, .ref qb, .ref qr, .ref qf])), (qm, .inr (2, [.ref qw, .ref qh])), (qw, .inl (cI, 10, .inl fw)), (qh, .inl (cI, 10, .inl fh))]) hP hD [0, 1, 2, 3] [4, 5, 6] rfl rfl (by decide) (by decide) hk1 hFc hP1 hD1
                                      have hP := hP.sub (ws' := [(qo, .inr (4, [.ref qm, .ref qb, .ref qr, .ref qf])), (qm, .inr (2, [.ref qw, .ref qh])), (qw, .inl (cI, 10, .inl fw)), (qh, .inl (cI, 10, .inl fh)), (qr, .inr (3, [.int br])), (qf, .inr (1, [.ref qx, .ref qy, .ref qz, .ref qu, .int (nI nC), .int (nI nR), .int nf])), (qT, .inl (cI, 33, .inl gt))]) [3, 4, 5, 6, 0, 1, 2] rfl
                                      have hD := hD.sub (ws' := [(qo, .inr (4, [.ref qm, .ref qb, .ref qr, .ref qf])), (qm, .inr (2, [.ref qw, .ref qh])), (qw, .inl (cI, 10, .inl fw)), (qh, .inl (cI, 10, .inl fh)), (qr, .inr (3, [.int br])), (qf, .inr (1, [.ref qx, .ref qy, .ref qz, .ref qu, .int (nI nC), .int (nI nR), .int nf])), (qT, .inl (cI, 33, .inl gt))]) [3, 4, 5, 6, 0, 1, 2] (by decide) rfl
                                      refine W.widen (k := 39) (n := 234) (by omega) (by omega) ?_
                                      refine lv_ldc2 (v := (-1)) hx hb hown (hts (.constantLong RL 76 (-1)) (List.mem_cons_of_mem _ (List.mem_append_left _ (List.mem_append_left _ (List.mem_append_left _ (List.mem_append_left _ (List.mem_append_left _ (List.mem_append_left _ (List.mem_append_left _ (List.mem_of_getElem? (i := 5) rfl)))))))))) dL_maps_458 ?_
                                      refine W.lcmp hx hb dL_maps_461 ?_
                                      have K118 : ∀ v118_0 : Int32, v118_0 = (if (lg_cmp (s_L_field fw fh 0 5 4 0 0) (-1)) = 0 then 1 else 0) → ∀ (H : Heap) (locs : List Loc), va_P D vwCl [(qo, .inr (4, [.ref qm, .ref qb, .ref qr, .ref qf])), (qm, .inr (2, [.ref qw, .ref qh])), (qw, .inl (cI, 10, .inl fw)), (qh, .inl (cI, 10, .inl fh)), (qr, .inr (3, [.int br])), (qf, .inr (1, [.ref qx, .ref qy, .ref qz, .ref qu, .int (nI nC), .int (nI nR), .int nf])), (qT, .inl (cI, 33, .inl gt))] H → va_D A [(qo, .inr (4, [.ref qm, .ref qb, .ref qr, .ref qf])), (qm, .inr (2, [.ref qw, .ref qh])), (qw, .inl (cI, 10, .inl fw)), (qh, .inl (cI, 10, .inl fh)), (qr, .inr (3, [.int br])), (qf, .inr (1, [.ref qx, .ref qy, .ref qz, .ref qu, .int (nI nC), .int (nI nR), .int nf])), (qT, .inl (cI, 33, .inl gt))] → va_S A s.heap H locs → ∀ (ls : Array Slot), lv_has ls 16 [(14, .long (v_L_maps_409 fw fh y)), (13, .int (v_L_maps_383 y)), (12, .int (v_L_maps_356 y)), (11, .int (v_L_maps_340 y)), (10, .int (v_L_maps_326 y)), (9, .int (v_L_maps_312 y)), (7, .int (v_L_maps_211 fw fh y)), (6, .int (v_L_maps_88 y)), (5, .int (v_L_maps_68 y)), (4, .int (v_L_maps_55 y)), (3, .int (v_L_maps_24 y)), (0, .ref qo), (1, .int y), (2, .ref qT), (8, .int (lp_L_maps_221 fw fh y 181))] → W p l e (headSpec wsL_maps rm_L_maps).room s m ([.ref qo, .int y, .ref qT]).toArray below meth c H locs 39 234 (MQ below (Qc_L_maps D cI cZ cJ cD qo qm qb qr qf qw qh fw fh br qx qy qz qu nC nR nf qT gt y A) ([.ref qo, .int y, .ref qT]).toArray s 39 234 A) (F0 m 470 ls [.int v118_0]) := by
                                        intro v118_0 hv118_0 H locs hP hD hS ls hl
                                        subst hv118_0
                                        have e119 : s_L_maps fw fh br nC nR nf y = (if (lg_cmp (s_L_field fw fh 0 5 4 0 0) (-1)) = 0 then 1 else 0) := by
                                          unfold s_L_maps
                                          exact ((if_pos c86).trans ((if_pos c91).trans ((if_pos c99).trans ((if_pos c111).trans (if_pos c114)))))
                                        exact W.zret (v := (if (lg_cmp (s_L_field fw fh 0 5 4 0 0) (-1)) = 0 then 1 else 0)) hx hb hr (z_b (by (repeat' split) <;> simp)) (fun t ht hW => ⟨⟨_, (), rfl, e119.symm, ⟨(by rw [ht]; exact hP), va_K.moved hW.alike hK, hD⟩⟩, hS.F ht⟩) hS.2.2 dL_maps_470
                                      refine lv_if_ne (tgt := 469) hx hb dL_maps_462 (by decide) (fun c120 => ?_) (fun c120 => ?_)
                                      · refine lv_iconst (v := 0) hx hb dL_maps_469 (by decide) ?_
                                        exact K118 _ (if_neg c120).symm _ _ hP hD hS _ (lv_sub hl [0, 1, 2, 3, 4, 5, 6, 7, 8, 9, 10, 11, 12, 13, 14] rfl)
                                      · refine lv_iconst (v := 1) hx hb dL_maps_465 (by decide) ?_
                                        refine lv_goto (tgt := 470) hx hb dL_maps_466 (by decide) ?_
                                        exact K118 _ (if_pos c120).symm _ _ hP hD hS _ (lv_sub hl [0, 1, 2, 3, 4, 5, 6, 7, 8, 9, 10, 11, 12, 13, 14] rfl)
                                refine lv_if_eq (tgt := 406) hx hb dL_maps_387 (by decide) (fun c121 => ?_) (fun c121 => ?_)
                                · refine lv_ldc2 (v := (-1)) hx hb hown (hts (.constantLong RL 76 (-1)) (List.mem_cons_of_mem _ (List.mem_append_left _ (List.mem_append_left _ (List.mem_append_left _ (List.mem_append_left _ (List.mem_append_left _ (List.mem_append_left _ (List.mem_append_left _ (List.mem_of_getElem? (i := 5) rfl)))))))))) dL_maps_406 ?_
                                  exact K109 _ (if_pos c121).symm _ _ hP hD hS _ (lv_sub hl [0, 1, 2, 3, 4, 5, 6, 7, 8, 9, 10, 11, 12, 13] rfl)
                                · refine lv_aload_n hx hb dL_maps_390 rfl (lv_at hl 12 rfl) ?_
                                  refine lv_iload hx hb dL_maps_391 (lv_at hl 3 rfl) ?_
                                  refine lv_iload hx hb dL_maps_393 (lv_at hl 2 rfl) ?_
                                  refine lv_iload hx hb dL_maps_395 (lv_at hl 8 rfl) ?_
                                  refine lv_iload hx hb dL_maps_397 (lv_at hl 1 rfl) ?_
                                  refine lv_isub hx hb dL_maps_399 ?_
                                  refine va_calll (va_runS (As := [.ref qT, .int (v_L_maps_326 y), .int (v_L_maps_340 y), .int ((v_L_maps_55 y) - (v_L_maps_356 y))]) (rest := []) ⟨hx, hb, hml, hown, hts⟩ (c_L_area l D cI cZ cJ cD qT gt fw fh (v_L_maps_326 y) (v_L_maps_340 y) ((v_L_maps_55 y) - (v_L_maps_356 y)) hT hWB (mp_a1 c121) (mp_a2 y) (mp_a3 c121)) (va_cwS 4 hts gL_maps_L_area rfl rfl rfl (by decide +kernel) ⟨Nat.le_of_ble_eq_true rfl, Nat.le_of_ble_eq_true rfl⟩) ⟨zblind, (fun U hU hW => ⟨rfl, by rw [hU]; exact hP.sub (ws' := [(qT, .inl (cI, 33, .inl gt))]) [6] rfl, va_K.moved hW.alike hK⟩)⟩ rfl rfl hl.1 rfl (lv_room (Nat.le_of_ble_eq_true rfl)) dL_maps_400 ⟨(show _ ≤ 39 from by omega), (show _ ≤ 234 from by omega)⟩) hS (fun q _ h => h.elim) (fun q h => h.elim) (fun r122 u t H locs ht hvm hw hB hz1 hk1 hS => ?_)
                                  rw [hw]
                                  have hP := zk hP hk1
                                  refine lv_goto (tgt := 409) hx hb dL_maps_403 (by decide) ?_
                                  exact K109 _ (if_neg c121).symm _ _ hP hD hS _ (lv_sub hl [0, 1, 2, 3, 4, 5, 6, 7, 8, 9, 10, 11, 12, 13] rfl)
                              refine lv_if_eq (tgt := 382) hx hb dL_maps_360 (by decide) (fun c123 => ?_) (fun c123 => ?_)
                              · refine lv_iconst (v := 0) hx hb dL_maps_382 (by decide) ?_
                                exact K107 _ (if_pos c123).symm _ _ hP hD hS _ (lv_sub hl [0, 1, 2, 3, 4, 5, 6, 7, 8, 9, 10, 11, 12] rfl)
                              · refine lv_iload hx hb dL_maps_363 (lv_at hl 0 rfl) ?_
                                refine lv_sipush (v := (-180)) hx hb dL_maps_365 (by decide) ?_
                                refine lv_icmp_lt (tgt := 382) hx hb dL_maps_368 (by decide) (fun c124 => ?_) (fun c124 => ?_)
                                · refine lv_iconst (v := 0) hx hb dL_maps_382 (by decide) ?_
                                  exact K107 _ ((if_neg c123).trans (if_pos c124)).symm _ _ hP hD hS _ (lv_sub hl [0, 1, 2, 3, 4, 5, 6, 7, 8, 9, 10, 11, 12] rfl)
                                · refine lv_iload hx hb dL_maps_371 (lv_at hl 0 rfl) ?_
                                  refine lv_iload hx hb dL_maps_373 (lv_at hl 7 rfl) ?_
                                  refine lv_icmp_gt (tgt := 382) hx hb dL_maps_375 (by decide) (fun c125 => ?_) (fun c125 => ?_)
                                  · refine lv_iconst (v := 0) hx hb dL_maps_382 (by decide) ?_
                                    exact K107 _ ((if_neg c123).trans ((if_neg c124).trans (if_pos c125))).symm _ _ hP hD hS _ (lv_sub hl [0, 1, 2, 3, 4, 5, 6, 7, 8, 9, 10, 11, 12] rfl)
                                  · refine lv_iconst (v := 1) hx hb dL_maps_378 (by decide) ?_
                                    refine lv_goto (tgt := 383) hx hb dL_maps_379 (by decide) ?_
                                    exact K107 _ ((if_neg c123).trans ((if_neg c124).trans (if_neg c125))).symm _ _ hP hD hS _ (lv_sub hl [0, 1, 2, 3, 4, 5, 6, 7, 8, 9, 10, 11, 12] rfl)
                            refine lv_icmp_ge (tgt := 339) hx hb dL_maps_331 (by decide) (fun c126 => ?_) (fun c126 => ?_)
                            · refine lv_iload_n hx hb dL_maps_339 rfl (lv_at hl 6 rfl) ?_
                              exact K104 _ (if_pos c126).symm _ _ hP hD hS _ (lv_sub hl [0, 1, 2, 3, 4, 5, 6, 7, 8, 9, 10] rfl)
                            · refine lv_iload hx hb dL_maps_334 (lv_at hl 1 rfl) ?_
                              refine lv_goto (tgt := 340) hx hb dL_maps_336 (by decide) ?_
                              exact K104 _ (if_neg c126).symm _ _ hP hD hS _ (lv_sub hl [0, 1, 2, 3, 4, 5, 6, 7, 8, 9, 10] rfl)
                          refine lv_icmp_ge (tgt := 324) hx hb dL_maps_317 (by decide) (fun c127 => ?_) (fun c127 => ?_)
                          · refine lv_iload hx hb dL_maps_324 (lv_at hl 0 rfl) ?_
                            exact K102 _ (if_pos c127).symm _ _ hP hD hS _ (lv_sub hl [0, 1, 2, 3, 4, 5, 6, 7, 8, 9] rfl)
                          · refine lv_iload_n hx hb dL_maps_320 rfl (lv_at hl 5 rfl) ?_
                            refine lv_goto (tgt := 326) hx hb dL_maps_321 (by decide) ?_
                            exact K102 _ (if_neg c127).symm _ _ hP hD hS _ (lv_sub hl [0, 1, 2, 3, 4, 5, 6, 7, 8, 9] rfl)
                        · refine lv_iconst (v := 0) hx hb dL_maps_298 (by decide) ?_
                          refine W.widen (k := 39) (n := 234) (by decide) (by decide) ?_
                          have e128 : s_L_maps fw fh br nC nR nf y = 0 := by
                            unfold s_L_maps
                            exact ((if_pos c86).trans ((if_pos c91).trans (if_neg c99)))
                          exact W.zret (v := 0) hx hb hr (z_b (by (repeat' split) <;> simp)) (fun t ht hW => ⟨⟨_, (), rfl, e128.symm, ⟨(by rw [ht]; exact hP), va_K.moved hW.alike hK, hD⟩⟩, hS.F ht⟩) hS.2.2 dL_maps_299
                      refine lv_icmp_gt (tgt := 274) hx hb dL_maps_264 (by decide) (fun c129 => ?_) (fun c129 => ?_)
                      · refine lv_sipush (v := (-1001)) hx hb dL_maps_274 (by decide) ?_
                        refine lv_goto (tgt := 295) hx hb dL_maps_277 (by decide) ?_
                        exact K98 _ (if_pos c129).symm _ _ hP hD hS _ (lv_sub hl [0, 1, 2, 3, 4, 5, 6, 7, 8] rfl)
                      · refine lv_iload hx hb dL_maps_267 (lv_at hl 0 rfl) ?_
                        refine lv_ldc (v := (-99990)) hx hb hown (hts (.constant RL 148 (-99990)) (List.mem_cons_of_mem _ (List.mem_append_left _ (List.mem_append_left _ (List.mem_append_left _ (List.mem_append_left _ (List.mem_append_left _ (List.mem_append_left _ (List.mem_append_left _ (List.mem_of_getElem? (i := 4) rfl)))))))))) dL_maps_269 ?_
                        refine lv_icmp_ge (tgt := 280) hx hb dL_maps_271 (by decide) (fun c130 => ?_) (fun c130 => ?_)
                        · refine lv_iload hx hb dL_maps_280 (lv_at hl 8 rfl) ?_
                          refine lv_bipush (v := (-91)) hx hb dL_maps_282 (by decide) ?_
                          refine lv_icmp_ne (tgt := 293) hx hb dL_maps_284 (by decide) (fun c131 => ?_) (fun c131 => ?_)
                          · refine lv_iload hx hb dL_maps_293 (lv_at hl 8 rfl) ?_
                            exact K98 _ ((if_neg c129).trans ((if_pos c130).trans (if_neg c131))).symm _ _ hP hD hS _ (lv_sub hl [0, 1, 2, 3, 4, 5, 6, 7, 8] rfl)
                          · refine lv_sipush (v := (-1002)) hx hb dL_maps_287 (by decide) ?_
                            refine lv_goto (tgt := 295) hx hb dL_maps_290 (by decide) ?_
                            exact K98 _ ((if_neg c129).trans ((if_pos c130).trans (if_pos c131))).symm _ _ hP hD hS _ (lv_sub hl [0, 1, 2, 3, 4, 5, 6, 7, 8] rfl)
                        · refine lv_sipush (v := (-1001)) hx hb dL_maps_274 (by decide) ?_
                          refine lv_goto (tgt := 295) hx hb dL_maps_277 (by decide) ?_
                          exact K98 _ ((if_neg c129).trans (if_neg c130)).symm _ _ hP hD hS _ (lv_sub hl [0, 1, 2, 3, 4, 5, 6, 7, 8] rfl)
                    have L95 : ∀ (n95 k : Nat) (acc95_0 : Int32), k ≤ 181 → 181 < k + n95 → acc95_0 = lp_L_maps_221 fw fh y k → ∀ (H : Heap) (locs : List Loc), va_P D vwCl [(qo, .inr (4, [.ref qm, .ref qb, .ref qr, .ref qf])), (qm, .inr (2, [.ref qw, .ref qh])), (qw, .inl (cI, 10, .inl fw)), (qh, .inl (cI, 10, .inl fh)), (qr, .inr (3, [.int br])), (qf, .inr (1, [.ref qx, .ref qy, .ref qz, .ref qu, .int (nI nC), .int (nI nR), .int nf])), (qT, .inl (cI, 33, .inl gt))] H → va_D A [(qo, .inr (4, [.ref qm, .ref qb, .ref qr, .ref qf])), (qm, .inr (2, [.ref qw, .ref qh])), (qw, .inl (cI, 10, .inl fw)), (qh, .inl (cI, 10, .inl fh)), (qr, .inr (3, [.int br])), (qf, .inr (1, [.ref qx, .ref qy, .ref qz, .ref qu, .int (nI nC), .int (nI nR), .int nf])), (qT, .inl (cI, 33, .inl gt))] → va_S A s.heap H locs → ∀ (ls : Array Slot), lv_has ls 16 [(7, .int (v_L_maps_211 fw fh y)), (6, .int (v_L_maps_88 y)), (5, .int (v_L_maps_68 y)), (4, .int (v_L_maps_55 y)), (3, .int (v_L_maps_24 y)), (0, .ref qo), (1, .int y), (2, .ref qT), (9, .int ((-90) + nI k)), (8, .int acc95_0)] → W p l e (headSpec wsL_maps rm_L_maps).room s m ([.ref qo, .int y, .ref qT]).toArray below meth c H locs 32 192 (MQ below (Qc_L_maps D cI cZ cJ cD qo qm qb qr qf qw qh fw fh br qx qy qz qu nC nR nf qT gt y A) ([.ref qo, .int y, .ref qT]).toArray s 39 234 A) (F0 m 221 ls []) := by
                      intro n95
                      induction n95 with
                      | zero =>
                        intro k acc95_0 hkk hf95
                        exact absurd hf95 (by omega)
                      | succ n95 ih95 =>
                        intro k acc95_0 hkk hf95 hacc95_0 H locs hP hD hS ls hl
                        subst hacc95_0
                        refine lv_iload hx hb dL_maps_221 (lv_at hl 8 rfl) ?_
                        refine lv_bipush (v := 91) hx hb dL_maps_223 (by decide) ?_
                        refine lv_icmp_ge (tgt := 254) hx hb dL_maps_225 (by decide) (fun c132 => ?_) (fun c132 => ?_)
                        · have hgek : 181 ≤ k := mp_ge hkk c132
                          have ekk : k = 181 := by omega
                          subst ekk
                          exact X95 _ _ hP hD hS _ (lv_sub hl [0, 1, 2, 3, 4, 5, 6, 7, 9] rfl)
                        · refine lv_aload_n hx hb dL_maps_228 rfl (lv_at hl 7 rfl) ?_
                          refine lv_iload hx hb dL_maps_229 (lv_at hl 8 rfl) ?_
                          refine va_calli (va_runS (As := [.ref qT, .int ((-90) + nI k)]) (rest := []) ⟨hx, hb, hml, hown, hts⟩ (c_L_high l D cI cZ cJ cD qT gt fw fh ((-90) + nI k) hT (mp_lk (mp_lt hkk c132))) (va_cwS 2 hts gL_maps_L_high rfl rfl rfl (by decide +kernel) ⟨Nat.le_of_ble_eq_true rfl, Nat.le_of_ble_eq_true rfl⟩) ⟨zblind, (fun U hU hW => ⟨rfl, by rw [hU]; exact hP.sub (ws' := [(qT, .inl (cI, 33, .inl gt))]) [6] rfl, va_K.moved hW.alike hK⟩)⟩ rfl rfl hl.1 rfl (lv_room (Nat.le_of_ble_eq_true rfl)) dL_maps_231 ⟨(show _ ≤ 39 from by omega), (show _ ≤ 234 from by omega)⟩) hS (fun q _ h => h.elim) (fun q h => h.elim) (fun r133 u t H locs ht hvm hw hB hz1 hk1 hS => ?_)
                          rw [hw]
                          have hP := zk hP hk1
                          refine lv_iload hx hb dL_maps_234 (lv_at hl 0 rfl) ?_
                          have K135 : ∀ v135_0 : Int32, v135_0 = (if (v_L_maps_211 fw fh y) < (s_L_high fw fh ((-90) + nI k)) then lp_L_maps_221 fw fh y k else (-90) + nI k) → ∀ (H : Heap) (locs : List Loc), va_P D vwCl [(qo, .inr (4, [.ref qm, .ref qb, .ref qr, .ref qf])), (qm, .inr (2, [.ref qw, .ref qh])), (qw, .inl (cI, 10, .inl fw)), (qh, .inl (cI, 10, .inl fh)), (qr, .inr (3, [.int br])), (qf, .inr (1, [.ref qx, .ref qy, .ref qz, .ref qu, .int (nI nC), .int (nI nR), .int nf])), (qT, .inl (cI, 33, .inl gt))] H → va_D A [(qo, .inr (4, [.ref qm, .ref qb, .ref qr, .ref qf])), (qm, .inr (2, [.ref qw, .ref qh])), (qw, .inl (cI, 10, .inl fw)), (qh, .inl (cI, 10, .inl fh)), (qr, .inr (3, [.int br])), (qf, .inr (1, [.ref qx, .ref qy, .ref qz, .ref qu, .int (nI nC), .int (nI nR), .int nf])), (qT, .inl (cI, 33, .inl gt))] → va_S A s.heap H locs → ∀ (ls : Array Slot), lv_has ls 16 [(7, .int (v_L_maps_211 fw fh y)), (6, .int (v_L_maps_88 y)), (5, .int (v_L_maps_68 y)), (4, .int (v_L_maps_55 y)), (3, .int (v_L_maps_24 y)), (0, .ref qo), (1, .int y), (2, .ref qT), (9, .int ((-90) + nI k)), (8, .int (lp_L_maps_221 fw fh y k))] → W p l e (headSpec wsL_maps rm_L_maps).room s m ([.ref qo, .int y, .ref qT]).toArray below meth c H locs 32 192 (MQ below (Qc_L_maps D cI cZ cJ cD qo qm qb qr qf qw qh fw fh br qx qy qz qu nC nR nf qT gt y A) ([.ref qo, .int y, .ref qT]).toArray s 39 234 A) (F0 m 246 ls [.int v135_0]) := by
                            intro v135_0 hv135_0 H locs hP hD hS ls hl
                            subst hv135_0
                            refine lv_istore (lv' := [(8, .int (if (v_L_maps_211 fw fh y) < (s_L_high fw fh ((-90) + nI k)) then lp_L_maps_221 fw fh y k else (-90) + nI k)), (7, .int (v_L_maps_211 fw fh y)), (6, .int (v_L_maps_88 y)), (5, .int (v_L_maps_68 y)), (4, .int (v_L_maps_55 y)), (3, .int (v_L_maps_24 y)), (0, .ref qo), (1, .int y), (2, .ref qT), (9, .int ((-90) + nI k))]) hx hb dL_maps_246 hl (by decide) rfl (fun ls hl => ?_)
                            have hl : lv_has ls 16 [(8, .int (v_L_maps_246 fw fh y (lp_L_maps_221 fw fh y k) k)), (7, .int (v_L_maps_211 fw fh y)), (6, .int (v_L_maps_88 y)), (5, .int (v_L_maps_68 y)), (4, .int (v_L_maps_55 y)), (3, .int (v_L_maps_24 y)), (0, .ref qo), (1, .int y), (2, .ref qT), (9, .int ((-90) + nI k))] := hl
                            refine lv_iinc (v := (-90) + nI (k + 1)) (lv' := [(9, .int ((-90) + nI (k + 1))), (8, .int (v_L_maps_246 fw fh y (lp_L_maps_221 fw fh y k) k)), (7, .int (v_L_maps_211 fw fh y)), (6, .int (v_L_maps_88 y)), (5, .int (v_L_maps_68 y)), (4, .int (v_L_maps_55 y)), (3, .int (v_L_maps_24 y)), (0, .ref qo), (1, .int y), (2, .ref qT)]) hx hb dL_maps_248 hl (k := 9) rfl (z_adds (-90) k) (by decide) rfl (fun ls hl => ?_)
                            refine lv_goto (tgt := 221) hx hb dL_maps_251 (by decide) ?_
                            have hltk : k < 181 := mp_lt hkk c132
                            exact ih95 (k + 1) _ (by omega) (by omega) rfl _ _ hP hD hS _ (lv_sub hl [2, 3, 4, 5, 6, 7, 8, 9, 0, 1] rfl)
                          refine lv_icmp_gt (tgt := 244) hx hb dL_maps_236 (by decide) (fun c136 => ?_) (fun c136 => ?_)
                          · refine lv_iload hx hb dL_maps_244 (lv_at hl 9 rfl) ?_
                            exact K135 _ (if_pos c136).symm _ _ hP hD hS _ (lv_sub hl [0, 1, 2, 3, 4, 5, 6, 7, 8, 9] rfl)
                          · refine lv_iload hx hb dL_maps_239 (lv_at hl 8 rfl) ?_
                            refine lv_goto (tgt := 246) hx hb dL_maps_241 (by decide) ?_
                            exact K135 _ (if_neg c136).symm _ _ hP hD hS _ (lv_sub hl [0, 1, 2, 3, 4, 5, 6, 7, 8, 9] rfl)
                    exact L95 (181 + 1) 0 _ (Nat.zero_le _) (by omega) rfl _ _ hP hD hS _ (zlv (lv_sub (l' := [(7, .int (v_L_maps_211 fw fh y)), (6, .int (v_L_maps_88 y)), (5, .int (v_L_maps_68 y)), (4, .int (v_L_maps_55 y)), (3, .int (v_L_maps_24 y)), (0, .ref qo), (1, .int y), (2, .ref qT), (9, .int (-90)), (8, .int (-91))]) hl [2, 3, 4, 5, 6, 7, 8, 9, 0, 1] rfl) (by rw [z_add0]; first | done | rfl))
                  refine lv_if_ne (tgt := 164) hx hb dL_maps_156 (by decide) (fun c137 => ?_) (fun c137 => ?_)
                  · refine lv_iload hx hb dL_maps_164 (lv_at hl 1 rfl) ?_
                    refine lv_if_eq (tgt := 200) hx hb dL_maps_166 (by decide) (fun c138 => ?_) (fun c138 => ?_)
                    · refine lv_iload_n hx hb dL_maps_200 rfl (lv_at hl 5 rfl) ?_
                      refine lv_iconst (v := 2) hx hb dL_maps_201 (by decide) ?_
                      refine lv_ishr hx hb dL_maps_202 ?_
                      refine lv_ldc (v := 199981) hx hb hown (hts (.constant RL 142 (199981)) (List.mem_cons_of_mem _ (List.mem_append_left _ (List.mem_append_left _ (List.mem_append_left _ (List.mem_append_left _ (List.mem_append_left _ (List.mem_append_left _ (List.mem_append_left _ (List.mem_of_getElem? (i := 2) rfl)))))))))) dL_maps_203 ?_
                      refine va_calli (va_runS (As := [.int (y >>> ((2 : Int32) &&& 31)), .int 199981]) (rest := []) ⟨hx, hb, hml, hown, hts⟩ (c_L_some l D cI cZ cJ cD (y >>> ((2 : Int32) &&& 31)) 199981 (by decide)) (va_cwS 2 hts gL_maps_L_some rfl rfl rfl (by decide +kernel) ⟨Nat.le_of_ble_eq_true rfl, Nat.le_of_ble_eq_true rfl⟩) ⟨zblind, (fun U hU hW => ⟨rfl, by rw [hU]; exact hP.sub (ws' := []) [] rfl, va_K.moved hW.alike hK⟩)⟩ rfl rfl hl.1 rfl (lv_room (Nat.le_of_ble_eq_true rfl)) dL_maps_205 ⟨(show _ ≤ 39 from by omega), (show _ ≤ 234 from by omega)⟩) hS (fun q _ h => h.elim) (fun q h => h.elim) (fun r139 u t H locs ht hvm hw hB hz1 hk1 hS => ?_)
                      rw [hw]
                      have hP := zk hP hk1
                      refine lv_ldc (v := 99990) hx hb hown (hts (.constant RL 143 (99990)) (List.mem_cons_of_mem _ (List.mem_append_left _ (List.mem_append_left _ (List.mem_append_left _ (List.mem_append_left _ (List.mem_append_left _ (List.mem_append_left _ (List.mem_append_left _ (List.mem_of_getElem? (i := 3) rfl)))))))))) dL_maps_208 ?_
                      refine lv_isub hx hb dL_maps_210 ?_
                      exact K94 _ ((if_neg c137).trans (if_pos c138)).symm _ _ hP hD hS _ (lv_sub hl [0, 1, 2, 3, 4, 5, 6] rfl)
                    · refine lv_iload_n hx hb dL_maps_169 rfl (lv_at hl 5 rfl) ?_
                      refine lv_bipush (v := 6) hx hb dL_maps_170 (by decide) ?_
                      refine lv_ishr hx hb dL_maps_172 ?_
                      refine lv_iconst (v := 3) hx hb dL_maps_173 (by decide) ?_
                      refine va_calli (va_runS (As := [.int (y >>> ((6 : Int32) &&& 31)), .int 3]) (rest := []) ⟨hx, hb, hml, hown, hts⟩ (c_L_some l D cI cZ cJ cD (y >>> ((6 : Int32) &&& 31)) 3 (by decide)) (va_cwS 2 hts gL_maps_L_some rfl rfl rfl (by decide +kernel) ⟨Nat.le_of_ble_eq_true rfl, Nat.le_of_ble_eq_true rfl⟩) ⟨zblind, (fun U hU hW => ⟨rfl, by rw [hU]; exact hP.sub (ws' := []) [] rfl, va_K.moved hW.alike hK⟩)⟩ rfl rfl hl.1 rfl (lv_room (Nat.le_of_ble_eq_true rfl)) dL_maps_174 ⟨(show _ ≤ 39 from by omega), (show _ ≤ 234 from by omega)⟩) hS (fun q _ h => h.elim) (fun q h => h.elim) (fun r140 u t H locs ht hvm hw hB hz1 hk1 hS => ?_)
                      rw [hw]
                      have hP := zk hP hk1
                      refine lv_if_le (tgt := 200) hx hb dL_maps_177 (by decide) (fun c141 => ?_) (fun c141 => ?_)
                      · refine lv_iload_n hx hb dL_maps_200 rfl (lv_at hl 5 rfl) ?_
                        refine lv_iconst (v := 2) hx hb dL_maps_201 (by decide) ?_
                        refine lv_ishr hx hb dL_maps_202 ?_
                        refine lv_ldc (v := 199981) hx hb hown (hts (.constant RL 142 (199981)) (List.mem_cons_of_mem _ (List.mem_append_left _ (List.mem_append_left _ (List.mem_append_left _ (List.mem_append_left _ (List.mem_append_left _ (List.mem_append_left _ (List.mem_append_left _ (List.mem_of_getElem? (i := 2) rfl)))))))))) dL_maps_203 ?_
                        refine va_calli (va_runS (As := [.int (y >>> ((2 : Int32) &&& 31)), .int 199981]) (rest := []) ⟨hx, hb, hml, hown, hts⟩ (c_L_some l D cI cZ cJ cD (y >>> ((2 : Int32) &&& 31)) 199981 (by decide)) (va_cwS 2 hts gL_maps_L_some rfl rfl rfl (by decide +kernel) ⟨Nat.le_of_ble_eq_true rfl, Nat.le_of_ble_eq_true rfl⟩) ⟨zblind, (fun U hU hW => ⟨rfl, by rw [hU]; exact hP.sub (ws' := []) [] rfl, va_K.moved hW.alike hK⟩)⟩ rfl rfl hl.1 rfl (lv_room (Nat.le_of_ble_eq_true rfl)) dL_maps_205 ⟨(show _ ≤ 39 from by omega), (show _ ≤ 234 from by omega)⟩) hS (fun q _ h => h.elim) (fun q h => h.elim) (fun r142 u t H locs ht hvm hw hB hz1 hk1 hS => ?_)
                        rw [hw]
                        have hP := zk hP hk1
                        refine lv_ldc (v := 99990) hx hb hown (hts (.constant RL 143 (99990)) (List.mem_cons_of_mem _ (List.mem_append_left _ (List.mem_append_left _ (List.mem_append_left _ (List.mem_append_left _ (List.mem_append_left _ (List.mem_append_left _ (List.mem_append_left _ (List.mem_of_getElem? (i := 3) rfl)))))))))) dL_maps_208 ?_
                        refine lv_isub hx hb dL_maps_210 ?_
                        exact K94 _ ((if_neg c137).trans ((if_neg c138).trans (if_pos c141))).symm _ _ hP hD hS _ (lv_sub hl [0, 1, 2, 3, 4, 5, 6] rfl)
                      · refine lv_aload_n hx hb dL_maps_180 rfl (lv_at hl 6 rfl) ?_
                        refine lv_iload_n hx hb dL_maps_181 rfl (lv_at hl 3 rfl) ?_
                        refine va_calli (va_runS (As := [.ref qT, .int (v_L_maps_24 y)]) (rest := []) ⟨hx, hb, hml, hown, hts⟩ (c_L_high l D cI cZ cJ cD qT gt fw fh (v_L_maps_24 y) hT (mp_isn c138)) (va_cwS 2 hts gL_maps_L_high rfl rfl rfl (by decide +kernel) ⟨Nat.le_of_ble_eq_true rfl, Nat.le_of_ble_eq_true rfl⟩) ⟨zblind, (fun U hU hW => ⟨rfl, by rw [hU]; exact hP.sub (ws' := [(qT, .inl (cI, 33, .inl gt))]) [6] rfl, va_K.moved hW.alike hK⟩)⟩ rfl rfl hl.1 rfl (lv_room (Nat.le_of_ble_eq_true rfl)) dL_maps_182 ⟨(show _ ≤ 39 from by omega), (show _ ≤ 234 from by omega)⟩) hS (fun q _ h => h.elim) (fun q h => h.elim) (fun r143 u t H locs ht hvm hw hB hz1 hk1 hS => ?_)
                        rw [hw]
                        have hP := zk hP hk1
                        refine lv_iload_n hx hb dL_maps_185 rfl (lv_at hl 5 rfl) ?_
                        refine lv_bipush (v := 7) hx hb dL_maps_186 (by decide) ?_
                        refine lv_ishr hx hb dL_maps_188 ?_
                        refine lv_bipush (v := 9) hx hb dL_maps_189 (by decide) ?_
                        refine va_calli (va_runS (As := [.int (y >>> ((7 : Int32) &&& 31)), .int 9]) (rest := [.int (s_L_high fw fh (v_L_maps_24 y))]) ⟨hx, hb, hml, hown, hts⟩ (c_L_some l D cI cZ cJ cD (y >>> ((7 : Int32) &&& 31)) 9 (by decide)) (va_cwS 2 hts gL_maps_L_some rfl rfl rfl (by decide +kernel) ⟨Nat.le_of_ble_eq_true rfl, Nat.le_of_ble_eq_true rfl⟩) ⟨zblind, (fun U hU hW => ⟨rfl, by rw [hU]; exact hP.sub (ws' := []) [] rfl, va_K.moved hW.alike hK⟩)⟩ rfl rfl hl.1 rfl (lv_room (Nat.le_of_ble_eq_true rfl)) dL_maps_191 ⟨(show _ ≤ 39 from by omega), (show _ ≤ 234 from by omega)⟩) hS (fun q _ h => h.elim) (fun q h => h.elim) (fun r144 u t H locs ht hvm hw hB hz1 hk1 hS => ?_)
                        rw [hw]
                        have hP := zk hP hk1
                        refine lv_iadd hx hb dL_maps_194 ?_
                        refine lv_iconst (v := 4) hx hb dL_maps_195 (by decide) ?_
                        refine lv_isub hx hb dL_maps_196 ?_
                        refine lv_goto (tgt := 211) hx hb dL_maps_197 (by decide) ?_
                        exact K94 _ ((if_neg c137).trans ((if_neg c138).trans (if_neg c141))).symm _ _ hP hD hS _ (lv_sub hl [0, 1, 2, 3, 4, 5, 6] rfl)
                  · refine lv_ldc (v := 99991) hx hb hown (hts (.constant RL 141 (99991)) (List.mem_cons_of_mem _ (List.mem_append_left _ (List.mem_append_left _ (List.mem_append_left _ (List.mem_append_left _ (List.mem_append_left _ (List.mem_append_left _ (List.mem_append_left _ (List.mem_of_getElem? (i := 1) rfl)))))))))) dL_maps_159 ?_
                    refine lv_goto (tgt := 211) hx hb dL_maps_161 (by decide) ?_
                    exact K94 _ (if_pos c137).symm _ _ hP hD hS _ (lv_sub hl [0, 1, 2, 3, 4, 5, 6] rfl)
                · refine lv_iconst (v := 0) hx hb dL_maps_146 (by decide) ?_
                  refine W.widen (k := 39) (n := 234) (by decide) (by decide) ?_
                  have e145 : s_L_maps fw fh br nC nR nf y = 0 := by
                    unfold s_L_maps
                    exact ((if_pos c86).trans (if_neg c91))
                  exact W.zret (v := 0) hx hb hr (z_b (by (repeat' split) <;> simp)) (fun t ht hW => ⟨⟨_, (), rfl, e145.symm, ⟨(by rw [ht]; exact hP), va_K.moved hW.alike hK, hD⟩⟩, hS.F ht⟩) hS.2.2 dL_maps_147
              refine lv_if_eq (tgt := 141) hx hb dL_maps_130 (by decide) (fun c146 => ?_) (fun c146 => ?_)
              · refine lv_ldc (v := (-9000001)) hx hb hown (hts (.constant RL 65 (-9000001)) (List.mem_cons_of_mem _ (List.mem_append_left _ (List.mem_append_left _ (List.mem_append_left _ (List.mem_append_left _ (List.mem_append_left _ (List.mem_append_left _ (List.mem_append_left _ (List.mem_of_getElem? (i := 0) rfl)))))))))) dL_maps_141 ?_
                exact K90 _ (if_pos c146).symm _ _ hP hD hS _ (lv_sub hl [0, 1, 2, 3, 4, 5, 6] rfl)
              · refine lv_aload_n hx hb dL_maps_133 rfl (lv_at hl 6 rfl) ?_
                refine lv_iload_n hx hb dL_maps_134 rfl (lv_at hl 3 rfl) ?_
                refine va_calli (va_runS (As := [.ref qT, .int (v_L_maps_24 y)]) (rest := [.int (s_L_by fw fh br nC nR nf 1 (v_L_maps_24 y) 0 0)]) ⟨hx, hb, hml, hown, hts⟩ (c_L_high l D cI cZ cJ cD qT gt fw fh (v_L_maps_24 y) hT (mp_isn c146)) (va_cwS 2 hts gL_maps_L_high rfl rfl rfl (by decide +kernel) ⟨Nat.le_of_ble_eq_true rfl, Nat.le_of_ble_eq_true rfl⟩) ⟨zblind, (fun U hU hW => ⟨rfl, by rw [hU]; exact hP.sub (ws' := [(qT, .inl (cI, 33, .inl gt))]) [6] rfl, va_K.moved hW.alike hK⟩)⟩ rfl rfl hl.1 rfl (lv_room (Nat.le_of_ble_eq_true rfl)) dL_maps_135 ⟨(show _ ≤ 39 from by omega), (show _ ≤ 234 from by omega)⟩) hS (fun q _ h => h.elim) (fun q h => h.elim) (fun r147 u t H locs ht hvm hw hB hz1 hk1 hS => ?_)
                rw [hw]
                have hP := zk hP hk1
                refine lv_goto (tgt := 143) hx hb dL_maps_138 (by decide) ?_
                exact K90 _ (if_neg c146).symm _ _ hP hD hS _ (lv_sub hl [0, 1, 2, 3, 4, 5, 6] rfl)
          refine lv_if_eq (tgt := 115) hx hb dL_maps_101 (by decide) (fun c148 => ?_) (fun c148 => ?_)
          · refine lv_ldc (v := (-9000001)) hx hb hown (hts (.constant RL 65 (-9000001)) (List.mem_cons_of_mem _ (List.mem_append_left _ (List.mem_append_left _ (List.mem_append_left _ (List.mem_append_left _ (List.mem_append_left _ (List.mem_append_left _ (List.mem_append_left _ (List.mem_of_getElem? (i := 0) rfl)))))))))) dL_maps_115 ?_
            exact K85 _ (if_pos c148).symm _ _ hP hD hS _ (lv_sub hl [0, 1, 2, 3, 4, 5, 6] rfl)
          · refine lv_iload hx hb dL_maps_104 (lv_at hl 2 rfl) ?_
            refine lv_aload_n hx hb dL_maps_106 rfl (lv_at hl 6 rfl) ?_
            refine lv_iload_n hx hb dL_maps_107 rfl (lv_at hl 3 rfl) ?_
            refine va_calli (va_runS (As := [.ref qT, .int (v_L_maps_24 y)]) (rest := [.int (v_L_maps_55 y), .int (s_L_by fw fh br nC nR nf 0 (v_L_maps_24 y) (v_L_maps_55 y) 0)]) ⟨hx, hb, hml, hown, hts⟩ (c_L_wide l D cI cZ cJ cD qT gt fw fh (v_L_maps_24 y) hT (mp_fine c148)) (va_cwS 2 hts gL_maps_L_wide rfl rfl rfl (by decide +kernel) ⟨Nat.le_of_ble_eq_true rfl, Nat.le_of_ble_eq_true rfl⟩) ⟨zblind, (fun U hU hW => ⟨rfl, by rw [hU]; exact hP.sub (ws' := [(qT, .inl (cI, 33, .inl gt))]) [6] rfl, va_K.moved hW.alike hK⟩)⟩ rfl rfl hl.1 rfl (lv_room (Nat.le_of_ble_eq_true rfl)) dL_maps_108 ⟨(show _ ≤ 39 from by omega), (show _ ≤ 234 from by omega)⟩) hS (fun q _ h => h.elim) (fun q h => h.elim) (fun r149 u t H locs ht hvm hw hB hz1 hk1 hS => ?_)
            rw [hw]
            have hP := zk hP hk1
            refine lv_imul hx hb dL_maps_111 ?_
            refine lv_goto (tgt := 117) hx hb dL_maps_112 (by decide) ?_
            exact K85 _ (if_neg c148).symm _ _ hP hD hS _ (lv_sub hl [0, 1, 2, 3, 4, 5, 6] rfl)
        refine lv_if_eq (tgt := 87) hx hb dL_maps_72 (by decide) (fun c150 => ?_) (fun c150 => ?_)
        · refine lv_iconst (v := 0) hx hb dL_maps_87 (by decide) ?_
          exact K82 _ (if_pos c150).symm _ _ hP hD hS _ (lv_sub hl [0, 1, 2, 3, 4, 5] rfl)
        · refine lv_iload hx hb dL_maps_75 (lv_at hl 1 rfl) ?_
          refine lv_sipush (v := 180) hx hb dL_maps_77 (by decide) ?_
          refine lv_icmp_ge (tgt := 87) hx hb dL_maps_80 (by decide) (fun c151 => ?_) (fun c151 => ?_)
          · refine lv_iconst (v := 0) hx hb dL_maps_87 (by decide) ?_
            exact K82 _ ((if_neg c150).trans (if_pos c151)).symm _ _ hP hD hS _ (lv_sub hl [0, 1, 2, 3, 4, 5] rfl)
          · refine lv_iconst (v := 1) hx hb dL_maps_83 (by decide) ?_
            refine lv_goto (tgt := 88) hx hb dL_maps_84 (by decide) ?_
            exact K82 _ ((if_neg c150).trans (if_neg c151)).symm _ _ hP hD hS _ (lv_sub hl [0, 1, 2, 3, 4, 5] rfl)
      refine lv_icmp_ge (tgt := 67) hx hb dL_maps_60 (by decide) (fun c152 => ?_) (fun c152 => ?_)
      · refine lv_iconst (v := 0) hx hb dL_maps_67 (by decide) ?_
        exact K80 _ (if_pos c152).symm _ _ hP hD hS _ (lv_sub hl [0, 1, 2, 3, 4] rfl)
      · refine lv_iconst (v := 1) hx hb dL_maps_63 (by decide) ?_
        refine lv_goto (tgt := 68) hx hb dL_maps_64 (by decide) ?_
        exact K80 _ (if_neg c152).symm _ _ hP hD hS _ (lv_sub hl [0, 1, 2, 3, 4] rfl)
    refine lv_if_ne (tgt := 42) hx hb dL_maps_33 (by decide) (fun c153 => ?_) (fun c153 => ?_)
    · refine lv_iload_n hx hb dL_maps_42 rfl (lv_at hl 2 rfl) ?_
      refine lv_iconst (v := 5) hx hb dL_maps_43 (by decide) ?_
      refine lv_ishr hx hb dL_maps_44 ?_
      refine lv_sipush (v := 360) hx hb dL_maps_45 (by decide) ?_
      refine va_calli (va_runS (As := [.int (y >>> ((5 : Int32) &&& 31)), .int 360]) (rest := []) ⟨hx, hb, hml, hown, hts⟩ (c_L_some l D cI cZ cJ cD (y >>> ((5 : Int32) &&& 31)) 360 (by decide)) (va_cwS 2 hts gL_maps_L_some rfl rfl rfl (by decide +kernel) ⟨Nat.le_of_ble_eq_true rfl, Nat.le_of_ble_eq_true rfl⟩) ⟨zblind, (fun U hU hW => ⟨rfl, by rw [hU]; exact hP.sub (ws' := []) [] rfl, va_K.moved hW.alike hK⟩)⟩ rfl rfl hl.1 rfl (lv_room (Nat.le_of_ble_eq_true rfl)) dL_maps_48 ⟨(show _ ≤ 39 from by omega), (show _ ≤ 234 from by omega)⟩) hS (fun q _ h => h.elim) (fun q h => h.elim) (fun r154 u t H locs ht hvm hw hB hz1 hk1 hS => ?_)
      rw [hw]
      have hP := zk hP hk1
      refine lv_sipush (v := 180) hx hb dL_maps_51 (by decide) ?_
      refine lv_isub hx hb dL_maps_54 ?_
      exact K78 _ (if_neg c153).symm _ _ hP hD hS _ (lv_sub hl [0, 1, 2, 3] rfl)
    · refine lv_sipush (v := 180) hx hb dL_maps_36 (by decide) ?_
      refine lv_goto (tgt := 55) hx hb dL_maps_39 (by decide) ?_
      exact K78 _ (if_pos c153).symm _ _ hP hD hS _ (lv_sub hl [0, 1, 2, 3] rfl)
  refine lv_if_ne (tgt := 14) hx hb dL_maps_6 (by decide) (fun c155 => ?_) (fun c155 => ?_)
  · refine lv_iload_n hx hb dL_maps_14 rfl (lv_at hl 1 rfl) ?_
    refine lv_sipush (v := 181) hx hb dL_maps_15 (by decide) ?_
    refine va_calli (va_runS (As := [.int y, .int 181]) (rest := []) ⟨hx, hb, hml, hown, hts⟩ (c_L_some l D cI cZ cJ cD y 181 (by decide)) (va_cwS 2 hts gL_maps_L_some rfl rfl rfl (by decide +kernel) ⟨Nat.le_of_ble_eq_true rfl, Nat.le_of_ble_eq_true rfl⟩) ⟨zblind, (fun U hU hW => ⟨rfl, by rw [hU]; exact hP.sub (ws' := []) [] rfl, va_K.moved hW.alike hK⟩)⟩ rfl rfl hl.1 rfl (lv_room (Nat.le_of_ble_eq_true rfl)) dL_maps_18 ⟨(show _ ≤ 39 from by omega), (show _ ≤ 234 from by omega)⟩) hS (fun q _ h => h.elim) (fun q h => h.elim) (fun r156 u t H locs ht hvm hw hB hz1 hk1 hS => ?_)
    rw [hw]
    have hP := zk hP hk1
    refine lv_bipush (v := 90) hx hb dL_maps_21 (by decide) ?_
    refine lv_isub hx hb dL_maps_23 ?_
    exact K75 _ (if_neg c155).symm _ _ hP hD hS _ (lv_sub hl [0, 1, 2] rfl)
  · refine lv_bipush (v := 91) hx hb dL_maps_9 (by decide) ?_
    refine lv_goto (tgt := 24) hx hb dL_maps_11 (by decide) ?_
    exact K75 _ (if_pos c155).symm _ _ hP hD hS _ (lv_sub hl [0, 1, 2] rfl)
