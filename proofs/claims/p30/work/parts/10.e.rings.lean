/-- how many degrees to the east from one to the other -/
def rg_n (o1 o2 : Int32) : Nat := ((o2.toInt - o1.toInt) % 360).toNat
def v_L_rings_26 (y : Int32) : Int32 := (if (s_L_some y 60) = 0 then (-181) else (s_L_some y 360) - 180)
def v_L_rings_68 (y : Int32) : Int32 := (if (s_L_some (y >>> ((6 : Int32) &&& 31)) 9) = 0 then (((v_L_rings_26 y) + 540) - ((v_L_rings_26 y) + 540) / 360 * 360) - 180 else (s_L_some (y >>> ((5 : Int32) &&& 31)) 360) - 180)
def v_L_rings_98 (y : Int32) : Int32 := (if (s_L_some (y >>> ((3 : Int32) &&& 31)) 60) = 0 then (-91) else (s_L_some (y >>> ((3 : Int32) &&& 31)) 181) - 90)
def v_L_rings_112 (y : Int32) : Int32 := (if (v_L_rings_26 y) < (-180) then 0 else 1)
def v_L_rings_167 (y : Int32) : Int32 := (if 180 < (nI (rg_n (v_L_rings_26 y) (v_L_rings_68 y))) then 360 - (nI (rg_n (v_L_rings_26 y) (v_L_rings_68 y))) else nI (rg_n (v_L_rings_26 y) (v_L_rings_68 y)))
def v_L_rings_182 (y : Int32) : Int32 := (if 180 < (nI (rg_n (v_L_rings_26 y) (v_L_rings_68 y))) then (-1) else 1)
def v_L_rings_223 (y : Int32) (k : Nat) : Int32 := (((((v_L_rings_26 y) + 180) + ((nI k) * (v_L_rings_182 y))) - (((v_L_rings_26 y) + 180) + ((nI k) * (v_L_rings_182 y))) / 360 * 360) + 360) - (((((v_L_rings_26 y) + 180) + ((nI k) * (v_L_rings_182 y))) - (((v_L_rings_26 y) + 180) + ((nI k) * (v_L_rings_182 y))) / 360 * 360) + 360) / 360 * 360
def v_L_rings_238 (y : Int32) (k : Nat) : Int32 := (((v_L_rings_223 y k) + (v_L_rings_182 y)) + 360) - (((v_L_rings_223 y k) + (v_L_rings_182 y)) + 360) / 360 * 360
def v_L_rings_268 (y : Int32) (k : Nat) : Int32 := (if (v_L_rings_182 y) ≤ 0 then (if (v_L_rings_223 y k) = 0 then 1 else 0) else (if (v_L_rings_238 y k) = 0 then 1 else 0))
def v_L_rings_300 (br : Int32) (y : Int32) (a193_0 : Int32) (k : Nat) : Int32 := (a193_0) + (if (v_L_rings_268 y k) = 0 then (if ((v_L_rings_223 y k) / br) = ((v_L_rings_238 y k) / br) then 0 else 1) else 1)
def v_L_rings_316 (y : Int32) (a193_1 : Int32) (k : Nat) : Int32 := (a193_1) + (if (v_L_rings_268 y k) = 0 then 0 else v_L_rings_182 y)
def lp_L_rings_193 (br : Int32) (y : Int32) : Nat → Int32 × Int32
  | 0 => (0, 0)
  | k + 1 => (v_L_rings_300 br y ((lp_L_rings_193 br y k).1) k, v_L_rings_316 y ((lp_L_rings_193 br y k).2) k)
def s_L_rings (fw : Nat → Int32) (fh : Nat → Int32) (br : Int32) (nC : Nat) (nR : Nat) (nf : Int32) (y : Int32) : Int32 := (if (s_L_by fw fh br nC nR nf 2 (v_L_rings_26 y) (v_L_rings_68 y) 0) = (if (v_L_rings_112 y) = 0 then (-9000001) else v_L_rings_167 y) then (if (s_L_by fw fh br nC nR nf 3 (v_L_rings_26 y) (v_L_rings_68 y) (v_L_rings_98 y)) = (if (v_L_rings_112 y) = 0 then (-9000001) else (if (v_L_rings_98 y) < (-90) then (-9000001) else (v_L_rings_167 y) * (s_L_wide fw fh (v_L_rings_98 y)))) then (if (s_L_by fw fh br nC nR nf 4 (v_L_rings_26 y) 0 0) = (if (v_L_rings_112 y) = 0 then (-9000001) else ((v_L_rings_26 y) + 180) / br) then (if (s_L_by fw fh br nC nR nf 5 (v_L_rings_26 y) (v_L_rings_68 y) 0) = (if (v_L_rings_112 y) = 0 then (-9000001) else (lp_L_rings_193 br y ((v_L_rings_167 y).toInt.toNat)).1) then (if (s_L_by fw fh br nC nR nf 6 (v_L_rings_26 y) (v_L_rings_68 y) 0) = (if (v_L_rings_112 y) = 0 then (-9000001) else (lp_L_rings_193 br y ((v_L_rings_167 y).toInt.toNat)).2) then 1 else 0) else 0) else 0) else 0) else 0)
theorem rg_o1 (y : Int32) : -181 ≤ (v_L_rings_26 y).toInt ∧ (v_L_rings_26 y).toInt ≤ 179 := by
  unfold v_L_rings_26
  split
  · decide
  · have := l_off y (n := 360) (c := 180) 360 180 rfl rfl (by decide) (by decide) (by decide)
    omega
theorem rg_rem {x : Int32} {a : Nat} (h : x.toInt = (a : Int)) : x - x / 360 * 360 = nI (a % 360) := by
  have ha : a < 2 ^ 31 := by
    have := x.toInt_lt
    omega
  have e : x = nI a := by
    apply Int32.toInt_inj.mp
    rw [nI_toInt ha, h]
  rw [e, show (360 : Int32) = nI 360 from rfl, pk_rem ha (by decide) (by decide)]
theorem rg_o2 (y : Int32) : -180 ≤ (v_L_rings_68 y).toInt ∧ (v_L_rings_68 y).toInt ≤ 179 := by
  have h1 := rg_o1 y
  unfold v_L_rings_68
  split
  · have e5 : (540 : Int32).toInt = 540 := rfl
    have e : (v_L_rings_26 y + 540).toInt = (v_L_rings_26 y).toInt + 540 := by
      rw [z_addI (by rw [e5]; omega) (by rw [e5]; omega), e5]
    obtain ⟨a, ha⟩ : ∃ a : Nat, (v_L_rings_26 y + 540).toInt = (a : Int) := ⟨((v_L_rings_26 y).toInt + 540).toNat, by omega⟩
    rw [rg_rem ha, show (180 : Int32) = nI 180 from rfl, pk_sub_toInt (by omega) (by omega)]
    omega
  · have := l_off (y >>> ((5 : Int32) &&& 31)) (n := 360) (c := 180) 360 180 rfl rfl (by decide) (by decide) (by decide)
    omega
theorem rg_nl (o1 o2 : Int32) : rg_n o1 o2 < 360 := by
  unfold rg_n
  omega
theorem rg_eq {y : Int32} {k : Nat} (hk : k ≤ rg_n (v_L_rings_26 y) (v_L_rings_68 y)) : (((v_L_rings_26 y) + (nI k)) + 720) - (((v_L_rings_26 y) + (nI k)) + 720) / 360 * 360 = ((v_L_rings_68 y) + 720) - ((v_L_rings_68 y) + 720) / 360 * 360 ↔ k = rg_n (v_L_rings_26 y) (v_L_rings_68 y) := by
  have h1 := rg_o1 y
  have h2 := rg_o2 y
  have hl := rg_nl (v_L_rings_26 y) (v_L_rings_68 y)
  have e7 : (720 : Int32).toInt = 720 := rfl
  have ek : (nI k).toInt = (k : Int) := nI_toInt (by omega)
  have ea : (v_L_rings_26 y + nI k).toInt = (v_L_rings_26 y).toInt + k := by
    rw [z_addI (by rw [ek]; omega) (by rw [ek]; omega), ek]
  have eb : (v_L_rings_26 y + nI k + 720).toInt = (v_L_rings_26 y).toInt + k + 720 := by
    rw [z_addI (by rw [ea, e7]; omega) (by rw [ea, e7]; omega), ea, e7]
  have ec : (v_L_rings_68 y + 720).toInt = (v_L_rings_68 y).toInt + 720 := by
    rw [z_addI (by rw [e7]; omega) (by rw [e7]; omega), e7]
  obtain ⟨a, ha⟩ : ∃ a : Nat, (v_L_rings_26 y + nI k + 720).toInt = (a : Int) := ⟨((v_L_rings_26 y).toInt + k + 720).toNat, by omega⟩
  obtain ⟨b, hb⟩ : ∃ b : Nat, (v_L_rings_68 y + 720).toInt = (b : Int) := ⟨((v_L_rings_68 y).toInt + 720).toNat, by omega⟩
  rw [rg_rem ha, rg_rem hb, nI_eq (by omega) (by omega)]
  unfold rg_n at hk hl ⊢
  omega
theorem rg_ge {y : Int32} {k : Nat} (hk : k ≤ rg_n (v_L_rings_26 y) (v_L_rings_68 y)) (h : (((v_L_rings_26 y) + (nI k)) + 720) - (((v_L_rings_26 y) + (nI k)) + 720) / 360 * 360 = ((v_L_rings_68 y) + 720) - ((v_L_rings_68 y) + 720) / 360 * 360) : rg_n (v_L_rings_26 y) (v_L_rings_68 y) ≤ k := by
  have := (rg_eq hk).mp h
  omega
theorem rg_lt {y : Int32} {k : Nat} (hk : k ≤ rg_n (v_L_rings_26 y) (v_L_rings_68 y)) (h : ¬ (((v_L_rings_26 y) + (nI k)) + 720) - (((v_L_rings_26 y) + (nI k)) + 720) / 360 * 360 = ((v_L_rings_68 y) + 720) - ((v_L_rings_68 y) + 720) / 360 * 360) : k < rg_n (v_L_rings_26 y) (v_L_rings_68 y) := by
  rcases Nat.lt_or_ge k (rg_n (v_L_rings_26 y) (v_L_rings_68 y)) with q | q
  · exact q
  · exact absurd ((rg_eq hk).mpr (by omega)) h
theorem rg_w (y : Int32) : 0 ≤ (v_L_rings_167 y).toInt ∧ (v_L_rings_167 y).toInt ≤ 180 := by
  have hl := rg_nl (v_L_rings_26 y) (v_L_rings_68 y)
  unfold v_L_rings_167
  have ek : (nI (rg_n (v_L_rings_26 y) (v_L_rings_68 y))).toInt = (rg_n (v_L_rings_26 y) (v_L_rings_68 y) : Int) := nI_toInt (by omega)
  by_cases c : 180 < nI (rg_n (v_L_rings_26 y) (v_L_rings_68 y))
  · rw [if_pos c, show (360 : Int32) = nI 360 from rfl, pk_sub_toInt (by omega) (by omega)]
    rw [Int32.lt_iff_toInt_lt, ek, show (180 : Int32).toInt = 180 from rfl] at c
    omega
  · rw [if_neg c, ek]
    rw [Int32.lt_iff_toInt_lt, ek, show (180 : Int32).toInt = 180 from rfl] at c
    omega
theorem rg_n2 (y : Int32) : -91 ≤ (v_L_rings_98 y).toInt ∧ (v_L_rings_98 y).toInt ≤ 90 := by
  unfold v_L_rings_98
  split
  · decide
  · have := l_off (y >>> ((3 : Int32) &&& 31)) (n := 181) (c := 90) 181 90 rfl rfl (by decide) (by decide) (by decide)
    omega
theorem rg_lat {y : Int32} (h : ¬ v_L_rings_98 y < -90) : -90 ≤ (v_L_rings_98 y).toInt ∧ (v_L_rings_98 y).toInt ≤ 90 := by
  have h1 := rg_n2 y
  rw [Int32.lt_iff_toInt_lt, show (-90 : Int32).toInt = -90 from rfl] at h
  omega
theorem rg_wge {y : Int32} {k : Nat} (hk : k ≤ (v_L_rings_167 y).toInt.toNat) (h : v_L_rings_167 y ≤ nI k) : (v_L_rings_167 y).toInt.toNat ≤ k := by
  have := rg_w y
  rw [Int32.le_iff_toInt_le, nI_toInt (by omega)] at h
  omega
theorem rg_wlt {y : Int32} {k : Nat} (hk : k ≤ (v_L_rings_167 y).toInt.toNat) (h : ¬ v_L_rings_167 y ≤ nI k) : k < (v_L_rings_167 y).toInt.toNat := by
  have := rg_w y
  rw [Int32.le_iff_toInt_le, nI_toInt (by omega)] at h
  omega
abbrev rm_L_rings : Room := { frames := 9, cells := 80, slots := 480, locals := 158 }
abbrev Qc_L_rings (D : va_G) (cI cZ cJ cD : ClassId) (qo : Nat) (qm : Nat) (qb : Nat) (qr : Nat) (qf : Nat) (qw : Nat) (qh : Nat) (fw : Nat → Int32) (fh : Nat → Int32) (br : Int32) (qx : Nat) (qy : Nat) (qz : Nat) (qu : Nat) (nC : Nat) (nR : Nat) (nf : Int32) (qT : Nat) (gt : Nat → Int32) (y : Int32) (A : Nat → Prop) : Array Value → State → Outcome → State → Prop := va_Qi (fun (r : Int32) (_ : Unit) => r = s_L_rings fw fh br nC nR nf y) (zPost D cI cZ cJ cD A [(qo, .inr (4, [.ref qm, .ref qb, .ref qr, .ref qf])), (qm, .inr (2, [.ref qw, .ref qh])), (qw, .inl (cI, 10, .inl fw)), (qh, .inl (cI, 10, .inl fh)), (qr, .inr (3, [.int br])), (qf, .inr (1, [.ref qx, .ref qy, .ref qz, .ref qu, .int (nI nC), .int (nI nR), .int nf])), (qT, .inl (cI, 33, .inl gt))]) A
set_option maxHeartbeats 4000000 in
set_option maxRecDepth 100000 in
theorem c_L_rings (l : Launch) (hnt : l.stackTraces = false) (D : va_G) (cI cZ cJ cD : ClassId) (qo : Nat) (qm : Nat) (qb : Nat) (qr : Nat) (qf : Nat) (qw : Nat) (qh : Nat) (fw : Nat → Int32) (fh : Nat → Int32) (br : Int32) (qx : Nat) (qy : Nat) (qz : Nat) (qu : Nat) (nC : Nat) (nR : Nat) (nf : Int32) (qT : Nat) (gt : Nat → Int32) (y : Int32) (sz : Nat) (hT : zLT gt fw fh) (hWB : zWB fw) (h29 : gt 29 = br) (hbr : ¬ br = 0) : Met l yL_rings wsL_rings rm_L_rings (va_Pc [.ref qo, .int y, .ref qT] (zPreWE D cI cZ cJ cD [(qo, .inr (4, [.ref qm, .ref qb, .ref qr, .ref qf])), (qm, .inr (2, [.ref qw, .ref qh])), (qw, .inl (cI, 10, .inl fw)), (qh, .inl (cI, 10, .inl fh)), (qr, .inr (3, [.int br])), (qf, .inr (1, [.ref qx, .ref qy, .ref qz, .ref qu, .int (nI nC), .int (nI nR), .int nf])), (qT, .inl (cI, 33, .inl gt))] sz)) (Qc_L_rings D cI cZ cJ cD qo qm qb qr qf qw qh fw fh br qx qy qz qu nC nR nf qT gt y (va_A [(qo, .inr (4, [.ref qm, .ref qb, .ref qr, .ref qf])), (qm, .inr (2, [.ref qw, .ref qh])), (qw, .inl (cI, 10, .inl fw)), (qh, .inl (cI, 10, .inl fh)), (qr, .inr (3, [.int br])), (qf, .inr (1, [.ref qx, .ref qy, .ref qz, .ref qu, .int (nI nC), .int (nI nR), .int nf])), (qT, .inl (cI, 33, .inl gt))] sz)) 80 480 (va_A [(qo, .inr (4, [.ref qm, .ref qb, .ref qr, .ref qf])), (qm, .inr (2, [.ref qw, .ref qh])), (qw, .inl (cI, 10, .inl fw)), (qh, .inl (cI, 10, .inl fh)), (qr, .inr (3, [.int br])), (qf, .inr (1, [.ref qx, .ref qy, .ref qz, .ref qu, .int (nI nC), .int (nI nR), .int nf])), (qT, .inl (cI, 33, .inl gt))] sz) := by
  refine Met.ofW (cc := cL_rings) (maxL := 16) (ret := (some .boolean)) (by decide) rfl ?_
  intro p e s m args below meth c s₁ B hml hv
  obtain ⟨rfl, hsz, hP, hK, hD0, hE⟩ := hv
  have hx := B.exec
  have hb := B.bytes
  have hr := B.returns
  have hts := atoms_spec (ws := wsL_rings) B.pre
  have hown : s.vm.findClass RL = some m.cls := findClass_of_methodNamed B.named
  have hlocks := B.notSynchronized
  subst hsz
  have hD := hD0.self (sz := s.heap.size)
  generalize hAe : va_A [(qo, .inr (4, [.ref qm, .ref qb, .ref qr, .ref qf])), (qm, .inr (2, [.ref qw, .ref qh])), (qw, .inl (cI, 10, .inl fw)), (qh, .inl (cI, 10, .inl fh)), (qr, .inr (3, [.int br])), (qf, .inr (1, [.ref qx, .ref qy, .ref qz, .ref qu, .int (nI nC), .int (nI nR), .int nf])), (qT, .inl (cI, 33, .inl gt))] s.heap.size = A at hE hD ⊢
  have hA : ∀ q : Nat, s.heap.size ≤ q → A q := fun q h => by rw [← hAe]; exact Or.inr h
  have hS : va_S A s.heap s.heap [] := va_S.rf
  have hl := lv_entry ([.ref qo, .int y, .ref qT]) (n := 16) (Nat.le_of_ble_eq_true rfl)
  rw [lg_entry_eq]
  generalize (lg_sl ([.ref qo, .int y, .ref qT]) ++ List.replicate (16 - (lg_sl ([.ref qo, .int y, .ref qT])).length) Slot.unset).toArray = ls at hl ⊢
  have hl : lv_has ls 16 [(0, .ref qo), (1, .int y), (2, .ref qT)] := hl
  have hP : va_P D vwCl [(qo, .inr (4, [.ref qm, .ref qb, .ref qr, .ref qf])), (qm, .inr (2, [.ref qw, .ref qh])), (qw, .inl (cI, 10, .inl fw)), (qh, .inl (cI, 10, .inl fh)), (qr, .inr (3, [.int br])), (qf, .inr (1, [.ref qx, .ref qy, .ref qz, .ref qu, .int (nI nC), .int (nI nR), .int nf])), (qT, .inl (cI, 33, .inl gt))] s.heap := hP
  have hP := hP
  refine lv_iload_n hx hb dL_rings_0 rfl (lv_at hl 1 rfl) ?_
  refine lv_bipush (v := 60) hx hb dL_rings_1 (by decide) ?_
  refine va_calli (va_runS (As := [.int y, .int 60]) (rest := []) ⟨hx, hb, hml, hown, hts⟩ (c_L_some l D cI cZ cJ cD y 60 (by decide)) (va_cwS 2 hts gL_rings_L_some rfl rfl rfl (by decide +kernel) ⟨Nat.le_of_ble_eq_true rfl, Nat.le_of_ble_eq_true rfl⟩) ⟨zblind, (fun U hU hW => ⟨rfl, by rw [hU]; exact hP.sub (ws' := []) [] rfl, va_K.moved hW.alike hK⟩)⟩ rfl rfl hl.1 rfl (lv_room (Nat.le_of_ble_eq_true rfl)) dL_rings_3 ⟨(show _ ≤ 80 from by omega), (show _ ≤ 480 from by omega)⟩) hS (fun q _ h => h.elim) (fun q h => h.elim) (fun r54 u t H locs ht hvm hw hB hz1 hk1 hS => ?_)
  rw [hw]
  have hP := zk hP hk1
  have K56 : ∀ v56_0 : Int32, v56_0 = (if (s_L_some y 60) = 0 then (-181) else (s_L_some y 360) - 180) → ∀ (H : Heap) (locs : List Loc), va_P D vwCl [(qo, .inr (4, [.ref qm, .ref qb, .ref qr, .ref qf])), (qm, .inr (2, [.ref qw, .ref qh])), (qw, .inl (cI, 10, .inl fw)), (qh, .inl (cI, 10, .inl fh)), (qr, .inr (3, [.int br])), (qf, .inr (1, [.ref qx, .ref qy, .ref qz, .ref qu, .int (nI nC), .int (nI nR), .int nf])), (qT, .inl (cI, 33, .inl gt))] H → va_D A [(qo, .inr (4, [.ref qm, .ref qb, .ref qr, .ref qf])), (qm, .inr (2, [.ref qw, .ref qh])), (qw, .inl (cI, 10, .inl fw)), (qh, .inl (cI, 10, .inl fh)), (qr, .inr (3, [.int br])), (qf, .inr (1, [.ref qx, .ref qy, .ref qz, .ref qu, .int (nI nC), .int (nI nR), .int nf])), (qT, .inl (cI, 33, .inl gt))] → va_S A s.heap H locs → ∀ (ls : Array Slot), lv_has ls 16 [(0, .ref qo), (1, .int y), (2, .ref qT)] → W p l e (headSpec wsL_rings rm_L_rings).room s m ([.ref qo, .int y, .ref qT]).toArray below meth c H locs 0 0 (MQ below (Qc_L_rings D cI cZ cJ cD qo qm qb qr qf qw qh fw fh br qx qy qz qu nC nR nf qT gt y A) ([.ref qo, .int y, .ref qT]).toArray s 80 480 A) (F0 m 26 ls [.int v56_0]) := by
    intro v56_0 hv56_0 H locs hP hD hS ls hl
    subst hv56_0
    refine lv_istore_n (lv' := [(3, .int (if (s_L_some y 60) = 0 then (-181) else (s_L_some y 360) - 180)), (0, .ref qo), (1, .int y), (2, .ref qT)]) hx hb dL_rings_26 rfl hl (by decide) rfl (fun ls hl => ?_)
    have hl : lv_has ls 16 [(3, .int (v_L_rings_26 y)), (0, .ref qo), (1, .int y), (2, .ref qT)] := hl
    refine lv_iload_n hx hb dL_rings_27 rfl (lv_at hl 2 rfl) ?_
    refine lv_bipush (v := 6) hx hb dL_rings_28 (by decide) ?_
    refine lv_ishr hx hb dL_rings_30 ?_
    refine lv_bipush (v := 9) hx hb dL_rings_31 (by decide) ?_
    refine va_calli (va_runS (As := [.int (y >>> ((6 : Int32) &&& 31)), .int 9]) (rest := []) ⟨hx, hb, hml, hown, hts⟩ (c_L_some l D cI cZ cJ cD (y >>> ((6 : Int32) &&& 31)) 9 (by decide)) (va_cwS 2 hts gL_rings_L_some rfl rfl rfl (by decide +kernel) ⟨Nat.le_of_ble_eq_true rfl, Nat.le_of_ble_eq_true rfl⟩) ⟨zblind, (fun U hU hW => ⟨rfl, by rw [hU]; exact hP.sub (ws' := []) [] rfl, va_K.moved hW.alike hK⟩)⟩ rfl rfl hl.1 rfl (lv_room (Nat.le_of_ble_eq_true rfl)) dL_rings_33 ⟨(show _ ≤ 80 from by omega), (show _ ≤ 480 from by omega)⟩) hS (fun q _ h => h.elim) (fun q h => h.elim) (fun r57 u t H locs ht hvm hw hB hz1 hk1 hS => ?_)
    rw [hw]
    have hP := zk hP hk1
    have K59 : ∀ v59_0 : Int32, v59_0 = (if (s_L_some (y >>> ((6 : Int32) &&& 31)) 9) = 0 then (((v_L_rings_26 y) + 540) - ((v_L_rings_26 y) + 540) / 360 * 360) - 180 else (s_L_some (y >>> ((5 : Int32) &&& 31)) 360) - 180) → ∀ (H : Heap) (locs : List Loc), va_P D vwCl [(qo, .inr (4, [.ref qm, .ref qb, .ref qr, .ref qf])), (qm, .inr (2, [.ref qw, .ref qh])), (qw, .inl (cI, 10, .inl fw)), (qh, .inl (cI, 10, .inl fh)), (qr, .inr (3, [.int br])), (qf, .inr (1, [.ref qx, .ref qy, .ref qz, .ref qu, .int (nI nC), .int (nI nR), .int nf])), (qT, .inl (cI, 33, .inl gt))] H → va_D A [(qo, .inr (4, [.ref qm, .ref qb, .ref qr, .ref qf])), (qm, .inr (2, [.ref qw, .ref qh])), (qw, .inl (cI, 10, .inl fw)), (qh, .inl (cI, 10, .inl fh)), (qr, .inr (3, [.int br])), (qf, .inr (1, [.ref qx, .ref qy, .ref qz, .ref qu, .int (nI nC), .int (nI nR), .int nf])), (qT, .inl (cI, 33, .inl gt))] → va_S A s.heap H locs → ∀ (ls : Array Slot), lv_has ls 16 [(3, .int (v_L_rings_26 y)), (0, .ref qo), (1, .int y), (2, .ref qT)] → W p l e (headSpec wsL_rings rm_L_rings).room s m ([.ref qo, .int y, .ref qT]).toArray below meth c H locs 0 0 (MQ below (Qc_L_rings D cI cZ cJ cD qo qm qb qr qf qw qh fw fh br qx qy qz qu nC nR nf qT gt y A) ([.ref qo, .int y, .ref qT]).toArray s 80 480 A) (F0 m 68 ls [.int v59_0]) := by
      intro v59_0 hv59_0 H locs hP hD hS ls hl
      subst hv59_0
      refine lv_istore (lv' := [(4, .int (if (s_L_some (y >>> ((6 : Int32) &&& 31)) 9) = 0 then (((v_L_rings_26 y) + 540) - ((v_L_rings_26 y) + 540) / 360 * 360) - 180 else (s_L_some (y >>> ((5 : Int32) &&& 31)) 360) - 180)), (3, .int (v_L_rings_26 y)), (0, .ref qo), (1, .int y), (2, .ref qT)]) hx hb dL_rings_68 hl (by decide) rfl (fun ls hl => ?_)
      have hl : lv_has ls 16 [(4, .int (v_L_rings_68 y)), (3, .int (v_L_rings_26 y)), (0, .ref qo), (1, .int y), (2, .ref qT)] := hl
      refine lv_iload_n hx hb dL_rings_70 rfl (lv_at hl 3 rfl) ?_
      refine lv_iconst (v := 3) hx hb dL_rings_71 (by decide) ?_
      refine lv_ishr hx hb dL_rings_72 ?_
      refine lv_bipush (v := 60) hx hb dL_rings_73 (by decide) ?_
      refine va_calli (va_runS (As := [.int (y >>> ((3 : Int32) &&& 31)), .int 60]) (rest := []) ⟨hx, hb, hml, hown, hts⟩ (c_L_some l D cI cZ cJ cD (y >>> ((3 : Int32) &&& 31)) 60 (by decide)) (va_cwS 2 hts gL_rings_L_some rfl rfl rfl (by decide +kernel) ⟨Nat.le_of_ble_eq_true rfl, Nat.le_of_ble_eq_true rfl⟩) ⟨zblind, (fun U hU hW => ⟨rfl, by rw [hU]; exact hP.sub (ws' := []) [] rfl, va_K.moved hW.alike hK⟩)⟩ rfl rfl hl.1 rfl (lv_room (Nat.le_of_ble_eq_true rfl)) dL_rings_75 ⟨(show _ ≤ 80 from by omega), (show _ ≤ 480 from by omega)⟩) hS (fun q _ h => h.elim) (fun q h => h.elim) (fun r60 u t H locs ht hvm hw hB hz1 hk1 hS => ?_)
      rw [hw]
      have hP := zk hP hk1
      have K62 : ∀ v62_0 : Int32, v62_0 = (if (s_L_some (y >>> ((3 : Int32) &&& 31)) 60) = 0 then (-91) else (s_L_some (y >>> ((3 : Int32) &&& 31)) 181) - 90) → ∀ (H : Heap) (locs : List Loc), va_P D vwCl [(qo, .inr (4, [.ref qm, .ref qb, .ref qr, .ref qf])), (qm, .inr (2, [.ref qw, .ref qh])), (qw, .inl (cI, 10, .inl fw)), (qh, .inl (cI, 10, .inl fh)), (qr, .inr (3, [.int br])), (qf, .inr (1, [.ref qx, .ref qy, .ref qz, .ref qu, .int (nI nC), .int (nI nR), .int nf])), (qT, .inl (cI, 33, .inl gt))] H → va_D A [(qo, .inr (4, [.ref qm, .ref qb, .ref qr, .ref qf])), (qm, .inr (2, [.ref qw, .ref qh])), (qw, .inl (cI, 10, .inl fw)), (qh, .inl (cI, 10, .inl fh)), (qr, .inr (3, [.int br])), (qf, .inr (1, [.ref qx, .ref qy, .ref qz, .ref qu, .int (nI nC), .int (nI nR), .int nf])), (qT, .inl (cI, 33, .inl gt))] → va_S A s.heap H locs → ∀ (ls : Array Slot), lv_has ls 16 [(4, .int (v_L_rings_68 y)), (3, .int (v_L_rings_26 y)), (0, .ref qo), (1, .int y), (2, .ref qT)] → W p l e (headSpec wsL_rings rm_L_rings).room s m ([.ref qo, .int y, .ref qT]).toArray below meth c H locs 0 0 (MQ below (Qc_L_rings D cI cZ cJ cD qo qm qb qr qf qw qh fw fh br qx qy qz qu nC nR nf qT gt y A) ([.ref qo, .int y, .ref qT]).toArray s 80 480 A) (F0 m 98 ls [.int v62_0]) := by
        intro v62_0 hv62_0 H locs hP hD hS ls hl
        subst hv62_0
        refine lv_istore (lv' := [(5, .int (if (s_L_some (y >>> ((3 : Int32) &&& 31)) 60) = 0 then (-91) else (s_L_some (y >>> ((3 : Int32) &&& 31)) 181) - 90)), (4, .int (v_L_rings_68 y)), (3, .int (v_L_rings_26 y)), (0, .ref qo), (1, .int y), (2, .ref qT)]) hx hb dL_rings_98 hl (by decide) rfl (fun ls hl => ?_)
        have hl : lv_has ls 16 [(5, .int (v_L_rings_98 y)), (4, .int (v_L_rings_68 y)), (3, .int (v_L_rings_26 y)), (0, .ref qo), (1, .int y), (2, .ref qT)] := hl
        refine lv_iload_n hx hb dL_rings_100 rfl (lv_at hl 2 rfl) ?_
        refine lv_sipush (v := (-180)) hx hb dL_rings_101 (by decide) ?_
        have K64 : ∀ v64_0 : Int32, v64_0 = (if (v_L_rings_26 y) < (-180) then 0 else 1) → ∀ (H : Heap) (locs : List Loc), va_P D vwCl [(qo, .inr (4, [.ref qm, .ref qb, .ref qr, .ref qf])), (qm, .inr (2, [.ref qw, .ref qh])), (qw, .inl (cI, 10, .inl fw)), (qh, .inl (cI, 10, .inl fh)), (qr, .inr (3, [.int br])), (qf, .inr (1, [.ref qx, .ref qy, .ref qz, .ref qu, .int (nI nC), .int (nI nR), .int nf])), (qT, .inl (cI, 33, .inl gt))] H → va_D A [(qo, .inr (4, [.ref qm, .ref qb, .ref qr, .ref qf])), (qm, .inr (2, [.ref qw, .ref qh])), (qw, .inl (cI, 10, .inl fw)), (qh, .inl (cI, 10, .inl fh)), (qr, .inr (3, [.int br])), (qf, .inr (1, [.ref qx, .ref qy, .ref qz, .ref qu, .int (nI nC), .int (nI nR), .int nf])), (qT, .inl (cI, 33, .inl gt))] → va_S A s.heap H locs → ∀ (ls : Array Slot), lv_has ls 16 [(5, .int (v_L_rings_98 y)), (4, .int (v_L_rings_68 y)), (3, .int (v_L_rings_26 y)), (0, .ref qo), (1, .int y), (2, .ref qT)] → W p l e (headSpec wsL_rings rm_L_rings).room s m ([.ref qo, .int y, .ref qT]).toArray below meth c H locs 0 0 (MQ below (Qc_L_rings D cI cZ cJ cD qo qm qb qr qf qw qh fw fh br qx qy qz qu nC nR nf qT gt y A) ([.ref qo, .int y, .ref qT]).toArray s 80 480 A) (F0 m 112 ls [.int v64_0]) := by
          intro v64_0 hv64_0 H locs hP hD hS ls hl
          subst hv64_0
          refine lv_istore (lv' := [(6, .int (if (v_L_rings_26 y) < (-180) then 0 else 1)), (5, .int (v_L_rings_98 y)), (4, .int (v_L_rings_68 y)), (3, .int (v_L_rings_26 y)), (0, .ref qo), (1, .int y), (2, .ref qT)]) hx hb dL_rings_112 hl (by decide) rfl (fun ls hl => ?_)
          have hl : lv_has ls 16 [(6, .int (v_L_rings_112 y)), (5, .int (v_L_rings_98 y)), (4, .int (v_L_rings_68 y)), (3, .int (v_L_rings_26 y)), (0, .ref qo), (1, .int y), (2, .ref qT)] := hl
          refine lv_iconst (v := 0) hx hb dL_rings_114 (by decide) ?_
          refine lv_istore (lv' := [(7, .int 0), (6, .int (v_L_rings_112 y)), (5, .int (v_L_rings_98 y)), (4, .int (v_L_rings_68 y)), (3, .int (v_L_rings_26 y)), (0, .ref qo), (1, .int y), (2, .ref qT)]) hx hb dL_rings_115 hl (by decide) rfl (fun ls hl => ?_)
          have X65 : ∀ (H : Heap) (locs : List Loc), va_P D vwCl [(qo, .inr (4, [.ref qm, .ref qb, .ref qr, .ref qf])), (qm, .inr (2, [.ref qw, .ref qh])), (qw, .inl (cI, 10, .inl fw)), (qh, .inl (cI, 10, .inl fh)), (qr, .inr (3, [.int br])), (qf, .inr (1, [.ref qx, .ref qy, .ref qz, .ref qu, .int (nI nC), .int (nI nR), .int nf])), (qT, .inl (cI, 33, .inl gt))] H → va_D A [(qo, .inr (4, [.ref qm, .ref qb, .ref qr, .ref qf])), (qm, .inr (2, [.ref qw, .ref qh])), (qw, .inl (cI, 10, .inl fw)), (qh, .inl (cI, 10, .inl fh)), (qr, .inr (3, [.int br])), (qf, .inr (1, [.ref qx, .ref qy, .ref qz, .ref qu, .int (nI nC), .int (nI nR), .int nf])), (qT, .inl (cI, 33, .inl gt))] → va_S A s.heap H locs → ∀ (ls : Array Slot), lv_has ls 16 [(6, .int (v_L_rings_112 y)), (5, .int (v_L_rings_98 y)), (4, .int (v_L_rings_68 y)), (3, .int (v_L_rings_26 y)), (0, .ref qo), (1, .int y), (2, .ref qT), (7, .int (nI (rg_n (v_L_rings_26 y) (v_L_rings_68 y))))] → W p l e (headSpec wsL_rings rm_L_rings).room s m ([.ref qo, .int y, .ref qT]).toArray below meth c H locs 0 0 (MQ below (Qc_L_rings D cI cZ cJ cD qo qm qb qr qf qw qh fw fh br qx qy qz qu nC nR nf qT gt y A) ([.ref qo, .int y, .ref qT]).toArray s 80 480 A) (F0 m 148 ls []) := by
            intro H locs hP hD hS ls hl
            refine lv_iload hx hb dL_rings_148 (lv_at hl 7 rfl) ?_
            refine lv_sipush (v := 180) hx hb dL_rings_150 (by decide) ?_
            have K67 : ∀ v67_0 : Int32, v67_0 = (if 180 < (nI (rg_n (v_L_rings_26 y) (v_L_rings_68 y))) then 360 - (nI (rg_n (v_L_rings_26 y) (v_L_rings_68 y))) else nI (rg_n (v_L_rings_26 y) (v_L_rings_68 y))) → ∀ (H : Heap) (locs : List Loc), va_P D vwCl [(qo, .inr (4, [.ref qm, .ref qb, .ref qr, .ref qf])), (qm, .inr (2, [.ref qw, .ref qh])), (qw, .inl (cI, 10, .inl fw)), (qh, .inl (cI, 10, .inl fh)), (qr, .inr (3, [.int br])), (qf, .inr (1, [.ref qx, .ref qy, .ref qz, .ref qu, .int (nI nC), .int (nI nR), .int nf])), (qT, .inl (cI, 33, .inl gt))] H → va_D A [(qo, .inr (4, [.ref qm, .ref qb, .ref qr, .ref qf])), (qm, .inr (2, [.ref qw, .ref qh])), (qw, .inl (cI, 10, .inl fw)), (qh, .inl (cI, 10, .inl fh)), (qr, .inr (3, [.int br])), (qf, .inr (1, [.ref qx, .ref qy, .ref qz, .ref qu, .int (nI nC), .int (nI nR), .int nf])), (qT, .inl (cI, 33, .inl gt))] → va_S A s.heap H locs → ∀ (ls : Array Slot), lv_has ls 16 [(6, .int (v_L_rings_112 y)), (5, .int (v_L_rings_98 y)), (4, .int (v_L_rings_68 y)), (3, .int (v_L_rings_26 y)), (0, .ref qo), (1, .int y), (2, .ref qT), (7, .int (nI (rg_n (v_L_rings_26 y) (v_L_rings_68 y))))] → W p l e (headSpec wsL_rings rm_L_rings).room s m ([.ref qo, .int y, .ref qT]).toArray below meth c H locs 0 0 (MQ below (Qc_L_rings D cI cZ cJ cD qo qm qb qr qf qw qh fw fh br qx qy qz qu nC nR nf qT gt y A) ([.ref qo, .int y, .ref qT]).toArray s 80 480 A) (F0 m 167 ls [.int v67_0]) := by
              intro v67_0 hv67_0 H locs hP hD hS ls hl
              subst hv67_0
              refine lv_istore (lv' := [(8, .int (if 180 < (nI (rg_n (v_L_rings_26 y) (v_L_rings_68 y))) then 360 - (nI (rg_n (v_L_rings_26 y) (v_L_rings_68 y))) else nI (rg_n (v_L_rings_26 y) (v_L_rings_68 y)))), (6, .int (v_L_rings_112 y)), (5, .int (v_L_rings_98 y)), (4, .int (v_L_rings_68 y)), (3, .int (v_L_rings_26 y)), (0, .ref qo), (1, .int y), (2, .ref qT), (7, .int (nI (rg_n (v_L_rings_26 y) (v_L_rings_68 y))))]) hx hb dL_rings_167 hl (by decide) rfl (fun ls hl => ?_)
              have hl : lv_has ls 16 [(8, .int (v_L_rings_167 y)), (6, .int (v_L_rings_112 y)), (5, .int (v_L_rings_98 y)), (4, .int (v_L_rings_68 y)), (3, .int (v_L_rings_26 y)), (0, .ref qo), (1, .int y), (2, .ref qT), (7, .int (nI (rg_n (v_L_rings_26 y) (v_L_rings_68 y))))] := hl
              refine lv_iload hx hb dL_rings_169 (lv_at hl 8 rfl) ?_
              refine lv_sipush (v := 180) hx hb dL_rings_171 (by decide) ?_
              have K69 : ∀ v69_0 : Int32, v69_0 = (if 180 < (nI (rg_n (v_L_rings_26 y) (v_L_rings_68 y))) then (-1) else 1) → ∀ (H : Heap) (locs : List Loc), va_P D vwCl [(qo, .inr (4, [.ref qm, .ref qb, .ref qr, .ref qf])), (qm, .inr (2, [.ref qw, .ref qh])), (qw, .inl (cI, 10, .inl fw)), (qh, .inl (cI, 10, .inl fh)), (qr, .inr (3, [.int br])), (qf, .inr (1, [.ref qx, .ref qy, .ref qz, .ref qu, .int (nI nC), .int (nI nR), .int nf])), (qT, .inl (cI, 33, .inl gt))] H → va_D A [(qo, .inr (4, [.ref qm, .ref qb, .ref qr, .ref qf])), (qm, .inr (2, [.ref qw, .ref qh])), (qw, .inl (cI, 10, .inl fw)), (qh, .inl (cI, 10, .inl fh)), (qr, .inr (3, [.int br])), (qf, .inr (1, [.ref qx, .ref qy, .ref qz, .ref qu, .int (nI nC), .int (nI nR), .int nf])), (qT, .inl (cI, 33, .inl gt))] → va_S A s.heap H locs → ∀ (ls : Array Slot), lv_has ls 16 [(8, .int (v_L_rings_167 y)), (6, .int (v_L_rings_112 y)), (5, .int (v_L_rings_98 y)), (4, .int (v_L_rings_68 y)), (3, .int (v_L_rings_26 y)), (0, .ref qo), (1, .int y), (2, .ref qT), (7, .int (nI (rg_n (v_L_rings_26 y) (v_L_rings_68 y))))] → W p l e (headSpec wsL_rings rm_L_rings).room s m ([.ref qo, .int y, .ref qT]).toArray below meth c H locs 0 0 (MQ below (Qc_L_rings D cI cZ cJ cD qo qm qb qr qf qw qh fw fh br qx qy qz qu nC nR nf qT gt y A) ([.ref qo, .int y, .ref qT]).toArray s 80 480 A) (F0 m 182 ls [.int v69_0]) := by
                intro v69_0 hv69_0 H locs hP hD hS ls hl
                subst hv69_0
                refine lv_istore (lv' := [(9, .int (if 180 < (nI (rg_n (v_L_rings_26 y) (v_L_rings_68 y))) then (-1) else 1)), (8, .int (v_L_rings_167 y)), (6, .int (v_L_rings_112 y)), (5, .int (v_L_rings_98 y)), (4, .int (v_L_rings_68 y)), (3, .int (v_L_rings_26 y)), (0, .ref qo), (1, .int y), (2, .ref qT), (7, .int (nI (rg_n (v_L_rings_26 y) (v_L_rings_68 y))))]) hx hb dL_rings_182 hl (by decide) rfl (fun ls hl => ?_)
                have hl : lv_has ls 16 [(9, .int (v_L_rings_182 y)), (8, .int (v_L_rings_167 y)), (6, .int (v_L_rings_112 y)), (5, .int (v_L_rings_98 y)), (4, .int (v_L_rings_68 y)), (3, .int (v_L_rings_26 y)), (0, .ref qo), (1, .int y), (2, .ref qT), (7, .int (nI (rg_n (v_L_rings_26 y) (v_L_rings_68 y))))] := hl
                refine lv_iconst (v := 0) hx hb dL_rings_184 (by decide) ?_
                refine lv_istore (lv' := [(10, .int 0), (9, .int (v_L_rings_182 y)), (8, .int (v_L_rings_167 y)), (6, .int (v_L_rings_112 y)), (5, .int (v_L_rings_98 y)), (4, .int (v_L_rings_68 y)), (3, .int (v_L_rings_26 y)), (0, .ref qo), (1, .int y), (2, .ref qT), (7, .int (nI (rg_n (v_L_rings_26 y) (v_L_rings_68 y))))]) hx hb dL_rings_185 hl (by decide) rfl (fun ls hl => ?_)
                refine lv_iconst (v := 0) hx hb dL_rings_187 (by decide) ?_
                refine lv_istore (lv' := [(11, .int 0), (10, .int 0), (9, .int (v_L_rings_182 y)), (8, .int (v_L_rings_167 y)), (6, .int (v_L_rings_112 y)), (5, .int (v_L_rings_98 y)), (4, .int (v_L_rings_68 y)), (3, .int (v_L_rings_26 y)), (0, .ref qo), (1, .int y), (2, .ref qT), (7, .int (nI (rg_n (v_L_rings_26 y) (v_L_rings_68 y))))]) hx hb dL_rings_188 hl (by decide) rfl (fun ls hl => ?_)
                refine lv_iconst (v := 0) hx hb dL_rings_190 (by decide) ?_
                refine lv_istore (lv' := [(12, .int 0), (11, .int 0), (10, .int 0), (9, .int (v_L_rings_182 y)), (8, .int (v_L_rings_167 y)), (6, .int (v_L_rings_112 y)), (5, .int (v_L_rings_98 y)), (4, .int (v_L_rings_68 y)), (3, .int (v_L_rings_26 y)), (0, .ref qo), (1, .int y), (2, .ref qT), (7, .int (nI (rg_n (v_L_rings_26 y) (v_L_rings_68 y))))]) hx hb dL_rings_191 hl (by decide) rfl (fun ls hl => ?_)
                have X70 : ∀ (H : Heap) (locs : List Loc), va_P D vwCl [(qo, .inr (4, [.ref qm, .ref qb, .ref qr, .ref qf])), (qm, .inr (2, [.ref qw, .ref qh])), (qw, .inl (cI, 10, .inl fw)), (qh, .inl (cI, 10, .inl fh)), (qr, .inr (3, [.int br])), (qf, .inr (1, [.ref qx, .ref qy, .ref qz, .ref qu, .int (nI nC), .int (nI nR), .int nf])), (qT, .inl (cI, 33, .inl gt))] H → va_D A [(qo, .inr (4, [.ref qm, .ref qb, .ref qr, .ref qf])), (qm, .inr (2, [.ref qw, .ref qh])), (qw, .inl (cI, 10, .inl fw)), (qh, .inl (cI, 10, .inl fh)), (qr, .inr (3, [.int br])), (qf, .inr (1, [.ref qx, .ref qy, .ref qz, .ref qu, .int (nI nC), .int (nI nR), .int nf])), (qT, .inl (cI, 33, .inl gt))] → va_S A s.heap H locs → ∀ (ls : Array Slot), lv_has ls 16 [(9, .int (v_L_rings_182 y)), (8, .int (v_L_rings_167 y)), (6, .int (v_L_rings_112 y)), (5, .int (v_L_rings_98 y)), (4, .int (v_L_rings_68 y)), (3, .int (v_L_rings_26 y)), (0, .ref qo), (1, .int y), (2, .ref qT), (7, .int (nI (rg_n (v_L_rings_26 y) (v_L_rings_68 y)))), (10, .int ((lp_L_rings_193 br y ((v_L_rings_167 y).toInt.toNat)).1)), (11, .int ((lp_L_rings_193 br y ((v_L_rings_167 y).toInt.toNat)).2))] → W p l e (headSpec wsL_rings rm_L_rings).room s m ([.ref qo, .int y, .ref qT]).toArray below meth c H locs 0 0 (MQ below (Qc_L_rings D cI cZ cJ cD qo qm qb qr qf qw qh fw fh br qx qy qz qu nC nR nf qT gt y A) ([.ref qo, .int y, .ref qT]).toArray s 80 480 A) (F0 m 324 ls []) := by
                  intro H locs hP hD hS ls hl
                  refine lv_aload_n hx hb dL_rings_324 rfl (lv_at hl 6 rfl) ?_
                  refine lv_iconst (v := 2) hx hb dL_rings_325 (by decide) ?_
                  refine lv_iload_n hx hb dL_rings_326 rfl (lv_at hl 5 rfl) ?_
                  refine lv_iload hx hb dL_rings_327 (lv_at hl 4 rfl) ?_
                  refine lv_iconst (v := 0) hx hb dL_rings_329 (by decide) ?_
                  have hPc := hP.sub (ws' := [(qo, .inr (4, [.ref qm, .ref qb, .ref qr, .ref qf])), (qm, .inr (2, [.ref qw, .ref qh])), (qw, .inl (cI, 10, .inl fw)), (qh, .inl (cI, 10, .inl fh)), (qr, .inr (3, [.int br])), (qf, .inr (1, [.ref qx, .ref qy, .ref qz, .ref qu, .int (nI nC), .int (nI nR), .int nf]))]) [0, 1, 2, 3, 4, 5] rfl
                  have hDc := hD.sub (ws' := [(qo, .inr (4, [.ref qm, .ref qb, .ref qr, .ref qf])), (qm, .inr (2, [.ref qw, .ref qh])), (qw, .inl (cI, 10, .inl fw)), (qh, .inl (cI, 10, .inl fh)), (qr, .inr (3, [.int br])), (qf, .inr (1, [.ref qx, .ref qy, .ref qz, .ref qu, .int (nI nC), .int (nI nR), .int nf]))]) [0, 1, 2, 3, 4, 5] (by decide) rfl
                  have hFc := va_free (wc := [(qo, .inr (4, [.ref qm, .ref qb, .ref qr, .ref qf])), (qm, .inr (2, [.ref qw, .ref qh])), (qw, .inl (cI, 10, .inl fw)), (qh, .inl (cI, 10, .inl fh)), (qr, .inr (3, [.int br])), (qf, .inr (1, [.ref qx, .ref qy, .ref qz, .ref qu, .int (nI nC), .int (nI nR), .int nf]))]) hD hS hA [0, 1, 2, 3, 4, 5] rfl
                  refine vx_calli (vx_runSX (As := [.ref qo, .int 2, .int (v_L_rings_26 y), .int (v_L_rings_68 y), .int 0]) (rest := []) ⟨hx, hb, hml, hown, hts⟩ (c_L_byK l hnt D cI cZ cJ cD qo qm qb qr qf qw qh fw fh br qx qy qz qu nC nR nf 2 (v_L_rings_26 y) (v_L_rings_68 y) 0 H.size (by decide)) (vx_cwSW 5 hts gL_rings_L_by rfl rfl rfl (by decide +kernel) ⟨Nat.le_of_ble_eq_true rfl, Nat.le_of_ble_eq_true rfl⟩) ⟨zblindWE, (fun U hU hW => ⟨rfl, by rw [hU], by rw [hU]; exact hPc, va_K.moved hW.alike hK, hDc.weaken (fun _ _ _ _ => trivial), zEnv.go hE hS hFc hU hW⟩)⟩ rfl rfl hl.1 rfl (lv_room (Nat.le_of_ble_eq_true rfl)) dL_rings_330 ⟨(show _ ≤ 80 from by omega), (show _ ≤ 480 from by omega)⟩) hS (fun q _ h => hFc q h) hFc (fun q _ h => hFc q h) (fun E ce q9 u t H locs ht hvm hpx hB hz1 hk1 hS hq9 hce hcl => ?_) (fun r71 u t H locs ht hvm hw hB hz1 hk1 hS => ?_)
                  · exact hB.elim
                  rw [hw]
                  obtain ⟨hP1, hK1, hD1⟩ := hB
                  rw [ht] at hP1
                  obtain ⟨hP, hD⟩ := va_join (wr := [(qT, .inl (cI, 33, .inl gt))]) (w1 := [(qo, .inr (4, [.ref qm, .ref qb, .ref qr, .ref qf])), (qm, .inr (2, [.ref qw, .ref qh])), (qw, .inl (cI, 10, .inl fw)), (qh, .inl (cI, 10, .inl fh)), (qr, .inr (3, [.int br])), (qf, .inr (1, [.ref qx, .ref qy, .ref qz, .ref qu, .int (nI nC), .int (nI nR), .int nf]))]) hP hD [0, 1, 2, 3, 4, 5] [6] rfl rfl (by decide) (by decide) hk1 hFc hP1 hD1
                  have hP := hP.sub (ws' := [(qo, .inr (4, [.ref qm, .ref qb, .ref qr, .ref qf])), (qm, .inr (2, [.ref qw, .ref qh])), (qw, .inl (cI, 10, .inl fw)), (qh, .inl (cI, 10, .inl fh)), (qr, .inr (3, [.int br])), (qf, .inr (1, [.ref qx, .ref qy, .ref qz, .ref qu, .int (nI nC), .int (nI nR), .int nf])), (qT, .inl (cI, 33, .inl gt))]) [1, 2, 3, 4, 5, 6, 0] rfl
                  have hD := hD.sub (ws' := [(qo, .inr (4, [.ref qm, .ref qb, .ref qr, .ref qf])), (qm, .inr (2, [.ref qw, .ref qh])), (qw, .inl (cI, 10, .inl fw)), (qh, .inl (cI, 10, .inl fh)), (qr, .inr (3, [.int br])), (qf, .inr (1, [.ref qx, .ref qy, .ref qz, .ref qu, .int (nI nC), .int (nI nR), .int nf])), (qT, .inl (cI, 33, .inl gt))]) [1, 2, 3, 4, 5, 6, 0] (by decide) rfl
                  refine W.widen (k := 16) (n := 96) (by omega) (by omega) ?_
                  refine lv_iload hx hb dL_rings_333 (lv_at hl 2 rfl) ?_
                  have K73 : ∀ v73_0 : Int32, v73_0 = (if (v_L_rings_112 y) = 0 then (-9000001) else v_L_rings_167 y) → ∀ (H : Heap) (locs : List Loc), va_P D vwCl [(qo, .inr (4, [.ref qm, .ref qb, .ref qr, .ref qf])), (qm, .inr (2, [.ref qw, .ref qh])), (qw, .inl (cI, 10, .inl fw)), (qh, .inl (cI, 10, .inl fh)), (qr, .inr (3, [.int br])), (qf, .inr (1, [.ref qx, .ref qy, .ref qz, .ref qu, .int (nI nC), .int (nI nR), .int nf])), (qT, .inl (cI, 33, .inl gt))] H → va_D A [(qo, .inr (4, [.ref qm, .ref qb, .ref qr, .ref qf])), (qm, .inr (2, [.ref qw, .ref qh])), (qw, .inl (cI, 10, .inl fw)), (qh, .inl (cI, 10, .inl fh)), (qr, .inr (3, [.int br])), (qf, .inr (1, [.ref qx, .ref qy, .ref qz, .ref qu, .int (nI nC), .int (nI nR), .int nf])), (qT, .inl (cI, 33, .inl gt))] → va_S A s.heap H locs → ∀ (ls : Array Slot), lv_has ls 16 [(9, .int (v_L_rings_182 y)), (8, .int (v_L_rings_167 y)), (6, .int (v_L_rings_112 y)), (5, .int (v_L_rings_98 y)), (4, .int (v_L_rings_68 y)), (3, .int (v_L_rings_26 y)), (0, .ref qo), (1, .int y), (2, .ref qT), (7, .int (nI (rg_n (v_L_rings_26 y) (v_L_rings_68 y)))), (10, .int ((lp_L_rings_193 br y ((v_L_rings_167 y).toInt.toNat)).1)), (11, .int ((lp_L_rings_193 br y ((v_L_rings_167 y).toInt.toNat)).2))] → W p l e (headSpec wsL_rings rm_L_rings).room s m ([.ref qo, .int y, .ref qT]).toArray below meth c H locs 16 96 (MQ below (Qc_L_rings D cI cZ cJ cD qo qm qb qr qf qw qh fw fh br qx qy qz qu nC nR nf qT gt y A) ([.ref qo, .int y, .ref qT]).toArray s 80 480 A) (F0 m 345 ls [.int v73_0, .int (s_L_by fw fh br nC nR nf 2 (v_L_rings_26 y) (v_L_rings_68 y) 0)]) := by
                    intro v73_0 hv73_0 H locs hP hD hS ls hl
                    subst hv73_0
                    refine lv_icmp_ne (tgt := 471) hx hb dL_rings_345 (by decide) (fun c74 => ?_) (fun c74 => ?_)
                    · refine lv_iconst (v := 0) hx hb dL_rings_471 (by decide) ?_
                      refine W.widen (k := 80) (n := 480) (by decide) (by decide) ?_
                      have e75 : s_L_rings fw fh br nC nR nf y = 0 := by
                        unfold s_L_rings
                        exact (if_neg c74)
                      exact W.zret (v := 0) hx hb hr (z_b (by (repeat' split) <;> simp)) (fun t ht hW => ⟨⟨_, (), rfl, e75.symm, ⟨(by rw [ht]; exact hP), va_K.moved hW.alike hK, hD⟩⟩, hS.F ht⟩) hS.2.2 dL_rings_472
                    · refine lv_aload_n hx hb dL_rings_348 rfl (lv_at hl 6 rfl) ?_
                      refine lv_iconst (v := 3) hx hb dL_rings_349 (by decide) ?_
                      refine lv_iload_n hx hb dL_rings_350 rfl (lv_at hl 5 rfl) ?_
                      refine lv_iload hx hb dL_rings_351 (lv_at hl 4 rfl) ?_
                      refine lv_iload hx hb dL_rings_353 (lv_at hl 3 rfl) ?_
                      have hPc := hP.sub (ws' := [(qo, .inr (4, [.ref qm, .ref qb, .ref qr, .ref qf])), (qm, .inr (2, [.ref qw, .ref qh])), (qw, .inl (cI, 10, .inl fw)), (qh, .inl (cI, 10, .inl fh)), (qr, .inr (3, [.int br])), (qf, .inr (1, [.ref qx, .ref qy, .ref qz, .ref qu, .int (nI nC), .int (nI nR), .int nf]))]) [0, 1, 2, 3, 4, 5] rfl
                      have hDc := hD.sub (ws' := [(qo, .inr (4, [.ref qm, .ref qb, .ref qr, .ref qf])), (qm, .inr (2, [.ref qw, .ref qh])), (qw, .inl (cI, 10, .inl fw)), (qh, .inl (cI, 10, .inl fh)), (qr, .inr (3, [.int br])), (qf, .inr (1, [.ref qx, .ref qy, .ref qz, .ref qu, .int (nI nC), .int (nI nR), .int nf]))]) [0, 1, 2, 3, 4, 5] (by decide) rfl
                      have hFc := va_free (wc := [(qo, .inr (4, [.ref qm, .ref qb, .ref qr, .ref qf])), (qm, .inr (2, [.ref qw, .ref qh])), (qw, .inl (cI, 10, .inl fw)), (qh, .inl (cI, 10, .inl fh)), (qr, .inr (3, [.int br])), (qf, .inr (1, [.ref qx, .ref qy, .ref qz, .ref qu, .int (nI nC), .int (nI nR), .int nf]))]) hD hS hA [0, 1, 2, 3, 4, 5] rfl
                      refine vx_calli (vx_runSX (As := [.ref qo, .int 3, .int (v_L_rings_26 y), .int (v_L_rings_68 y), .int (v_L_rings_98 y)]) (rest := []) ⟨hx, hb, hml, hown, hts⟩ (c_L_byK l hnt D cI cZ cJ cD qo qm qb qr qf qw qh fw fh br qx qy qz qu nC nR nf 3 (v_L_rings_26 y) (v_L_rings_68 y) (v_L_rings_98 y) H.size (by decide)) (vx_cwSW 5 hts gL_rings_L_by rfl rfl rfl (by decide +kernel) ⟨Nat.le_of_ble_eq_true rfl, Nat.le_of_ble_eq_true rfl⟩) ⟨zblindWE, (fun U hU hW => ⟨rfl, by rw [hU], by rw [hU]; exact hPc, va_K.moved hW.alike hK, hDc.weaken (fun _ _ _ _ => trivial), zEnv.go hE hS hFc hU hW⟩)⟩ rfl rfl hl.1 rfl (lv_room (Nat.le_of_ble_eq_true rfl)) dL_rings_355 ⟨(show _ ≤ 80 from by omega), (show _ ≤ 480 from by omega)⟩) hS (fun q _ h => hFc q h) hFc (fun q _ h => hFc q h) (fun E ce q9 u t H locs ht hvm hpx hB hz1 hk1 hS hq9 hce hcl => ?_) (fun r76 u t H locs ht hvm hw hB hz1 hk1 hS => ?_)
                      · exact hB.elim
                      rw [hw]
                      obtain ⟨hP1, hK1, hD1⟩ := hB
                      rw [ht] at hP1
                      obtain ⟨hP, hD⟩ := va_join (wr := [(qT, .inl (cI, 33, .inl gt))]) (w1 := [(qo, .inr (4, [.ref qm, .ref qb, .ref qr, .ref qf])), (qm, .inr (2, [.ref qw, .ref qh])), (qw, .inl (cI, 10, .inl fw)), (qh, .inl (cI, 10, .inl fh)), (qr, .inr (3, [.int br])), (qf, .inr (1, [.ref qx, .ref qy, .ref qz, .ref qu, .int (nI nC), .int (nI nR), .int nf]))]) hP hD [0, 1, 2, 3, 4, 5] [6] rfl rfl (by decide) (by decide) hk1 hFc hP1 hD1
                      have hP := hP.sub (ws' := [(qo, .inr (4, [.ref qm, .ref qb, .ref qr, .ref qf])), (qm, .inr (2, [.ref qw, .ref qh])), (qw, .inl (cI, 10, .inl fw)), (qh, .inl (cI, 10, .inl fh)), (qr, .inr (3, [.int br])), (qf, .inr (1, [.ref qx, .ref qy, .ref qz, .ref qu, .int (nI nC), .int (nI nR), .int nf])), (qT, .inl (cI, 33, .inl gt))]) [1, 2, 3, 4, 5, 6, 0] rfl
                      have hD := hD.sub (ws' := [(qo, .inr (4, [.ref qm, .ref qb, .ref qr, .ref qf])), (qm, .inr (2, [.ref qw, .ref qh])), (qw, .inl (cI, 10, .inl fw)), (qh, .inl (cI, 10, .inl fh)), (qr, .inr (3, [.int br])), (qf, .inr (1, [.ref qx, .ref qy, .ref qz, .ref qu, .int (nI nC), .int (nI nR), .int nf])), (qT, .inl (cI, 33, .inl gt))]) [1, 2, 3, 4, 5, 6, 0] (by decide) rfl
                      refine W.widen (k := 32) (n := 192) (by omega) (by omega) ?_
                      refine lv_iload hx hb dL_rings_358 (lv_at hl 2 rfl) ?_
                      have K78 : ∀ v78_0 : Int32, v78_0 = (if (v_L_rings_112 y) = 0 then (-9000001) else (if (v_L_rings_98 y) < (-90) then (-9000001) else (v_L_rings_167 y) * (s_L_wide fw fh (v_L_rings_98 y)))) → ∀ (H : Heap) (locs : List Loc), va_P D vwCl [(qo, .inr (4, [.ref qm, .ref qb, .ref qr, .ref qf])), (qm, .inr (2, [.ref qw, .ref qh])), (qw, .inl (cI, 10, .inl fw)), (qh, .inl (cI, 10, .inl fh)), (qr, .inr (3, [.int br])), (qf, .inr (1, [.ref qx, .ref qy, .ref qz, .ref qu, .int (nI nC), .int (nI nR), .int nf])), (qT, .inl (cI, 33, .inl gt))] H → va_D A [(qo, .inr (4, [.ref qm, .ref qb, .ref qr, .ref qf])), (qm, .inr (2, [.ref qw, .ref qh])), (qw, .inl (cI, 10, .inl fw)), (qh, .inl (cI, 10, .inl fh)), (qr, .inr (3, [.int br])), (qf, .inr (1, [.ref qx, .ref qy, .ref qz, .ref qu, .int (nI nC), .int (nI nR), .int nf])), (qT, .inl (cI, 33, .inl gt))] → va_S A s.heap H locs → ∀ (ls : Array Slot), lv_has ls 16 [(9, .int (v_L_rings_182 y)), (8, .int (v_L_rings_167 y)), (6, .int (v_L_rings_112 y)), (5, .int (v_L_rings_98 y)), (4, .int (v_L_rings_68 y)), (3, .int (v_L_rings_26 y)), (0, .ref qo), (1, .int y), (2, .ref qT), (7, .int (nI (rg_n (v_L_rings_26 y) (v_L_rings_68 y)))), (10, .int ((lp_L_rings_193 br y ((v_L_rings_167 y).toInt.toNat)).1)), (11, .int ((lp_L_rings_193 br y ((v_L_rings_167 y).toInt.toNat)).2))] → W p l e (headSpec wsL_rings rm_L_rings).room s m ([.ref qo, .int y, .ref qT]).toArray below meth c H locs 32 192 (MQ below (Qc_L_rings D cI cZ cJ cD qo qm qb qr qf qw qh fw fh br qx qy qz qu nC nR nf qT gt y A) ([.ref qo, .int y, .ref qT]).toArray s 80 480 A) (F0 m 384 ls [.int v78_0, .int (s_L_by fw fh br nC nR nf 3 (v_L_rings_26 y) (v_L_rings_68 y) (v_L_rings_98 y))]) := by
                        intro v78_0 hv78_0 H locs hP hD hS ls hl
                        subst hv78_0
                        refine lv_icmp_ne (tgt := 471) hx hb dL_rings_384 (by decide) (fun c79 => ?_) (fun c79 => ?_)
                        · refine lv_iconst (v := 0) hx hb dL_rings_471 (by decide) ?_
                          refine W.widen (k := 80) (n := 480) (by decide) (by decide) ?_
                          have e80 : s_L_rings fw fh br nC nR nf y = 0 := by
                            unfold s_L_rings
                            exact ((if_pos c74).trans (if_neg c79))
                          exact W.zret (v := 0) hx hb hr (z_b (by (repeat' split) <;> simp)) (fun t ht hW => ⟨⟨_, (), rfl, e80.symm, ⟨(by rw [ht]; exact hP), va_K.moved hW.alike hK, hD⟩⟩, hS.F ht⟩) hS.2.2 dL_rings_472
                        · refine lv_aload_n hx hb dL_rings_387 rfl (lv_at hl 6 rfl) ?_
                          refine lv_iconst (v := 4) hx hb dL_rings_388 (by decide) ?_
                          refine lv_iload_n hx hb dL_rings_389 rfl (lv_at hl 5 rfl) ?_
                          refine lv_iconst (v := 0) hx hb dL_rings_390 (by decide) ?_
                          refine lv_iconst (v := 0) hx hb dL_rings_391 (by decide) ?_
                          have hPc := hP.sub (ws' := [(qo, .inr (4, [.ref qm, .ref qb, .ref qr, .ref qf])), (qm, .inr (2, [.ref qw, .ref qh])), (qw, .inl (cI, 10, .inl fw)), (qh, .inl (cI, 10, .inl fh)), (qr, .inr (3, [.int br])), (qf, .inr (1, [.ref qx, .ref qy, .ref qz, .ref qu, .int (nI nC), .int (nI nR), .int nf]))]) [0, 1, 2, 3, 4, 5] rfl
                          have hDc := hD.sub (ws' := [(qo, .inr (4, [.ref qm, .ref qb, .ref qr, .ref qf])), (qm, .inr (2, [.ref qw, .ref qh])), (qw, .inl (cI, 10, .inl fw)), (qh, .inl (cI, 10, .inl fh)), (qr, .inr (3, [.int br])), (qf, .inr (1, [.ref qx, .ref qy, .ref qz, .ref qu, .int (nI nC), .int (nI nR), .int nf]))]) [0, 1, 2, 3, 4, 5] (by decide) rfl
                          have hFc := va_free (wc := [(qo, .inr (4, [.ref qm, .ref qb, .ref qr, .ref qf])), (qm, .inr (2, [.ref qw, .ref qh])), (qw, .inl (cI, 10, .inl fw)), (qh, .inl (cI, 10, .inl fh)), (qr, .inr (3, [.int br])), (qf, .inr (1, [.ref qx, .ref qy, .ref qz, .ref qu, .int (nI nC), .int (nI nR), .int nf]))]) hD hS hA [0, 1, 2, 3, 4, 5] rfl
                          refine vx_calli (vx_runSX (As := [.ref qo, .int 4, .int (v_L_rings_26 y), .int 0, .int 0]) (rest := []) ⟨hx, hb, hml, hown, hts⟩ (c_L_byK l hnt D cI cZ cJ cD qo qm qb qr qf qw qh fw fh br qx qy qz qu nC nR nf 4 (v_L_rings_26 y) 0 0 H.size (by decide)) (vx_cwSW 5 hts gL_rings_L_by rfl rfl rfl (by decide +kernel) ⟨Nat.le_of_ble_eq_true rfl, Nat.le_of_ble_eq_true rfl⟩) ⟨zblindWE, (fun U hU hW => ⟨rfl, by rw [hU], by rw [hU]; exact hPc, va_K.moved hW.alike hK, hDc.weaken (fun _ _ _ _ => trivial), zEnv.go hE hS hFc hU hW⟩)⟩ rfl rfl hl.1 rfl (lv_room (Nat.le_of_ble_eq_true rfl)) dL_rings_392 ⟨(show _ ≤ 80 from by omega), (show _ ≤ 480 from by omega)⟩) hS (fun q _ h => hFc q h) hFc (fun q _ h => hFc q h) (fun E ce q9 u t H locs ht hvm hpx hB hz1 hk1 hS hq9 hce hcl => ?_) (fun r81 u t H locs ht hvm hw hB hz1 hk1 hS => ?_)
                          · exact hB.elim
                          rw [hw]
                          obtain ⟨hP1, hK1, hD1⟩ := hB
                          rw [ht] at hP1
                          obtain ⟨hP, hD⟩ := va_join (wr := [(qT, .inl (cI, 33, .inl gt))]) (w1 := [(qo, .inr (4, [.ref qm, .ref qb, .ref qr, .ref qf])), (qm, .inr (2, [.ref qw, .ref qh])), (qw, .inl (cI, 10, .inl fw)), (qh, .inl (cI, 10, .inl fh)), (qr, .inr (3, [.int br])), (qf, .inr (1, [.ref qx, .ref qy, .ref qz, .ref qu, .int (nI nC), .int (nI nR), .int nf]))]) hP hD [0, 1, 2, 3, 4, 5] [6] rfl rfl (by decide) (by decide) hk1 hFc hP1 hD1
                          have hP := hP.sub (ws' := [(qo, .inr (4, [.ref qm, .ref qb, .ref qr, .ref qf])), (qm, .inr (2, [.ref qw, .ref qh])), (qw, .inl (cI, 10, .inl fw)), (qh, .inl (cI, 10, .inl fh)), (qr, .inr (3, [.int br])), (qf, .inr (1, [.ref qx, .ref qy, .ref qz, .ref qu, .int (nI nC), .int (nI nR), .int nf])), (qT, .inl (cI, 33, .inl gt))]) [1, 2, 3, 4, 5, 6, 0] rfl
                          have hD := hD.sub (ws' := [(qo, .inr (4, [.ref qm, .ref qb, .ref qr, .ref qf])), (qm, .inr (2, [.ref qw, .ref qh])), (qw, .inl (cI, 10, .inl fw)), (qh, .inl (cI, 10, .inl fh)), (qr, .inr (3, [.int br])), (qf, .inr (1, [.ref qx, .ref qy, .ref qz, .ref qu, .int (nI nC), .int (nI nR), .int nf])), (qT, .inl (cI, 33, .inl gt))]) [1, 2, 3, 4, 5, 6, 0] (by decide) rfl
                          refine W.widen (k := 48) (n := 288) (by omega) (by omega) ?_
                          refine lv_iload hx hb dL_rings_395 (lv_at hl 2 rfl) ?_
                          have K83 : ∀ v83_0 : Int32, v83_0 = (if (v_L_rings_112 y) = 0 then (-9000001) else ((v_L_rings_26 y) + 180) / br) → ∀ (H : Heap) (locs : List Loc), va_P D vwCl [(qo, .inr (4, [.ref qm, .ref qb, .ref qr, .ref qf])), (qm, .inr (2, [.ref qw, .ref qh])), (qw, .inl (cI, 10, .inl fw)), (qh, .inl (cI, 10, .inl fh)), (qr, .inr (3, [.int br])), (qf, .inr (1, [.ref qx, .ref qy, .ref qz, .ref qu, .int (nI nC), .int (nI nR), .int nf])), (qT, .inl (cI, 33, .inl gt))] H → va_D A [(qo, .inr (4, [.ref qm, .ref qb, .ref qr, .ref qf])), (qm, .inr (2, [.ref qw, .ref qh])), (qw, .inl (cI, 10, .inl fw)), (qh, .inl (cI, 10, .inl fh)), (qr, .inr (3, [.int br])), (qf, .inr (1, [.ref qx, .ref qy, .ref qz, .ref qu, .int (nI nC), .int (nI nR), .int nf])), (qT, .inl (cI, 33, .inl gt))] → va_S A s.heap H locs → ∀ (ls : Array Slot), lv_has ls 16 [(9, .int (v_L_rings_182 y)), (8, .int (v_L_rings_167 y)), (6, .int (v_L_rings_112 y)), (5, .int (v_L_rings_98 y)), (4, .int (v_L_rings_68 y)), (3, .int (v_L_rings_26 y)), (0, .ref qo), (1, .int y), (2, .ref qT), (7, .int (nI (rg_n (v_L_rings_26 y) (v_L_rings_68 y)))), (10, .int ((lp_L_rings_193 br y ((v_L_rings_167 y).toInt.toNat)).1)), (11, .int ((lp_L_rings_193 br y ((v_L_rings_167 y).toInt.toNat)).2))] → W p l e (headSpec wsL_rings rm_L_rings).room s m ([.ref qo, .int y, .ref qT]).toArray below meth c H locs 48 288 (MQ below (Qc_L_rings D cI cZ cJ cD qo qm qb qr qf qw qh fw fh br qx qy qz qu nC nR nf qT gt y A) ([.ref qo, .int y, .ref qT]).toArray s 80 480 A) (F0 m 415 ls [.int v83_0, .int (s_L_by fw fh br nC nR nf 4 (v_L_rings_26 y) 0 0)]) := by
                            intro v83_0 hv83_0 H locs hP hD hS ls hl
                            subst hv83_0
                            refine lv_icmp_ne (tgt := 471) hx hb dL_rings_415 (by decide) (fun c84 => ?_) (fun c84 => ?_)
                            · refine lv_iconst (v := 0) hx hb dL_rings_471 (by decide) ?_
                              refine W.widen (k := 80) (n := 480) (by decide) (by decide) ?_
                              have e85 : s_L_rings fw fh br nC nR nf y = 0 := by
                                unfold s_L_rings
                                exact ((if_pos c74).trans ((if_pos c79).trans (if_neg c84)))
                              exact W.zret (v := 0) hx hb hr (z_b (by (repeat' split) <;> simp)) (fun t ht hW => ⟨⟨_, (), rfl, e85.symm, ⟨(by rw [ht]; exact hP), va_K.moved hW.alike hK, hD⟩⟩, hS.F ht⟩) hS.2.2 dL_rings_472
                            · refine lv_aload_n hx hb dL_rings_418 rfl (lv_at hl 6 rfl) ?_
                              refine lv_iconst (v := 5) hx hb dL_rings_419 (by decide) ?_
                              refine lv_iload_n hx hb dL_rings_420 rfl (lv_at hl 5 rfl) ?_
                              refine lv_iload hx hb dL_rings_421 (lv_at hl 4 rfl) ?_
                              refine lv_iconst (v := 0) hx hb dL_rings_423 (by decide) ?_
                              have hPc := hP.sub (ws' := [(qo, .inr (4, [.ref qm, .ref qb, .ref qr, .ref qf])), (qm, .inr (2, [.ref qw, .ref qh])), (qw, .inl (cI, 10, .inl fw)), (qh, .inl (cI, 10, .inl fh)), (qr, .inr (3, [.int br])), (qf, .inr (1, [.ref qx, .ref qy, .ref qz, .ref qu, .int (nI nC), .int (nI nR), .int nf]))]) [0, 1, 2, 3, 4, 5] rfl
                              have hDc := hD.sub (ws' := [(qo, .inr (4, [.ref qm, .ref qb, .ref qr, .ref qf])), (qm, .inr (2, [.ref qw, .ref qh])), (qw, .inl (cI, 10, .inl fw)), (qh, .inl (cI, 10, .inl fh)), (qr, .inr (3, [.int br])), (qf, .inr (1, [.ref qx, .ref qy, .ref qz, .ref qu, .int (nI nC), .int (nI nR), .int nf]))]) [0, 1, 2, 3, 4, 5] (by decide) rfl
                              have hFc := va_free (wc := [(qo, .inr (4, [.ref qm, .ref qb, .ref qr, .ref qf])), (qm, .inr (2, [.ref qw, .ref qh])), (qw, .inl (cI, 10, .inl fw)), (qh, .inl (cI, 10, .inl fh)), (qr, .inr (3, [.int br])), (qf, .inr (1, [.ref qx, .ref qy, .ref qz, .ref qu, .int (nI nC), .int (nI nR), .int nf]))]) hD hS hA [0, 1, 2, 3, 4, 5] rfl
                              refine vx_calli (vx_runSX (As := [.ref qo, .int 5, .int (v_L_rings_26 y), .int (v_L_rings_68 y), .int 0]) (rest := []) ⟨hx, hb, hml, hown, hts⟩ (c_L_byK l hnt D cI cZ cJ cD qo qm qb qr qf qw qh fw fh br qx qy qz qu nC nR nf 5 (v_L_rings_26 y) (v_L_rings_68 y) 0 H.size (by decide)) (vx_cwSW 5 hts gL_rings_L_by rfl rfl rfl (by decide +kernel) ⟨Nat.le_of_ble_eq_true rfl, Nat.le_of_ble_eq_true rfl⟩) ⟨zblindWE, (fun U hU hW => ⟨rfl, by rw [hU], by rw [hU]; exact hPc, va_K.moved hW.alike hK, hDc.weaken (fun _ _ _ _ => trivial), zEnv.go hE hS hFc hU hW⟩)⟩ rfl rfl hl.1 rfl (lv_room (Nat.le_of_ble_eq_true rfl)) dL_rings_424 ⟨(show _ ≤ 80 from by omega), (show _ ≤ 480 from by omega)⟩) hS (fun q _ h => hFc q h) hFc (fun q _ h => hFc q h) (fun E ce q9 u t H locs ht hvm hpx hB hz1 hk1 hS hq9 hce hcl => ?_) (fun r86 u t H locs ht hvm hw hB hz1 hk1 hS => ?_)
                              · exact hB.elim
                              rw [hw]
                              obtain ⟨hP1, hK1, hD1⟩ := hB
                              rw [ht] at hP1
                              obtain ⟨hP, hD⟩ := va_join (wr := [(qT, .inl (cI, 33, .inl gt))]) (w1 := [(qo, .inr (4, [.ref qm, .ref qb, .ref qr, .ref qf])), (qm, .inr (2, [.ref qw, .ref qh])), (qw, .inl (cI, 10, .inl fw)), (qh, .inl (cI, 10, .inl fh)), (qr, .inr (3, [.int br])), (qf, .inr (1, [.ref qx, .ref qy, .ref qz, .ref qu, .int (nI nC), .int (nI nR), .int nf]))]) hP hD [0, 1, 2, 3, 4, 5] [6] rfl rfl (by decide) (by decide) hk1 hFc hP1 hD1
                              have hP := hP.sub (ws' := [(qo, .inr (4, [.ref qm, .ref qb, .ref qr, .ref qf])), (qm, .inr (2, [.ref qw, .ref qh])), (qw, .inl (cI, 10, .inl fw)), (qh, .inl (cI, 10, .inl fh)), (qr, .inr (3, [.int br])), (qf, .inr (1, [.ref qx, .ref qy, .ref qz, .ref qu, .int (nI nC), .int (nI nR), .int nf])), (qT, .inl (cI, 33, .inl gt))]) [1, 2, 3, 4, 5, 6, 0] rfl
                              have hD := hD.sub (ws' := [(qo, .inr (4, [.ref qm, .ref qb, .ref qr, .ref qf])), (qm, .inr (2, [.ref qw, .ref qh])), (qw, .inl (cI, 10, .inl fw)), (qh, .inl (cI, 10, .inl fh)), (qr, .inr (3, [.int br])), (qf, .inr (1, [.ref qx, .ref qy, .ref qz, .ref qu, .int (nI nC), .int (nI nR), .int nf])), (qT, .inl (cI, 33, .inl gt))]) [1, 2, 3, 4, 5, 6, 0] (by decide) rfl
                              refine W.widen (k := 64) (n := 384) (by omega) (by omega) ?_
                              refine lv_iload hx hb dL_rings_427 (lv_at hl 2 rfl) ?_
                              have K88 : ∀ v88_0 : Int32, v88_0 = (if (v_L_rings_112 y) = 0 then (-9000001) else (lp_L_rings_193 br y ((v_L_rings_167 y).toInt.toNat)).1) → ∀ (H : Heap) (locs : List Loc), va_P D vwCl [(qo, .inr (4, [.ref qm, .ref qb, .ref qr, .ref qf])), (qm, .inr (2, [.ref qw, .ref qh])), (qw, .inl (cI, 10, .inl fw)), (qh, .inl (cI, 10, .inl fh)), (qr, .inr (3, [.int br])), (qf, .inr (1, [.ref qx, .ref qy, .ref qz, .ref qu, .int (nI nC), .int (nI nR), .int nf])), (qT, .inl (cI, 33, .inl gt))] H → va_D A [(qo, .inr (4, [.ref qm, .ref qb, .ref qr, .ref qf])), (qm, .inr (2, [.ref qw, .ref qh])), (qw, .inl (cI, 10, .inl fw)), (qh, .inl (cI, 10, .inl fh)), (qr, .inr (3, [.int br])), (qf, .inr (1, [.ref qx, .ref qy, .ref qz, .ref qu, .int (nI nC), .int (nI nR), .int nf])), (qT, .inl (cI, 33, .inl gt))] → va_S A s.heap H locs → ∀ (ls : Array Slot), lv_has ls 16 [(9, .int (v_L_rings_182 y)), (8, .int (v_L_rings_167 y)), (6, .int (v_L_rings_112 y)), (5, .int (v_L_rings_98 y)), (4, .int (v_L_rings_68 y)), (3, .int (v_L_rings_26 y)), (0, .ref qo), (1, .int y), (2, .ref qT), (7, .int (nI (rg_n (v_L_rings_26 y) (v_L_rings_68 y)))), (10, .int ((lp_L_rings_193 br y ((v_L_rings_167 y).toInt.toNat)).1)), (11, .int ((lp_L_rings_193 br y ((v_L_rings_167 y).toInt.toNat)).2))] → W p l e (headSpec wsL_rings rm_L_rings).room s m ([.ref qo, .int y, .ref qT]).toArray below meth c H locs 64 384 (MQ below (Qc_L_rings D cI cZ cJ cD qo qm qb qr qf qw qh fw fh br qx qy qz qu nC nR nf qT gt y A) ([.ref qo, .int y, .ref qT]).toArray s 80 480 A) (F0 m 439 ls [.int v88_0, .int (s_L_by fw fh br nC nR nf 5 (v_L_rings_26 y) (v_L_rings_68 y) 0)]) := by
                                intro v88_0 hv88_0 H locs hP hD hS ls hl
                                subst hv88_0
                                refine lv_icmp_ne (tgt := 471) hx hb dL_rings_439 (by decide) (fun c89 => ?_) (fun c89 => ?_)
                                · refine lv_iconst (v := 0) hx hb dL_rings_471 (by decide) ?_
                                  refine W.widen (k := 80) (n := 480) (by decide) (by decide) ?_
                                  have e90 : s_L_rings fw fh br nC nR nf y = 0 := by
                                    unfold s_L_rings
                                    exact ((if_pos c74).trans ((if_pos c79).trans ((if_pos c84).trans (if_neg c89))))
                                  exact W.zret (v := 0) hx hb hr (z_b (by (repeat' split) <;> simp)) (fun t ht hW => ⟨⟨_, (), rfl, e90.symm, ⟨(by rw [ht]; exact hP), va_K.moved hW.alike hK, hD⟩⟩, hS.F ht⟩) hS.2.2 dL_rings_472
                                · refine lv_aload_n hx hb dL_rings_442 rfl (lv_at hl 6 rfl) ?_
                                  refine lv_bipush (v := 6) hx hb dL_rings_443 (by decide) ?_
                                  refine lv_iload_n hx hb dL_rings_445 rfl (lv_at hl 5 rfl) ?_
                                  refine lv_iload hx hb dL_rings_446 (lv_at hl 4 rfl) ?_
                                  refine lv_iconst (v := 0) hx hb dL_rings_448 (by decide) ?_
                                  have hPc := hP.sub (ws' := [(qo, .inr (4, [.ref qm, .ref qb, .ref qr, .ref qf])), (qm, .inr (2, [.ref qw, .ref qh])), (qw, .inl (cI, 10, .inl fw)), (qh, .inl (cI, 10, .inl fh)), (qr, .inr (3, [.int br])), (qf, .inr (1, [.ref qx, .ref qy, .ref qz, .ref qu, .int (nI nC), .int (nI nR), .int nf]))]) [0, 1, 2, 3, 4, 5] rfl
                                  have hDc := hD.sub (ws' := [(qo, .inr (4, [.ref qm, .ref qb, .ref qr, .ref qf])), (qm, .inr (2, [.ref qw, .ref qh])), (qw, .inl (cI, 10, .inl fw)), (qh, .inl (cI, 10, .inl fh)), (qr, .inr (3, [.int br])), (qf, .inr (1, [.ref qx, .ref qy, .ref qz, .ref qu, .int (nI nC), .int (nI nR), .int nf]))]) [0, 1, 2, 3, 4, 5] (by decide) rfl
                                  have hFc := va_free (wc := [(qo, .inr (4, [.ref qm, .ref qb, .ref qr, .ref qf])), (qm, .inr (2, [.ref qw, .ref qh])), (qw, .inl (cI, 10, .inl fw)), (qh, .inl (cI, 10, .inl fh)), (qr, .inr (3, [.int br])), (qf, .inr (1, [.ref qx, .ref qy, .ref qz, .ref qu, .int (nI nC), .int (nI nR), .int nf]))]) hD hS hA [0, 1, 2, 3, 4, 5] rfl
                                  refine vx_calli (vx_runSX (As := [.ref qo, .int 6, .int (v_L_rings_26 y), .int (v_L_rings_68 y), .int 0]) (rest := []) ⟨hx, hb, hml, hown, hts⟩ (c_L_byK l hnt D cI cZ cJ cD qo qm qb qr qf qw qh fw fh br qx qy qz qu nC nR nf 6 (v_L_rings_26 y) (v_L_rings_68 y) 0 H.size (by decide)) (vx_cwSW 5 hts gL_rings_L_by rfl rfl rfl (by decide +kernel) ⟨Nat.le_of_ble_eq_true rfl, Nat.le_of_ble_eq_true rfl⟩) ⟨zblindWE, (fun U hU hW => ⟨rfl, by rw [hU], by rw [hU]; exact hPc, va_K.moved hW.alike hK, hDc.weaken (fun _ _ _ _ => trivial), zEnv.go hE hS hFc hU hW⟩)⟩ rfl rfl hl.1 rfl (lv_room (Nat.le_of_ble_eq_true rfl)) dL_rings_449 ⟨(show _ ≤ 80 from by omega), (show _ ≤ 480 from by omega)⟩) hS (fun q _ h => hFc q h) hFc (fun q _ h => hFc q h) (fun E ce q9 u t H locs ht hvm hpx hB hz1 hk1 hS hq9 hce hcl => ?_) (fun r91 u t H locs ht hvm hw hB hz1 hk1 hS => ?_)
                                  · exact hB.elim
                                  rw [hw]
                                  obtain ⟨hP1, hK1, hD1⟩ := hB
                                  rw [ht] at hP1
                                  obtain ⟨hP, hD⟩ := va_join (wr := [(qT, .inl (cI, 33, .inl gt))]) (w1 := [(qo, .inr (4, [.ref qm, .ref qb, .ref qr, .ref qf])), (qm, .inr (2, [.ref qw, .ref qh])), (qw, .inl (cI, 10, .inl fw)), (qh, .inl (cI, 10, .inl fh)), (qr, .inr (3, [.int br])), (qf, .inr (1, [.ref qx, .ref qy, .ref qz, .ref qu, .int (nI nC), .int (nI nR), .int nf]))]) hP hD [0, 1, 2, 3, 4, 5] [6] rfl rfl (by decide) (by decide) hk1 hFc hP1 hD1
                                  have hP := hP.sub (ws' := [(qo, .inr (4, [.ref qm, .ref qb, .ref qr, .ref qf])), (qm, .inr (2, [.ref qw, .ref qh])), (qw, .inl (cI, 10, .inl fw)), (qh, .inl (cI, 10, .inl fh)), (qr, .inr (3, [.int br])), (qf, .inr (1, [.ref qx, .ref qy, .ref qz, .ref qu, .int (nI nC), .int (nI nR), .int nf])), (qT, .inl (cI, 33, .inl gt))]) [1, 2, 3, 4, 5, 6, 0] rfl
                                  have hD := hD.sub (ws' := [(qo, .inr (4, [.ref qm, .ref qb, .ref qr, .ref qf])), (qm, .inr (2, [.ref qw, .ref qh])), (qw, .inl (cI, 10, .inl fw)), (qh, .inl (cI, 10, .inl fh)), (qr, .inr (3, [.int br])), (qf, .inr (1, [.ref qx, .ref qy, .ref qz, .ref qu, .int (nI nC), .int (nI nR), .int nf])), (qT, .inl (cI, 33, .inl gt))]) [1, 2, 3, 4, 5, 6, 0] (by decide) rfl
                                  refine W.widen (k := 80) (n := 480) (by omega) (by omega) ?_
                                  refine lv_iload hx hb dL_rings_452 (lv_at hl 2 rfl) ?_
                                  have K93 : ∀ v93_0 : Int32, v93_0 = (if (v_L_rings_112 y) = 0 then (-9000001) else (lp_L_rings_193 br y ((v_L_rings_167 y).toInt.toNat)).2) → ∀ (H : Heap) (locs : List Loc), va_P D vwCl [(qo, .inr (4, [.ref qm, .ref qb, .ref qr, .ref qf])), (qm, .inr (2, [.ref qw, .ref qh])), (qw, .inl (cI, 10, .inl fw)), (qh, .inl (cI, 10, .inl fh)), (qr, .inr (3, [.int br])), (qf, .inr (1, [.ref qx, .ref qy, .ref qz, .ref qu, .int (nI nC), .int (nI nR), .int nf])), (qT, .inl (cI, 33, .inl gt))] H → va_D A [(qo, .inr (4, [.ref qm, .ref qb, .ref qr, .ref qf])), (qm, .inr (2, [.ref qw, .ref qh])), (qw, .inl (cI, 10, .inl fw)), (qh, .inl (cI, 10, .inl fh)), (qr, .inr (3, [.int br])), (qf, .inr (1, [.ref qx, .ref qy, .ref qz, .ref qu, .int (nI nC), .int (nI nR), .int nf])), (qT, .inl (cI, 33, .inl gt))] → va_S A s.heap H locs → ∀ (ls : Array Slot), lv_has ls 16 [(9, .int (v_L_rings_182 y)), (8, .int (v_L_rings_167 y)), (6, .int (v_L_rings_112 y)), (5, .int (v_L_rings_98 y)), (4, .int (v_L_rings_68 y)), (3, .int (v_L_rings_26 y)), (0, .ref qo), (1, .int y), (2, .ref qT), (7, .int (nI (rg_n (v_L_rings_26 y) (v_L_rings_68 y)))), (10, .int ((lp_L_rings_193 br y ((v_L_rings_167 y).toInt.toNat)).1)), (11, .int ((lp_L_rings_193 br y ((v_L_rings_167 y).toInt.toNat)).2))] → W p l e (headSpec wsL_rings rm_L_rings).room s m ([.ref qo, .int y, .ref qT]).toArray below meth c H locs 80 480 (MQ below (Qc_L_rings D cI cZ cJ cD qo qm qb qr qf qw qh fw fh br qx qy qz qu nC nR nf qT gt y A) ([.ref qo, .int y, .ref qT]).toArray s 80 480 A) (F0 m 464 ls [.int v93_0, .int (s_L_by fw fh br nC nR nf 6 (v_L_rings_26 y) (v_L_rings_68 y) 0)]) := by
                                    intro v93_0 hv93_0 H locs hP hD hS ls hl
                                    subst hv93_0
                                    have K95 : ∀ v95_0 : Int32, v95_0 = (if (s_L_by fw fh br nC nR nf 6 (v_L_rings_26 y) (v_L_rings_68 y) 0) = (if (v_L_rings_112 y) = 0 then (-9000001) else (lp_L_rings_193 br y ((v_L_rings_167 y).toInt.toNat)).2) then 1 else 0) → ∀ (H : Heap) (locs : List Loc), va_P D vwCl [(qo, .inr (4, [.ref qm, .ref qb, .ref qr, .ref qf])), (qm, .inr (2, [.ref qw, .ref qh])), (qw, .inl (cI, 10, .inl fw)), (qh, .inl (cI, 10, .inl fh)), (qr, .inr (3, [.int br])), (qf, .inr (1, [.ref qx, .ref qy, .ref qz, .ref qu, .int (nI nC), .int (nI nR), .int nf])), (qT, .inl (cI, 33, .inl gt))] H → va_D A [(qo, .inr (4, [.ref qm, .ref qb, .ref qr, .ref qf])), (qm, .inr (2, [.ref qw, .ref qh])), (qw, .inl (cI, 10, .inl fw)), (qh, .inl (cI, 10, .inl fh)), (qr, .inr (3, [.int br])), (qf, .inr (1, [.ref qx, .ref qy, .ref qz, .ref qu, .int (nI nC), .int (nI nR), .int nf])), (qT, .inl (cI, 33, .inl gt))] → va_S A s.heap H locs → ∀ (ls : Array Slot), lv_has ls 16 [(9, .int (v_L_rings_182 y)), (8, .int (v_L_rings_167 y)), (6, .int (v_L_rings_112 y)), (5, .int (v_L_rings_98 y)), (4, .int (v_L_rings_68 y)), (3, .int (v_L_rings_26 y)), (0, .ref qo), (1, .int y), (2, .ref qT), (7, .int (nI (rg_n (v_L_rings_26 y) (v_L_rings_68 y)))), (10, .int ((lp_L_rings_193 br y ((v_L_rings_167 y).toInt.toNat)).1)), (11, .int ((lp_L_rings_193 br y ((v_L_rings_167 y).toInt.toNat)).2))] → W p l e (headSpec wsL_rings rm_L_rings).room s m ([.ref qo, .int y, .ref qT]).toArray below meth c H locs 80 480 (MQ below (Qc_L_rings D cI cZ cJ cD qo qm qb qr qf qw qh fw fh br qx qy qz qu nC nR nf qT gt y A) ([.ref qo, .int y, .ref qT]).toArray s 80 480 A) (F0 m 472 ls [.int v95_0]) := by
                                      intro v95_0 hv95_0 H locs hP hD hS ls hl
                                      subst hv95_0
                                      have e96 : s_L_rings fw fh br nC nR nf y = (if (s_L_by fw fh br nC nR nf 6 (v_L_rings_26 y) (v_L_rings_68 y) 0) = (if (v_L_rings_112 y) = 0 then (-9000001) else (lp_L_rings_193 br y ((v_L_rings_167 y).toInt.toNat)).2) then 1 else 0) := by
                                        unfold s_L_rings
                                        exact ((if_pos c74).trans ((if_pos c79).trans ((if_pos c84).trans (if_pos c89))))
                                      exact W.zret (v := (if (s_L_by fw fh br nC nR nf 6 (v_L_rings_26 y) (v_L_rings_68 y) 0) = (if (v_L_rings_112 y) = 0 then (-9000001) else (lp_L_rings_193 br y ((v_L_rings_167 y).toInt.toNat)).2) then 1 else 0)) hx hb hr (z_b (by (repeat' split) <;> simp)) (fun t ht hW => ⟨⟨_, (), rfl, e96.symm, ⟨(by rw [ht]; exact hP), va_K.moved hW.alike hK, hD⟩⟩, hS.F ht⟩) hS.2.2 dL_rings_472
                                    refine lv_icmp_ne (tgt := 471) hx hb dL_rings_464 (by decide) (fun c97 => ?_) (fun c97 => ?_)
                                    · refine lv_iconst (v := 0) hx hb dL_rings_471 (by decide) ?_
                                      exact K95 _ (if_neg c97).symm _ _ hP hD hS _ (lv_sub hl [0, 1, 2, 3, 4, 5, 6, 7, 8, 9, 10, 11] rfl)
                                    · refine lv_iconst (v := 1) hx hb dL_rings_467 (by decide) ?_
                                      refine lv_goto (tgt := 472) hx hb dL_rings_468 (by decide) ?_
                                      exact K95 _ (if_pos c97).symm _ _ hP hD hS _ (lv_sub hl [0, 1, 2, 3, 4, 5, 6, 7, 8, 9, 10, 11] rfl)
                                  refine lv_if_eq (tgt := 462) hx hb dL_rings_454 (by decide) (fun c98 => ?_) (fun c98 => ?_)
                                  · refine lv_ldc (v := (-9000001)) hx hb hown (hts (.constant RL 65 (-9000001)) (List.mem_cons_of_mem _ (List.mem_append_left _ (List.mem_append_left _ (List.mem_append_left _ (List.mem_append_left _ (List.mem_append_left _ (List.mem_append_left _ (List.mem_of_getElem? (i := 0) rfl))))))))) dL_rings_462 ?_
                                    exact K93 _ (if_pos c98).symm _ _ hP hD hS _ (lv_sub hl [0, 1, 2, 3, 4, 5, 6, 7, 8, 9, 10, 11] rfl)
                                  · refine lv_iload hx hb dL_rings_457 (lv_at hl 11 rfl) ?_
                                    refine lv_goto (tgt := 464) hx hb dL_rings_459 (by decide) ?_
                                    exact K93 _ (if_neg c98).symm _ _ hP hD hS _ (lv_sub hl [0, 1, 2, 3, 4, 5, 6, 7, 8, 9, 10, 11] rfl)
                              refine lv_if_eq (tgt := 437) hx hb dL_rings_429 (by decide) (fun c99 => ?_) (fun c99 => ?_)
                              · refine lv_ldc (v := (-9000001)) hx hb hown (hts (.constant RL 65 (-9000001)) (List.mem_cons_of_mem _ (List.mem_append_left _ (List.mem_append_left _ (List.mem_append_left _ (List.mem_append_left _ (List.mem_append_left _ (List.mem_append_left _ (List.mem_of_getElem? (i := 0) rfl))))))))) dL_rings_437 ?_
                                exact K88 _ (if_pos c99).symm _ _ hP hD hS _ (lv_sub hl [0, 1, 2, 3, 4, 5, 6, 7, 8, 9, 10, 11] rfl)
                              · refine lv_iload hx hb dL_rings_432 (lv_at hl 10 rfl) ?_
                                refine lv_goto (tgt := 439) hx hb dL_rings_434 (by decide) ?_
                                exact K88 _ (if_neg c99).symm _ _ hP hD hS _ (lv_sub hl [0, 1, 2, 3, 4, 5, 6, 7, 8, 9, 10, 11] rfl)
                          refine lv_if_eq (tgt := 413) hx hb dL_rings_397 (by decide) (fun c100 => ?_) (fun c100 => ?_)
                          · refine lv_ldc (v := (-9000001)) hx hb hown (hts (.constant RL 65 (-9000001)) (List.mem_cons_of_mem _ (List.mem_append_left _ (List.mem_append_left _ (List.mem_append_left _ (List.mem_append_left _ (List.mem_append_left _ (List.mem_append_left _ (List.mem_of_getElem? (i := 0) rfl))))))))) dL_rings_413 ?_
                            exact K83 _ (if_pos c100).symm _ _ hP hD hS _ (lv_sub hl [0, 1, 2, 3, 4, 5, 6, 7, 8, 9, 10, 11] rfl)
                          · refine lv_iload_n hx hb dL_rings_400 rfl (lv_at hl 5 rfl) ?_
                            refine lv_sipush (v := 180) hx hb dL_rings_401 (by decide) ?_
                            refine lv_iadd hx hb dL_rings_404 ?_
                            refine lv_aload_n hx hb dL_rings_405 rfl (lv_at hl 8 rfl) ?_
                            refine lv_bipush (v := 29) hx hb dL_rings_406 (by decide) ?_
                            refine va_iald hx hb hK hP 6 0 rfl rfl (z_inc (k := 29) rfl (by decide)) dL_rings_408 ?_
                            rw [show gt (29 : Int32).toNatClampNeg = br from h29]
                            refine lv_idiv hx hb dL_rings_409 hbr ?_
                            refine lv_goto (tgt := 415) hx hb dL_rings_410 (by decide) ?_
                            exact K83 _ (if_neg c100).symm _ _ hP hD hS _ (lv_sub hl [0, 1, 2, 3, 4, 5, 6, 7, 8, 9, 10, 11] rfl)
                      refine lv_if_eq (tgt := 382) hx hb dL_rings_360 (by decide) (fun c101 => ?_) (fun c101 => ?_)
                      · refine lv_ldc (v := (-9000001)) hx hb hown (hts (.constant RL 65 (-9000001)) (List.mem_cons_of_mem _ (List.mem_append_left _ (List.mem_append_left _ (List.mem_append_left _ (List.mem_append_left _ (List.mem_append_left _ (List.mem_append_left _ (List.mem_of_getElem? (i := 0) rfl))))))))) dL_rings_382 ?_
                        exact K78 _ (if_pos c101).symm _ _ hP hD hS _ (lv_sub hl [0, 1, 2, 3, 4, 5, 6, 7, 8, 9, 10, 11] rfl)
                      · refine lv_iload hx hb dL_rings_363 (lv_at hl 3 rfl) ?_
                        refine lv_bipush (v := (-90)) hx hb dL_rings_365 (by decide) ?_
                        refine lv_icmp_lt (tgt := 382) hx hb dL_rings_367 (by decide) (fun c102 => ?_) (fun c102 => ?_)
                        · refine lv_ldc (v := (-9000001)) hx hb hown (hts (.constant RL 65 (-9000001)) (List.mem_cons_of_mem _ (List.mem_append_left _ (List.mem_append_left _ (List.mem_append_left _ (List.mem_append_left _ (List.mem_append_left _ (List.mem_append_left _ (List.mem_of_getElem? (i := 0) rfl))))))))) dL_rings_382 ?_
                          exact K78 _ ((if_neg c101).trans (if_pos c102)).symm _ _ hP hD hS _ (lv_sub hl [0, 1, 2, 3, 4, 5, 6, 7, 8, 9, 10, 11] rfl)
                        · refine lv_iload hx hb dL_rings_370 (lv_at hl 1 rfl) ?_
                          refine lv_aload_n hx hb dL_rings_372 rfl (lv_at hl 8 rfl) ?_
                          refine lv_iload hx hb dL_rings_373 (lv_at hl 3 rfl) ?_
                          refine va_calli (va_runS (As := [.ref qT, .int (v_L_rings_98 y)]) (rest := [.int (v_L_rings_167 y), .int (s_L_by fw fh br nC nR nf 3 (v_L_rings_26 y) (v_L_rings_68 y) (v_L_rings_98 y))]) ⟨hx, hb, hml, hown, hts⟩ (c_L_wide l D cI cZ cJ cD qT gt fw fh (v_L_rings_98 y) hT (rg_lat c102)) (va_cwS 2 hts gL_rings_L_wide rfl rfl rfl (by decide +kernel) ⟨Nat.le_of_ble_eq_true rfl, Nat.le_of_ble_eq_true rfl⟩) ⟨zblind, (fun U hU hW => ⟨rfl, by rw [hU]; exact hP.sub (ws' := [(qT, .inl (cI, 33, .inl gt))]) [6] rfl, va_K.moved hW.alike hK⟩)⟩ rfl rfl hl.1 rfl (lv_room (Nat.le_of_ble_eq_true rfl)) dL_rings_375 ⟨(show _ ≤ 80 from by omega), (show _ ≤ 480 from by omega)⟩) hS (fun q _ h => h.elim) (fun q h => h.elim) (fun r103 u t H locs ht hvm hw hB hz1 hk1 hS => ?_)
                          rw [hw]
                          have hP := zk hP hk1
                          refine lv_imul hx hb dL_rings_378 ?_
                          refine lv_goto (tgt := 384) hx hb dL_rings_379 (by decide) ?_
                          exact K78 _ ((if_neg c101).trans (if_neg c102)).symm _ _ hP hD hS _ (lv_sub hl [0, 1, 2, 3, 4, 5, 6, 7, 8, 9, 10, 11] rfl)
                  refine lv_if_eq (tgt := 343) hx hb dL_rings_335 (by decide) (fun c104 => ?_) (fun c104 => ?_)
                  · refine lv_ldc (v := (-9000001)) hx hb hown (hts (.constant RL 65 (-9000001)) (List.mem_cons_of_mem _ (List.mem_append_left _ (List.mem_append_left _ (List.mem_append_left _ (List.mem_append_left _ (List.mem_append_left _ (List.mem_append_left _ (List.mem_of_getElem? (i := 0) rfl))))))))) dL_rings_343 ?_
                    exact K73 _ (if_pos c104).symm _ _ hP hD hS _ (lv_sub hl [0, 1, 2, 3, 4, 5, 6, 7, 8, 9, 10, 11] rfl)
                  · refine lv_iload hx hb dL_rings_338 (lv_at hl 1 rfl) ?_
                    refine lv_goto (tgt := 345) hx hb dL_rings_340 (by decide) ?_
                    exact K73 _ (if_neg c104).symm _ _ hP hD hS _ (lv_sub hl [0, 1, 2, 3, 4, 5, 6, 7, 8, 9, 10, 11] rfl)
                have L70 : ∀ (n70 k : Nat) (acc70_0 : Int32) (acc70_1 : Int32), k ≤ (v_L_rings_167 y).toInt.toNat → (v_L_rings_167 y).toInt.toNat < k + n70 → acc70_0 = (lp_L_rings_193 br y k).1 → acc70_1 = (lp_L_rings_193 br y k).2 → ∀ (H : Heap) (locs : List Loc), va_P D vwCl [(qo, .inr (4, [.ref qm, .ref qb, .ref qr, .ref qf])), (qm, .inr (2, [.ref qw, .ref qh])), (qw, .inl (cI, 10, .inl fw)), (qh, .inl (cI, 10, .inl fh)), (qr, .inr (3, [.int br])), (qf, .inr (1, [.ref qx, .ref qy, .ref qz, .ref qu, .int (nI nC), .int (nI nR), .int nf])), (qT, .inl (cI, 33, .inl gt))] H → va_D A [(qo, .inr (4, [.ref qm, .ref qb, .ref qr, .ref qf])), (qm, .inr (2, [.ref qw, .ref qh])), (qw, .inl (cI, 10, .inl fw)), (qh, .inl (cI, 10, .inl fh)), (qr, .inr (3, [.int br])), (qf, .inr (1, [.ref qx, .ref qy, .ref qz, .ref qu, .int (nI nC), .int (nI nR), .int nf])), (qT, .inl (cI, 33, .inl gt))] → va_S A s.heap H locs → ∀ (ls : Array Slot), lv_has ls 16 [(9, .int (v_L_rings_182 y)), (8, .int (v_L_rings_167 y)), (6, .int (v_L_rings_112 y)), (5, .int (v_L_rings_98 y)), (4, .int (v_L_rings_68 y)), (3, .int (v_L_rings_26 y)), (0, .ref qo), (1, .int y), (2, .ref qT), (7, .int (nI (rg_n (v_L_rings_26 y) (v_L_rings_68 y)))), (12, .int (nI k)), (10, .int acc70_0), (11, .int acc70_1)] → W p l e (headSpec wsL_rings rm_L_rings).room s m ([.ref qo, .int y, .ref qT]).toArray below meth c H locs 0 0 (MQ below (Qc_L_rings D cI cZ cJ cD qo qm qb qr qf qw qh fw fh br qx qy qz qu nC nR nf qT gt y A) ([.ref qo, .int y, .ref qT]).toArray s 80 480 A) (F0 m 193 ls []) := by
                  intro n70
                  induction n70 with
                  | zero =>
                    intro k acc70_0 acc70_1 hkk hf70
                    exact absurd hf70 (by omega)
                  | succ n70 ih70 =>
                    intro k acc70_0 acc70_1 hkk hf70 hacc70_0 hacc70_1 H locs hP hD hS ls hl
                    subst hacc70_0
                    subst hacc70_1
                    refine lv_iload hx hb dL_rings_193 (lv_at hl 10 rfl) ?_
                    refine lv_iload hx hb dL_rings_195 (lv_at hl 1 rfl) ?_
                    refine lv_icmp_ge (tgt := 324) hx hb dL_rings_197 (by decide) (fun c105 => ?_) (fun c105 => ?_)
                    · have hgek : (v_L_rings_167 y).toInt.toNat ≤ k := rg_wge hkk c105
                      have ekk : k = (v_L_rings_167 y).toInt.toNat := by omega
                      subst ekk
                      exact X70 _ _ hP hD hS _ (lv_sub hl [0, 1, 2, 3, 4, 5, 6, 7, 8, 9, 11, 12] rfl)
                    · refine lv_iload_n hx hb dL_rings_200 rfl (lv_at hl 5 rfl) ?_
                      refine lv_sipush (v := 180) hx hb dL_rings_201 (by decide) ?_
                      refine lv_iadd hx hb dL_rings_204 ?_
                      refine lv_iload hx hb dL_rings_205 (lv_at hl 10 rfl) ?_
                      refine lv_iload hx hb dL_rings_207 (lv_at hl 0 rfl) ?_
                      refine lv_imul hx hb dL_rings_209 ?_
                      refine lv_iadd hx hb dL_rings_210 ?_
                      refine lv_sipush (v := 360) hx hb dL_rings_211 (by decide) ?_
                      refine lv_irem hx hb dL_rings_214 (by decide) ?_
                      refine lv_sipush (v := 360) hx hb dL_rings_215 (by decide) ?_
                      refine lv_iadd hx hb dL_rings_218 ?_
                      refine lv_sipush (v := 360) hx hb dL_rings_219 (by decide) ?_
                      refine lv_irem hx hb dL_rings_222 (by decide) ?_
                      refine lv_istore (lv' := [(13, .int ((((((v_L_rings_26 y) + 180) + ((nI k) * (v_L_rings_182 y))) - (((v_L_rings_26 y) + 180) + ((nI k) * (v_L_rings_182 y))) / 360 * 360) + 360) - (((((v_L_rings_26 y) + 180) + ((nI k) * (v_L_rings_182 y))) - (((v_L_rings_26 y) + 180) + ((nI k) * (v_L_rings_182 y))) / 360 * 360) + 360) / 360 * 360)), (9, .int (v_L_rings_182 y)), (8, .int (v_L_rings_167 y)), (6, .int (v_L_rings_112 y)), (5, .int (v_L_rings_98 y)), (4, .int (v_L_rings_68 y)), (3, .int (v_L_rings_26 y)), (0, .ref qo), (1, .int y), (2, .ref qT), (7, .int (nI (rg_n (v_L_rings_26 y) (v_L_rings_68 y)))), (12, .int (nI k)), (10, .int ((lp_L_rings_193 br y k).1)), (11, .int ((lp_L_rings_193 br y k).2))]) hx hb dL_rings_223 hl (by decide) rfl (fun ls hl => ?_)
                      have hl : lv_has ls 16 [(13, .int (v_L_rings_223 y k)), (9, .int (v_L_rings_182 y)), (8, .int (v_L_rings_167 y)), (6, .int (v_L_rings_112 y)), (5, .int (v_L_rings_98 y)), (4, .int (v_L_rings_68 y)), (3, .int (v_L_rings_26 y)), (0, .ref qo), (1, .int y), (2, .ref qT), (7, .int (nI (rg_n (v_L_rings_26 y) (v_L_rings_68 y)))), (12, .int (nI k)), (10, .int ((lp_L_rings_193 br y k).1)), (11, .int ((lp_L_rings_193 br y k).2))] := hl
                      refine lv_iload hx hb dL_rings_225 (lv_at hl 0 rfl) ?_
                      refine lv_iload hx hb dL_rings_227 (lv_at hl 1 rfl) ?_
                      refine lv_iadd hx hb dL_rings_229 ?_
                      refine lv_sipush (v := 360) hx hb dL_rings_230 (by decide) ?_
                      refine lv_iadd hx hb dL_rings_233 ?_
                      refine lv_sipush (v := 360) hx hb dL_rings_234 (by decide) ?_
                      refine lv_irem hx hb dL_rings_237 (by decide) ?_
                      refine lv_istore (lv' := [(14, .int ((((v_L_rings_223 y k) + (v_L_rings_182 y)) + 360) - (((v_L_rings_223 y k) + (v_L_rings_182 y)) + 360) / 360 * 360)), (13, .int (v_L_rings_223 y k)), (9, .int (v_L_rings_182 y)), (8, .int (v_L_rings_167 y)), (6, .int (v_L_rings_112 y)), (5, .int (v_L_rings_98 y)), (4, .int (v_L_rings_68 y)), (3, .int (v_L_rings_26 y)), (0, .ref qo), (1, .int y), (2, .ref qT), (7, .int (nI (rg_n (v_L_rings_26 y) (v_L_rings_68 y)))), (12, .int (nI k)), (10, .int ((lp_L_rings_193 br y k).1)), (11, .int ((lp_L_rings_193 br y k).2))]) hx hb dL_rings_238 hl (by decide) rfl (fun ls hl => ?_)
                      have hl : lv_has ls 16 [(14, .int (v_L_rings_238 y k)), (13, .int (v_L_rings_223 y k)), (9, .int (v_L_rings_182 y)), (8, .int (v_L_rings_167 y)), (6, .int (v_L_rings_112 y)), (5, .int (v_L_rings_98 y)), (4, .int (v_L_rings_68 y)), (3, .int (v_L_rings_26 y)), (0, .ref qo), (1, .int y), (2, .ref qT), (7, .int (nI (rg_n (v_L_rings_26 y) (v_L_rings_68 y)))), (12, .int (nI k)), (10, .int ((lp_L_rings_193 br y k).1)), (11, .int ((lp_L_rings_193 br y k).2))] := hl
                      refine lv_iload hx hb dL_rings_240 (lv_at hl 2 rfl) ?_
                      have K107 : ∀ v107_0 : Int32, v107_0 = (if (v_L_rings_182 y) ≤ 0 then (if (v_L_rings_223 y k) = 0 then 1 else 0) else (if (v_L_rings_238 y k) = 0 then 1 else 0)) → ∀ (H : Heap) (locs : List Loc), va_P D vwCl [(qo, .inr (4, [.ref qm, .ref qb, .ref qr, .ref qf])), (qm, .inr (2, [.ref qw, .ref qh])), (qw, .inl (cI, 10, .inl fw)), (qh, .inl (cI, 10, .inl fh)), (qr, .inr (3, [.int br])), (qf, .inr (1, [.ref qx, .ref qy, .ref qz, .ref qu, .int (nI nC), .int (nI nR), .int nf])), (qT, .inl (cI, 33, .inl gt))] H → va_D A [(qo, .inr (4, [.ref qm, .ref qb, .ref qr, .ref qf])), (qm, .inr (2, [.ref qw, .ref qh])), (qw, .inl (cI, 10, .inl fw)), (qh, .inl (cI, 10, .inl fh)), (qr, .inr (3, [.int br])), (qf, .inr (1, [.ref qx, .ref qy, .ref qz, .ref qu, .int (nI nC), .int (nI nR), .int nf])), (qT, .inl (cI, 33, .inl gt))] → va_S A s.heap H locs → ∀ (ls : Array Slot), lv_has ls 16 [(14, .int (v_L_rings_238 y k)), (13, .int (v_L_rings_223 y k)), (9, .int (v_L_rings_182 y)), (8, .int (v_L_rings_167 y)), (6, .int (v_L_rings_112 y)), (5, .int (v_L_rings_98 y)), (4, .int (v_L_rings_68 y)), (3, .int (v_L_rings_26 y)), (0, .ref qo), (1, .int y), (2, .ref qT), (7, .int (nI (rg_n (v_L_rings_26 y) (v_L_rings_68 y)))), (12, .int (nI k)), (10, .int ((lp_L_rings_193 br y k).1)), (11, .int ((lp_L_rings_193 br y k).2))] → W p l e (headSpec wsL_rings rm_L_rings).room s m ([.ref qo, .int y, .ref qT]).toArray below meth c H locs 0 0 (MQ below (Qc_L_rings D cI cZ cJ cD qo qm qb qr qf qw qh fw fh br qx qy qz qu nC nR nf qT gt y A) ([.ref qo, .int y, .ref qT]).toArray s 80 480 A) (F0 m 268 ls [.int v107_0]) := by
                        intro v107_0 hv107_0 H locs hP hD hS ls hl
                        subst hv107_0
                        refine lv_istore (lv' := [(15, .int (if (v_L_rings_182 y) ≤ 0 then (if (v_L_rings_223 y k) = 0 then 1 else 0) else (if (v_L_rings_238 y k) = 0 then 1 else 0))), (14, .int (v_L_rings_238 y k)), (13, .int (v_L_rings_223 y k)), (9, .int (v_L_rings_182 y)), (8, .int (v_L_rings_167 y)), (6, .int (v_L_rings_112 y)), (5, .int (v_L_rings_98 y)), (4, .int (v_L_rings_68 y)), (3, .int (v_L_rings_26 y)), (0, .ref qo), (1, .int y), (2, .ref qT), (7, .int (nI (rg_n (v_L_rings_26 y) (v_L_rings_68 y)))), (12, .int (nI k)), (10, .int ((lp_L_rings_193 br y k).1)), (11, .int ((lp_L_rings_193 br y k).2))]) hx hb dL_rings_268 hl (by decide) rfl (fun ls hl => ?_)
                        have hl : lv_has ls 16 [(15, .int (v_L_rings_268 y k)), (14, .int (v_L_rings_238 y k)), (13, .int (v_L_rings_223 y k)), (9, .int (v_L_rings_182 y)), (8, .int (v_L_rings_167 y)), (6, .int (v_L_rings_112 y)), (5, .int (v_L_rings_98 y)), (4, .int (v_L_rings_68 y)), (3, .int (v_L_rings_26 y)), (0, .ref qo), (1, .int y), (2, .ref qT), (7, .int (nI (rg_n (v_L_rings_26 y) (v_L_rings_68 y)))), (12, .int (nI k)), (10, .int ((lp_L_rings_193 br y k).1)), (11, .int ((lp_L_rings_193 br y k).2))] := hl
                        refine lv_iload hx hb dL_rings_270 (lv_at hl 14 rfl) ?_
                        refine lv_iload hx hb dL_rings_272 (lv_at hl 0 rfl) ?_
                        have K109 : ∀ v109_0 : Int32, v109_0 = (if (v_L_rings_268 y k) = 0 then (if ((v_L_rings_223 y k) / br) = ((v_L_rings_238 y k) / br) then 0 else 1) else 1) → ∀ (H : Heap) (locs : List Loc), va_P D vwCl [(qo, .inr (4, [.ref qm, .ref qb, .ref qr, .ref qf])), (qm, .inr (2, [.ref qw, .ref qh])), (qw, .inl (cI, 10, .inl fw)), (qh, .inl (cI, 10, .inl fh)), (qr, .inr (3, [.int br])), (qf, .inr (1, [.ref qx, .ref qy, .ref qz, .ref qu, .int (nI nC), .int (nI nR), .int nf])), (qT, .inl (cI, 33, .inl gt))] H → va_D A [(qo, .inr (4, [.ref qm, .ref qb, .ref qr, .ref qf])), (qm, .inr (2, [.ref qw, .ref qh])), (qw, .inl (cI, 10, .inl fw)), (qh, .inl (cI, 10, .inl fh)), (qr, .inr (3, [.int br])), (qf, .inr (1, [.ref qx, .ref qy, .ref qz, .ref qu, .int (nI nC), .int (nI nR), .int nf])), (qT, .inl (cI, 33, .inl gt))] → va_S A s.heap H locs → ∀ (ls : Array Slot), lv_has ls 16 [(15, .int (v_L_rings_268 y k)), (14, .int (v_L_rings_238 y k)), (13, .int (v_L_rings_223 y k)), (9, .int (v_L_rings_182 y)), (8, .int (v_L_rings_167 y)), (6, .int (v_L_rings_112 y)), (5, .int (v_L_rings_98 y)), (4, .int (v_L_rings_68 y)), (3, .int (v_L_rings_26 y)), (0, .ref qo), (1, .int y), (2, .ref qT), (7, .int (nI (rg_n (v_L_rings_26 y) (v_L_rings_68 y)))), (12, .int (nI k)), (10, .int ((lp_L_rings_193 br y k).1)), (11, .int ((lp_L_rings_193 br y k).2))] → W p l e (headSpec wsL_rings rm_L_rings).room s m ([.ref qo, .int y, .ref qT]).toArray below meth c H locs 0 0 (MQ below (Qc_L_rings D cI cZ cJ cD qo qm qb qr qf qw qh fw fh br qx qy qz qu nC nR nf qT gt y A) ([.ref qo, .int y, .ref qT]).toArray s 80 480 A) (F0 m 299 ls [.int v109_0, .int ((lp_L_rings_193 br y k).1)]) := by
                          intro v109_0 hv109_0 H locs hP hD hS ls hl
                          subst hv109_0
                          refine lv_iadd hx hb dL_rings_299 ?_
                          refine lv_istore (lv' := [(10, .int (((lp_L_rings_193 br y k).1) + (if (v_L_rings_268 y k) = 0 then (if ((v_L_rings_223 y k) / br) = ((v_L_rings_238 y k) / br) then 0 else 1) else 1))), (15, .int (v_L_rings_268 y k)), (14, .int (v_L_rings_238 y k)), (13, .int (v_L_rings_223 y k)), (9, .int (v_L_rings_182 y)), (8, .int (v_L_rings_167 y)), (6, .int (v_L_rings_112 y)), (5, .int (v_L_rings_98 y)), (4, .int (v_L_rings_68 y)), (3, .int (v_L_rings_26 y)), (0, .ref qo), (1, .int y), (2, .ref qT), (7, .int (nI (rg_n (v_L_rings_26 y) (v_L_rings_68 y)))), (12, .int (nI k)), (11, .int ((lp_L_rings_193 br y k).2))]) hx hb dL_rings_300 hl (by decide) rfl (fun ls hl => ?_)
                          have hl : lv_has ls 16 [(10, .int (v_L_rings_300 br y ((lp_L_rings_193 br y k).1) k)), (15, .int (v_L_rings_268 y k)), (14, .int (v_L_rings_238 y k)), (13, .int (v_L_rings_223 y k)), (9, .int (v_L_rings_182 y)), (8, .int (v_L_rings_167 y)), (6, .int (v_L_rings_112 y)), (5, .int (v_L_rings_98 y)), (4, .int (v_L_rings_68 y)), (3, .int (v_L_rings_26 y)), (0, .ref qo), (1, .int y), (2, .ref qT), (7, .int (nI (rg_n (v_L_rings_26 y) (v_L_rings_68 y)))), (12, .int (nI k)), (11, .int ((lp_L_rings_193 br y k).2))] := hl
                          refine lv_iload hx hb dL_rings_302 (lv_at hl 15 rfl) ?_
                          refine lv_iload hx hb dL_rings_304 (lv_at hl 1 rfl) ?_
                          have K111 : ∀ v111_0 : Int32, v111_0 = (if (v_L_rings_268 y k) = 0 then 0 else v_L_rings_182 y) → ∀ (H : Heap) (locs : List Loc), va_P D vwCl [(qo, .inr (4, [.ref qm, .ref qb, .ref qr, .ref qf])), (qm, .inr (2, [.ref qw, .ref qh])), (qw, .inl (cI, 10, .inl fw)), (qh, .inl (cI, 10, .inl fh)), (qr, .inr (3, [.int br])), (qf, .inr (1, [.ref qx, .ref qy, .ref qz, .ref qu, .int (nI nC), .int (nI nR), .int nf])), (qT, .inl (cI, 33, .inl gt))] H → va_D A [(qo, .inr (4, [.ref qm, .ref qb, .ref qr, .ref qf])), (qm, .inr (2, [.ref qw, .ref qh])), (qw, .inl (cI, 10, .inl fw)), (qh, .inl (cI, 10, .inl fh)), (qr, .inr (3, [.int br])), (qf, .inr (1, [.ref qx, .ref qy, .ref qz, .ref qu, .int (nI nC), .int (nI nR), .int nf])), (qT, .inl (cI, 33, .inl gt))] → va_S A s.heap H locs → ∀ (ls : Array Slot), lv_has ls 16 [(10, .int (v_L_rings_300 br y ((lp_L_rings_193 br y k).1) k)), (15, .int (v_L_rings_268 y k)), (14, .int (v_L_rings_238 y k)), (13, .int (v_L_rings_223 y k)), (9, .int (v_L_rings_182 y)), (8, .int (v_L_rings_167 y)), (6, .int (v_L_rings_112 y)), (5, .int (v_L_rings_98 y)), (4, .int (v_L_rings_68 y)), (3, .int (v_L_rings_26 y)), (0, .ref qo), (1, .int y), (2, .ref qT), (7, .int (nI (rg_n (v_L_rings_26 y) (v_L_rings_68 y)))), (12, .int (nI k)), (11, .int ((lp_L_rings_193 br y k).2))] → W p l e (headSpec wsL_rings rm_L_rings).room s m ([.ref qo, .int y, .ref qT]).toArray below meth c H locs 0 0 (MQ below (Qc_L_rings D cI cZ cJ cD qo qm qb qr qf qw qh fw fh br qx qy qz qu nC nR nf qT gt y A) ([.ref qo, .int y, .ref qT]).toArray s 80 480 A) (F0 m 315 ls [.int v111_0, .int ((lp_L_rings_193 br y k).2)]) := by
                            intro v111_0 hv111_0 H locs hP hD hS ls hl
                            subst hv111_0
                            refine lv_iadd hx hb dL_rings_315 ?_
                            refine lv_istore (lv' := [(11, .int (((lp_L_rings_193 br y k).2) + (if (v_L_rings_268 y k) = 0 then 0 else v_L_rings_182 y))), (10, .int (v_L_rings_300 br y ((lp_L_rings_193 br y k).1) k)), (15, .int (v_L_rings_268 y k)), (14, .int (v_L_rings_238 y k)), (13, .int (v_L_rings_223 y k)), (9, .int (v_L_rings_182 y)), (8, .int (v_L_rings_167 y)), (6, .int (v_L_rings_112 y)), (5, .int (v_L_rings_98 y)), (4, .int (v_L_rings_68 y)), (3, .int (v_L_rings_26 y)), (0, .ref qo), (1, .int y), (2, .ref qT), (7, .int (nI (rg_n (v_L_rings_26 y) (v_L_rings_68 y)))), (12, .int (nI k))]) hx hb dL_rings_316 hl (by decide) rfl (fun ls hl => ?_)
                            have hl : lv_has ls 16 [(11, .int (v_L_rings_316 y ((lp_L_rings_193 br y k).2) k)), (10, .int (v_L_rings_300 br y ((lp_L_rings_193 br y k).1) k)), (15, .int (v_L_rings_268 y k)), (14, .int (v_L_rings_238 y k)), (13, .int (v_L_rings_223 y k)), (9, .int (v_L_rings_182 y)), (8, .int (v_L_rings_167 y)), (6, .int (v_L_rings_112 y)), (5, .int (v_L_rings_98 y)), (4, .int (v_L_rings_68 y)), (3, .int (v_L_rings_26 y)), (0, .ref qo), (1, .int y), (2, .ref qT), (7, .int (nI (rg_n (v_L_rings_26 y) (v_L_rings_68 y)))), (12, .int (nI k))] := hl
                            refine lv_iinc (v := nI (k + 1)) (lv' := [(12, .int (nI (k + 1))), (11, .int (v_L_rings_316 y ((lp_L_rings_193 br y k).2) k)), (10, .int (v_L_rings_300 br y ((lp_L_rings_193 br y k).1) k)), (15, .int (v_L_rings_268 y k)), (14, .int (v_L_rings_238 y k)), (13, .int (v_L_rings_223 y k)), (9, .int (v_L_rings_182 y)), (8, .int (v_L_rings_167 y)), (6, .int (v_L_rings_112 y)), (5, .int (v_L_rings_98 y)), (4, .int (v_L_rings_68 y)), (3, .int (v_L_rings_26 y)), (0, .ref qo), (1, .int y), (2, .ref qT), (7, .int (nI (rg_n (v_L_rings_26 y) (v_L_rings_68 y))))]) hx hb dL_rings_318 hl (k := 15) rfl (nI_succ k).symm (by decide) rfl (fun ls hl => ?_)
                            refine lv_goto (tgt := 193) hx hb dL_rings_321 (by decide) ?_
                            have hltk : k < (v_L_rings_167 y).toInt.toNat := rg_wlt hkk c105
                            exact ih70 (k + 1) _ _ (by omega) (by omega) rfl rfl _ _ hP hD hS _ (lv_sub hl [6, 7, 8, 9, 10, 11, 12, 13, 14, 15, 0, 2, 1] rfl)
                          refine lv_if_eq (tgt := 314) hx hb dL_rings_306 (by decide) (fun c112 => ?_) (fun c112 => ?_)
                          · refine lv_iconst (v := 0) hx hb dL_rings_314 (by decide) ?_
                            exact K111 _ (if_pos c112).symm _ _ hP hD hS _ (lv_sub hl [0, 1, 2, 3, 4, 5, 6, 7, 8, 9, 10, 11, 12, 13, 14, 15] rfl)
                          · refine lv_iload hx hb dL_rings_309 (lv_at hl 4 rfl) ?_
                            refine lv_goto (tgt := 315) hx hb dL_rings_311 (by decide) ?_
                            exact K111 _ (if_neg c112).symm _ _ hP hD hS _ (lv_sub hl [0, 1, 2, 3, 4, 5, 6, 7, 8, 9, 10, 11, 12, 13, 14, 15] rfl)
                        refine lv_if_ne (tgt := 294) hx hb dL_rings_274 (by decide) (fun c113 => ?_) (fun c113 => ?_)
                        · refine lv_iconst (v := 1) hx hb dL_rings_294 (by decide) ?_
                          refine lv_goto (tgt := 299) hx hb dL_rings_295 (by decide) ?_
                          exact K109 _ (if_neg c113).symm _ _ hP hD hS _ (lv_sub hl [0, 1, 2, 3, 4, 5, 6, 7, 8, 9, 10, 11, 12, 13, 14, 15] rfl)
                        · refine lv_iload hx hb dL_rings_277 (lv_at hl 2 rfl) ?_
                          refine lv_aload_n hx hb dL_rings_279 rfl (lv_at hl 11 rfl) ?_
                          refine lv_bipush (v := 29) hx hb dL_rings_280 (by decide) ?_
                          refine va_iald hx hb hK hP 6 0 rfl rfl (z_inc (k := 29) rfl (by decide)) dL_rings_282 ?_
                          rw [show gt (29 : Int32).toNatClampNeg = br from h29]
                          refine lv_idiv hx hb dL_rings_283 hbr ?_
                          refine lv_iload hx hb dL_rings_284 (lv_at hl 1 rfl) ?_
                          refine lv_aload_n hx hb dL_rings_286 rfl (lv_at hl 11 rfl) ?_
                          refine lv_bipush (v := 29) hx hb dL_rings_287 (by decide) ?_
                          refine va_iald hx hb hK hP 6 0 rfl rfl (z_inc (k := 29) rfl (by decide)) dL_rings_289 ?_
                          rw [show gt (29 : Int32).toNatClampNeg = br from h29]
                          refine lv_idiv hx hb dL_rings_290 hbr ?_
                          refine lv_icmp_eq (tgt := 298) hx hb dL_rings_291 (by decide) (fun c114 => ?_) (fun c114 => ?_)
                          · refine lv_iconst (v := 0) hx hb dL_rings_298 (by decide) ?_
                            exact K109 _ ((if_pos c113).trans (if_pos c114)).symm _ _ hP hD hS _ (lv_sub hl [0, 1, 2, 3, 4, 5, 6, 7, 8, 9, 10, 11, 12, 13, 14, 15] rfl)
                          · refine lv_iconst (v := 1) hx hb dL_rings_294 (by decide) ?_
                            refine lv_goto (tgt := 299) hx hb dL_rings_295 (by decide) ?_
                            exact K109 _ ((if_pos c113).trans (if_neg c114)).symm _ _ hP hD hS _ (lv_sub hl [0, 1, 2, 3, 4, 5, 6, 7, 8, 9, 10, 11, 12, 13, 14, 15] rfl)
                      refine lv_if_le (tgt := 258) hx hb dL_rings_242 (by decide) (fun c115 => ?_) (fun c115 => ?_)
                      · refine lv_iload hx hb dL_rings_258 (lv_at hl 1 rfl) ?_
                        refine lv_if_ne (tgt := 267) hx hb dL_rings_260 (by decide) (fun c116 => ?_) (fun c116 => ?_)
                        · refine lv_iconst (v := 0) hx hb dL_rings_267 (by decide) ?_
                          exact K107 _ ((if_pos c115).trans (if_neg c116)).symm _ _ hP hD hS _ (lv_sub hl [0, 1, 2, 3, 4, 5, 6, 7, 8, 9, 10, 11, 12, 13, 14] rfl)
                        · refine lv_iconst (v := 1) hx hb dL_rings_263 (by decide) ?_
                          refine lv_goto (tgt := 268) hx hb dL_rings_264 (by decide) ?_
                          exact K107 _ ((if_pos c115).trans (if_pos c116)).symm _ _ hP hD hS _ (lv_sub hl [0, 1, 2, 3, 4, 5, 6, 7, 8, 9, 10, 11, 12, 13, 14] rfl)
                      · refine lv_iload hx hb dL_rings_245 (lv_at hl 0 rfl) ?_
                        refine lv_if_ne (tgt := 254) hx hb dL_rings_247 (by decide) (fun c117 => ?_) (fun c117 => ?_)
                        · refine lv_iconst (v := 0) hx hb dL_rings_254 (by decide) ?_
                          refine lv_goto (tgt := 268) hx hb dL_rings_255 (by decide) ?_
                          exact K107 _ ((if_neg c115).trans (if_neg c117)).symm _ _ hP hD hS _ (lv_sub hl [0, 1, 2, 3, 4, 5, 6, 7, 8, 9, 10, 11, 12, 13, 14] rfl)
                        · refine lv_iconst (v := 1) hx hb dL_rings_250 (by decide) ?_
                          refine lv_goto (tgt := 268) hx hb dL_rings_251 (by decide) ?_
                          exact K107 _ ((if_neg c115).trans (if_pos c117)).symm _ _ hP hD hS _ (lv_sub hl [0, 1, 2, 3, 4, 5, 6, 7, 8, 9, 10, 11, 12, 13, 14] rfl)
                exact L70 ((v_L_rings_167 y).toInt.toNat + 1) 0 _ _ (Nat.zero_le _) (by omega) rfl rfl _ _ hP hD hS _ (zlv (lv_sub (l' := [(9, .int (v_L_rings_182 y)), (8, .int (v_L_rings_167 y)), (6, .int (v_L_rings_112 y)), (5, .int (v_L_rings_98 y)), (4, .int (v_L_rings_68 y)), (3, .int (v_L_rings_26 y)), (0, .ref qo), (1, .int y), (2, .ref qT), (7, .int (nI (rg_n (v_L_rings_26 y) (v_L_rings_68 y)))), (12, .int 0), (10, .int 0), (11, .int 0)]) hl [3, 4, 5, 6, 7, 8, 9, 10, 11, 12, 0, 2, 1] rfl) (by rfl))
              refine lv_icmp_gt (tgt := 181) hx hb dL_rings_174 (by decide) (fun c118 => ?_) (fun c118 => ?_)
              · refine lv_iconst (v := (-1)) hx hb dL_rings_181 (by decide) ?_
                exact K69 _ (if_pos c118).symm _ _ hP hD hS _ (lv_sub hl [0, 1, 2, 3, 4, 5, 6, 7, 8] rfl)
              · refine lv_iconst (v := 1) hx hb dL_rings_177 (by decide) ?_
                refine lv_goto (tgt := 182) hx hb dL_rings_178 (by decide) ?_
                exact K69 _ (if_neg c118).symm _ _ hP hD hS _ (lv_sub hl [0, 1, 2, 3, 4, 5, 6, 7, 8] rfl)
            refine lv_icmp_gt (tgt := 161) hx hb dL_rings_153 (by decide) (fun c119 => ?_) (fun c119 => ?_)
            · refine lv_sipush (v := 360) hx hb dL_rings_161 (by decide) ?_
              refine lv_iload hx hb dL_rings_164 (lv_at hl 7 rfl) ?_
              refine lv_isub hx hb dL_rings_166 ?_
              exact K67 _ (if_pos c119).symm _ _ hP hD hS _ (lv_sub hl [0, 1, 2, 3, 4, 5, 6, 7] rfl)
            · refine lv_iload hx hb dL_rings_156 (lv_at hl 7 rfl) ?_
              refine lv_goto (tgt := 167) hx hb dL_rings_158 (by decide) ?_
              exact K67 _ (if_neg c119).symm _ _ hP hD hS _ (lv_sub hl [0, 1, 2, 3, 4, 5, 6, 7] rfl)
          have L65 : ∀ (n65 k : Nat), k ≤ rg_n (v_L_rings_26 y) (v_L_rings_68 y) → rg_n (v_L_rings_26 y) (v_L_rings_68 y) < k + n65 → ∀ (H : Heap) (locs : List Loc), va_P D vwCl [(qo, .inr (4, [.ref qm, .ref qb, .ref qr, .ref qf])), (qm, .inr (2, [.ref qw, .ref qh])), (qw, .inl (cI, 10, .inl fw)), (qh, .inl (cI, 10, .inl fh)), (qr, .inr (3, [.int br])), (qf, .inr (1, [.ref qx, .ref qy, .ref qz, .ref qu, .int (nI nC), .int (nI nR), .int nf])), (qT, .inl (cI, 33, .inl gt))] H → va_D A [(qo, .inr (4, [.ref qm, .ref qb, .ref qr, .ref qf])), (qm, .inr (2, [.ref qw, .ref qh])), (qw, .inl (cI, 10, .inl fw)), (qh, .inl (cI, 10, .inl fh)), (qr, .inr (3, [.int br])), (qf, .inr (1, [.ref qx, .ref qy, .ref qz, .ref qu, .int (nI nC), .int (nI nR), .int nf])), (qT, .inl (cI, 33, .inl gt))] → va_S A s.heap H locs → ∀ (ls : Array Slot), lv_has ls 16 [(6, .int (v_L_rings_112 y)), (5, .int (v_L_rings_98 y)), (4, .int (v_L_rings_68 y)), (3, .int (v_L_rings_26 y)), (0, .ref qo), (1, .int y), (2, .ref qT), (7, .int (nI k))] → W p l e (headSpec wsL_rings rm_L_rings).room s m ([.ref qo, .int y, .ref qT]).toArray below meth c H locs 0 0 (MQ below (Qc_L_rings D cI cZ cJ cD qo qm qb qr qf qw qh fw fh br qx qy qz qu nC nR nf qT gt y A) ([.ref qo, .int y, .ref qT]).toArray s 80 480 A) (F0 m 117 ls []) := by
            intro n65
            induction n65 with
            | zero =>
              intro k  hkk hf65
              exact absurd hf65 (by omega)
            | succ n65 ih65 =>
              intro k  hkk hf65  H locs hP hD hS ls hl
              refine lv_iload_n hx hb dL_rings_117 rfl (lv_at hl 3 rfl) ?_
              refine lv_iload hx hb dL_rings_118 (lv_at hl 7 rfl) ?_
              refine lv_iadd hx hb dL_rings_120 ?_
              refine lv_sipush (v := 720) hx hb dL_rings_121 (by decide) ?_
              refine lv_iadd hx hb dL_rings_124 ?_
              refine lv_sipush (v := 360) hx hb dL_rings_125 (by decide) ?_
              refine lv_irem hx hb dL_rings_128 (by decide) ?_
              refine lv_iload hx hb dL_rings_129 (lv_at hl 2 rfl) ?_
              refine lv_sipush (v := 720) hx hb dL_rings_131 (by decide) ?_
              refine lv_iadd hx hb dL_rings_134 ?_
              refine lv_sipush (v := 360) hx hb dL_rings_135 (by decide) ?_
              refine lv_irem hx hb dL_rings_138 (by decide) ?_
              refine lv_icmp_eq (tgt := 148) hx hb dL_rings_139 (by decide) (fun c120 => ?_) (fun c120 => ?_)
              · have hgek : rg_n (v_L_rings_26 y) (v_L_rings_68 y) ≤ k := rg_ge hkk c120
                have ekk : k = rg_n (v_L_rings_26 y) (v_L_rings_68 y) := by omega
                subst ekk
                exact X65 _ _ hP hD hS _ (lv_sub hl [0, 1, 2, 3, 4, 5, 6, 7] rfl)
              · refine lv_iinc (v := nI (k + 1)) (lv' := [(7, .int (nI (k + 1))), (6, .int (v_L_rings_112 y)), (5, .int (v_L_rings_98 y)), (4, .int (v_L_rings_68 y)), (3, .int (v_L_rings_26 y)), (0, .ref qo), (1, .int y), (2, .ref qT)]) hx hb dL_rings_142 hl (k := 7) rfl (nI_succ k).symm (by decide) rfl (fun ls hl => ?_)
                refine lv_goto (tgt := 117) hx hb dL_rings_145 (by decide) ?_
                have hltk : k < rg_n (v_L_rings_26 y) (v_L_rings_68 y) := rg_lt hkk c120
                exact ih65 (k + 1)  (by omega) (by omega)  _ _ hP hD hS _ (lv_sub hl [1, 2, 3, 4, 5, 6, 7, 0] rfl)
          exact L65 (rg_n (v_L_rings_26 y) (v_L_rings_68 y) + 1) 0  (Nat.zero_le _) (by omega)  _ _ hP hD hS _ (zlv (lv_sub (l' := [(6, .int (v_L_rings_112 y)), (5, .int (v_L_rings_98 y)), (4, .int (v_L_rings_68 y)), (3, .int (v_L_rings_26 y)), (0, .ref qo), (1, .int y), (2, .ref qT), (7, .int 0)]) hl [1, 2, 3, 4, 5, 6, 7, 0] rfl) (by rfl))
        refine lv_icmp_lt (tgt := 111) hx hb dL_rings_104 (by decide) (fun c121 => ?_) (fun c121 => ?_)
        · refine lv_iconst (v := 0) hx hb dL_rings_111 (by decide) ?_
          exact K64 _ (if_pos c121).symm _ _ hP hD hS _ (lv_sub hl [0, 1, 2, 3, 4, 5] rfl)
        · refine lv_iconst (v := 1) hx hb dL_rings_107 (by decide) ?_
          refine lv_goto (tgt := 112) hx hb dL_rings_108 (by decide) ?_
          exact K64 _ (if_neg c121).symm _ _ hP hD hS _ (lv_sub hl [0, 1, 2, 3, 4, 5] rfl)
      refine lv_if_ne (tgt := 86) hx hb dL_rings_78 (by decide) (fun c122 => ?_) (fun c122 => ?_)
      · refine lv_iload_n hx hb dL_rings_86 rfl (lv_at hl 3 rfl) ?_
        refine lv_iconst (v := 3) hx hb dL_rings_87 (by decide) ?_
        refine lv_ishr hx hb dL_rings_88 ?_
        refine lv_sipush (v := 181) hx hb dL_rings_89 (by decide) ?_
        refine va_calli (va_runS (As := [.int (y >>> ((3 : Int32) &&& 31)), .int 181]) (rest := []) ⟨hx, hb, hml, hown, hts⟩ (c_L_some l D cI cZ cJ cD (y >>> ((3 : Int32) &&& 31)) 181 (by decide)) (va_cwS 2 hts gL_rings_L_some rfl rfl rfl (by decide +kernel) ⟨Nat.le_of_ble_eq_true rfl, Nat.le_of_ble_eq_true rfl⟩) ⟨zblind, (fun U hU hW => ⟨rfl, by rw [hU]; exact hP.sub (ws' := []) [] rfl, va_K.moved hW.alike hK⟩)⟩ rfl rfl hl.1 rfl (lv_room (Nat.le_of_ble_eq_true rfl)) dL_rings_92 ⟨(show _ ≤ 80 from by omega), (show _ ≤ 480 from by omega)⟩) hS (fun q _ h => h.elim) (fun q h => h.elim) (fun r123 u t H locs ht hvm hw hB hz1 hk1 hS => ?_)
        rw [hw]
        have hP := zk hP hk1
        refine lv_bipush (v := 90) hx hb dL_rings_95 (by decide) ?_
        refine lv_isub hx hb dL_rings_97 ?_
        exact K62 _ (if_neg c122).symm _ _ hP hD hS _ (lv_sub hl [0, 1, 2, 3, 4] rfl)
      · refine lv_bipush (v := (-91)) hx hb dL_rings_81 (by decide) ?_
        refine lv_goto (tgt := 98) hx hb dL_rings_83 (by decide) ?_
        exact K62 _ (if_pos c122).symm _ _ hP hD hS _ (lv_sub hl [0, 1, 2, 3, 4] rfl)
    refine lv_if_ne (tgt := 55) hx hb dL_rings_36 (by decide) (fun c124 => ?_) (fun c124 => ?_)
    · refine lv_iload_n hx hb dL_rings_55 rfl (lv_at hl 2 rfl) ?_
      refine lv_iconst (v := 5) hx hb dL_rings_56 (by decide) ?_
      refine lv_ishr hx hb dL_rings_57 ?_
      refine lv_sipush (v := 360) hx hb dL_rings_58 (by decide) ?_
      refine va_calli (va_runS (As := [.int (y >>> ((5 : Int32) &&& 31)), .int 360]) (rest := []) ⟨hx, hb, hml, hown, hts⟩ (c_L_some l D cI cZ cJ cD (y >>> ((5 : Int32) &&& 31)) 360 (by decide)) (va_cwS 2 hts gL_rings_L_some rfl rfl rfl (by decide +kernel) ⟨Nat.le_of_ble_eq_true rfl, Nat.le_of_ble_eq_true rfl⟩) ⟨zblind, (fun U hU hW => ⟨rfl, by rw [hU]; exact hP.sub (ws' := []) [] rfl, va_K.moved hW.alike hK⟩)⟩ rfl rfl hl.1 rfl (lv_room (Nat.le_of_ble_eq_true rfl)) dL_rings_61 ⟨(show _ ≤ 80 from by omega), (show _ ≤ 480 from by omega)⟩) hS (fun q _ h => h.elim) (fun q h => h.elim) (fun r125 u t H locs ht hvm hw hB hz1 hk1 hS => ?_)
      rw [hw]
      have hP := zk hP hk1
      refine lv_sipush (v := 180) hx hb dL_rings_64 (by decide) ?_
      refine lv_isub hx hb dL_rings_67 ?_
      exact K59 _ (if_neg c124).symm _ _ hP hD hS _ (lv_sub hl [0, 1, 2, 3] rfl)
    · refine lv_iload_n hx hb dL_rings_39 rfl (lv_at hl 0 rfl) ?_
      refine lv_sipush (v := 540) hx hb dL_rings_40 (by decide) ?_
      refine lv_iadd hx hb dL_rings_43 ?_
      refine lv_sipush (v := 360) hx hb dL_rings_44 (by decide) ?_
      refine lv_irem hx hb dL_rings_47 (by decide) ?_
      refine lv_sipush (v := 180) hx hb dL_rings_48 (by decide) ?_
      refine lv_isub hx hb dL_rings_51 ?_
      refine lv_goto (tgt := 68) hx hb dL_rings_52 (by decide) ?_
      exact K59 _ (if_pos c124).symm _ _ hP hD hS _ (lv_sub hl [0, 1, 2, 3] rfl)
  refine lv_if_ne (tgt := 15) hx hb dL_rings_6 (by decide) (fun c126 => ?_) (fun c126 => ?_)
  · refine lv_iload_n hx hb dL_rings_15 rfl (lv_at hl 1 rfl) ?_
    refine lv_sipush (v := 360) hx hb dL_rings_16 (by decide) ?_
    refine va_calli (va_runS (As := [.int y, .int 360]) (rest := []) ⟨hx, hb, hml, hown, hts⟩ (c_L_some l D cI cZ cJ cD y 360 (by decide)) (va_cwS 2 hts gL_rings_L_some rfl rfl rfl (by decide +kernel) ⟨Nat.le_of_ble_eq_true rfl, Nat.le_of_ble_eq_true rfl⟩) ⟨zblind, (fun U hU hW => ⟨rfl, by rw [hU]; exact hP.sub (ws' := []) [] rfl, va_K.moved hW.alike hK⟩)⟩ rfl rfl hl.1 rfl (lv_room (Nat.le_of_ble_eq_true rfl)) dL_rings_19 ⟨(show _ ≤ 80 from by omega), (show _ ≤ 480 from by omega)⟩) hS (fun q _ h => h.elim) (fun q h => h.elim) (fun r127 u t H locs ht hvm hw hB hz1 hk1 hS => ?_)
    rw [hw]
    have hP := zk hP hk1
    refine lv_sipush (v := 180) hx hb dL_rings_22 (by decide) ?_
    refine lv_isub hx hb dL_rings_25 ?_
    exact K56 _ (if_neg c126).symm _ _ hP hD hS _ (lv_sub hl [0, 1, 2] rfl)
  · refine lv_sipush (v := (-181)) hx hb dL_rings_9 (by decide) ?_
    refine lv_goto (tgt := 26) hx hb dL_rings_12 (by decide) ?_
    exact K56 _ (if_pos c126).symm _ _ hP hD hS _ (lv_sub hl [0, 1, 2] rfl)
