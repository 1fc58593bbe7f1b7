/-! the class's state held against the reference's -/
def zTabI (fw fh gw gh : Nat → Int32) : Prop := (∀ j : Nat, j < 10 → fw j = gw j ∧ fh j = gh j) ∧ (∀ j : Nat, j < 10 → 0 ≤ (fw j).toInt ∧ (fw j).toInt ≤ 1000 ∧ 0 ≤ (fh j).toInt ∧ (fh j).toInt ≤ 9999) ∧ fh 0 = 0 ∧ ∀ j : Nat, j < 9 → (fh j).toInt < (fh (j + 1)).toInt
def zTruI (ft gt : Nat → Int32) : Prop := ∀ j : Nat, j < 9 → ft j = gt j ∧ 1 ≤ (ft j).toInt ∧ (ft j).toInt ≤ 99999
def zZonI (br bg : Int32) : Prop := br = bg ∧ ∃ d : Nat, 1 ≤ d ∧ d ≤ 360 ∧ 360 % d = 0 ∧ br = nI d
/-- where the panels lie: the places in a span that gets less with each fold, the layers below 2 ^ folds, no two panels at one place in one layer -/
def zFoI (N : Nat) (fx fy fz : Nat → Int32) : Prop := (∃ n a k a2 k2 : Nat, n + k + k2 ≤ 10 ∧ k ≤ 5 ∧ k2 ≤ 5 ∧ a + 5 * k ≤ 25 ∧ a2 + 5 * k2 ≤ 25 ∧ ∀ q : Nat, q < N → ∃ x y z : Nat, fx q = nI x ∧ a ≤ x ∧ x ≤ a + k ∧ fy q = nI y ∧ a2 ≤ y ∧ y ≤ a2 + k2 ∧ fz q = nI z ∧ z < 2 ^ n) ∧ ∀ q r : Nat, q < N → r < N → fx q = fx r → fy q = fy r → fz q = fz r → q = r
def zShI (nC nR : Nat) (nf : Int32) (fx fy fz fu : Nat → Int32) (jC jR mf : Int32) (gx gy gz gu : Nat → Int32) : Prop := (1 ≤ nC ∧ nC ≤ 6 ∧ 1 ≤ nR ∧ nR ≤ 6) ∧ jC = nI nC ∧ jR = nI nR ∧ nf = mf ∧ (∀ c r : Nat, c < nC → r < nR → fx (c * nR + r) = gx (6 * c + r) ∧ fy (c * nR + r) = gy (6 * c + r) ∧ fz (c * nR + r) = gz (6 * c + r) ∧ fu (c * nR + r) = gu (6 * c + r)) ∧ zFoI (nC * nR) fx fy fz
def zInv (fw : Nat → Int32) (fh : Nat → Int32) (ft : Nat → Int32) (br : Int32) (nC : Nat) (nR : Nat) (nf : Int32) (fx : Nat → Int32) (fy : Nat → Int32) (fz : Nat → Int32) (fu : Nat → Int32) (gw : Nat → Int32) (gh : Nat → Int32) (gt : Nat → Int32) (bg : Int32) (jC : Int32) (jR : Int32) (mf : Int32) (gx : Nat → Int32) (gy : Nat → Int32) (gz : Nat → Int32) (gu : Nat → Int32) : Prop := zTabI fw fh gw gh ∧ zTruI ft gt ∧ zZonI br bg ∧ zShI nC nR nf fx fy fz fu jC jR mf gx gy gz gu
theorem z_tr0 {x : Int32} (h : 1 ≤ x.toInt) : ¬ x = 0 := fun e => by rw [e] at h; exact absurd h (by decide)
theorem zInv_pre {fw : Nat → Int32} {fh : Nat → Int32} {ft : Nat → Int32} {br : Int32} {nC : Nat} {nR : Nat} {nf : Int32} {fx : Nat → Int32} {fy : Nat → Int32} {fz : Nat → Int32} {fu : Nat → Int32} {gw : Nat → Int32} {gh : Nat → Int32} {gt : Nat → Int32} {bg : Int32} {jC : Int32} {jR : Int32} {mf : Int32} {gx : Nat → Int32} {gy : Nat → Int32} {gz : Nat → Int32} {gu : Nat → Int32} (hI : zInv fw fh ft br nC nR nf fx fy fz fu gw gh gt bg jC jR mf gx gy gz gu) : nC * nR ≤ 36 ∧ nC ≤ 36 ∧ nR ≤ 36 ∧ (∀ j : Nat, j < 9 → ¬ ft j = 0) ∧ (∀ j : Nat, j < 9 → ¬ gt j = 0) ∧ (¬ bg = 0) ∧ jC ≤ 6 ∧ jR ≤ 6 := by
  obtain ⟨-, h2, ⟨h3, d, hd1, hd2, -, hd⟩, ⟨h41, h42, h43, h44⟩, h5, h6, -, -, -⟩ := hI
  refine ⟨Nat.mul_le_mul h42 h44, by omega, by omega, fun j hj => z_tr0 (h2 j hj).2.1, fun j hj => ?_, ?_, ?_, ?_⟩
  · rw [← (h2 j hj).1]
    exact z_tr0 (h2 j hj).2.1
  · rw [← h3, hd]
    exact nI_ne0 hd1 (by omega)
  · rw [h5]
    exact nI_le (a := nC) (b := 6) h42 (by omega)
  · rw [h6]
    exact nI_le (a := nR) (b := 6) h44 (by omega)
theorem z_rc {x : Nat} (h : x ≤ 655721) : x ≤ room_1.cells := h
theorem z_rs {x : Nat} (h : x ≤ 7128942) : x ≤ room_1.slots := h
theorem z_lc {x y : Int64} (h : x = y) : lg_cmp x y = 0 := by
  rw [h]
  unfold lg_cmp
  rw [if_neg (by rw [gt_iff_lt, Int64.lt_iff_toInt_lt]; omega), if_pos rfl]
theorem z_sx1 {i L : Nat} (hi : i + 5 ≤ L) (hL : L ≤ 2560) : vp_in (nI i + 1) L := by
  rw [show nI i + 1 = nI (i + 1) from nI_add i 1]
  exact vp_in_nI (by omega) (by omega)
theorem z_sx2 {i L : Nat} (hi : i + 5 ≤ L) (hL : L ≤ 2560) : vp_in (nI i + 2) L := by
  rw [show nI i + 2 = nI (i + 2) from nI_add i 2]
  exact vp_in_nI (by omega) (by omega)
theorem z_sx3 {i L : Nat} (hi : i + 5 ≤ L) (hL : L ≤ 2560) : vp_in (nI i + 3) L := by
  rw [show nI i + 3 = nI (i + 3) from nI_add i 3]
  exact vp_in_nI (by omega) (by omega)
theorem z_sx4 {i L : Nat} (hi : i + 5 ≤ L) (hL : L ≤ 2560) : vp_in (nI i + 4) L := by
  rw [show nI i + 4 = nI (i + 4) from nI_add i 4]
  exact vp_in_nI (by omega) (by omega)
-- ===== end of PART A; then your names; then what follows =====
/-! THE CLAIM OUT OF ONE WALK OF THE LAW'S BODY. Your part is whole_start (and what it stands on); all else here is the same for every law, but numbers. -/
def R_law : String := "AtlasFolderLaw"
def lw_P (b : Addr) (xs : List Int32) (args : Array Value) (s : State) : Prop := args = #[.ref b] ∧ s.IntsAt b xs ∧ xs.length ≤ 2560 ∧ (Jvm.Cond.and given_1 narrow_1).before args s = true
/-- what a walk over the start with the record d0 says of its end, said of the start itself -/
theorem lw_closed {s t : State} {o : Outcome} {d0 : Drawn} {L : List Loc} {k n : Nat} (hd0 : s.drawn.sameBut d0 lw_cs) (hv : ∃ v, o = .returned v) (hW : (s.setDrawn d0).WarmedH t.vm) (hs : (s.setDrawn d0).sameButNew ({ t with vm := s.vm } : State) L k n) : State.butDraws s t lw_cs (fun t1 => Framed s o t1 L k n) := by
  have h2 : t.drawn = d0 := congrArg State.drawn hs.1
  refine ⟨⟨hv, hW, State.sameButNew.setDrawn hs s.drawn⟩, ?_, by decide⟩
  rw [h2]
  exact hd0
def lw_Q (_ : Array Value) (s : State) (o : Outcome) (t : State) : Prop := o = .returned (some (.int 1)) ∧ State.butDraws s t lw_cs (fun t1 => Framed s o t1 [] 655721 7128942)
def lw_Z (below : List Frame) (a : Array Value) (s : State) : State → Prop := fun t => ∃ o, t.status = .running ∧ Ended t below o ∧ lw_Q a s o t
/-- the law's own end, with 1 on the stack, nothing written that was there before, its room as the claim has it; d0: the record of draws at this point (at the entry s.drawn: begin with 'refine W.base ?_' and 'have hd0 := Drawn.sameBut.refl s.drawn lw_cs') -/
theorem lw_ret {p : Program} {l : Launch} {e : Env} {s : State} {m : MethodId} {below : List Frame} {meth : Method} {c : Code} {b : Nat} {d0 : Drawn} (hd0 : s.drawn.sameBut d0 lw_cs) (hx : p.tables.exec = Jvm.exec) (hb : c.code = code) (hr : meth.sig.returnType = ret) (hlocks : meth.locks = false) {pc : Nat} {H : Heap} {ls : Array Slot} (hdg : decode code pc = .ok (.ireturn, 1)) : W p l e room_1 (s.setDrawn d0) m #[Value.ref b] below meth c H [] 655721 7128942 (lw_Z below #[Value.ref b] s) (F0 m pc ls [.int 1]) := by
  intro T hT X
  obtain ⟨fs, hret, hrun, hended, hW, hframe⟩ := X.leave (v := some (.int 1)) (hlocks := hlocks) (fun h => by rw [hr] at h; cases h)
  have hmeth' : T.vm.method? m = some meth := X.method'
  refine ⟨T.setFrames fs, ?_, .returned (some (.int 1)), hrun, hended, rfl, lw_closed hd0 ⟨_, rfl⟩ hW hframe⟩
  jvm_step X.here [X.here.top, hx, hb, hdg, hmeth', hr, ret, narrow_b1]
  (try refine ⟨rfl, ?_⟩); (try refine ⟨rfl, ?_⟩)
  first | (intro acts; rw [hret _ acts rfl rfl rfl]) | rw [hret _ _ rfl rfl rfl]
  exact Steps.refl _
/-- what holds at the law's entry: the machine, the code, the tables' words (any of lw_tbl by 'hts w (by decide +kernel)'), the script of L ints xs at the cell b, what the Statement gives of the start (any of its parts by flat_of_before) -/
def lw_At (p : Program) (s : State) (m : MethodId) (meth : Method) (c : Code) (b L : Nat) (xs : Nat → Int32) : Prop :=
  p.tables.exec = Jvm.exec ∧ c.code = code ∧ meth.sig.returnType = ret ∧ c.maxLocals = 9 ∧ s.vm.findClass R_law = some m.cls ∧ (∀ w ∈ lw_tbl, w.before #[Value.ref b] s = true) ∧ va_X b L xs s s.heap ∧ b < s.heap.size ∧ meth.locks = false ∧ (Jvm.Cond.and given_1 narrow_1).before #[Value.ref b] s = true
