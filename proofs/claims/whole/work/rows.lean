section
-- ===== PART A: goes FIRST, ahead of the names: the tables' words, and 'selects' of the private methods out of them =====
/-- a private method of a class that the tables say can be made, by its rows of tables_1 -/
def lw_okq (q : MethodName × Nat) : Prop := (q.1.cls ≠ "java/lang/invoke/MethodHandle" ∧ q.1.cls ≠ "java/lang/invoke/VarHandle") ∧ Cond.instantiable q.1.cls q.2 ∈ tables_1 ∧ Cond.privateMethod q.1 ∈ tables_1 ∧ Cond.instanceMethod q.1 ∈ tables_1
theorem lw_p0 : lw_okq (⟨"AtlasFolder$FoldedSheet", "number", "(II)I"⟩, 7) := ⟨⟨by decide +kernel, by decide +kernel⟩, List.mem_of_getElem? (i := 58) (by decide +kernel), List.mem_of_getElem? (i := 72) (by decide +kernel), List.mem_of_getElem? (i := 73) (by decide +kernel)⟩
theorem lw_p1 : lw_okq (⟨"AtlasFolder$BandTruths", "compareBands", "(LAtlasFolder$MapTable;II)I"⟩, 1) := ⟨⟨by decide +kernel, by decide +kernel⟩, List.mem_of_getElem? (i := 38) (by decide +kernel), List.mem_of_getElem? (i := 120) (by decide +kernel), List.mem_of_getElem? (i := 121) (by decide +kernel)⟩
theorem lw_p2 : lw_okq (⟨"AtlasFolder$BandTruths", "truthOf", "(I)I"⟩, 1) := ⟨⟨by decide +kernel, by decide +kernel⟩, List.mem_of_getElem? (i := 38) (by decide +kernel), List.mem_of_getElem? (i := 132) (by decide +kernel), List.mem_of_getElem? (i := 133) (by decide +kernel)⟩
theorem lw_p3 : lw_okq (⟨"AtlasFolder$FoldedSheet", "panels", "()I"⟩, 7) := ⟨⟨by decide +kernel, by decide +kernel⟩, List.mem_of_getElem? (i := 58) (by decide +kernel), List.mem_of_getElem? (i := 160) (by decide +kernel), List.mem_of_getElem? (i := 161) (by decide +kernel)⟩
theorem lw_p4 : lw_okq (⟨"AtlasFolder$FoldedSheet", "higherThan", "(I)I"⟩, 7) := ⟨⟨by decide +kernel, by decide +kernel⟩, List.mem_of_getElem? (i := 58) (by decide +kernel), List.mem_of_getElem? (i := 164) (by decide +kernel), List.mem_of_getElem? (i := 165) (by decide +kernel)⟩
theorem lw_p5 : lw_okq (⟨"java/lang/Throwable", "fillInStackTrace", "(I)Ljava/lang/Throwable;"⟩, 6) := ⟨⟨by decide +kernel, by decide +kernel⟩, List.mem_of_getElem? (i := 227) (by decide +kernel), List.mem_of_getElem? (i := 225) (by decide +kernel), List.mem_of_getElem? (i := 226) (by decide +kernel)⟩
theorem lw_p6 : lw_okq (⟨"AtlasFolder$MapTable", "cellArea", "(I)J"⟩, 2) := ⟨⟨by decide +kernel, by decide +kernel⟩, List.mem_of_getElem? (i := 24) (by decide +kernel), List.mem_of_getElem? (i := 362) (by decide +kernel), List.mem_of_getElem? (i := 363) (by decide +kernel)⟩
theorem lw_p7 : lw_okq (⟨"AtlasFolder$FoldedSheet", "turnOver", "([II)I"⟩, 7) := ⟨⟨by decide +kernel, by decide +kernel⟩, List.mem_of_getElem? (i := 58) (by decide +kernel), List.mem_of_getElem? (i := 491) (by decide +kernel), List.mem_of_getElem? (i := 492) (by decide +kernel)⟩
theorem lw_p8 : lw_okq (⟨"AtlasFolder$FoldedSheet", "placesBelow", "([II)I"⟩, 7) := ⟨⟨by decide +kernel, by decide +kernel⟩, List.mem_of_getElem? (i := 58) (by decide +kernel), List.mem_of_getElem? (i := 495) (by decide +kernel), List.mem_of_getElem? (i := 496) (by decide +kernel)⟩
theorem lw_p9 : lw_okq (⟨"AtlasFolder$FoldedSheet", "highestLayer", "()I"⟩, 7) := ⟨⟨by decide +kernel, by decide +kernel⟩, List.mem_of_getElem? (i := 58) (by decide +kernel), List.mem_of_getElem? (i := 499) (by decide +kernel), List.mem_of_getElem? (i := 500) (by decide +kernel)⟩
theorem lw_p10 : lw_okq (⟨"AtlasFolder", "requirePanel", "(II)V"⟩, 4) := ⟨⟨by decide +kernel, by decide +kernel⟩, List.mem_of_getElem? (i := 16) (by decide +kernel), List.mem_of_getElem? (i := 541) (by decide +kernel), List.mem_of_getElem? (i := 542) (by decide +kernel)⟩
theorem lw_p11 : lw_okq (⟨"AtlasFolderModel", "lay", "()V"⟩, 12) := ⟨⟨by decide +kernel, by decide +kernel⟩, List.mem_of_getElem? (i := 588) (by decide +kernel), List.mem_of_getElem? (i := 594) (by decide +kernel), List.mem_of_getElem? (i := 595) (by decide +kernel)⟩
theorem lw_p12 : lw_okq (⟨"AtlasFolderModel", "mayAll", "(ZZZ)Z"⟩, 12) := ⟨⟨by decide +kernel, by decide +kernel⟩, List.mem_of_getElem? (i := 588) (by decide +kernel), List.mem_of_getElem? (i := 643) (by decide +kernel), List.mem_of_getElem? (i := 644) (by decide +kernel)⟩
theorem lw_p13 : lw_okq (⟨"AtlasFolderModel", "may", "(Z)Z"⟩, 12) := ⟨⟨by decide +kernel, by decide +kernel⟩, List.mem_of_getElem? (i := 588) (by decide +kernel), List.mem_of_getElem? (i := 657) (by decide +kernel), List.mem_of_getElem? (i := 658) (by decide +kernel)⟩
theorem lw_p14 : lw_okq (⟨"AtlasFolderModel", "wide", "(I)I"⟩, 12) := ⟨⟨by decide +kernel, by decide +kernel⟩, List.mem_of_getElem? (i := 588) (by decide +kernel), List.mem_of_getElem? (i := 661) (by decide +kernel), List.mem_of_getElem? (i := 662) (by decide +kernel)⟩
theorem lw_p15 : lw_okq (⟨"AtlasFolderModel", "high", "(I)I"⟩, 12) := ⟨⟨by decide +kernel, by decide +kernel⟩, List.mem_of_getElem? (i := 588) (by decide +kernel), List.mem_of_getElem? (i := 669) (by decide +kernel), List.mem_of_getElem? (i := 670) (by decide +kernel)⟩
def lw_privs_1 : List (MethodName × Nat) := [(⟨"AtlasFolder$FoldedSheet", "number", "(II)I"⟩, 7), (⟨"AtlasFolder$BandTruths", "compareBands", "(LAtlasFolder$MapTable;II)I"⟩, 1), (⟨"AtlasFolder$BandTruths", "truthOf", "(I)I"⟩, 1), (⟨"AtlasFolder$FoldedSheet", "panels", "()I"⟩, 7), (⟨"AtlasFolder$FoldedSheet", "higherThan", "(I)I"⟩, 7), (⟨"java/lang/Throwable", "fillInStackTrace", "(I)Ljava/lang/Throwable;"⟩, 6), (⟨"AtlasFolder$MapTable", "cellArea", "(I)J"⟩, 2), (⟨"AtlasFolder$FoldedSheet", "turnOver", "([II)I"⟩, 7), (⟨"AtlasFolder$FoldedSheet", "placesBelow", "([II)I"⟩, 7), (⟨"AtlasFolder$FoldedSheet", "highestLayer", "()I"⟩, 7), (⟨"AtlasFolder", "requirePanel", "(II)V"⟩, 4), (⟨"AtlasFolderModel", "lay", "()V"⟩, 12), (⟨"AtlasFolderModel", "mayAll", "(ZZZ)Z"⟩, 12), (⟨"AtlasFolderModel", "may", "(Z)Z"⟩, 12), (⟨"AtlasFolderModel", "wide", "(I)I"⟩, 12), (⟨"AtlasFolderModel", "high", "(I)I"⟩, 12)]
theorem lw_r1 : ∀ q ∈ lw_privs_1, lw_okq q := List.forall_mem_cons.mpr ⟨lw_p0, List.forall_mem_cons.mpr ⟨lw_p1, List.forall_mem_cons.mpr ⟨lw_p2, List.forall_mem_cons.mpr ⟨lw_p3, List.forall_mem_cons.mpr ⟨lw_p4, List.forall_mem_cons.mpr ⟨lw_p5, List.forall_mem_cons.mpr ⟨lw_p6, List.forall_mem_cons.mpr ⟨lw_p7, List.forall_mem_cons.mpr ⟨lw_p8, List.forall_mem_cons.mpr ⟨lw_p9, List.forall_mem_cons.mpr ⟨lw_p10, List.forall_mem_cons.mpr ⟨lw_p11, List.forall_mem_cons.mpr ⟨lw_p12, List.forall_mem_cons.mpr ⟨lw_p13, List.forall_mem_cons.mpr ⟨lw_p14, List.forall_mem_cons.mpr ⟨lw_p15, fun _ h => absurd h List.not_mem_nil⟩⟩⟩⟩⟩⟩⟩⟩⟩⟩⟩⟩⟩⟩⟩⟩
theorem lw_p16 : lw_okq (⟨"AtlasFolderModel", "mayBoth", "(ZZ)Z"⟩, 12) := ⟨⟨by decide +kernel, by decide +kernel⟩, List.mem_of_getElem? (i := 588) (by decide +kernel), List.mem_of_getElem? (i := 679) (by decide +kernel), List.mem_of_getElem? (i := 680) (by decide +kernel)⟩
theorem lw_p17 : lw_okq (⟨"AtlasFolderModel", "areaOf", "(III)J"⟩, 12) := ⟨⟨by decide +kernel, by decide +kernel⟩, List.mem_of_getElem? (i := 588) (by decide +kernel), List.mem_of_getElem? (i := 687) (by decide +kernel), List.mem_of_getElem? (i := 688) (by decide +kernel)⟩
theorem lw_p18 : lw_okq (⟨"AtlasFolderModel", "bandOf", "(I)J"⟩, 12) := ⟨⟨by decide +kernel, by decide +kernel⟩, List.mem_of_getElem? (i := 588) (by decide +kernel), List.mem_of_getElem? (i := 708) (by decide +kernel), List.mem_of_getElem? (i := 709) (by decide +kernel)⟩
theorem lw_p19 : lw_okq (⟨"AtlasFolderModel", "zoneOf", "(I)I"⟩, 12) := ⟨⟨by decide +kernel, by decide +kernel⟩, List.mem_of_getElem? (i := 588) (by decide +kernel), List.mem_of_getElem? (i := 742) (by decide +kernel), List.mem_of_getElem? (i := 743) (by decide +kernel)⟩
theorem lw_p20 : lw_okq (⟨"AtlasFolderModel", "crossed", "(IIZ)I"⟩, 12) := ⟨⟨by decide +kernel, by decide +kernel⟩, List.mem_of_getElem? (i := 588) (by decide +kernel), List.mem_of_getElem? (i := 750) (by decide +kernel), List.mem_of_getElem? (i := 751) (by decide +kernel)⟩
theorem lw_p21 : lw_okq (⟨"AtlasFolderModel", "fold", "(IZ)I"⟩, 12) := ⟨⟨by decide +kernel, by decide +kernel⟩, List.mem_of_getElem? (i := 588) (by decide +kernel), List.mem_of_getElem? (i := 766) (by decide +kernel), List.mem_of_getElem? (i := 767) (by decide +kernel)⟩
theorem lw_p22 : lw_okq (⟨"AtlasFolderModel", "ahead", "(IZ)I"⟩, 12) := ⟨⟨by decide +kernel, by decide +kernel⟩, List.mem_of_getElem? (i := 588) (by decide +kernel), List.mem_of_getElem? (i := 770) (by decide +kernel), List.mem_of_getElem? (i := 771) (by decide +kernel)⟩
theorem lw_p23 : lw_okq (⟨"AtlasFolderModel", "isPanel", "(I)Z"⟩, 12) := ⟨⟨by decide +kernel, by decide +kernel⟩, List.mem_of_getElem? (i := 588) (by decide +kernel), List.mem_of_getElem? (i := 774) (by decide +kernel), List.mem_of_getElem? (i := 775) (by decide +kernel)⟩
theorem lw_p24 : lw_okq (⟨"AtlasFolderModel", "has", "(II)Z"⟩, 12) := ⟨⟨by decide +kernel, by decide +kernel⟩, List.mem_of_getElem? (i := 588) (by decide +kernel), List.mem_of_getElem? (i := 794) (by decide +kernel), List.mem_of_getElem? (i := 795) (by decide +kernel)⟩
theorem lw_p25 : lw_okq (⟨"AtlasFolderModel", "stacked", "(IZ)I"⟩, 12) := ⟨⟨by decide +kernel, by decide +kernel⟩, List.mem_of_getElem? (i := 588) (by decide +kernel), List.mem_of_getElem? (i := 806) (by decide +kernel), List.mem_of_getElem? (i := 807) (by decide +kernel)⟩
def lw_privs_2 : List (MethodName × Nat) := [(⟨"AtlasFolderModel", "mayBoth", "(ZZ)Z"⟩, 12), (⟨"AtlasFolderModel", "areaOf", "(III)J"⟩, 12), (⟨"AtlasFolderModel", "bandOf", "(I)J"⟩, 12), (⟨"AtlasFolderModel", "zoneOf", "(I)I"⟩, 12), (⟨"AtlasFolderModel", "crossed", "(IIZ)I"⟩, 12), (⟨"AtlasFolderModel", "fold", "(IZ)I"⟩, 12), (⟨"AtlasFolderModel", "ahead", "(IZ)I"⟩, 12), (⟨"AtlasFolderModel", "isPanel", "(I)Z"⟩, 12), (⟨"AtlasFolderModel", "has", "(II)Z"⟩, 12), (⟨"AtlasFolderModel", "stacked", "(IZ)I"⟩, 12)]
theorem lw_r2 : ∀ q ∈ lw_privs_2, lw_okq q := List.forall_mem_cons.mpr ⟨lw_p16, List.forall_mem_cons.mpr ⟨lw_p17, List.forall_mem_cons.mpr ⟨lw_p18, List.forall_mem_cons.mpr ⟨lw_p19, List.forall_mem_cons.mpr ⟨lw_p20, List.forall_mem_cons.mpr ⟨lw_p21, List.forall_mem_cons.mpr ⟨lw_p22, List.forall_mem_cons.mpr ⟨lw_p23, List.forall_mem_cons.mpr ⟨lw_p24, List.forall_mem_cons.mpr ⟨lw_p25, fun _ h => absurd h List.not_mem_nil⟩⟩⟩⟩⟩⟩⟩⟩⟩⟩
def lw_privs : List (MethodName × Nat) := lw_privs_1 ++ (lw_privs_2)
def lw_tbl : List Cond := k2_sels lw_privs ++ tables_1
theorem lw_privs_ok : ∀ q ∈ lw_privs, lw_okq q := by
  show ∀ q ∈ lw_privs_1 ++ (lw_privs_2), lw_okq q
  exact List.forall_mem_append.mpr ⟨lw_r1, lw_r2⟩
/-- the streams that the claim lets the run draw from -/
abbrev lw_cs : List Choice := [Jvm.Choice.named "NaN.bits"]
theorem lw_bits : nanBits ∈ lw_cs := by first | decide | exact List.mem_cons_self | simp [lw_cs, nanBits]
end
section
/-! ===== BEGIN words of one list among another's, by their places ===== -/
theorem goodIn_r {big : List Cond} (ws : List Cond) (ps : List Nat) (hp : ws = ps.filterMap (fun i => big[i]?)) (h : ws.all goodWord = true) : GoodIn big ws := by
  intro w hw
  have h1 := List.all_eq_true.mp h w hw
  rw [hp] at hw
  obtain ⟨i, -, hi⟩ := List.mem_filterMap.mp hw
  have hm : w ∈ big := by first | exact List.mem_of_getElem? hi | exact List.getElem?_mem hi
  exact ⟨hm, good_of_word h1⟩
theorem goodIn_app {big a b : List Cond} (ha : GoodIn big a) (hb : GoodIn big b) : GoodIn big (a ++ b) := fun w h => (List.mem_append.mp h).elim (ha w) (hb w)
theorem goodIn_ca {big a b : List Cond} {c : Cond} (ha : GoodIn big (c :: a)) (hb : GoodIn big b) : GoodIn big (c :: (a ++ b)) := fun w h => (List.mem_cons.mp h).elim (fun e => ha w (List.mem_cons.mpr (Or.inl e))) (fun h => (List.mem_append.mp h).elim (fun h => ha w (List.mem_cons.mpr (Or.inr h))) (hb w))
theorem goodIn_sub {big ws : List Cond} (hm : ∀ w ∈ ws, w ∈ big) (h : ws.all goodWord = true) : GoodIn big ws := fun w hw => ⟨hm w hw, good_of_word (List.all_eq_true.mp h w hw)⟩
/-! ===== END ===== -/

/-! ===== BEGIN exceptions that leave a method, and their catching by the caller (launches without stack traces) ===== -/
section VXA
/-! The laws vx_back, vx_callV, vx_callS, vx_callSW, vx_throw0, vx_throwS follow proofs of the library, with one case more: JvmDerived/Free/Laws.lean (Back.of_free), Shelf42/LK1.lean (callV, callS), Shelf/KitTraced.lean (throwNew0V, throwNewS). -/
/-- where a method has thrown q: the class by its name, the cell, what was written, the world -/
def vx_T (XC : String → State → State → Prop) (st : State) (q : Addr) (t : State) (mc ms : Nat) (free : Addr → Prop) : Prop :=
  ∃ (E : String) (ce : Cell) (L : List Loc), XC E st t ∧ t.heap[q]? = some ce ∧ ce.vm = .none ∧ st.vm.findClass E = some ce.cls ∧ st.WarmedH t.vm ∧ st.sameButNew ({ t with vm := st.vm } : State) L mc ms ∧ ∀ z ∈ L, free z.base
def vx_Q (Qc : Array Value → State → Outcome → State → Prop) (XC : String → State → State → Prop) (mc ms : Nat) (free : Addr → Prop) : Array Value → State → Outcome → State → Prop := fun a st o t =>
  (Qc a st o t ∧ ∃ L, FrameEnd st o t L mc ms ∧ ∀ q ∈ L, free q.base) ∨ ∃ q, o = .threw q ∧ vx_T XC st q t mc ms free
/-- a callee that returns or throws -/
def vx_Met (l : Launch) (y : MethodName) (ws : List Cond) (rm : Room) (Pc : Array Value → State → Prop) (Qc : Array Value → State → Outcome → State → Prop) (XC : String → State → State → Prop) (mc ms : Nat) (free : Addr → Prop) : Prop :=
  MetFree l y (headSpec ws rm) Pc (fun _ _ _ _ _ => True) (vx_Q Qc XC mc ms free)
def vx_Post (XC : String → State → State → Prop) (mc ms : Nat) (free : Addr → Prop) : Pt → Array Value → Addr → Pt → Prop := fun A a q B =>
  ∃ (g : JFrame) (mk : MethodId) (t : State) (L : List Loc) (E : String) (ce : Cell), B.U.heap = t.heap ∧ B.U.vm = t.vm ∧ XC E (A.U.calling g mk a) t ∧ t.heap[q]? = some ce ∧ ce.vm = .none ∧ A.U.vm.findClass E = some ce.cls ∧ B.locs = A.locs ++ L ∧ (∀ z ∈ L, free z.base) ∧ B.cells = A.cells + mc ∧ B.slots = A.slots + ms
def vx_Back (l : Launch) (R : Room) (p : Program) (e : Env) (below : List Frame) (s : State) (sargs : Array Value) (y : MethodName) (len W9 : Nat)
    (Pre : Pt → Array Value → Prop) (Post : Pt → Array Value → Option Value → Pt → Prop) (PostX : Pt → Array Value → Addr → Pt → Prop) : Prop :=
  ∀ (m : MethodId) (meth : Method) (c : Code) (A : Pt) (g : JFrame) (ig : Instr) (mk : MethodId) (a : Array Value),
    Stand p l e R s m sargs below meth c A.U A.locs A.cells A.slots → g.method = m → g.locals.size = c.maxLocals → decode c.code g.pc = .ok (ig, len) →
    2 * g.monitorRoom + (g.stack.map fun v => v.category).sum ≤ W9 → A.U.methodNamed? y = some mk → Pre A a →
    (∃ (v : Option Value) (B : Pt), Stand p l e R s m sargs below meth c B.U B.locs B.cells B.slots ∧ Post A a v B ∧
      Steps p.tables e below (doInvoke e (A.U.setTop g) [] mk a).1 (B.U.setTop { g with pc := g.pc + len, stack := v.toList ++ g.stack })) ∨
    (∃ (q : Addr) (B : Pt), Stand p l e R s m sargs below meth c B.U B.locs B.cells B.slots ∧ PostX A a q B ∧
      Steps p.tables e below (doInvoke e (A.U.setTop g) [] mk a).1 ((B.U.setTop g).pushFrame (.throwing q)))
section Payer
variable {l : Launch} {R : Room} {p : Program} {e : Env} {below : List Frame} {s : State} {sargs : Array Value} {y : MethodName} {len W9 : Nat}
theorem vx_back {ws : List Cond} {rm : Room} {Pc : Array Value → State → Prop} {Qc : Array Value → State → Outcome → State → Prop} {XC : String → State → State → Prop} {mc ms : Nat} {free : Addr → Prop} {bytes : ByteArray} {maxL : Nat} {ret : Option FieldType}
    (hM : vx_Met l y ws rm Pc Qc XC mc ms free) (hblind : FrameBlind Pc) (hrc : rm.cells = mc) (hrs : rm.slots = ms)
    (hframes : rm.frames + 1 ≤ R.frames) (hlocals : W9 + (maxL + 11) + rm.locals ≤ R.locals)
    (hws : ∀ w ∈ ws, ∀ a' U, s.WarmedH U.vm → w.before a' U = true) (hcode : Cond.code y bytes maxL ret ∈ ws) (hinit : ∀ a' U, s.WarmedH U.vm → (Cond.initialized y.cls).before a' U = true) :
    vx_Back l R p e below s sargs y len W9 (PreOf R mc ms Pc) (PostOf Qc mc ms free) (vx_Post XC mc ms free) := by
  intro m meth c A g ig mk a X hg hsize hdg hW hn hp
  have h1 : (headSpec ws rm).pre.before a A.U = true := atoms_intro fun w hw => hws w hw _ _ X.warmed
  have h2 : (Cond.code y bytes maxL ret).before a A.U = true := hws _ hcode _ _ X.warmed
  have h3 : (Cond.initialized y.cls).before a A.U = true := hinit _ _ X.warmed
  have h4 : A.cells + (headSpec ws rm).room.cells ≤ R.cells := by rw [show (headSpec ws rm).room.cells = mc from hrc]; exact hp.1
  have h5 : A.slots + (headSpec ws rm).room.slots ≤ R.slots := by rw [show (headSpec ws rm).room.slots = ms from hrs]; exact hp.2.1
  have hPc : Pc a (A.U.calling g mk a) := hblind _ _ _ _ hp.2.2
  obtain ⟨U, Ls, c0, s0⟩ := A
  dsimp only [Pt.U, Pt.locs, Pt.cells, Pt.slots] at h1 h2 h3 h4 h5 X hn hPc ⊢
  obtain ⟨methY, cY, hmY, hcY, -, hlY, -, -, -, -⟩ := Cond.code_spec hn h2
  obtain ⟨kY, hkY, -⟩ := className_of_methodNamed hn
  have hinitY : kY.init = .initialized := Cond.initialized_spec (findClass_of_methodNamed hn) hkY h3
  have h : At U g.method c below := by rw [hg]; exact X.here
  have hlocals9 : W9 + (maxL + 11) + (headSpec ws rm).room.locals ≤ R.locals := hlocals
  have happ : (headSpec ws rm).appliesLoose y e.platform (U.calling g mk a) = true :=
    Spec.appliesLoose_calling (g := g) h hdg hn hkY hinitY
      (X.room_calling (g := g) (R' := (headSpec ws rm).room) hsize hmY hcY hframes (by rw [hlY]; omega) h4 h5) h1
  obtain ⟨mid, hmid⟩ := h.above
  have hfr : (U.setTop g).frames = (.java g :: mid) ++ below := by rw [State.frames_setTop' g h.top, hmid]; rfl
  obtain ⟨o, s₂, hsteps, -, hend, hq⟩ := Steps.callFree hM p X.admits X.cas X.clock (acts := []) hfr happ hPc trivial
  have hq' : vx_Q Qc XC mc ms free a (U.calling g mk a) o s₂ := hq
  rw [State.frames_setTop' g h.top] at hend
  obtain ⟨g₀, hg0⟩ := Option.isSome_iff_exists.mp h.top
  obtain ⟨r, hr⟩ := State.topJava?_eq_some.mp hg0
  have hr' : (({ U with heap := s₂.heap, slotsUsed := s₂.slotsUsed } : State).setVm s₂.vm).frames = .java g₀ :: r := hr
  rcases hq' with ⟨hqc, L, hfe, hL⟩ | ⟨q, rfl, E, ce, L, hx, hce, hcv, hcl, hW₂, hsm, hL⟩
  · obtain ⟨⟨v, rfl⟩, hW₂, e2, q2, q3, q4, q5, q6⟩ := id hfe
    have e3 : s₂ = ({ (U.calling g mk a).setFrames s₂.frames with heap := s₂.heap, slotsUsed := s₂.slotsUsed } : State).setVm s₂.vm := by
      have : s₂ = ({ s₂ with vm := (U.calling g mk a).vm } : State).setVm s₂.vm := rfl
      rw [e2] at this
      exact this
    obtain ⟨c₂, i₂, len₂, hc₂, hd₂, hf₂⟩ := hend
    have hW' : U.WarmedH s₂.vm := hW₂
    have hcc : c₂ = c := by
      have h1 : s₂.code? g.method = U.code? g.method := by
        rw [State.code?_eq, State.code?_eq, hW'.alike.method?]
      exact Option.some.inj (hc₂.symm.trans (h1.trans h.code))
    subst hcc
    have hlen : len₂ = len := by rw [hdg] at hd₂; cases hd₂; rfl
    subst hlen
    have hs₂ : s₂ = (({ U with heap := s₂.heap, slotsUsed := s₂.slotsUsed } : State).setVm s₂.vm).setTop { g with pc := g.pc + len₂, stack := v.toList ++ g.stack } := by
      refine e3.trans ?_
      rw [hf₂, State.calling_eq h.top, State.setFrames_setFrames, State.setTop_of_frames _ hr', hr]
      rfl
    have hsame : U.sameButNew ({ U with heap := s₂.heap, slotsUsed := s₂.slotsUsed } : State) L mc ms := by
      refine ⟨?_, q2, q3, q4, q5, q6⟩
      obtain ⟨t, ht, -⟩ := State.frames_cons hr
      show ({ U with heap := s₂.heap, slotsUsed := s₂.slotsUsed } : State) = { U.setFrames U.frames with heap := s₂.heap, slotsUsed := s₂.slotsUsed }
      rw [State.setFrames_self ht]
    subst hg
    refine Or.inl ⟨v, ⟨(({ U with heap := s₂.heap, slotsUsed := s₂.slotsUsed } : State).setVm s₂.vm), Ls ++ L, c0 + mc, s0 + ms⟩,
      ⟨X.admits, X.cas, X.clock, X.frames, X.room, X.hears, X.method, X.code, (X.here.setHeapUsed s₂.heap s₂.slotsUsed).setVm hW'.alike, X.tail, State.WarmedH.trans X.warmed hW', X.limits, X.bytes, X.same.trans (hsame.setVm s.vm)⟩,
      ⟨g, mk, s₂, L, rfl, rfl, hqc, rfl, hL, rfl, rfl⟩, ?_⟩
    show Steps p.tables e below _ ((({ U with heap := s₂.heap, slotsUsed := s₂.slotsUsed } : State).setVm s₂.vm).setTop { g with pc := g.pc + len₂, stack := v.toList ++ g.stack })
    rw [← hs₂]
    exact hsteps
  · obtain ⟨e2, q2, q3, q4, q5, q6⟩ := id hsm
    have e3 : s₂ = ({ (U.calling g mk a).setFrames s₂.frames with heap := s₂.heap, slotsUsed := s₂.slotsUsed } : State).setVm s₂.vm := by
      have : s₂ = ({ s₂ with vm := (U.calling g mk a).vm } : State).setVm s₂.vm := rfl
      rw [e2] at this
      exact this
    have hf₂ : s₂.frames = .throwing q :: .java g :: U.frames.tail := hend
    have hW' : U.WarmedH s₂.vm := hW₂
    have hs₂ : s₂ = ((({ U with heap := s₂.heap, slotsUsed := s₂.slotsUsed } : State).setVm s₂.vm).setTop g).pushFrame (.throwing q) := by
      refine e3.trans ?_
      rw [hf₂, State.calling_eq h.top, State.setFrames_setFrames, State.pushFrame, State.frames_setTop _ hr', State.setTop_of_frames _ hr', State.setFrames_setFrames, hr]
      rfl
    have hsame : U.sameButNew ({ U with heap := s₂.heap, slotsUsed := s₂.slotsUsed } : State) L mc ms := by
      refine ⟨?_, q2, q3, q4, q5, q6⟩
      obtain ⟨t, ht, -⟩ := State.frames_cons hr
      show ({ U with heap := s₂.heap, slotsUsed := s₂.slotsUsed } : State) = { U.setFrames U.frames with heap := s₂.heap, slotsUsed := s₂.slotsUsed }
      rw [State.setFrames_self ht]
    subst hg
    refine Or.inr ⟨q, ⟨(({ U with heap := s₂.heap, slotsUsed := s₂.slotsUsed } : State).setVm s₂.vm), Ls ++ L, c0 + mc, s0 + ms⟩,
      ⟨X.admits, X.cas, X.clock, X.frames, X.room, X.hears, X.method, X.code, (X.here.setHeapUsed s₂.heap s₂.slotsUsed).setVm hW'.alike, X.tail, State.WarmedH.trans X.warmed hW', X.limits, X.bytes, X.same.trans (hsame.setVm s.vm)⟩,
      ⟨g, mk, s₂, L, E, ce, rfl, rfl, hx, hce, hcv, hcl, rfl, hL, rfl, rfl⟩, ?_⟩
    show Steps p.tables e below _ (((({ U with heap := s₂.heap, slotsUsed := s₂.slotsUsed } : State).setVm s₂.vm).setTop g).pushFrame (.throwing q))
    rw [← hs₂]
    exact hsteps
end Payer
section Calls
variable {p : Program} {l : Launch} {e : Env} {R : Room} {s : State} {m : MethodId} {args : Array Value} {below : List Frame} {meth : Method} {c : Code} {T : State} {locs : List Loc} {cells slots : Nat}
theorem vx_callV (X : Stand p l e R s m args below meth c T locs cells slots) (hexec : p.tables.exec = Jvm.exec) {own C : String} {index : Nat} {y : MethodName} {bytes : ByteArray} {maxL : Nat} {ret : Option FieldType}
    (hown : s.vm.findClass own = some m.cls) (hlink : (Cond.methodLink own index y).before args s = true) (hinst : (Cond.instanceMethod y).before args s = true) (hsel : (Cond.selects C y y).before args s = true)
    (hcode : (Cond.code y bytes maxL ret).before args s = true) (hy : y.cls ≠ "java/lang/invoke/MethodHandle" ∧ y.cls ≠ "java/lang/invoke/VarHandle")
    {W9 : Nat} {Pre : Pt → Array Value → Prop} {Post : Pt → Array Value → Option Value → Pt → Prop} {PostX : Pt → Array Value → Addr → Pt → Prop} (hK : vx_Back l R p e below s args y 3 W9 Pre Post PostX)
    {b : Addr} {cellB : Cell} (hcell : T.heap[b]? = some cellB) (hobj : cellB.vm.isStatics = false) (hcls : s.vm.findClass C = some cellB.cls)
    {g : JFrame} (hg : g.method = m) (hsize : g.locals.size = c.maxLocals) {argsL rest : List Value} (hlen : ∀ sig, parseMethodDescriptor y.desc = some sig → argsL.length = sig.parameters.length)
    (hstack : g.stack = argsL.reverse ++ .ref b :: rest) (hW : 2 * g.monitorRoom + (rest.map fun v => v.category).sum ≤ W9) (hdg : decode c.code g.pc = .ok (.invokevirtual index, 3))
    (hpre : ∀ vm₁, s.WarmedH vm₁ → Pre ⟨T.setVm vm₁, locs, cells, slots⟩ (Value.ref b :: argsL).toArray) :
    (∃ (v : Option Value) (vm₁ : Vm) (B : Pt), s.WarmedH vm₁ ∧ Stand p l e R s m args below meth c B.U B.locs B.cells B.slots ∧ Post ⟨T.setVm vm₁, locs, cells, slots⟩ (Value.ref b :: argsL).toArray v B ∧
      ∀ target, Steps p.tables e below (B.U.setTop { g with pc := g.pc + 3, stack := v.toList ++ rest }) target → Steps p.tables e below (T.setTop g) target) ∨
    (∃ (q : Addr) (vm₁ : Vm) (B : Pt), s.WarmedH vm₁ ∧ Stand p l e R s m args below meth c B.U B.locs B.cells B.slots ∧ PostX ⟨T.setVm vm₁, locs, cells, slots⟩ (Value.ref b :: argsL).toArray q B ∧
      Steps p.tables e below (T.setTop g) ((B.U.setTop { g with stack := rest }).pushFrame (.throwing q))) := by
  obtain ⟨mk, methM, hnamed, hmethM, hstM, habM⟩ := Cond.instanceMethod_spec hinst
  obtain ⟨methM', cM, hmethM', -, -, -, -, -, -, hsigM⟩ := Cond.code_spec hnamed hcode
  cases hmethM.symm.trans hmethM'
  obtain ⟨c2, r2, m2, q1, q2, q3, q4, kP, hkP, hkPi⟩ := Cond.selects_spec hsel
  cases hcls.symm.trans q1
  cases (State.methodFound?_of_named hnamed hy).symm.trans q2
  cases hnamed.symm.trans q3
  have hselP : selectMethod e.platform s.vm cellB.cls mk = .method mk := by rw [Launch.admits_selectMethod X.admits]; exact q4
  obtain ⟨vm₁, X₁, hstep₁⟩ := X.invokevirtual hexec hown hlink hnamed hmethM hstM hkP hkPi hy (a := b) (cell := cellB) hcell
    (fun z h => by rw [h] at hobj; cases hobj) hselP hmethM habM hkP hkPi (g := g) hg (argsL := argsL) (rest := rest) (hlen _ hsigM) hstack hdg
  rcases hK m meth c ⟨T.setVm vm₁, locs, cells, slots⟩ { g with stack := rest } (.invokevirtual index) mk (Value.ref b :: argsL).toArray X₁ hg hsize hdg hW (X₁.named hnamed) (hpre vm₁ X₁.warmed) with ⟨v, B, X', hpost, hsteps⟩ | ⟨q, B, X', hpost, hsteps⟩
  · exact Or.inl ⟨v, vm₁, B, X₁.warmed, X', hpost, fun target h => hstep₁ _ fun acts => by rw [doInvoke_state]; exact hsteps.trans h⟩
  · exact Or.inr ⟨q, vm₁, B, X₁.warmed, X', hpost, hstep₁ _ fun acts => by rw [doInvoke_state]; exact hsteps⟩
theorem vx_callS (X : Stand p l e R s m args below meth c T locs cells slots) (hexec : p.tables.exec = Jvm.exec) {own : String} {index : Nat} {y : MethodName} {bytes : ByteArray} {maxL : Nat} {ret : Option FieldType}
    (hown : s.vm.findClass own = some m.cls) (hlink : (Cond.methodLink own index y).before args s = true) (hstat : (Cond.static y).before args s = true) (hinit : (Cond.initialized y.cls).before args s = true)
    (hcode : (Cond.code y bytes maxL ret).before args s = true) (hy : y.cls ≠ "java/lang/invoke/MethodHandle" ∧ y.cls ≠ "java/lang/invoke/VarHandle")
    {W9 : Nat} {Pre : Pt → Array Value → Prop} {Post : Pt → Array Value → Option Value → Pt → Prop} {PostX : Pt → Array Value → Addr → Pt → Prop} (hK : vx_Back l R p e below s args y 3 W9 Pre Post PostX)
    {g : JFrame} (hg : g.method = m) (hsize : g.locals.size = c.maxLocals) {argsL rest : List Value} (hlen : ∀ sig, parseMethodDescriptor y.desc = some sig → argsL.length = sig.parameters.length)
    (hstack : g.stack = argsL.reverse ++ rest) (hW : 2 * g.monitorRoom + (rest.map fun v => v.category).sum ≤ W9) (hdg : decode c.code g.pc = .ok (.invokestatic index, 3))
    (hpre : ∀ vm₁, s.WarmedH vm₁ → Pre ⟨T.setVm vm₁, locs, cells, slots⟩ argsL.toArray) :
    (∃ (v : Option Value) (vm₁ : Vm) (B : Pt), s.WarmedH vm₁ ∧ Stand p l e R s m args below meth c B.U B.locs B.cells B.slots ∧ Post ⟨T.setVm vm₁, locs, cells, slots⟩ argsL.toArray v B ∧
      ∀ target, Steps p.tables e below (B.U.setTop { g with pc := g.pc + 3, stack := v.toList ++ rest }) target → Steps p.tables e below (T.setTop g) target) ∨
    (∃ (q : Addr) (vm₁ : Vm) (B : Pt), s.WarmedH vm₁ ∧ Stand p l e R s m args below meth c B.U B.locs B.cells B.slots ∧ PostX ⟨T.setVm vm₁, locs, cells, slots⟩ argsL.toArray q B ∧
      Steps p.tables e below (T.setTop g) ((B.U.setTop { g with stack := rest }).pushFrame (.throwing q))) := by
  obtain ⟨mk, hnamed⟩ := Cond.code_named hcode
  obtain ⟨methM, cM, hmethM, -, -, -, -, -, -, hsigM⟩ := Cond.code_spec hnamed hcode
  have hstatic : methM.isStatic = true := Cond.static_spec hnamed hmethM hstat
  obtain ⟨kP, hkP, -⟩ := className_of_methodNamed hnamed
  have hinitP : kP.init = .initialized := Cond.initialized_spec (findClass_of_methodNamed hnamed) hkP hinit
  obtain ⟨vm₁, X₁, hstep₁⟩ := X.invokestatic hexec hown hlink hnamed hmethM hstatic hkP hinitP hy (g := g) hg (argsL := argsL) (rest := rest) (hlen _ hsigM) hstack hdg
  rcases hK m meth c ⟨T.setVm vm₁, locs, cells, slots⟩ { g with stack := rest } (.invokestatic index) mk argsL.toArray X₁ hg hsize hdg hW (X₁.named hnamed) (hpre vm₁ X₁.warmed) with ⟨v, B, X', hpost, hsteps⟩ | ⟨q, B, X', hpost, hsteps⟩
  · exact Or.inl ⟨v, vm₁, B, X₁.warmed, X', hpost, fun target h => hstep₁ _ fun acts => by rw [doInvoke_state]; exact hsteps.trans h⟩
  · exact Or.inr ⟨q, vm₁, B, X₁.warmed, X', hpost, hstep₁ _ fun acts => by rw [doInvoke_state]; exact hsteps⟩
end Calls
theorem vx_cls {s : State} {T : State} {vm₁ : Vm} {E : String} {k : ClassId} (hW : s.WarmedH vm₁) (h : (T.setVm vm₁).vm.findClass E = some k) : s.vm.findClass E = some k := by
  have h1 : vm₁.findClass E = some k := h
  rw [hW.alike.findClass] at h1
  exact h1
/-- the method's frame g, with q thrown over it -/
def vx_W (p : Program) (l : Launch) (e : Env) (R : Room) (s : State) (m : MethodId) (args : Array Value) (below : List Frame) (meth : Method) (c : Code) (H : Heap) (locs : List Loc) (cells slots : Nat) (Q : State → Prop) (g : JFrame) (q : Addr) : Prop :=
  ∀ T : State, T.heap = H → Stand p l e R s m args below meth c T locs cells slots → ∃ t, Steps p.tables e below ((T.setTop g).pushFrame (.throwing q)) t ∧ Q t
def vx_Run (p : Program) (l : Launch) (e : Env) (R : Room) (s : State) (m : MethodId) (args : Array Value) (below : List Frame) (meth : Method) (c : Code) (H : Heap) (locs : List Loc) (cells slots mc ms : Nat) (g : JFrame) (rest : List Value) (Qa : State → Outcome → State → Prop) (XC : String → State → State → Prop) (free : Addr → Prop) : Prop :=
  ∀ T : State, T.heap = H → Stand p l e R s m args below meth c T locs cells slots →
    (∃ (v : Option Value) (st₀ t T' : State) (L : List Loc), st₀.heap = H ∧ Stand p l e R s m args below meth c T' (locs ++ L) (cells + mc) (slots + ms) ∧ (∀ q ∈ L, free q.base) ∧ T'.heap = t.heap ∧ T'.vm = t.vm ∧ Qa st₀ (.returned v) t ∧
      Goes p e below T g T' { g with pc := g.pc + 3, stack := v.toList ++ rest }) ∨
    (∃ (q : Addr) (st₀ t T' : State) (L : List Loc) (E : String) (ce : Cell), st₀.heap = H ∧ Stand p l e R s m args below meth c T' (locs ++ L) (cells + mc) (slots + ms) ∧ (∀ z ∈ L, free z.base) ∧ T'.heap = t.heap ∧ T'.vm = t.vm ∧ XC E st₀ t ∧ t.heap[q]? = some ce ∧ ce.vm = .none ∧ s.vm.findClass E = some ce.cls ∧
      Steps p.tables e below (T.setTop g) ((T'.setTop { g with stack := rest }).pushFrame (.throwing q)))
def vx_X {S : Type} (px : S → Prop) (B : String → S → State → Prop) (A : Nat → Prop) : String → State → State → Prop := fun E st t => ∃ u : S, px u ∧ B E u t ∧ va_F A st t
section Runs
variable {p : Program} {l : Launch} {e : Env} {R : Room} {s : State} {m : MethodId} {args : Array Value} {below : List Frame} {meth : Method} {c : Code} {H : Heap} {locs : List Loc} {cells slots : Nat}
variable {y : MethodName} {bytes cc : ByteArray} {maxL nL mc ms n index : Nat} {ret : Option FieldType} {ws : List Cond} {rm : Room} {Pc : Array Value → State → Prop} {Qc : Array Value → State → Outcome → State → Prop} {XC : String → State → State → Prop} {free : Addr → Prop} {Ts : List Cond} {own C : String} {b : Addr} {As rest : List Value} {g : JFrame}
theorem vx_callBack (cb : CallB R s args own index y bytes maxL ret ws rm mc ms n) (hM : vx_Met l y ws rm Pc Qc XC mc ms free) (hbl : FrameBlind Pc) : vx_Back l R p e below s args y 3 8 (PreOf R mc ms Pc) (PostOf Qc mc ms free) (vx_Post XC mc ms free) := by
  obtain ⟨hrc, hrs, hfr, hlo, hws, hcw, -, hini, -⟩ := cb
  exact vx_back (bytes := bytes) (maxL := maxL) (ret := ret) hM hbl hrc hrs hfr hlo hws hcw (fun a' U hW => word_at hW (Or.inl (by first | rfl | simp [Cond.onTables, Cond.keeps, Cond.steady])) hini)
theorem vx_runV (S : CallFix p m c cc nL s args Ts own) (hM : vx_Met l y ws rm Pc Qc XC mc ms free) (cw : CallW R s args own C index y bytes maxL ret ws rm mc ms n) (hp : PreV s H C b Pc As)
    (hg : g.method = m) (hn : As.length = n) (hsize : g.locals.size = nL) (hstack : g.stack = As.reverse ++ .ref b :: rest) (hW : 2 * g.monitorRoom + (rest.map fun v => v.category).sum ≤ 8) (hdg : decode cc g.pc = .ok (.invokevirtual index, 3)) (hf : cells + mc ≤ R.cells ∧ slots + ms ≤ R.slots) :
    vx_Run p l e R s m args below meth c H locs cells slots mc ms g rest (Qc (Value.ref b :: As).toArray) XC free := by
  have hK : vx_Back l R p e below s args y 3 8 (PreOf R mc ms Pc) (PostOf Qc mc ms free) (vx_Post XC mc ms free) := vx_callBack cw.1 hM hp.1
  obtain ⟨⟨-, -, -, -, -, -, hcode, -, hy, hlen, hl⟩, hin, hse⟩ := cw
  obtain ⟨hx, hb, hml, ho, -⟩ := S
  obtain ⟨-, ⟨cellB, hcB, hoB, hclB⟩, hPc⟩ := hp
  intro T hT X
  rcases vx_callV X hx (C := C) (bytes := bytes) (maxL := maxL) (ret := ret) ho hl hin hse hcode hy hK (by rw [hT]; exact hcB) hoB hclB hg (hsize.trans hml.symm) (argsL := As) (rest := rest) (fun sig h => hn.trans (hlen sig h)) hstack hW (by rw [hb]; exact hdg)
    (fun vm₁ hW₁ => ⟨hf.1, hf.2, hPc (T.setVm vm₁) hT hW₁⟩) with ⟨v, vm₁, ⟨U', l2, c2, s2⟩, hW₁, X', ⟨g', mk, t, L, e1, e2, hq, h1, hL, h2, h3⟩, st⟩ | ⟨q, vm₁, ⟨U', l2, c2, s2⟩, hW₁, X', ⟨g', mk, t, L, E, ce, e1, e2, hq, hce, hcv, hcl, h1, hL, h2, h3⟩, st⟩
  · dsimp only [Pt.U, Pt.locs, Pt.cells, Pt.slots] at X' e1 e2 h1 h2 h3 st
    subst h1; subst h2; subst h3
    exact Or.inl ⟨v, (T.setVm vm₁).calling g' mk (Value.ref b :: As).toArray, t, U', L, hT, X', hL, e1, e2, hq, st⟩
  · dsimp only [Pt.U, Pt.locs, Pt.cells, Pt.slots] at X' e1 e2 h1 h2 h3 st hcl
    subst h1; subst h2; subst h3
    exact Or.inr ⟨q, (T.setVm vm₁).calling g' mk (Value.ref b :: As).toArray, t, U', L, E, ce, hT, X', hL, e1, e2, hq, hce, hcv, vx_cls hW₁ hcl, st⟩
theorem vx_runS (S : CallFix p m c cc nL s args Ts own) (hM : vx_Met l y ws rm Pc Qc XC mc ms free) (cw : CallB R s args own index y bytes maxL ret ws rm mc ms n ∧ (Cond.static y).before args s = true) (hp : PreS s H Pc As)
    (hg : g.method = m) (hn : As.length = n) (hsize : g.locals.size = nL) (hstack : g.stack = As.reverse ++ rest) (hW : 2 * g.monitorRoom + (rest.map fun v => v.category).sum ≤ 8) (hdg : decode cc g.pc = .ok (.invokestatic index, 3)) (hf : cells + mc ≤ R.cells ∧ slots + ms ≤ R.slots) :
    vx_Run p l e R s m args below meth c H locs cells slots mc ms g rest (Qc As.toArray) XC free := by
  have hK : vx_Back l R p e below s args y 3 8 (PreOf R mc ms Pc) (PostOf Qc mc ms free) (vx_Post XC mc ms free) := vx_callBack cw.1 hM hp.1
  obtain ⟨⟨-, -, -, -, -, -, hcode, hini, hy, hlen, hl⟩, hstt⟩ := cw
  obtain ⟨hx, hb, hml, ho, -⟩ := S
  intro T hT X
  rcases vx_callS X hx (bytes := bytes) (maxL := maxL) (ret := ret) ho hl hstt hini hcode hy hK hg (hsize.trans hml.symm) (argsL := As) (rest := rest) (fun sig h => hn.trans (hlen sig h)) hstack hW (by rw [hb]; exact hdg)
    (fun vm₁ hW₁ => ⟨hf.1, hf.2, hp.2 (T.setVm vm₁) hT hW₁⟩) with ⟨v, vm₁, ⟨U', l2, c2, s2⟩, hW₁, X', ⟨g', mk, t, L, e1, e2, hq, h1, hL, h2, h3⟩, st⟩ | ⟨q, vm₁, ⟨U', l2, c2, s2⟩, hW₁, X', ⟨g', mk, t, L, E, ce, e1, e2, hq, hce, hcv, hcl, h1, hL, h2, h3⟩, st⟩
  · dsimp only [Pt.U, Pt.locs, Pt.cells, Pt.slots] at X' e1 e2 h1 h2 h3 st
    subst h1; subst h2; subst h3
    exact Or.inl ⟨v, (T.setVm vm₁).calling g' mk As.toArray, t, U', L, hT, X', hL, e1, e2, hq, st⟩
  · dsimp only [Pt.U, Pt.locs, Pt.cells, Pt.slots] at X' e1 e2 h1 h2 h3 st hcl
    subst h1; subst h2; subst h3
    exact Or.inr ⟨q, (T.setVm vm₁).calling g' mk As.toArray, t, U', L, E, ce, hT, X', hL, e1, e2, hq, hce, hcv, vx_cls hW₁ hcl, st⟩
end Runs
section Rows
variable {p : Program} {l : Launch} {e : Env} {R : Room} {s : State} {m : MethodId} {args : Array Value} {below : List Frame} {meth : Method} {c : Code} {H : Heap} {locs : List Loc} {cells slots : Nat} {Q : State → Prop}
variable {mc ms : Nat} {free : Addr → Prop} {A0 A1 : Nat → Prop} {H0 : Heap} {a : Array Value} {pc : Nat} {ls : Array Slot} {st0 rest : List Value}
theorem vx_keep {st₀ t T' : State} {L : List Loc} (h0 : st₀.heap = H) (e1 : T'.heap = t.heap) (hS : va_S A0 H0 H locs) (hA : ∀ q, q < H.size → A1 q → A0 q) (hf : ∀ q, free q → A0 q) (hL : ∀ q ∈ L, free q.base) (hF : va_F A1 st₀ t) :
    H.size ≤ T'.heap.size ∧ (∀ q : Nat, q < H.size → ¬ A1 q → T'.heap[q]? = H[q]?) ∧ va_S A0 H0 T'.heap (locs ++ L) := by
  obtain ⟨hz, hk⟩ := hF
  rw [h0] at hz hk
  exact ⟨by rw [e1]; exact hz, fun q h1 h2 => by rw [e1]; exact hk q h1 h2,
    ⟨Nat.le_trans hS.1 (by rw [e1]; exact hz), fun q h1 h2 => by rw [e1, hk q (Nat.lt_of_lt_of_le h1 hS.1) (fun z => h2 (hA q (Nat.lt_of_lt_of_le h1 hS.1) z))]; exact hS.2.1 q h1 h2, fun q hq => by
      rcases List.mem_append.mp hq with h | h
      · exact hS.2.2 q h
      · exact hf _ (hL q h)⟩⟩
theorem vx_calli {S SX : Type} {post : Int32 → S → Prop} {px : SX → Prop} {B : S → State → Prop} {BX : String → SX → State → Prop} {AX : Nat → Prop} (hr : vx_Run p l e R s m args below meth c H locs cells slots mc ms (F0 m pc ls st0) rest (va_Qi post B A1 a) (vx_X px BX AX) free) (hS : va_S A0 H0 H locs) (hA : ∀ q, q < H.size → A1 q → A0 q) (hf : ∀ q, free q → A0 q) (hAX : ∀ q, q < H.size → AX q → A0 q)
    (kx : ∀ (E : String) (ce : Cell) (q9 : Addr) (u : SX) (t : State) (H1 : Heap) (locs1 : List Loc), t.heap = H1 → s.vm.Alike t.vm → px u → BX E u t → H.size ≤ H1.size → (∀ q : Nat, q < H.size → ¬ AX q → H1[q]? = H[q]?) → va_S A0 H0 H1 locs1 → H1[q9]? = some ce → ce.vm = .none → s.vm.findClass E = some ce.cls → vx_W p l e R s m args below meth c H1 locs1 (cells + mc) (slots + ms) Q (F0 m pc ls rest) q9)
    (kk : ∀ (r : Int32) (u : S) (t : State) (H1 : Heap) (locs1 : List Loc), t.heap = H1 → s.vm.Alike t.vm → post r u → B u t → H.size ≤ H1.size → (∀ q : Nat, q < H.size → ¬ A1 q → H1[q]? = H[q]?) → va_S A0 H0 H1 locs1 → W p l e R s m args below meth c H1 locs1 (cells + mc) (slots + ms) Q (F0 m (pc + 3) ls (.int r :: rest))) : W p l e R s m args below meth c H locs cells slots Q (F0 m pc ls st0) := by
  intro T hT X
  rcases hr T hT X with ⟨v, st₀, t, T', L, h0, X', hL, e1, e2, ⟨⟨r, u, hv, hp, hb⟩, hF⟩, st⟩ | ⟨q, st₀, t, T', L, E, ce, h0, X', hL, e1, e2, ⟨u, hp, hb, hF⟩, hce, hcv, hcl, st⟩
  · cases hv
    obtain ⟨k1, k2, k3⟩ := vx_keep h0 e1 hS hA hf hL hF
    obtain ⟨t2, a1, b1⟩ := kk r u t T'.heap (locs ++ L) e1.symm (by rw [← e2]; exact X'.warmed.alike) hp hb k1 k2 k3 T' rfl X'
    exact ⟨t2, st t2 a1, b1⟩
  · obtain ⟨k1, k2, k3⟩ := vx_keep h0 e1 hS hAX hf hL hF
    obtain ⟨t2, a1, b1⟩ := kx E ce q u t T'.heap (locs ++ L) e1.symm (by rw [← e2]; exact X'.warmed.alike) hp hb k1 k2 k3 (by rw [e1]; exact hce) hcv hcl T' rfl X'
    exact ⟨t2, st.trans a1, b1⟩
theorem vx_calll {S SX : Type} {post : Int64 → S → Prop} {px : SX → Prop} {B : S → State → Prop} {BX : String → SX → State → Prop} {AX : Nat → Prop} (hr : vx_Run p l e R s m args below meth c H locs cells slots mc ms (F0 m pc ls st0) rest (va_Ql post B A1 a) (vx_X px BX AX) free) (hS : va_S A0 H0 H locs) (hA : ∀ q, q < H.size → A1 q → A0 q) (hf : ∀ q, free q → A0 q) (hAX : ∀ q, q < H.size → AX q → A0 q)
    (kx : ∀ (E : String) (ce : Cell) (q9 : Addr) (u : SX) (t : State) (H1 : Heap) (locs1 : List Loc), t.heap = H1 → s.vm.Alike t.vm → px u → BX E u t → H.size ≤ H1.size → (∀ q : Nat, q < H.size → ¬ AX q → H1[q]? = H[q]?) → va_S A0 H0 H1 locs1 → H1[q9]? = some ce → ce.vm = .none → s.vm.findClass E = some ce.cls → vx_W p l e R s m args below meth c H1 locs1 (cells + mc) (slots + ms) Q (F0 m pc ls rest) q9)
    (kk : ∀ (r : Int64) (u : S) (t : State) (H1 : Heap) (locs1 : List Loc), t.heap = H1 → s.vm.Alike t.vm → post r u → B u t → H.size ≤ H1.size → (∀ q : Nat, q < H.size → ¬ A1 q → H1[q]? = H[q]?) → va_S A0 H0 H1 locs1 → W p l e R s m args below meth c H1 locs1 (cells + mc) (slots + ms) Q (F0 m (pc + 3) ls (.long r :: rest))) : W p l e R s m args below meth c H locs cells slots Q (F0 m pc ls st0) := by
  intro T hT X
  rcases hr T hT X with ⟨v, st₀, t, T', L, h0, X', hL, e1, e2, ⟨⟨r, u, hv, hp, hb⟩, hF⟩, st⟩ | ⟨q, st₀, t, T', L, E, ce, h0, X', hL, e1, e2, ⟨u, hp, hb, hF⟩, hce, hcv, hcl, st⟩
  · cases hv
    obtain ⟨k1, k2, k3⟩ := vx_keep h0 e1 hS hA hf hL hF
    obtain ⟨t2, a1, b1⟩ := kk r u t T'.heap (locs ++ L) e1.symm (by rw [← e2]; exact X'.warmed.alike) hp hb k1 k2 k3 T' rfl X'
    exact ⟨t2, st t2 a1, b1⟩
  · obtain ⟨k1, k2, k3⟩ := vx_keep h0 e1 hS hAX hf hL hF
    obtain ⟨t2, a1, b1⟩ := kx E ce q u t T'.heap (locs ++ L) e1.symm (by rw [← e2]; exact X'.warmed.alike) hp hb k1 k2 k3 (by rw [e1]; exact hce) hcv hcl T' rfl X'
    exact ⟨t2, st.trans a1, b1⟩
theorem vx_callf {S SX : Type} {post : UInt32 → S → Prop} {px : SX → Prop} {B : S → State → Prop} {BX : String → SX → State → Prop} {AX : Nat → Prop} (hr : vx_Run p l e R s m args below meth c H locs cells slots mc ms (F0 m pc ls st0) rest (va_Qf post B A1 a) (vx_X px BX AX) free) (hS : va_S A0 H0 H locs) (hA : ∀ q, q < H.size → A1 q → A0 q) (hf : ∀ q, free q → A0 q) (hAX : ∀ q, q < H.size → AX q → A0 q)
    (kx : ∀ (E : String) (ce : Cell) (q9 : Addr) (u : SX) (t : State) (H1 : Heap) (locs1 : List Loc), t.heap = H1 → s.vm.Alike t.vm → px u → BX E u t → H.size ≤ H1.size → (∀ q : Nat, q < H.size → ¬ AX q → H1[q]? = H[q]?) → va_S A0 H0 H1 locs1 → H1[q9]? = some ce → ce.vm = .none → s.vm.findClass E = some ce.cls → vx_W p l e R s m args below meth c H1 locs1 (cells + mc) (slots + ms) Q (F0 m pc ls rest) q9)
    (kk : ∀ (r : UInt32) (u : S) (t : State) (H1 : Heap) (locs1 : List Loc), t.heap = H1 → s.vm.Alike t.vm → post r u → B u t → H.size ≤ H1.size → (∀ q : Nat, q < H.size → ¬ A1 q → H1[q]? = H[q]?) → va_S A0 H0 H1 locs1 → W p l e R s m args below meth c H1 locs1 (cells + mc) (slots + ms) Q (F0 m (pc + 3) ls (.float r :: rest))) : W p l e R s m args below meth c H locs cells slots Q (F0 m pc ls st0) := by
  intro T hT X
  rcases hr T hT X with ⟨v, st₀, t, T', L, h0, X', hL, e1, e2, ⟨⟨r, u, hv, hp, hb⟩, hF⟩, st⟩ | ⟨q, st₀, t, T', L, E, ce, h0, X', hL, e1, e2, ⟨u, hp, hb, hF⟩, hce, hcv, hcl, st⟩
  · cases hv
    obtain ⟨k1, k2, k3⟩ := vx_keep h0 e1 hS hA hf hL hF
    obtain ⟨t2, a1, b1⟩ := kk r u t T'.heap (locs ++ L) e1.symm (by rw [← e2]; exact X'.warmed.alike) hp hb k1 k2 k3 T' rfl X'
    exact ⟨t2, st t2 a1, b1⟩
  · obtain ⟨k1, k2, k3⟩ := vx_keep h0 e1 hS hAX hf hL hF
    obtain ⟨t2, a1, b1⟩ := kx E ce q u t T'.heap (locs ++ L) e1.symm (by rw [← e2]; exact X'.warmed.alike) hp hb k1 k2 k3 (by rw [e1]; exact hce) hcv hcl T' rfl X'
    exact ⟨t2, st.trans a1, b1⟩
theorem vx_calld {S SX : Type} {post : UInt64 → S → Prop} {px : SX → Prop} {B : S → State → Prop} {BX : String → SX → State → Prop} {AX : Nat → Prop} (hr : vx_Run p l e R s m args below meth c H locs cells slots mc ms (F0 m pc ls st0) rest (va_Qd post B A1 a) (vx_X px BX AX) free) (hS : va_S A0 H0 H locs) (hA : ∀ q, q < H.size → A1 q → A0 q) (hf : ∀ q, free q → A0 q) (hAX : ∀ q, q < H.size → AX q → A0 q)
    (kx : ∀ (E : String) (ce : Cell) (q9 : Addr) (u : SX) (t : State) (H1 : Heap) (locs1 : List Loc), t.heap = H1 → s.vm.Alike t.vm → px u → BX E u t → H.size ≤ H1.size → (∀ q : Nat, q < H.size → ¬ AX q → H1[q]? = H[q]?) → va_S A0 H0 H1 locs1 → H1[q9]? = some ce → ce.vm = .none → s.vm.findClass E = some ce.cls → vx_W p l e R s m args below meth c H1 locs1 (cells + mc) (slots + ms) Q (F0 m pc ls rest) q9)
    (kk : ∀ (r : UInt64) (u : S) (t : State) (H1 : Heap) (locs1 : List Loc), t.heap = H1 → s.vm.Alike t.vm → post r u → B u t → H.size ≤ H1.size → (∀ q : Nat, q < H.size → ¬ A1 q → H1[q]? = H[q]?) → va_S A0 H0 H1 locs1 → W p l e R s m args below meth c H1 locs1 (cells + mc) (slots + ms) Q (F0 m (pc + 3) ls (.double r :: rest))) : W p l e R s m args below meth c H locs cells slots Q (F0 m pc ls st0) := by
  intro T hT X
  rcases hr T hT X with ⟨v, st₀, t, T', L, h0, X', hL, e1, e2, ⟨⟨r, u, hv, hp, hb⟩, hF⟩, st⟩ | ⟨q, st₀, t, T', L, E, ce, h0, X', hL, e1, e2, ⟨u, hp, hb, hF⟩, hce, hcv, hcl, st⟩
  · cases hv
    obtain ⟨k1, k2, k3⟩ := vx_keep h0 e1 hS hA hf hL hF
    obtain ⟨t2, a1, b1⟩ := kk r u t T'.heap (locs ++ L) e1.symm (by rw [← e2]; exact X'.warmed.alike) hp hb k1 k2 k3 T' rfl X'
    exact ⟨t2, st t2 a1, b1⟩
  · obtain ⟨k1, k2, k3⟩ := vx_keep h0 e1 hS hAX hf hL hF
    obtain ⟨t2, a1, b1⟩ := kx E ce q u t T'.heap (locs ++ L) e1.symm (by rw [← e2]; exact X'.warmed.alike) hp hb k1 k2 k3 (by rw [e1]; exact hce) hcv hcl T' rfl X'
    exact ⟨t2, st.trans a1, b1⟩
theorem vx_callv {S SX : Type} {post : S → Prop} {px : SX → Prop} {B : S → State → Prop} {BX : String → SX → State → Prop} {AX : Nat → Prop} (hr : vx_Run p l e R s m args below meth c H locs cells slots mc ms (F0 m pc ls st0) rest (va_Qv post B A1 a) (vx_X px BX AX) free) (hS : va_S A0 H0 H locs) (hA : ∀ q, q < H.size → A1 q → A0 q) (hf : ∀ q, free q → A0 q) (hAX : ∀ q, q < H.size → AX q → A0 q)
    (kx : ∀ (E : String) (ce : Cell) (q9 : Addr) (u : SX) (t : State) (H1 : Heap) (locs1 : List Loc), t.heap = H1 → s.vm.Alike t.vm → px u → BX E u t → H.size ≤ H1.size → (∀ q : Nat, q < H.size → ¬ AX q → H1[q]? = H[q]?) → va_S A0 H0 H1 locs1 → H1[q9]? = some ce → ce.vm = .none → s.vm.findClass E = some ce.cls → vx_W p l e R s m args below meth c H1 locs1 (cells + mc) (slots + ms) Q (F0 m pc ls rest) q9)
    (kk : ∀ (u : S) (t : State) (H1 : Heap) (locs1 : List Loc), t.heap = H1 → s.vm.Alike t.vm → post u → B u t → H.size ≤ H1.size → (∀ q : Nat, q < H.size → ¬ A1 q → H1[q]? = H[q]?) → va_S A0 H0 H1 locs1 → W p l e R s m args below meth c H1 locs1 (cells + mc) (slots + ms) Q (F0 m (pc + 3) ls (rest))) : W p l e R s m args below meth c H locs cells slots Q (F0 m pc ls st0) := by
  intro T hT X
  rcases hr T hT X with ⟨v, st₀, t, T', L, h0, X', hL, e1, e2, ⟨⟨u, hv, hp, hb⟩, hF⟩, st⟩ | ⟨q, st₀, t, T', L, E, ce, h0, X', hL, e1, e2, ⟨u, hp, hb, hF⟩, hce, hcv, hcl, st⟩
  · cases hv
    obtain ⟨k1, k2, k3⟩ := vx_keep h0 e1 hS hA hf hL hF
    obtain ⟨t2, a1, b1⟩ := kk u t T'.heap (locs ++ L) e1.symm (by rw [← e2]; exact X'.warmed.alike) hp hb k1 k2 k3 T' rfl X'
    exact ⟨t2, st t2 a1, b1⟩
  · obtain ⟨k1, k2, k3⟩ := vx_keep h0 e1 hS hAX hf hL hF
    obtain ⟨t2, a1, b1⟩ := kx E ce q u t T'.heap (locs ++ L) e1.symm (by rw [← e2]; exact X'.warmed.alike) hp hb k1 k2 k3 (by rw [e1]; exact hce) hcv hcl T' rfl X'
    exact ⟨t2, st.trans a1, b1⟩
/-- caught by the row x of this method's table; the rows ahead don't take it -/
theorem vx_catch {own name : String} {E : String} {ce : Cell} {q : Addr} (hown : s.vm.findClass own = some m.cls) (pre : List ExceptionTableEntry) (x : ExceptionTableEntry) (suf : List ExceptionTableEntry) (hsplit : c.exceptionTable.toList = pre ++ x :: suf)
    (hpass : ∀ z ∈ pre, covers z pc = false ∨ (z.catchType ≠ 0 ∧ ∃ nm : String, (Cond.classLink own z.catchType nm).before args s = true ∧ va_Nc E nm s)) (hx : covers x pc = true) (h0 : x.catchType ≠ 0)
    (hlink : (Cond.classLink own x.catchType name).before args s = true) (hcast : (Cond.castable E name).before args s = true) (hcell : H[q]? = some ce) (hv : ce.vm = .none) (hcl : s.vm.findClass E = some ce.cls)
    (kk : W p l e R s m args below meth c H locs cells slots Q (F0 m x.handlerPc ls [.ref q])) : vx_W p l e R s m args below meth c H locs cells slots Q (F0 m pc ls rest) q := by
  intro T hT X
  have hpl : e.platform.magicAccessors = ({} : Platform).magicAccessors := by rw [X.admits.platform]
  obtain ⟨c3, c4, hc3, hc4, hasg⟩ := Cond.castable_spec hcast
  cases Option.some.inj (hc3.symm.trans hcl)
  obtain ⟨c5, hc5, hcl5⟩ := Cond.classLink_spec hown hlink e.platform hpl
  cases Option.some.inj (hc4.symm.trans hc5)
  obtain ⟨vm', X', st⟩ := X.thenCaughtThrough q (g := F0 m pc ls rest) rfl (Steps.refl _) (by rw [hT]; exact hcell) (by rw [hv]; rfl) (by obtain ⟨k9, h9, -⟩ := Vm.findClass_spec hcl; exact ⟨k9, h9⟩) pre x suf hsplit
    (fun z hz => by
      rcases hpass z hz with h | ⟨hz0, nm, hl1, hn1⟩
      · exact Or.inl h
      · obtain ⟨c6, hc6, hcl6⟩ := Cond.classLink_spec hown hl1 e.platform hpl
        obtain ⟨a8, b8, h1, h2, h3⟩ := hn1
        cases Option.some.inj (h1.symm.trans hcl)
        cases Option.some.inj (h2.symm.trans hc6)
        exact Or.inr ⟨hz0, _, hcl6, h3⟩) hx (Or.inr ⟨h0, c4, hcl5, hasg⟩)
  obtain ⟨t, a1, b1⟩ := kk (T.setVm vm') hT X'
  exact ⟨t, st.trans a1, b1⟩
end Rows
section Ends
variable {p : Program} {l : Launch} {e : Env} {R : Room} {s : State} {m : MethodId} {args : Array Value} {below : List Frame} {meth : Method} {c : Code} {H : Heap} {locs : List Loc} {cells slots : Nat} {Q : State → Prop}
variable {mc ms : Nat} {free : Addr → Prop} {A0 A1 : Nat → Prop} {H0 : Heap} {a : Array Value} {ls : Array Slot} {st0 rest : List Value}
variable {Qc : Array Value → State → Outcome → State → Prop} {XC : String → State → State → Prop}
/-- what a body that may throw owes at its end -/
def vx_MQ (below : List Frame) (Qc : Array Value → State → Outcome → State → Prop) (XC : String → State → State → Prop) (a : Array Value) (s : State) (mc ms : Nat) (free : Addr → Prop) : State → Prop := fun t =>
  ∃ o, t.status = .running ∧ Ended t below o ∧ vx_Q Qc XC mc ms free a s o t
theorem vx_ret {g : JFrame} {mc ms : Nat} (k : W p l e R s m args below meth c H locs cells slots (MQ below Qc args s mc ms free) g) : W p l e R s m args below meth c H locs cells slots (vx_MQ below Qc XC args s mc ms free) g := by
  intro T hT X
  obtain ⟨t, a1, o, b1, b2, b3, b4⟩ := k T hT X
  exact ⟨t, a1, o, b1, b2, Or.inl ⟨b3, b4⟩⟩
/-- not caught here: it goes on to the caller -/
theorem vx_widen {g : JFrame} {q : Addr} {k n : Nat} (h1 : cells ≤ k) (h2 : slots ≤ n) (kk : vx_W p l e R s m args below meth c H locs k n Q g q) : vx_W p l e R s m args below meth c H locs cells slots Q g q := fun T hT X => kk T hT (stand_widen X h1 h2)
theorem vx_out {pc : Nat} {E : String} {ce : Cell} {q : Addr} {mc ms : Nat} (hout : ∀ x ∈ c.exceptionTable.toList, covers x pc = false) (hlocks : meth.locks = false) (hcell : H[q]? = some ce) (hv : ce.vm = .none) (hcl : s.vm.findClass E = some ce.cls)
    (hx : ∀ t : State, t.heap = H → s.vm.Alike t.vm → XC E s t) (hf : ∀ z ∈ locs, free z.base) (hc : cells ≤ mc) (hs : slots ≤ ms) :
    vx_W p l e R s m args below meth c H locs cells slots (vx_MQ below Qc XC args s mc ms free) (F0 m pc ls rest) q := by
  intro T hT X
  obtain ⟨st1, hrun, hend, hW, hsm⟩ := X.leaveThrown q (g := F0 m pc ls rest) rfl rfl rfl hout hlocks
  have hcell9 : (T.setFrames (.throwing q :: below)).heap[q]? = some ce := by
    show T.heap[q]? = some ce
    rw [hT]; exact hcell
  exact ⟨_, st1, .threw q, hrun, hend, Or.inr ⟨q, rfl, E, ce, locs, hx _ hT hW.alike, hcell9, hv, hcl, hW, hsm.mono hc hs, hf⟩⟩
theorem vx_frame {U : State} {k n : Nat} (h : s.sameButNew ({ U with vm := s.vm } : State) locs k n) : s.heap.size ≤ U.heap.size ∧ ∀ q : Nat, q < s.heap.size → (∀ z ∈ locs, z.base ≠ q) → U.heap[q]? = s.heap[q]? := by
  obtain ⟨-, h2, -, -, -, h6⟩ := h
  refine ⟨h2, fun q hq hz => ?_⟩
  obtain ⟨c9, e1, e2, e3, e4⟩ := h6 q _ (Array.getElem?_eq_getElem hq)
  have hs : c9.slots = (s.heap[q]).slots := Array.ext_getElem? fun i => e4 i fun hm => hz _ hm rfl
  have h9 : c9 = s.heap[q] := by
    rw [hs] at e2
    exact e2
  have e5 : U.heap[q]? = some c9 := e1
  rw [e5, h9, Array.getElem?_eq_getElem hq]
/-- the words of a throw but the four that speak of the heap -/
def vx_no (w : Cond) : Bool := decide (w ≠ .isRef (.static Bundle.tN "UNASSIGNED_STACK" Bundle.steD)) && decide (w ≠ .isRef (.static Bundle.tN "SUPPRESSED_SENTINEL" Bundle.listD)) && decide (w ≠ .laysStatic Bundle.tN "UNASSIGNED_STACK" Bundle.steD) && decide (w ≠ .laysStatic Bundle.tN "SUPPRESSED_SENTINEL" Bundle.listD)
def vx_at0 (own : String) (ic : Nat) (X : String) (names : List String) : List Cond := (Bundle.ownAtoms0 own ic X names).filter vx_no
def vx_atS (own : String) (ic : Nat) (X : String) (names : List String) : List Cond := (Bundle.ownAtoms own ic X names).filter vx_no
/-- a word that the tables alone decide, or a good one -/
def vx_ot (w : Cond) : Bool := w.onTables || goodWord w
theorem vx_ot_at {args a' : Array Value} {s U : State} {w : Cond} (hW : s.WarmedH U.vm) (hvm : s.vm = U.vm) (hg : vx_ot w = true) (h : w.before args s = true) : w.before a' U = true := by
  simp only [vx_ot, Bool.or_eq_true] at hg
  rcases hg with hg | hg
  · exact va_tabs hg hvm h
  · exact word_at hW (good_of_word hg) h
/-- a list's words: the good ones out of the method's own list, the others by premises of their own -/
theorem vx_hat {args : Array Value} {s : State} {L B : List Cond} (h1 : ∀ w ∈ L.filter goodWord, w.before args s = true) (h2 : ∀ w ∈ L.filter (fun w => !goodWord w), w ∈ B) (h3 : ∀ w ∈ B, w.before args s = true) : ∀ w ∈ L, w.before args s = true := by
  intro w hw
  by_cases g : goodWord w = true
  · exact h1 w (List.mem_filter.mpr ⟨hw, g⟩)
  · refine h3 w (h2 w (List.mem_filter.mpr ⟨hw, ?_⟩))
    show (!goodWord w) = true
    cases hgw : goodWord w
    · rfl
    · exact absurd hgw g
theorem vx_c {args : Array Value} {s : State} {w : Cond} {B : List Cond} (h : w.before args s = true) (t : ∀ w ∈ B, w.before args s = true) : ∀ w' ∈ w :: B, w'.before args s = true := fun w' h' => (List.mem_cons.mp h').elim (fun e => by rw [e]; exact h) (t w')
theorem vx_n {args : Array Value} {s : State} : ∀ w ∈ ([] : List Cond), w.before args s = true := fun _ h => nomatch h
theorem vx_own {args : Array Value} {s : State} {L : List Cond} (h1 : ∀ w ∈ L.filter vx_no, w.before args s = true)
    (hU : (Cond.isRef (.static Bundle.tN "UNASSIGNED_STACK" Bundle.steD)).before args s = true) (hN : (Cond.isRef (.static Bundle.tN "SUPPRESSED_SENTINEL" Bundle.listD)).before args s = true)
    (lU : (Cond.laysStatic Bundle.tN "UNASSIGNED_STACK" Bundle.steD).before args s = true) (lN : (Cond.laysStatic Bundle.tN "SUPPRESSED_SENTINEL" Bundle.listD).before args s = true) : ∀ w ∈ L, w.before args s = true := by
  intro w hw
  by_cases e1 : w = .isRef (.static Bundle.tN "UNASSIGNED_STACK" Bundle.steD)
  · rw [e1]; exact hU
  · by_cases e2 : w = .isRef (.static Bundle.tN "SUPPRESSED_SENTINEL" Bundle.listD)
    · rw [e2]; exact hN
    · by_cases e3 : w = .laysStatic Bundle.tN "UNASSIGNED_STACK" Bundle.steD
      · rw [e3]; exact lU
      · by_cases e4 : w = .laysStatic Bundle.tN "SUPPRESSED_SENTINEL" Bundle.listD
        · rw [e4]; exact lN
        · exact h1 w (List.mem_filter.mpr ⟨hw, by unfold vx_no; rw [decide_eq_true e1, decide_eq_true e2, decide_eq_true e3, decide_eq_true e4]; rfl⟩)
/-- where a static field lies, its class's statics cell in H -/
def vx_L (C n d : String) (A : Nat → Prop) (U : State) (H : Heap) : Prop := ∃ (c : ClassId) (k : Class) (i : Nat) (f : Field) (a : Nat) (cell : Cell), U.vm.findClass C = some c ∧ U.fieldFound? C n d = some (c, k, i, f) ∧ f.isStatic = true ∧ k.statics = some a ∧ H[a]? = some cell ∧ cell.vm.isStatics = true ∧ cell.cls = c ∧ f.slot < cell.slots.size ∧ k.staticTypes[f.slot]? = some f.type ∧ ¬ A a
theorem vx_L.moved {C n d : String} {A : Nat → Prop} {u U : State} {H : Heap} (hvm : u.vm.Alike U.vm) (h : vx_L C n d A u H) : vx_L C n d A U H := by
  obtain ⟨c, k, i, f, a, cell, h1, h2, h3, h4, h5, h6, h7, h8, h9, h10⟩ := h
  obtain ⟨k', hi', he⟩ := State.fieldFound?_setVm hvm h2
  exact ⟨c, k', i, f, a, cell, by rw [hvm.findClass]; exact h1, hi', h3, by rw [he]; exact h4, h5, h6, h7, h8, by rw [he]; exact h9, h10⟩
theorem vx_L.kept {C n d : String} {A : Nat → Prop} {U : State} {H H1 : Heap} (h : vx_L C n d A U H) (hq : ∀ a : Nat, a < H.size → ¬ A a → H1[a]? = H[a]?) : vx_L C n d A U H1 := by
  obtain ⟨c, k, i, f, a, cell, h1, h2, h3, h4, h5, h6, h7, h8, h9, h10⟩ := h
  exact ⟨c, k, i, f, a, cell, h1, h2, h3, h4, by rw [hq a (Array.getElem?_eq_some_iff.mp h5).1 h10]; exact h5, h6, h7, h8, h9, h10⟩
theorem vx_L.narrow {C n d : String} {A B : Nat → Prop} {U : State} {H : Heap} (h : vx_L C n d A U H) (hAB : ∀ q, B q → A q) : vx_L C n d B U H := by
  obtain ⟨c, k, i, f, a, cell, h1, h2, h3, h4, h5, h6, h7, h8, h9, h10⟩ := h
  exact ⟨c, k, i, f, a, cell, h1, h2, h3, h4, h5, h6, h7, h8, h9, fun z => h10 (hAB _ z)⟩
theorem vx_L.word {C n d : String} {A : Nat → Prop} {s : State} {args : Array Value} (h : vx_L C n d A s s.heap) : (Cond.laysStatic C n d).before args s = true := by
  obtain ⟨c, k, i, f, a, cell, h1, h2, h3, h4, h5, h6, h7, h8, h9, -⟩ := h
  show (Cond.laysStatic C n d).holds args s none s [] = true
  exact Cond.laysStatic_of h1 h2 h3 h4 h5 h6 h7 h8 h9
/-- .. and what it holds: null or some reference -/
def vx_Zq (C n d : String) (A : Nat → Prop) (U : State) (H : Heap) : Prop := va_Zq C n d A U H ∧ vx_L C n d A U H
theorem vx_Zq.moved {C n d : String} {A : Nat → Prop} {u U : State} {H : Heap} (hvm : u.vm.Alike U.vm) (h : vx_Zq C n d A u H) : vx_Zq C n d A U H := ⟨va_Zq.moved hvm h.1, vx_L.moved hvm h.2⟩
theorem vx_Zq.kept {C n d : String} {A : Nat → Prop} {U : State} {H H1 : Heap} (h : vx_Zq C n d A U H) (hq : ∀ a : Nat, a < H.size → ¬ A a → H1[a]? = H[a]?) : vx_Zq C n d A U H1 := ⟨va_Zq.kept h.1 hq, vx_L.kept h.2 hq⟩
theorem vx_Zq.narrow {C n d : String} {A B : Nat → Prop} {U : State} {H : Heap} (h : vx_Zq C n d A U H) (hAB : ∀ q, B q → A q) : vx_Zq C n d B U H := ⟨va_Zq.narrow h.1 hAB, vx_L.narrow h.2 hAB⟩
theorem vx_Zqof {args : Array Value} {s : State} {C n d : String} {A : Nat → Prop} (hl : (Cond.laysStatic C n d).before args s = true) (hini : (Cond.initialized C).before args s = true) (h : (Cond.isRef (.static C n d)).before args s = true) (hA : ∀ a : Nat, a < s.heap.size → ¬ A a) : vx_Zq C n d A s s.heap := by
  refine ⟨va_Zqof hl hini h hA, ?_⟩
  obtain ⟨c, k, i, f, a, cell, h1, h2, h3, h4, h5, h6, h7, h8, h9⟩ := Cond.laysStatic_spec hl
  exact ⟨c, k, i, f, a, cell, h1, h2, h3, h4, h5, h6, h7, h8, h9, hA a (Array.getElem?_eq_some_iff.mp h5).1⟩
theorem vx_isRef {C n d : String} {v : Value} {A : Nat → Prop} {s : State} {args : Array Value} (h : va_Z C n d v A s s.heap) (hv : v.isRef = true) : (Cond.isRef (.static C n d)).before args s = true := by
  obtain ⟨cf, kf, fi, f, a, cell, h1, h2, h3, h4, h5, h6, h7, -⟩ := h
  have he : (Term.static C n d).eval args s none [] s = some v := by
    simp [Term.eval, State.fieldNamed?, h1, h2, h4, h5, h6, h7]
  simp only [Cond.before, Cond.holds, Cond.value, he]
  cases v <;> simp_all [Value.isRef]
theorem vx_isRefq {C n d : String} {A : Nat → Prop} {s : State} {args : Array Value} (h : va_Zq C n d A s s.heap) : (Cond.isRef (.static C n d)).before args s = true := by
  rcases h with h | ⟨t, h⟩
  · exact vx_isRef h rfl
  · exact vx_isRef h rfl
/-- the same frame, seen from here: as if the method were called anew in this heap -/
theorem vx_rebase {T : State} (X : Stand p l e R s m args below meth c T locs cells slots) {R' : Room} (hf : R'.frames ≤ R.frames) (hl : R'.locals ≤ R.locals) (hc : cells + R'.cells ≤ R.cells) (hs : slots + R'.slots ≤ R.slots) :
    Stand p l e R' ((T.setVm s.vm).setFrames (.invoking m args :: below)) m args below meth c T [] 0 0 := by
  have htop : (T.setVm s.vm).topJava?.isSome := X.here.top
  have hF : ((T.setVm s.vm).setFrames (.invoking m args :: below)).frames = .invoking m args :: below := State.frames_setFrames _ (State.cur_lt_of_top htop)
  obtain ⟨g₀, hg0⟩ := Option.isSome_iff_exists.mp htop
  obtain ⟨r, hr⟩ := State.topJava?_eq_some.mp hg0
  have hl9 : e.platform.stackLimits (T.setVm s.vm).me = e.platform.stackLimits s.me := X.limits
  have hb9 : (T.setVm s.vm).me.stackBytes = s.me.stackBytes := X.bytes
  refine ⟨X.admits, X.cas, X.clock, hF, ?_, X.hears, X.method, X.code, X.here, X.tail, X.warmed, ?_, ?_, ?_⟩
  · have h := X.room
    have hU : ((T.setVm s.vm).setFrames (.invoking m args :: below)).localsInUse = s.localsInUse := by
      rw [State.localsInUse_invoking hF (meth := meth) (c := c) X.method X.code, State.localsInUse_invoking X.frames X.method X.code]
    simp only [State.hasRoom, Bool.and_eq_true, decide_eq_true_eq] at h ⊢
    obtain ⟨⟨⟨⟨h1, h2, h3, h4, h5, h6⟩, h7⟩, h8⟩, h9⟩ := h
    rw [X.frames, List.length_cons] at h2 h3
    have q1 := X.heapSize
    have q2 := X.used
    simp only [hF, hU, List.length_cons, State.stackLimits_setFrames, State.stackBytes_setFrames, hl9, hb9]
    refine ⟨⟨⟨⟨by omega, by omega, by omega, by omega, by omega, h6⟩, ?_⟩, ?_⟩, X.book⟩
    · show T.heap.size + R'.cells ≤ e.platform.maxCells
      omega
    · show T.slotsUsed + R'.slots ≤ e.platform.maxSlots
      omega
  · rw [State.stackLimits_setFrames]; rfl
  · rw [State.stackBytes_setFrames]; rfl
  · refine ⟨?_, Nat.le_refl _, Nat.le_refl _, ?_, ?_, fun a c9 h9 => ⟨c9, h9, rfl, rfl, fun _ _ => rfl⟩⟩
    · obtain ⟨t, ht, -⟩ := State.frames_cons hr
      show T.setVm s.vm = { ((T.setVm s.vm).setFrames (.invoking m args :: below)).setFrames (T.setVm s.vm).frames with heap := T.heap, slotsUsed := T.slotsUsed }
      rw [State.setFrames_setFrames, State.setFrames_self ht]
      rfl
    · show T.slotsUsed = T.slotsUsed + ((T.heap.toList.drop T.heap.size).map (·.slots.size)).sum
      rw [List.drop_eq_nil_of_le (Nat.le_of_eq Array.length_toList)]
      rfl
    · show ((T.heap.toList.drop T.heap.size).map (·.slots.size)).sum ≤ 0
      rw [List.drop_eq_nil_of_le (Nat.le_of_eq Array.length_toList)]
      exact Nat.le_refl _
/-- 'throw new E()': new; dup; invokespecial; athrow -/
theorem vx_throw0 {cc : ByteArray} {pc : Nat} (hexec : p.tables.exec = Jvm.exec) (hb : c.code = cc) (hl : l.stackTraces = false) {own cls : String} {names : List String} {ik ic mc ms : Nat} {A : Nat → Prop}
    (hown : s.vm.findClass own = some m.cls) (hcls : Bundle.fit cls = true) (hnames : ∀ n ∈ names, Bundle.fit n = true)
    (hk : (Cond.classLink own ik cls).before args s = true) (hini : (Cond.initialized cls).before args s = true) (hat : ∀ w ∈ vx_at0 own ic cls names, w.before args s = true)
    (hgood : ∀ w ∈ Cond.classLink own ik cls :: Cond.initialized cls :: vx_at0 own ic cls names, vx_ot w = true)
    (hU : vx_Zq Bundle.tN "UNASSIGNED_STACK" Bundle.steD A s s.heap) (hN : vx_Zq Bundle.tN "SUPPRESSED_SENTINEL" Bundle.listD A s s.heap) (hS : va_S A s.heap H locs) (hsize : ls.size = c.maxLocals)
    (d0 : decode cc pc = .ok (.new ik, 3)) (d3 : decode cc (pc + 3) = .ok (.dup, 1)) (d4 : decode cc (pc + 4) = .ok (.invokespecial ic, 3)) (d7 : decode cc (pc + 7) = .ok (.athrow, 1))
    (hout : ∀ x ∈ c.exceptionTable.toList, covers x (pc + 7) = false)
    (hRframes : names.length + 3 < R.frames) (hRlocals : (rest.map fun v => v.category).sum + (13 * (names.length + 1) + 42) ≤ R.locals) (hRcells : cells + 1 ≤ R.cells) (hRslots : slots + 6 ≤ R.slots) (hlocks : meth.locks = false)
    (hx : ∀ t : State, s.vm.Alike t.vm → H.size ≤ t.heap.size → (∀ q : Nat, q < H.size → t.heap[q]? = H[q]?) → XC cls s t)
    (hf : ∀ z ∈ locs, free z.base) (hc : cells + 1 ≤ mc) (hs : slots + 6 ≤ ms) :
    W p l e R s m args below meth c H locs cells slots (vx_MQ below Qc XC args s mc ms free) (F0 m pc ls rest) := by
  intro T hT X
  have htr : e.platform.stackTraces = false := (show e.platform.stackTraces = l.stackTraces by rw [X.admits.platform]).trans hl
  have Y := vx_rebase X (R' := { frames := R.frames, locals := R.locals, cells := 1, slots := 6 }) (Nat.le_refl _) (Nat.le_refl _) hRcells hRslots
  obtain ⟨s', hA⟩ : ∃ z, z = (T.setVm s.vm).setFrames (.invoking m args :: below) := ⟨_, rfl⟩
  rw [← hA] at Y
  have hvm : s'.vm = s.vm := by rw [hA]; rfl
  have hhp : s'.heap = H := by rw [hA]; exact hT
  have hW0 : s.WarmedH s'.vm := by rw [hvm]; exact State.WarmedH.refl s
  have hat' : ∀ w ∈ vx_at0 own ic cls names, w.before args s' = true := fun w hw => vx_ot_at hW0 hvm.symm (hgood w (List.mem_cons_of_mem _ (List.mem_cons_of_mem _ hw))) (hat w hw)
  have hk' : (Cond.classLink own ik cls).before args s' = true := vx_ot_at hW0 hvm.symm (hgood _ List.mem_cons_self) hk
  have hini' : (Cond.initialized cls).before args s' = true := vx_ot_at hW0 hvm.symm (hgood _ (List.mem_cons_of_mem _ List.mem_cons_self)) hini
  have hU' : vx_Zq Bundle.tN "UNASSIGNED_STACK" Bundle.steD A s' s'.heap := by rw [hhp]; exact vx_Zq.moved hW0.alike (hU.kept hS.2.1)
  have hN' : vx_Zq Bundle.tN "SUPPRESSED_SENTINEL" Bundle.listD A s' s'.heap := by rw [hhp]; exact vx_Zq.moved hW0.alike (hN.kept hS.2.1)
  have h : ∀ w ∈ Bundle.ownAtoms0 own ic cls names, w.before args s' = true := vx_own hat' (vx_isRefq hU'.1) (vx_isRefq hN'.1) hU'.2.word hN'.2.word
  have hown' : s'.vm.findClass own = some m.cls := by rw [hvm]; exact hown
  have hins : (Cond.instantiable cls 6).before args s' = true := h _ (by simp [Bundle.ownAtoms0])
  obtain ⟨vm₁, cX, kX, hfX, hkX, -, -, X₁, st1⟩ := Y.newCold hexec (own := own) (C := cls) (index := ik) (n := 6) hown' hk' hins hini'
    (g := F0 m pc ls rest) rfl (by rw [hb]; exact d0) (Nat.le_refl _) (Nat.le_refl _)
  generalize hT1 : (T.setVm vm₁).pushCell { cls := cX, slots := kX.instanceTypes.map defaultValue, vm := .none } = T1 at X₁ st1
  have hcat : (Value.ref T.heap.size).category = 1 := rfl
  have hcellA : T1.heap[T.heap.size]? = some (freshCell cX kX) := by rw [← hT1]; exact State.heap_pushCell_size _ _
  have d3' : decode c.code (pc + 3) = .ok (.dup, 1) := by rw [hb]; exact d3
  obtain ⟨U, hsteps, hrun, hend, hW, hsame, ce, hce, hO⟩ := X₁.ctorThrow0 hexec htr (own := own) (cls := cls) (names := names) (ic := ic) hown' hcls hnames h (fun x hx => nomatch hx) hfX hkX hcellA (by rw [hhp, hT]; exact Nat.le_refl _)
    (g := { method := m, pc := pc + 4, locals := ls, stack := .ref T.heap.size :: .ref T.heap.size :: rest, locked := none }) rfl hsize rfl rfl (rest := rest) rfl
    (by rw [hb]; exact d4) (by rw [hb]; exact d7) hout hRframes (by simp only [List.map_cons, List.sum_cons, hcat]; omega) hlocks
  obtain ⟨f1, f2⟩ := vx_frame hsame
  rw [hhp] at f1 f2
  have hWs : s.WarmedH U.vm := State.WarmedH.trans hW0 hW
  have hcl : s.vm.findClass cls = some ce.cls := by
    have h9 := hO.cls
    rw [hvm] at h9
    exact h9
  have hall : s.sameButNew ({ U with vm := s.vm } : State) locs mc ms := by
    subst hA
    obtain ⟨e1, e2⟩ := hsame
    rw [State.setFrames_setFrames] at e1
    have h2 : (T.setVm s.vm).sameButNew ({ U with vm := s.vm } : State) [] (0 + 1) (0 + 6) := ⟨e1, e2⟩
    have h3 := X.same.trans h2
    rw [List.append_nil] at h3
    exact h3.mono hc hs
  refine ⟨U, ?_, .threw T.heap.size, hrun, hend, Or.inr ⟨T.heap.size, rfl, cls, ce, locs, hx U hWs.alike f1 (fun q hq => f2 q hq (fun z hz => nomatch hz)), hce, hO.vm, hcl, hWs, hall, hf⟩⟩
  refine st1 _ ?_
  show Steps p.tables e below (T1.setTop { method := m, pc := pc + 3, locals := ls, stack := .ref T.heap.size :: rest, locked := none }) _
  jvm_step X₁.here [X₁.here.top, hexec, d3', Value.category]
  exact hsteps
/-- 'throw new E("text")': new; dup; ldc; invokespecial; athrow -/
theorem vx_throwS {cc : ByteArray} {pc : Nat} (hexec : p.tables.exec = Jvm.exec) (hb : c.code = cc) (hl : l.stackTraces = false) {own cls text : String} {names : List String} {ik is ic mc ms sa : Nat} {A : Nat → Prop}
    (hown : s.vm.findClass own = some m.cls) (hcls : Bundle.fit cls = true) (hnames : ∀ n ∈ names, Bundle.fit n = true)
    (hk : (Cond.classLink own ik cls).before args s = true) (hini : (Cond.initialized cls).before args s = true) (hstr : vk_R own is text sa s) (hat : ∀ w ∈ vx_atS own ic cls names, w.before args s = true)
    (hgood : ∀ w ∈ Cond.classLink own ik cls :: Cond.initialized cls :: vx_atS own ic cls names, vx_ot w = true)
    (hU : vx_Zq Bundle.tN "UNASSIGNED_STACK" Bundle.steD A s s.heap) (hN : vx_Zq Bundle.tN "SUPPRESSED_SENTINEL" Bundle.listD A s s.heap) (hS : va_S A s.heap H locs) (hsize : ls.size = c.maxLocals)
    (d0 : decode cc pc = .ok (.new ik, 3)) (d3 : decode cc (pc + 3) = .ok (.dup, 1)) (d4 : decode cc (pc + 4) = .ok (.ldc is, 2)) (d6 : decode cc (pc + 6) = .ok (.invokespecial ic, 3)) (d9 : decode cc (pc + 9) = .ok (.athrow, 1))
    (hout : ∀ x ∈ c.exceptionTable.toList, covers x (pc + 9) = false)
    (hRframes : names.length + 3 < R.frames) (hRlocals : (rest.map fun v => v.category).sum + (13 * (names.length + 1) + 43) ≤ R.locals) (hRcells : cells + 1 ≤ R.cells) (hRslots : slots + 6 ≤ R.slots) (hlocks : meth.locks = false)
    (hx : ∀ t : State, s.vm.Alike t.vm → H.size ≤ t.heap.size → (∀ q : Nat, q < H.size → t.heap[q]? = H[q]?) → XC cls s t)
    (hf : ∀ z ∈ locs, free z.base) (hc : cells + 1 ≤ mc) (hs : slots + 6 ≤ ms) :
    W p l e R s m args below meth c H locs cells slots (vx_MQ below Qc XC args s mc ms free) (F0 m pc ls rest) := by
  intro T hT X
  have htr : e.platform.stackTraces = false := (show e.platform.stackTraces = l.stackTraces by rw [X.admits.platform]).trans hl
  have Y := vx_rebase X (R' := { frames := R.frames, locals := R.locals, cells := 1, slots := 6 }) (Nat.le_refl _) (Nat.le_refl _) hRcells hRslots
  obtain ⟨s', hA⟩ : ∃ z, z = (T.setVm s.vm).setFrames (.invoking m args :: below) := ⟨_, rfl⟩
  rw [← hA] at Y
  have hvm : s'.vm = s.vm := by rw [hA]; rfl
  have hhp : s'.heap = H := by rw [hA]; exact hT
  have hW0 : s.WarmedH s'.vm := by rw [hvm]; exact State.WarmedH.refl s
  have hat' : ∀ w ∈ vx_atS own ic cls names, w.before args s' = true := fun w hw => vx_ot_at hW0 hvm.symm (hgood w (List.mem_cons_of_mem _ (List.mem_cons_of_mem _ hw))) (hat w hw)
  have hk' : (Cond.classLink own ik cls).before args s' = true := vx_ot_at hW0 hvm.symm (hgood _ List.mem_cons_self) hk
  have hini' : (Cond.initialized cls).before args s' = true := vx_ot_at hW0 hvm.symm (hgood _ (List.mem_cons_of_mem _ List.mem_cons_self)) hini
  have hU' : vx_Zq Bundle.tN "UNASSIGNED_STACK" Bundle.steD A s' s'.heap := by rw [hhp]; exact vx_Zq.moved hW0.alike (hU.kept hS.2.1)
  have hN' : vx_Zq Bundle.tN "SUPPRESSED_SENTINEL" Bundle.listD A s' s'.heap := by rw [hhp]; exact vx_Zq.moved hW0.alike (hN.kept hS.2.1)
  have h : ∀ w ∈ Bundle.ownAtoms own ic cls names, w.before args s' = true := vx_own hat' (vx_isRefq hU'.1) (vx_isRefq hN'.1) hU'.2.word hN'.2.word
  have hown' : s'.vm.findClass own = some m.cls := by rw [hvm]; exact hown
  have hins : (Cond.instantiable cls 6).before args s' = true := h _ (by simp [Bundle.ownAtoms])
  obtain ⟨vm₁, cX, kX, hfX, hkX, -, -, X₁, st1⟩ := Y.newCold hexec (own := own) (C := cls) (index := ik) (n := 6) hown' hk' hins hini'
    (g := F0 m pc ls rest) rfl (by rw [hb]; exact d0) (Nat.le_refl _) (Nat.le_refl _)
  generalize hT1 : (T.setVm vm₁).pushCell { cls := cX, slots := kX.instanceTypes.map defaultValue, vm := .none } = T1 at X₁ st1
  have hcat : (Value.ref T.heap.size).category = 1 := rfl
  have hcellA : T1.heap[T.heap.size]? = some (freshCell cX kX) := by rw [← hT1]; exact State.heap_pushCell_size _ _
  have d3' : decode c.code (pc + 3) = .ok (.dup, 1) := by rw [hb]; exact d3
  have d4' : decode c.code (pc + 4) = .ok (.ldc is, 2) := by rw [hb]; exact d4
  have hstr' : vk_R own is text sa s' := vk_R.warm hW0 hstr
  obtain ⟨U, hsteps, hrun, hend, hW, hsame, ce, hce, hO⟩ := X₁.ctorThrowS hexec htr (own := own) (cls := cls) (names := names) (ic := ic) hown' hcls hnames h (fun x hx => nomatch hx) hfX hkX hcellA (by rw [hhp, hT]; exact Nat.le_refl _) (msg := .ref sa) rfl
    (g := { method := m, pc := pc + 6, locals := ls, stack := .ref sa :: .ref T.heap.size :: .ref T.heap.size :: rest, locked := none }) rfl hsize rfl rfl (rest := rest) rfl
    (by rw [hb]; exact d6) (by rw [hb]; exact d9) hout hRframes (by simp only [List.map_cons, List.sum_cons, hcat]; omega) hlocks
  obtain ⟨f1, f2⟩ := vx_frame hsame
  rw [hhp] at f1 f2
  have hWs : s.WarmedH U.vm := State.WarmedH.trans hW0 hW
  have hcl : s.vm.findClass cls = some ce.cls := by
    have h9 := hO.cls
    rw [hvm] at h9
    exact h9
  have hall : s.sameButNew ({ U with vm := s.vm } : State) locs mc ms := by
    subst hA
    obtain ⟨e1, e2⟩ := hsame
    rw [State.setFrames_setFrames] at e1
    have h2 : (T.setVm s.vm).sameButNew ({ U with vm := s.vm } : State) [] (0 + 1) (0 + 6) := ⟨e1, e2⟩
    have h3 := X.same.trans h2
    rw [List.append_nil] at h3
    exact h3.mono hc hs
  refine ⟨U, ?_, .threw T.heap.size, hrun, hend, Or.inr ⟨T.heap.size, rfl, cls, ce, locs, hx U hWs.alike f1 (fun q hq => f2 q hq (fun z hz => nomatch hz)), hce, hO.vm, hcl, hWs, hall, hf⟩⟩
  refine st1 _ ?_
  show Steps p.tables e below (T1.setTop { method := m, pc := pc + 3, locals := ls, stack := .ref T.heap.size :: rest, locked := none }) _
  jvm_step X₁.here [X₁.here.top, hexec, d3', Value.category]
  exact X₁.ldcString hexec (own := own) (text := text) (index := is) (a := sa) hown' hstr'.1 hstr'.2
    (g := { method := m, pc := pc + 4, locals := ls, stack := .ref T.heap.size :: .ref T.heap.size :: rest, locked := none }) rfl d4' _ hsteps
/-- 'throw new E("text")', the text by a wide index -/
theorem vx_throwSW {cc : ByteArray} {pc : Nat} (hexec : p.tables.exec = Jvm.exec) (hb : c.code = cc) (hl : l.stackTraces = false) {own cls text : String} {names : List String} {ik is ic mc ms sa : Nat} {A : Nat → Prop}
    (hown : s.vm.findClass own = some m.cls) (hcls : Bundle.fit cls = true) (hnames : ∀ n ∈ names, Bundle.fit n = true)
    (hk : (Cond.classLink own ik cls).before args s = true) (hini : (Cond.initialized cls).before args s = true) (hstr : vk_R own is text sa s) (hat : ∀ w ∈ vx_atS own ic cls names, w.before args s = true)
    (hgood : ∀ w ∈ Cond.classLink own ik cls :: Cond.initialized cls :: vx_atS own ic cls names, vx_ot w = true)
    (hU : vx_Zq Bundle.tN "UNASSIGNED_STACK" Bundle.steD A s s.heap) (hN : vx_Zq Bundle.tN "SUPPRESSED_SENTINEL" Bundle.listD A s s.heap) (hS : va_S A s.heap H locs) (hsize : ls.size = c.maxLocals)
    (d0 : decode cc pc = .ok (.new ik, 3)) (d3 : decode cc (pc + 3) = .ok (.dup, 1)) (d4 : decode cc (pc + 4) = .ok (.ldc_w is, 3)) (d7 : decode cc (pc + 7) = .ok (.invokespecial ic, 3)) (d10 : decode cc (pc + 10) = .ok (.athrow, 1))
    (hout : ∀ x ∈ c.exceptionTable.toList, covers x (pc + 10) = false)
    (hRframes : names.length + 3 < R.frames) (hRlocals : (rest.map fun v => v.category).sum + (13 * (names.length + 1) + 43) ≤ R.locals) (hRcells : cells + 1 ≤ R.cells) (hRslots : slots + 6 ≤ R.slots) (hlocks : meth.locks = false)
    (hx : ∀ t : State, s.vm.Alike t.vm → H.size ≤ t.heap.size → (∀ q : Nat, q < H.size → t.heap[q]? = H[q]?) → XC cls s t)
    (hf : ∀ z ∈ locs, free z.base) (hc : cells + 1 ≤ mc) (hs : slots + 6 ≤ ms) :
    W p l e R s m args below meth c H locs cells slots (vx_MQ below Qc XC args s mc ms free) (F0 m pc ls rest) := by
  intro T hT X
  have htr : e.platform.stackTraces = false := (show e.platform.stackTraces = l.stackTraces by rw [X.admits.platform]).trans hl
  have Y := vx_rebase X (R' := { frames := R.frames, locals := R.locals, cells := 1, slots := 6 }) (Nat.le_refl _) (Nat.le_refl _) hRcells hRslots
  obtain ⟨s', hA⟩ : ∃ z, z = (T.setVm s.vm).setFrames (.invoking m args :: below) := ⟨_, rfl⟩
  rw [← hA] at Y
  have hvm : s'.vm = s.vm := by rw [hA]; rfl
  have hhp : s'.heap = H := by rw [hA]; exact hT
  have hW0 : s.WarmedH s'.vm := by rw [hvm]; exact State.WarmedH.refl s
  have hat' : ∀ w ∈ vx_atS own ic cls names, w.before args s' = true := fun w hw => vx_ot_at hW0 hvm.symm (hgood w (List.mem_cons_of_mem _ (List.mem_cons_of_mem _ hw))) (hat w hw)
  have hk' : (Cond.classLink own ik cls).before args s' = true := vx_ot_at hW0 hvm.symm (hgood _ List.mem_cons_self) hk
  have hini' : (Cond.initialized cls).before args s' = true := vx_ot_at hW0 hvm.symm (hgood _ (List.mem_cons_of_mem _ List.mem_cons_self)) hini
  have hU' : vx_Zq Bundle.tN "UNASSIGNED_STACK" Bundle.steD A s' s'.heap := by rw [hhp]; exact vx_Zq.moved hW0.alike (hU.kept hS.2.1)
  have hN' : vx_Zq Bundle.tN "SUPPRESSED_SENTINEL" Bundle.listD A s' s'.heap := by rw [hhp]; exact vx_Zq.moved hW0.alike (hN.kept hS.2.1)
  have h : ∀ w ∈ Bundle.ownAtoms own ic cls names, w.before args s' = true := vx_own hat' (vx_isRefq hU'.1) (vx_isRefq hN'.1) hU'.2.word hN'.2.word
  have hown' : s'.vm.findClass own = some m.cls := by rw [hvm]; exact hown
  have hins : (Cond.instantiable cls 6).before args s' = true := h _ (by simp [Bundle.ownAtoms])
  obtain ⟨vm₁, cX, kX, hfX, hkX, -, -, X₁, st1⟩ := Y.newCold hexec (own := own) (C := cls) (index := ik) (n := 6) hown' hk' hins hini'
    (g := F0 m pc ls rest) rfl (by rw [hb]; exact d0) (Nat.le_refl _) (Nat.le_refl _)
  generalize hT1 : (T.setVm vm₁).pushCell { cls := cX, slots := kX.instanceTypes.map defaultValue, vm := .none } = T1 at X₁ st1
  have hcat : (Value.ref T.heap.size).category = 1 := rfl
  have hcellA : T1.heap[T.heap.size]? = some (freshCell cX kX) := by rw [← hT1]; exact State.heap_pushCell_size _ _
  have d3' : decode c.code (pc + 3) = .ok (.dup, 1) := by rw [hb]; exact d3
  have d4' : decode c.code (pc + 4) = .ok (.ldc_w is, 3) := by rw [hb]; exact d4
  have hstr' : vk_R own is text sa s' := vk_R.warm hW0 hstr
  obtain ⟨U, hsteps, hrun, hend, hW, hsame, ce, hce, hO⟩ := X₁.ctorThrowS hexec htr (own := own) (cls := cls) (names := names) (ic := ic) hown' hcls hnames h (fun x hx => nomatch hx) hfX hkX hcellA (by rw [hhp, hT]; exact Nat.le_refl _) (msg := .ref sa) rfl
    (g := { method := m, pc := pc + 7, locals := ls, stack := .ref sa :: .ref T.heap.size :: .ref T.heap.size :: rest, locked := none }) rfl hsize rfl rfl (rest := rest) rfl
    (by rw [hb]; exact d7) (by rw [hb]; exact d10) hout hRframes (by simp only [List.map_cons, List.sum_cons, hcat]; omega) hlocks
  obtain ⟨f1, f2⟩ := vx_frame hsame
  rw [hhp] at f1 f2
  have hWs : s.WarmedH U.vm := State.WarmedH.trans hW0 hW
  have hcl : s.vm.findClass cls = some ce.cls := by
    have h9 := hO.cls
    rw [hvm] at h9
    exact h9
  have hall : s.sameButNew ({ U with vm := s.vm } : State) locs mc ms := by
    subst hA
    obtain ⟨e1, e2⟩ := hsame
    rw [State.setFrames_setFrames] at e1
    have h2 : (T.setVm s.vm).sameButNew ({ U with vm := s.vm } : State) [] (0 + 1) (0 + 6) := ⟨e1, e2⟩
    have h3 := X.same.trans h2
    rw [List.append_nil] at h3
    exact h3.mono hc hs
  refine ⟨U, ?_, .threw T.heap.size, hrun, hend, Or.inr ⟨T.heap.size, rfl, cls, ce, locs, hx U hWs.alike f1 (fun q hq => f2 q hq (fun z hz => nomatch hz)), hce, hO.vm, hcl, hWs, hall, hf⟩⟩
  refine st1 _ ?_
  show Steps p.tables e below (T1.setTop { method := m, pc := pc + 3, locals := ls, stack := .ref T.heap.size :: rest, locked := none }) _
  jvm_step X₁.here [X₁.here.top, hexec, d3', Value.category]
  exact X₁.ldcStringW hexec (own := own) (text := text) (index := is) (a := sa) hown' hstr'.1 hstr'.2
    (g := { method := m, pc := pc + 4, locals := ls, stack := .ref T.heap.size :: .ref T.heap.size :: rest, locked := none }) rfl d4' _ hsteps
end Ends
section Bodies
variable {l : Launch}
theorem vx_ofW {y : MethodName} {ws ws' : List Cond} {rm : Room} {Pc : Array Value → State → Prop} {Qc : Array Value → State → Outcome → State → Prop} {XC : String → State → State → Prop} {mc ms : Nat} {free : Addr → Prop} {cc : ByteArray} {maxL : Nat} {ret : Option FieldType}
    (hy : plainName y.cls = true) (hw : ws = Cond.code y cc maxL ret :: ws')
    (body : ∀ p e s m args below meth c s₁, BodyLoose p l y (headSpec ws rm) cc maxL ret e s m args below meth c s₁ → c.maxLocals = maxL → (∀ x ∈ c.exceptionTable.toList, False) → Pc args s →
      W p l e (headSpec ws rm).room s m args below meth c s.heap [] 0 0 (vx_MQ below Qc XC args s mc ms free) (entryFrame m args maxL)) : vx_Met l y ws rm Pc Qc XC mc ms free := by
  refine MetFree.of_bodyS (code := cc) (maxLocals := maxL) (ret := ret) hy ?_ ?_
  · intro args s m h hn
    obtain ⟨meth, c, h1, h2, h3, h4, h5, h6, -, -⟩ := Cond.code_spec hn (atoms_spec (ws := ws) h _ (by rw [hw]; exact List.mem_cons_self))
    exact ⟨meth, c, h1, h2, h3, h4, h5, h6⟩
  · intro p e s m args below meth c s₁ B hml hP _
    have hh0 : s₁.heap = s.heap := by rw [B.state]; rfl
    have ht : ∀ x ∈ c.exceptionTable.toList, False := by
      obtain ⟨meth9, c9, h1, h2, -, -, -, -, h7, -⟩ := Cond.code_spec B.named (atoms_spec (ws := ws) B.pre _ (by rw [hw]; exact List.mem_cons_self))
      cases Option.some.inj (h1.symm.trans B.method)
      cases Option.some.inj (h2.symm.trans (Stand.of_body B).code)
      intro x hx
      rw [Array.isEmpty_iff.mp h7] at hx
      cases hx
    obtain ⟨t, a1, o, b1, b2, b3⟩ := body p e s m args below meth c s₁ B hml ht hP s₁ hh0 (Stand.of_body B)
    exact ⟨t, o, a1, b1, b2, b3⟩
/-- the table of a body with handlers -/
theorem vx_table {p : Program} {x y : MethodName} {S : Spec} {cc bytes : ByteArray} {maxL maxL' : Nat} {ret ret' : Option FieldType} {e : Env} {s s₁ : State} {m : MethodId} {args : Array Value} {below : List Frame} {meth : Method} {c : Code} {hh : List (Nat × Nat × Nat × Nat)}
    (B : BodyLoose p l y S cc maxL ret e s m args below meth c s₁) (h : (Cond.codeWith y bytes maxL' ret' hh).before args s = true) : c.exceptionTable.toList = tableOf hh := by
  obtain ⟨m9, meth9, c9, hn9, h1, h2, -, -, h6, -⟩ := Cond.codeWith_spec h
  cases Option.some.inj (hn9.symm.trans B.named)
  cases Option.some.inj (h1.symm.trans B.method)
  cases Option.some.inj (h2.symm.trans (Stand.of_body B).code)
  rw [← h6, table_eq]
end Bodies
end VXA
/-! ===== END ===== -/
/-! ===== BEGIN a static call of a method with an exception table ===== -/
section VXS
variable {p : Program} {l : Launch} {e : Env} {R : Room} {s : State} {m : MethodId} {args : Array Value} {below : List Frame} {meth : Method} {c : Code} {T : State} {H : Heap} {locs : List Loc} {cells slots : Nat}
abbrev vx_CSW (R : Room) (s : State) (args : Array Value) (own : String) (index : Nat) (y : MethodName) (bytes : ByteArray) (maxL : Nat) (ret : Option FieldType) (hh : List (Nat × Nat × Nat × Nat)) (ws : List Cond) (rm : Room) (mc ms n : Nat) : Prop :=
  (rm.cells = mc ∧ rm.slots = ms ∧ rm.frames + 1 ≤ R.frames ∧ 8 + (maxL + 11) + rm.locals ≤ R.locals ∧ (∀ w ∈ ws, ∀ (a' : Array Value) (U : State), s.WarmedH U.vm → w.before a' U = true) ∧ Cond.codeWith y bytes maxL ret hh ∈ ws) ∧
  (Cond.codeWith y bytes maxL ret hh).before args s = true ∧ (Cond.initialized y.cls).before args s = true ∧ (y.cls ≠ "java/lang/invoke/MethodHandle" ∧ y.cls ≠ "java/lang/invoke/VarHandle") ∧
  (∀ sig, parseMethodDescriptor y.desc = some sig → n = sig.parameters.length) ∧ (Cond.methodLink own index y).before args s = true ∧ (Cond.static y).before args s = true
theorem vx_cwSW {own : String} {index maxL mc ms : Nat} {y : MethodName} {bytes : ByteArray} {ret : Option FieldType} {hh : List (Nat × Nat × Nat × Nat)} {Ts ws ws' : List Cond} {rm : Room} (n : Nat) (ht : ∀ w ∈ Ts, w.before args s = true) (hT : GoodIn Ts (va_wsS own index y ws)) (hw : ws = Cond.codeWith y bytes maxL ret hh :: ws') (hrc : rm.cells = mc) (hrs : rm.slots = ms)
    (hd : y.cls ≠ "java/lang/invoke/MethodHandle" ∧ y.cls ≠ "java/lang/invoke/VarHandle" ∧ (parseMethodDescriptor y.desc).map (fun d => d.parameters.length) = some n) (hR : rm.frames + 1 ≤ R.frames ∧ 8 + (maxL + 11) + rm.locals ≤ R.locals) :
    vx_CSW R s args own index y bytes maxL ret hh ws rm mc ms n := by
  have ok : ∀ w ∈ va_wsS own index y ws, w.before args s = true := fun w h => ht w (hT w h).1
  have hG : GoodIn Ts ws := fun w h => hT w (by unfold va_wsS; exact List.mem_append_right _ h)
  have hc : Cond.codeWith y bytes maxL ret hh ∈ ws := by rw [hw]; exact List.mem_cons_self
  refine ⟨⟨hrc, hrs, hR.1, hR.2, pay_in ht hG, hc⟩, ht _ (hG _ hc).1, ok _ (by simp [va_wsS]), ⟨hd.1, hd.2.1⟩, fun sig h => ?_, ok _ (by simp [va_wsS]), ok _ (by simp [va_wsS])⟩
  have h2 := hd.2.2
  rw [h] at h2
  exact (Option.some.inj h2).symm
theorem vx_callSW (X : Stand p l e R s m args below meth c T locs cells slots) (hexec : p.tables.exec = Jvm.exec) {own : String} {index : Nat} {y : MethodName} {bytes : ByteArray} {maxL : Nat} {ret : Option FieldType} {hh : List (Nat × Nat × Nat × Nat)}
    (hown : s.vm.findClass own = some m.cls) (hlink : (Cond.methodLink own index y).before args s = true) (hstat : (Cond.static y).before args s = true) (hinit : (Cond.initialized y.cls).before args s = true)
    (hcode : (Cond.codeWith y bytes maxL ret hh).before args s = true) (hy : y.cls ≠ "java/lang/invoke/MethodHandle" ∧ y.cls ≠ "java/lang/invoke/VarHandle")
    {W9 : Nat} {Pre : Pt → Array Value → Prop} {Post : Pt → Array Value → Option Value → Pt → Prop} (hK : Back l R p e below s args y 3 W9 Pre Post)
    {g : JFrame} (hg : g.method = m) (hsize : g.locals.size = c.maxLocals) {argsL rest : List Value} (hlen : ∀ sig, parseMethodDescriptor y.desc = some sig → argsL.length = sig.parameters.length)
    (hstack : g.stack = argsL.reverse ++ rest) (hW : 2 * g.monitorRoom + (rest.map fun v => v.category).sum ≤ W9) (hdg : decode c.code g.pc = .ok (.invokestatic index, 3))
    (hpre : ∀ vm₁, s.WarmedH vm₁ → Pre ⟨T.setVm vm₁, locs, cells, slots⟩ argsL.toArray) :
    ∃ (v : Option Value) (vm₁ : Vm) (B : Pt), s.WarmedH vm₁ ∧ Stand p l e R s m args below meth c B.U B.locs B.cells B.slots ∧ Post ⟨T.setVm vm₁, locs, cells, slots⟩ argsL.toArray v B ∧
      ∀ target, Steps p.tables e below (B.U.setTop { g with pc := g.pc + 3, stack := v.toList ++ rest }) target → Steps p.tables e below (T.setTop g) target := by
  obtain ⟨mk, methM, cM, hnamed, hmethM, -, -, -, -, -, -, hsigM⟩ := Cond.codeWith_spec hcode
  have hstatic : methM.isStatic = true := Cond.static_spec hnamed hmethM hstat
  obtain ⟨kP, hkP, -⟩ := className_of_methodNamed hnamed
  have hinitP : kP.init = .initialized := Cond.initialized_spec (findClass_of_methodNamed hnamed) hkP hinit
  obtain ⟨vm₁, X₁, hstep₁⟩ := X.invokestatic hexec hown hlink hnamed hmethM hstatic hkP hinitP hy (g := g) hg (argsL := argsL) (rest := rest) (hlen _ hsigM) hstack hdg
  obtain ⟨v, B, X', hpost, hsteps⟩ := hK m meth c ⟨T.setVm vm₁, locs, cells, slots⟩ { g with stack := rest } (.invokestatic index) mk argsL.toArray X₁ hg hsize hdg hW (X₁.named hnamed) (hpre vm₁ X₁.warmed)
  exact ⟨v, vm₁, B, X₁.warmed, X', hpost, fun target h => hstep₁ _ fun acts => by rw [doInvoke_state]; exact hsteps.trans h⟩
theorem vx_runSW {y : MethodName} {bytes cc : ByteArray} {maxL nL mc ms n index : Nat} {ret : Option FieldType} {hh : List (Nat × Nat × Nat × Nat)} {ws : List Cond} {rm : Room} {Pc : Array Value → State → Prop} {Qc : Array Value → State → Outcome → State → Prop} {free : Addr → Prop} {Ts : List Cond} {own : String} {As rest : List Value} {g : JFrame}
    (S : CallFix p m c cc nL s args Ts own) (hM : Met l y ws rm Pc Qc mc ms free) (cw : vx_CSW R s args own index y bytes maxL ret hh ws rm mc ms n) (hp : PreS s H Pc As)
    (hg : g.method = m) (hn : As.length = n) (hsize : g.locals.size = nL) (hstack : g.stack = As.reverse ++ rest) (hW : 2 * g.monitorRoom + (rest.map fun v => v.category).sum ≤ 8) (hdg : decode cc g.pc = .ok (.invokestatic index, 3)) (hf : cells + mc ≤ R.cells ∧ slots + ms ≤ R.slots) :
    va_Run p l e R s m args below meth c H locs cells slots mc ms g rest (Qc As.toArray) (free) := by
  obtain ⟨⟨hrc, hrs, hfr, hlo, hws, hcw⟩, hcode, hini, hy, hlen, hl, hstt⟩ := cw
  have hK : Back l R p e below s args y 3 8 (PreOf R mc ms Pc) (PostOf Qc mc ms free) := va_backW (hh := hh) (bytes := bytes) (maxL := maxL) (ret := ret) hM hp.1 hrc hrs hfr hlo hws hcw (fun a' U hW => word_at hW (Or.inl (by first | rfl | simp [Cond.onTables, Cond.keeps, Cond.steady])) hini)
  obtain ⟨hx, hb, hml, ho, -⟩ := S
  intro T hT X
  obtain ⟨v, vm₁, ⟨U', l2, c2, s2⟩, hW₁, X', ⟨g', mk, t, L, e1, e2, hq, h1, hL, h2, h3⟩, st⟩ := vx_callSW X hx (hh := hh) (bytes := bytes) (maxL := maxL) (ret := ret) ho hl hstt hini hcode hy hK hg (hsize.trans hml.symm) (argsL := As) (rest := rest) (fun sig h => hn.trans (hlen sig h)) hstack hW (by rw [hb]; exact hdg)
    (fun vm₁ hW₁ => ⟨hf.1, hf.2, hp.2 (T.setVm vm₁) hT hW₁⟩)
  dsimp only [Pt.U, Pt.locs, Pt.cells, Pt.slots] at X' e1 e2 h1 h2 h3 st
  subst h1; subst h2; subst h3
  exact ⟨v, (T.setVm vm₁).calling g' mk As.toArray, t, U', L, hT, X', hL, e1, e2, hq, st⟩
/-- not caught here, past rows that name other classes: it goes on to the caller -/
theorem vx_outP {p : Program} {l : Launch} {e : Env} {R : Room} {s : State} {m : MethodId} {args : Array Value} {below : List Frame} {meth : Method} {c : Code} {H : Heap} {locs : List Loc} {cells slots : Nat} {free : Addr → Prop} {ls : Array Slot} {rest : List Value} {Qc : Array Value → State → Outcome → State → Prop} {XC : String → State → State → Prop}
    {pc : Nat} {own E : String} {ce : Cell} {q : Addr} {mc ms : Nat} (hown : s.vm.findClass own = some m.cls) (hlocks : meth.locks = false)
    (hpass : ∀ z ∈ c.exceptionTable.toList, covers z pc = false ∨ (z.catchType ≠ 0 ∧ ∃ nm : String, (Cond.classLink own z.catchType nm).before args s = true ∧ va_Nc E nm s)) (hcell : H[q]? = some ce) (hv : ce.vm = .none) (hcl : s.vm.findClass E = some ce.cls)
    (hx : ∀ t : State, t.heap = H → s.vm.Alike t.vm → XC E s t) (hf : ∀ z ∈ locs, free z.base) (hc : cells ≤ mc) (hs : slots ≤ ms) :
    vx_W p l e R s m args below meth c H locs cells slots (vx_MQ below Qc XC args s mc ms free) (F0 m pc ls rest) q := by
  intro T hT X
  have hpl : e.platform.magicAccessors = ({} : Platform).magicAccessors := by rw [X.admits.platform]
  obtain ⟨vm', hW', X', st⟩ := X.outThrough hlocks q (g := F0 m pc ls rest) rfl rfl rfl (cell := ce) (by rw [hT]; exact hcell) (by rw [hv]; rfl)
    (by obtain ⟨k9, h9, -⟩ := Vm.findClass_spec hcl; exact ⟨k9, h9⟩) (fun z hz => by
      rcases hpass z hz with h | ⟨hz0, nm, hl1, hn1⟩
      · exact Or.inl h
      · obtain ⟨c6, hc6, hcl6⟩ := Cond.classLink_spec hown hl1 e.platform hpl
        obtain ⟨a8, b8, h1, h2, h3⟩ := hn1
        cases Option.some.inj (h1.symm.trans hcl)
        cases Option.some.inj (h2.symm.trans hc6)
        exact Or.inr ⟨hz0, _, hcl6, h3⟩)
  obtain ⟨g₀, hfr⟩ := X'.frames_eq
  have hcell9 : ((T.setVm vm').setFrames (.throwing q :: below)).heap[q]? = some ce := by
    show T.heap[q]? = some ce
    rw [hT]; exact hcell
  have hend : Ended ((T.setVm vm').setFrames (.throwing q :: below)) below (.threw q) := State.frames_setFrames _ (State.cur_lt_of_frames hfr)
  refine ⟨(T.setVm vm').setFrames (.throwing q :: below), ?_, .threw q, X'.here.running, hend, Or.inr ⟨q, rfl, E, ce, locs, hx _ hT (X'.ends _).1.alike, hcell9, hv, hcl, (X'.ends _).1, (X'.ends _).2.mono hc hs, hf⟩⟩
  rw [X.pushThrowing_eq]
  exact st
/-- a thing of a world lies in the heap -/
theorem vx_lt {D : va_G} {cl : List vw_C} {ws : va_W} {H1 : Heap} (h : va_P D cl ws H1) {k : Nat} {q : Nat × va_E} (hk : ws[k]? = some q) : q.1 < H1.size := (h k q hk).lt
end VXS
/-! ===== END ===== -/
/-! ===== BEGIN methods with a table of their own: called by a name, returning or throwing ===== -/
section VXH
/-! vx_backW, vx_callVX, vx_callSX, vx_callVW, vx_runVW, vx_runVX, vx_runSX, vx_ofWH follow the same proofs as their sisters above (Free/Laws.lean, Shelf42/LK1.lean); vx_outP calls Shelf42/NT130.lean (outThrough). -/
section
variable {l : Launch} {R : Room} {p : Program} {e : Env} {below : List Frame} {s : State} {sargs : Array Value} {y : MethodName} {len W9 : Nat}
theorem vx_backW {ws : List Cond} {rm : Room} {Pc : Array Value → State → Prop} {Qc : Array Value → State → Outcome → State → Prop} {XC : String → State → State → Prop} {mc ms : Nat} {free : Addr → Prop} {bytes : ByteArray} {maxL : Nat} {ret : Option FieldType} {hh : List (Nat × Nat × Nat × Nat)}
    (hM : vx_Met l y ws rm Pc Qc XC mc ms free) (hblind : FrameBlind Pc) (hrc : rm.cells = mc) (hrs : rm.slots = ms)
    (hframes : rm.frames + 1 ≤ R.frames) (hlocals : W9 + (maxL + 11) + rm.locals ≤ R.locals)
    (hws : ∀ w ∈ ws, ∀ a' U, s.WarmedH U.vm → w.before a' U = true) (hcode : Cond.codeWith y bytes maxL ret hh ∈ ws) (hinit : ∀ a' U, s.WarmedH U.vm → (Cond.initialized y.cls).before a' U = true) :
    vx_Back l R p e below s sargs y len W9 (PreOf R mc ms Pc) (PostOf Qc mc ms free) (vx_Post XC mc ms free) := by
  intro m meth c A g ig mk a X hg hsize hdg hW hn hp
  have h1 : (headSpec ws rm).pre.before a A.U = true := atoms_intro fun w hw => hws w hw _ _ X.warmed
  have h2 : (Cond.codeWith y bytes maxL ret hh).before a A.U = true := hws _ hcode _ _ X.warmed
  have h3 : (Cond.initialized y.cls).before a A.U = true := hinit _ _ X.warmed
  have h4 : A.cells + (headSpec ws rm).room.cells ≤ R.cells := by rw [show (headSpec ws rm).room.cells = mc from hrc]; exact hp.1
  have h5 : A.slots + (headSpec ws rm).room.slots ≤ R.slots := by rw [show (headSpec ws rm).room.slots = ms from hrs]; exact hp.2.1
  have hPc : Pc a (A.U.calling g mk a) := hblind _ _ _ _ hp.2.2
  obtain ⟨U, Ls, c0, s0⟩ := A
  dsimp only [Pt.U, Pt.locs, Pt.cells, Pt.slots] at h1 h2 h3 h4 h5 X hn hPc ⊢
  obtain ⟨m9, methY, cY, hn9, hmY, hcY, -, hlY, -⟩ := Cond.codeWith_spec h2
  cases Option.some.inj (hn9.symm.trans hn)
  obtain ⟨kY, hkY, -⟩ := className_of_methodNamed hn
  have hinitY : kY.init = .initialized := Cond.initialized_spec (findClass_of_methodNamed hn) hkY h3
  have h : At U g.method c below := by rw [hg]; exact X.here
  have hlocals9 : W9 + (maxL + 11) + (headSpec ws rm).room.locals ≤ R.locals := hlocals
  have happ : (headSpec ws rm).appliesLoose y e.platform (U.calling g mk a) = true :=
    Spec.appliesLoose_calling (g := g) h hdg hn hkY hinitY
      (X.room_calling (g := g) (R' := (headSpec ws rm).room) hsize hmY hcY hframes (by rw [hlY]; omega) h4 h5) h1
  obtain ⟨mid, hmid⟩ := h.above
  have hfr : (U.setTop g).frames = (.java g :: mid) ++ below := by rw [State.frames_setTop' g h.top, hmid]; rfl
  obtain ⟨o, s₂, hsteps, -, hend, hq⟩ := Steps.callFree hM p X.admits X.cas X.clock (acts := []) hfr happ hPc trivial
  have hq' : vx_Q Qc XC mc ms free a (U.calling g mk a) o s₂ := hq
  rw [State.frames_setTop' g h.top] at hend
  obtain ⟨g₀, hg0⟩ := Option.isSome_iff_exists.mp h.top
  obtain ⟨r, hr⟩ := State.topJava?_eq_some.mp hg0
  have hr' : (({ U with heap := s₂.heap, slotsUsed := s₂.slotsUsed } : State).setVm s₂.vm).frames = .java g₀ :: r := hr
  rcases hq' with ⟨hqc, L, hfe, hL⟩ | ⟨q, rfl, E, ce, L, hx, hce, hcv, hcl, hW₂, hsm, hL⟩
  · obtain ⟨⟨v, rfl⟩, hW₂, e2, q2, q3, q4, q5, q6⟩ := id hfe
    have e3 : s₂ = ({ (U.calling g mk a).setFrames s₂.frames with heap := s₂.heap, slotsUsed := s₂.slotsUsed } : State).setVm s₂.vm := by
      have : s₂ = ({ s₂ with vm := (U.calling g mk a).vm } : State).setVm s₂.vm := rfl
      rw [e2] at this
      exact this
    obtain ⟨c₂, i₂, len₂, hc₂, hd₂, hf₂⟩ := hend
    have hW' : U.WarmedH s₂.vm := hW₂
    have hcc : c₂ = c := by
      have h1 : s₂.code? g.method = U.code? g.method := by
        rw [State.code?_eq, State.code?_eq, hW'.alike.method?]
      exact Option.some.inj (hc₂.symm.trans (h1.trans h.code))
    subst hcc
    have hlen : len₂ = len := by rw [hdg] at hd₂; cases hd₂; rfl
    subst hlen
    have hs₂ : s₂ = (({ U with heap := s₂.heap, slotsUsed := s₂.slotsUsed } : State).setVm s₂.vm).setTop { g with pc := g.pc + len₂, stack := v.toList ++ g.stack } := by
      refine e3.trans ?_
      rw [hf₂, State.calling_eq h.top, State.setFrames_setFrames, State.setTop_of_frames _ hr', hr]
      rfl
    have hsame : U.sameButNew ({ U with heap := s₂.heap, slotsUsed := s₂.slotsUsed } : State) L mc ms := by
      refine ⟨?_, q2, q3, q4, q5, q6⟩
      obtain ⟨t, ht, -⟩ := State.frames_cons hr
      show ({ U with heap := s₂.heap, slotsUsed := s₂.slotsUsed } : State) = { U.setFrames U.frames with heap := s₂.heap, slotsUsed := s₂.slotsUsed }
      rw [State.setFrames_self ht]
    subst hg
    refine Or.inl ⟨v, ⟨(({ U with heap := s₂.heap, slotsUsed := s₂.slotsUsed } : State).setVm s₂.vm), Ls ++ L, c0 + mc, s0 + ms⟩,
      ⟨X.admits, X.cas, X.clock, X.frames, X.room, X.hears, X.method, X.code, (X.here.setHeapUsed s₂.heap s₂.slotsUsed).setVm hW'.alike, X.tail, State.WarmedH.trans X.warmed hW', X.limits, X.bytes, X.same.trans (hsame.setVm s.vm)⟩,
      ⟨g, mk, s₂, L, rfl, rfl, hqc, rfl, hL, rfl, rfl⟩, ?_⟩
    show Steps p.tables e below _ ((({ U with heap := s₂.heap, slotsUsed := s₂.slotsUsed } : State).setVm s₂.vm).setTop { g with pc := g.pc + len₂, stack := v.toList ++ g.stack })
    rw [← hs₂]
    exact hsteps
  · obtain ⟨e2, q2, q3, q4, q5, q6⟩ := id hsm
    have e3 : s₂ = ({ (U.calling g mk a).setFrames s₂.frames with heap := s₂.heap, slotsUsed := s₂.slotsUsed } : State).setVm s₂.vm := by
      have : s₂ = ({ s₂ with vm := (U.calling g mk a).vm } : State).setVm s₂.vm := rfl
      rw [e2] at this
      exact this
    have hf₂ : s₂.frames = .throwing q :: .java g :: U.frames.tail := hend
    have hW' : U.WarmedH s₂.vm := hW₂
    have hs₂ : s₂ = ((({ U with heap := s₂.heap, slotsUsed := s₂.slotsUsed } : State).setVm s₂.vm).setTop g).pushFrame (.throwing q) := by
      refine e3.trans ?_
      rw [hf₂, State.calling_eq h.top, State.setFrames_setFrames, State.pushFrame, State.frames_setTop _ hr', State.setTop_of_frames _ hr', State.setFrames_setFrames, hr]
      rfl
    have hsame : U.sameButNew ({ U with heap := s₂.heap, slotsUsed := s₂.slotsUsed } : State) L mc ms := by
      refine ⟨?_, q2, q3, q4, q5, q6⟩
      obtain ⟨t, ht, -⟩ := State.frames_cons hr
      show ({ U with heap := s₂.heap, slotsUsed := s₂.slotsUsed } : State) = { U.setFrames U.frames with heap := s₂.heap, slotsUsed := s₂.slotsUsed }
      rw [State.setFrames_self ht]
    subst hg
    refine Or.inr ⟨q, ⟨(({ U with heap := s₂.heap, slotsUsed := s₂.slotsUsed } : State).setVm s₂.vm), Ls ++ L, c0 + mc, s0 + ms⟩,
      ⟨X.admits, X.cas, X.clock, X.frames, X.room, X.hears, X.method, X.code, (X.here.setHeapUsed s₂.heap s₂.slotsUsed).setVm hW'.alike, X.tail, State.WarmedH.trans X.warmed hW', X.limits, X.bytes, X.same.trans (hsame.setVm s.vm)⟩,
      ⟨g, mk, s₂, L, E, ce, rfl, rfl, hx, hce, hcv, hcl, rfl, hL, rfl, rfl⟩, ?_⟩
    show Steps p.tables e below _ (((({ U with heap := s₂.heap, slotsUsed := s₂.slotsUsed } : State).setVm s₂.vm).setTop g).pushFrame (.throwing q))
    rw [← hs₂]
    exact hsteps
end
variable {p : Program} {l : Launch} {e : Env} {R : Room} {s : State} {m : MethodId} {args : Array Value} {below : List Frame} {meth : Method} {c : Code} {T : State} {H : Heap} {locs : List Loc} {cells slots : Nat}
theorem vx_callVX (X : Stand p l e R s m args below meth c T locs cells slots) (hexec : p.tables.exec = Jvm.exec) {own C : String} {index : Nat} {y : MethodName} {bytes : ByteArray} {maxL : Nat} {ret : Option FieldType} {hh : List (Nat × Nat × Nat × Nat)}
    (hown : s.vm.findClass own = some m.cls) (hlink : (Cond.methodLink own index y).before args s = true) (hinst : (Cond.instanceMethod y).before args s = true) (hsel : (Cond.selects C y y).before args s = true)
    (hcode : (Cond.codeWith y bytes maxL ret hh).before args s = true) (hy : y.cls ≠ "java/lang/invoke/MethodHandle" ∧ y.cls ≠ "java/lang/invoke/VarHandle")
    {W9 : Nat} {Pre : Pt → Array Value → Prop} {Post : Pt → Array Value → Option Value → Pt → Prop} {PostX : Pt → Array Value → Addr → Pt → Prop} (hK : vx_Back l R p e below s args y 3 W9 Pre Post PostX)
    {b : Addr} {cellB : Cell} (hcell : T.heap[b]? = some cellB) (hobj : cellB.vm.isStatics = false) (hcls : s.vm.findClass C = some cellB.cls)
    {g : JFrame} (hg : g.method = m) (hsize : g.locals.size = c.maxLocals) {argsL rest : List Value} (hlen : ∀ sig, parseMethodDescriptor y.desc = some sig → argsL.length = sig.parameters.length)
    (hstack : g.stack = argsL.reverse ++ .ref b :: rest) (hW : 2 * g.monitorRoom + (rest.map fun v => v.category).sum ≤ W9) (hdg : decode c.code g.pc = .ok (.invokevirtual index, 3))
    (hpre : ∀ vm₁, s.WarmedH vm₁ → Pre ⟨T.setVm vm₁, locs, cells, slots⟩ (Value.ref b :: argsL).toArray) :
    (∃ (v : Option Value) (vm₁ : Vm) (B : Pt), s.WarmedH vm₁ ∧ Stand p l e R s m args below meth c B.U B.locs B.cells B.slots ∧ Post ⟨T.setVm vm₁, locs, cells, slots⟩ (Value.ref b :: argsL).toArray v B ∧
      ∀ target, Steps p.tables e below (B.U.setTop { g with pc := g.pc + 3, stack := v.toList ++ rest }) target → Steps p.tables e below (T.setTop g) target) ∨
    (∃ (q : Addr) (vm₁ : Vm) (B : Pt), s.WarmedH vm₁ ∧ Stand p l e R s m args below meth c B.U B.locs B.cells B.slots ∧ PostX ⟨T.setVm vm₁, locs, cells, slots⟩ (Value.ref b :: argsL).toArray q B ∧
      Steps p.tables e below (T.setTop g) ((B.U.setTop { g with stack := rest }).pushFrame (.throwing q))) := by
  obtain ⟨mk, methM, hnamed, hmethM, hstM, habM⟩ := Cond.instanceMethod_spec hinst
  obtain ⟨m8, methM', cM, hn8, hmethM', -, -, -, -, -, -, hsigM⟩ := Cond.codeWith_spec hcode
  cases Option.some.inj (hn8.symm.trans hnamed)
  cases hmethM.symm.trans hmethM'
  obtain ⟨c2, r2, m2, q1, q2, q3, q4, kP, hkP, hkPi⟩ := Cond.selects_spec hsel
  cases hcls.symm.trans q1
  cases (State.methodFound?_of_named hnamed hy).symm.trans q2
  cases hnamed.symm.trans q3
  have hselP : selectMethod e.platform s.vm cellB.cls mk = .method mk := by rw [Launch.admits_selectMethod X.admits]; exact q4
  obtain ⟨vm₁, X₁, hstep₁⟩ := X.invokevirtual hexec hown hlink hnamed hmethM hstM hkP hkPi hy (a := b) (cell := cellB) hcell
    (fun z h => by rw [h] at hobj; cases hobj) hselP hmethM habM hkP hkPi (g := g) hg (argsL := argsL) (rest := rest) (hlen _ hsigM) hstack hdg
  rcases hK m meth c ⟨T.setVm vm₁, locs, cells, slots⟩ { g with stack := rest } (.invokevirtual index) mk (Value.ref b :: argsL).toArray X₁ hg hsize hdg hW (X₁.named hnamed) (hpre vm₁ X₁.warmed) with ⟨v, B, X', hpost, hsteps⟩ | ⟨q, B, X', hpost, hsteps⟩
  · exact Or.inl ⟨v, vm₁, B, X₁.warmed, X', hpost, fun target h => hstep₁ _ fun acts => by rw [doInvoke_state]; exact hsteps.trans h⟩
  · exact Or.inr ⟨q, vm₁, B, X₁.warmed, X', hpost, hstep₁ _ fun acts => by rw [doInvoke_state]; exact hsteps⟩
theorem vx_callSX (X : Stand p l e R s m args below meth c T locs cells slots) (hexec : p.tables.exec = Jvm.exec) {own : String} {index : Nat} {y : MethodName} {bytes : ByteArray} {maxL : Nat} {ret : Option FieldType} {hh : List (Nat × Nat × Nat × Nat)}
    (hown : s.vm.findClass own = some m.cls) (hlink : (Cond.methodLink own index y).before args s = true) (hstat : (Cond.static y).before args s = true) (hinit : (Cond.initialized y.cls).before args s = true)
    (hcode : (Cond.codeWith y bytes maxL ret hh).before args s = true) (hy : y.cls ≠ "java/lang/invoke/MethodHandle" ∧ y.cls ≠ "java/lang/invoke/VarHandle")
    {W9 : Nat} {Pre : Pt → Array Value → Prop} {Post : Pt → Array Value → Option Value → Pt → Prop} {PostX : Pt → Array Value → Addr → Pt → Prop} (hK : vx_Back l R p e below s args y 3 W9 Pre Post PostX)
    {g : JFrame} (hg : g.method = m) (hsize : g.locals.size = c.maxLocals) {argsL rest : List Value} (hlen : ∀ sig, parseMethodDescriptor y.desc = some sig → argsL.length = sig.parameters.length)
    (hstack : g.stack = argsL.reverse ++ rest) (hW : 2 * g.monitorRoom + (rest.map fun v => v.category).sum ≤ W9) (hdg : decode c.code g.pc = .ok (.invokestatic index, 3))
    (hpre : ∀ vm₁, s.WarmedH vm₁ → Pre ⟨T.setVm vm₁, locs, cells, slots⟩ argsL.toArray) :
    (∃ (v : Option Value) (vm₁ : Vm) (B : Pt), s.WarmedH vm₁ ∧ Stand p l e R s m args below meth c B.U B.locs B.cells B.slots ∧ Post ⟨T.setVm vm₁, locs, cells, slots⟩ argsL.toArray v B ∧
      ∀ target, Steps p.tables e below (B.U.setTop { g with pc := g.pc + 3, stack := v.toList ++ rest }) target → Steps p.tables e below (T.setTop g) target) ∨
    (∃ (q : Addr) (vm₁ : Vm) (B : Pt), s.WarmedH vm₁ ∧ Stand p l e R s m args below meth c B.U B.locs B.cells B.slots ∧ PostX ⟨T.setVm vm₁, locs, cells, slots⟩ argsL.toArray q B ∧
      Steps p.tables e below (T.setTop g) ((B.U.setTop { g with stack := rest }).pushFrame (.throwing q))) := by
  obtain ⟨mk, methM, cM, hnamed, hmethM, -, -, -, -, -, -, hsigM⟩ := Cond.codeWith_spec hcode
  have hstatic : methM.isStatic = true := Cond.static_spec hnamed hmethM hstat
  obtain ⟨kP, hkP, -⟩ := className_of_methodNamed hnamed
  have hinitP : kP.init = .initialized := Cond.initialized_spec (findClass_of_methodNamed hnamed) hkP hinit
  obtain ⟨vm₁, X₁, hstep₁⟩ := X.invokestatic hexec hown hlink hnamed hmethM hstatic hkP hinitP hy (g := g) hg (argsL := argsL) (rest := rest) (hlen _ hsigM) hstack hdg
  rcases hK m meth c ⟨T.setVm vm₁, locs, cells, slots⟩ { g with stack := rest } (.invokestatic index) mk argsL.toArray X₁ hg hsize hdg hW (X₁.named hnamed) (hpre vm₁ X₁.warmed) with ⟨v, B, X', hpost, hsteps⟩ | ⟨q, B, X', hpost, hsteps⟩
  · exact Or.inl ⟨v, vm₁, B, X₁.warmed, X', hpost, fun target h => hstep₁ _ fun acts => by rw [doInvoke_state]; exact hsteps.trans h⟩
  · exact Or.inr ⟨q, vm₁, B, X₁.warmed, X', hpost, hstep₁ _ fun acts => by rw [doInvoke_state]; exact hsteps⟩
theorem vx_callVW (X : Stand p l e R s m args below meth c T locs cells slots) (hexec : p.tables.exec = Jvm.exec) {own C : String} {index : Nat} {y : MethodName} {bytes : ByteArray} {maxL : Nat} {ret : Option FieldType} {hh : List (Nat × Nat × Nat × Nat)}
    (hown : s.vm.findClass own = some m.cls) (hlink : (Cond.methodLink own index y).before args s = true) (hinst : (Cond.instanceMethod y).before args s = true) (hsel : (Cond.selects C y y).before args s = true)
    (hcode : (Cond.codeWith y bytes maxL ret hh).before args s = true) (hy : y.cls ≠ "java/lang/invoke/MethodHandle" ∧ y.cls ≠ "java/lang/invoke/VarHandle")
    {W9 : Nat} {Pre : Pt → Array Value → Prop} {Post : Pt → Array Value → Option Value → Pt → Prop} (hK : Back l R p e below s args y 3 W9 Pre Post)
    {b : Addr} {cellB : Cell} (hcell : T.heap[b]? = some cellB) (hobj : cellB.vm.isStatics = false) (hcls : s.vm.findClass C = some cellB.cls)
    {g : JFrame} (hg : g.method = m) (hsize : g.locals.size = c.maxLocals) {argsL rest : List Value} (hlen : ∀ sig, parseMethodDescriptor y.desc = some sig → argsL.length = sig.parameters.length)
    (hstack : g.stack = argsL.reverse ++ .ref b :: rest) (hW : 2 * g.monitorRoom + (rest.map fun v => v.category).sum ≤ W9) (hdg : decode c.code g.pc = .ok (.invokevirtual index, 3))
    (hpre : ∀ vm₁, s.WarmedH vm₁ → Pre ⟨T.setVm vm₁, locs, cells, slots⟩ (Value.ref b :: argsL).toArray) :
    ∃ (v : Option Value) (vm₁ : Vm) (B : Pt), s.WarmedH vm₁ ∧ Stand p l e R s m args below meth c B.U B.locs B.cells B.slots ∧ Post ⟨T.setVm vm₁, locs, cells, slots⟩ (Value.ref b :: argsL).toArray v B ∧
      ∀ target, Steps p.tables e below (B.U.setTop { g with pc := g.pc + 3, stack := v.toList ++ rest }) target → Steps p.tables e below (T.setTop g) target := by
  obtain ⟨mk, methM, hnamed, hmethM, hstM, habM⟩ := Cond.instanceMethod_spec hinst
  obtain ⟨m8, methM', cM, hn8, hmethM', -, -, -, -, -, -, hsigM⟩ := Cond.codeWith_spec hcode
  cases Option.some.inj (hn8.symm.trans hnamed)
  cases hmethM.symm.trans hmethM'
  obtain ⟨c2, r2, m2, q1, q2, q3, q4, kP, hkP, hkPi⟩ := Cond.selects_spec hsel
  cases hcls.symm.trans q1
  cases (State.methodFound?_of_named hnamed hy).symm.trans q2
  cases hnamed.symm.trans q3
  have hselP : selectMethod e.platform s.vm cellB.cls mk = .method mk := by rw [Launch.admits_selectMethod X.admits]; exact q4
  obtain ⟨vm₁, X₁, hstep₁⟩ := X.invokevirtual hexec hown hlink hnamed hmethM hstM hkP hkPi hy (a := b) (cell := cellB) hcell
    (fun z h => by rw [h] at hobj; cases hobj) hselP hmethM habM hkP hkPi (g := g) hg (argsL := argsL) (rest := rest) (hlen _ hsigM) hstack hdg
  obtain ⟨v, B, X', hpost, hsteps⟩ := hK m meth c ⟨T.setVm vm₁, locs, cells, slots⟩ { g with stack := rest } (.invokevirtual index) mk (Value.ref b :: argsL).toArray X₁ hg hsize hdg hW (X₁.named hnamed) (hpre vm₁ X₁.warmed)
  exact ⟨v, vm₁, B, X₁.warmed, X', hpost, fun target h => hstep₁ _ fun acts => by rw [doInvoke_state]; exact hsteps.trans h⟩
abbrev vx_CVW (R : Room) (s : State) (args : Array Value) (own C : String) (index : Nat) (y : MethodName) (bytes : ByteArray) (maxL : Nat) (ret : Option FieldType) (hh : List (Nat × Nat × Nat × Nat)) (ws : List Cond) (rm : Room) (mc ms n : Nat) : Prop :=
  (rm.cells = mc ∧ rm.slots = ms ∧ rm.frames + 1 ≤ R.frames ∧ 8 + (maxL + 11) + rm.locals ≤ R.locals ∧ (∀ w ∈ ws, ∀ (a' : Array Value) (U : State), s.WarmedH U.vm → w.before a' U = true) ∧ Cond.codeWith y bytes maxL ret hh ∈ ws) ∧
  (Cond.codeWith y bytes maxL ret hh).before args s = true ∧ (Cond.initialized y.cls).before args s = true ∧ (y.cls ≠ "java/lang/invoke/MethodHandle" ∧ y.cls ≠ "java/lang/invoke/VarHandle") ∧
  (∀ sig, parseMethodDescriptor y.desc = some sig → n = sig.parameters.length) ∧ (Cond.methodLink own index y).before args s = true ∧ (Cond.instanceMethod y).before args s = true ∧ (Cond.selects C y y).before args s = true
theorem vx_cwVW {own C : String} {index maxL mc ms : Nat} {y : MethodName} {bytes : ByteArray} {ret : Option FieldType} {hh : List (Nat × Nat × Nat × Nat)} {Ts ws ws' : List Cond} {rm : Room} (n : Nat) (ht : ∀ w ∈ Ts, w.before args s = true) (hT : GoodIn Ts (wsV own index C y ws)) (hw : ws = Cond.codeWith y bytes maxL ret hh :: ws') (hrc : rm.cells = mc) (hrs : rm.slots = ms)
    (hd : y.cls = C ∧ y.cls ≠ "java/lang/invoke/MethodHandle" ∧ y.cls ≠ "java/lang/invoke/VarHandle" ∧ (parseMethodDescriptor y.desc).map (fun d => d.parameters.length) = some n) (hR : rm.frames + 1 ≤ R.frames ∧ 8 + (maxL + 11) + rm.locals ≤ R.locals) :
    vx_CVW R s args own C index y bytes maxL ret hh ws rm mc ms n := by
  obtain ⟨hC, hd⟩ := hd
  subst hC
  have ok : ∀ w ∈ wsV own index y.cls y ws, w.before args s = true := fun w h => ht w (hT w h).1
  have hG : GoodIn Ts ws := fun w h => hT w (by unfold wsV; exact List.mem_append_right _ h)
  have hc : Cond.codeWith y bytes maxL ret hh ∈ ws := by rw [hw]; exact List.mem_cons_self
  refine ⟨⟨hrc, hrs, hR.1, hR.2, pay_in ht hG, hc⟩, ht _ (hG _ hc).1, ok _ (by simp [wsV]), ⟨hd.1, hd.2.1⟩, fun sig h => ?_, ok _ (by simp [wsV]), ok _ (by simp [wsV]), ok _ (by simp [wsV])⟩
  have h2 := hd.2.2
  rw [h] at h2
  exact (Option.some.inj h2).symm
theorem vx_runVW {y : MethodName} {bytes cc : ByteArray} {maxL nL mc ms n index : Nat} {ret : Option FieldType} {hh : List (Nat × Nat × Nat × Nat)} {ws : List Cond} {rm : Room} {Pc : Array Value → State → Prop} {Qc : Array Value → State → Outcome → State → Prop} {free : Addr → Prop} {Ts : List Cond} {own C : String} {b : Addr} {As rest : List Value} {g : JFrame}
    (S : CallFix p m c cc nL s args Ts own) (hM : Met l y ws rm Pc Qc mc ms free) (cw : vx_CVW R s args own C index y bytes maxL ret hh ws rm mc ms n) (hp : PreV s H C b Pc As)
    (hg : g.method = m) (hn : As.length = n) (hsize : g.locals.size = nL) (hstack : g.stack = As.reverse ++ .ref b :: rest) (hW : 2 * g.monitorRoom + (rest.map fun v => v.category).sum ≤ 8) (hdg : decode cc g.pc = .ok (.invokevirtual index, 3)) (hf : cells + mc ≤ R.cells ∧ slots + ms ≤ R.slots) :
    va_Run p l e R s m args below meth c H locs cells slots mc ms g rest (Qc (Value.ref b :: As).toArray) free := by
  obtain ⟨⟨hrc, hrs, hfr, hlo, hws, hcw⟩, hcode, hini, hy, hlen, hl, hin, hse⟩ := cw
  have hK : Back l R p e below s args y 3 8 (PreOf R mc ms Pc) (PostOf Qc mc ms free) := va_backW (hh := hh) (bytes := bytes) (maxL := maxL) (ret := ret) hM hp.1 hrc hrs hfr hlo hws hcw (fun a' U hW => word_at hW (Or.inl (by first | rfl | simp [Cond.onTables, Cond.keeps, Cond.steady])) hini)
  obtain ⟨hx, hb, hml, ho, -⟩ := S
  obtain ⟨-, ⟨cellB, hcB, hoB, hclB⟩, hPc⟩ := hp
  intro T hT X
  obtain ⟨v, vm₁, ⟨U', l2, c2, s2⟩, hW₁, X', ⟨g', mk, t, L, e1, e2, hq, h1, hL, h2, h3⟩, st⟩ := vx_callVW X hx (C := C) (hh := hh) (bytes := bytes) (maxL := maxL) (ret := ret) ho hl hin hse hcode hy hK (by rw [hT]; exact hcB) hoB hclB hg (hsize.trans hml.symm) (argsL := As) (rest := rest) (fun sig h => hn.trans (hlen sig h)) hstack hW (by rw [hb]; exact hdg)
    (fun vm₁ hW₁ => ⟨hf.1, hf.2, hPc (T.setVm vm₁) hT hW₁⟩)
  dsimp only [Pt.U, Pt.locs, Pt.cells, Pt.slots] at X' e1 e2 h1 h2 h3 st
  subst h1; subst h2; subst h3
  exact ⟨v, (T.setVm vm₁).calling g' mk (Value.ref b :: As).toArray, t, U', L, hT, X', hL, e1, e2, hq, st⟩
section
variable {y : MethodName} {bytes cc : ByteArray} {maxL nL mc ms n index : Nat} {ret : Option FieldType} {ws : List Cond} {rm : Room} {Pc : Array Value → State → Prop} {Qc : Array Value → State → Outcome → State → Prop} {XC : String → State → State → Prop} {free : Addr → Prop} {Ts : List Cond} {own C : String} {b : Addr} {As rest : List Value} {g : JFrame}
theorem vx_runVX {hh : List (Nat × Nat × Nat × Nat)} (S : CallFix p m c cc nL s args Ts own) (hM : vx_Met l y ws rm Pc Qc XC mc ms free) (cw : vx_CVW R s args own C index y bytes maxL ret hh ws rm mc ms n) (hp : PreV s H C b Pc As)
    (hg : g.method = m) (hn : As.length = n) (hsize : g.locals.size = nL) (hstack : g.stack = As.reverse ++ .ref b :: rest) (hW : 2 * g.monitorRoom + (rest.map fun v => v.category).sum ≤ 8) (hdg : decode cc g.pc = .ok (.invokevirtual index, 3)) (hf : cells + mc ≤ R.cells ∧ slots + ms ≤ R.slots) :
    vx_Run p l e R s m args below meth c H locs cells slots mc ms g rest (Qc (Value.ref b :: As).toArray) XC free := by
  obtain ⟨⟨hrc, hrs, hfr, hlo, hws, hcw⟩, hcode, hini, hy, hlen, hl, hin, hse⟩ := cw
  have hK : vx_Back l R p e below s args y 3 8 (PreOf R mc ms Pc) (PostOf Qc mc ms free) (vx_Post XC mc ms free) := vx_backW (hh := hh) (bytes := bytes) (maxL := maxL) (ret := ret) hM hp.1 hrc hrs hfr hlo hws hcw (fun a' U hW => word_at hW (Or.inl (by first | rfl | simp [Cond.onTables, Cond.keeps, Cond.steady])) hini)
  obtain ⟨hx, hb, hml, ho, -⟩ := S
  obtain ⟨-, ⟨cellB, hcB, hoB, hclB⟩, hPc⟩ := hp
  intro T hT X
  rcases vx_callVX X hx (C := C) (hh := hh) (bytes := bytes) (maxL := maxL) (ret := ret) ho hl hin hse hcode hy hK (by rw [hT]; exact hcB) hoB hclB hg (hsize.trans hml.symm) (argsL := As) (rest := rest) (fun sig h => hn.trans (hlen sig h)) hstack hW (by rw [hb]; exact hdg)
    (fun vm₁ hW₁ => ⟨hf.1, hf.2, hPc (T.setVm vm₁) hT hW₁⟩) with ⟨v, vm₁, ⟨U', l2, c2, s2⟩, hW₁, X', ⟨g', mk, t, L, e1, e2, hq, h1, hL, h2, h3⟩, st⟩ | ⟨q, vm₁, ⟨U', l2, c2, s2⟩, hW₁, X', ⟨g', mk, t, L, E, ce, e1, e2, hq, hce, hcv, hcl, h1, hL, h2, h3⟩, st⟩
  · dsimp only [Pt.U, Pt.locs, Pt.cells, Pt.slots] at X' e1 e2 h1 h2 h3 st
    subst h1; subst h2; subst h3
    exact Or.inl ⟨v, (T.setVm vm₁).calling g' mk (Value.ref b :: As).toArray, t, U', L, hT, X', hL, e1, e2, hq, st⟩
  · dsimp only [Pt.U, Pt.locs, Pt.cells, Pt.slots] at X' e1 e2 h1 h2 h3 st hcl
    subst h1; subst h2; subst h3
    exact Or.inr ⟨q, (T.setVm vm₁).calling g' mk (Value.ref b :: As).toArray, t, U', L, E, ce, hT, X', hL, e1, e2, hq, hce, hcv, vx_cls hW₁ hcl, st⟩
theorem vx_runSX {hh : List (Nat × Nat × Nat × Nat)} (S : CallFix p m c cc nL s args Ts own) (hM : vx_Met l y ws rm Pc Qc XC mc ms free) (cw : vx_CSW R s args own index y bytes maxL ret hh ws rm mc ms n) (hp : PreS s H Pc As)
    (hg : g.method = m) (hn : As.length = n) (hsize : g.locals.size = nL) (hstack : g.stack = As.reverse ++ rest) (hW : 2 * g.monitorRoom + (rest.map fun v => v.category).sum ≤ 8) (hdg : decode cc g.pc = .ok (.invokestatic index, 3)) (hf : cells + mc ≤ R.cells ∧ slots + ms ≤ R.slots) :
    vx_Run p l e R s m args below meth c H locs cells slots mc ms g rest (Qc As.toArray) XC free := by
  obtain ⟨⟨hrc, hrs, hfr, hlo, hws, hcw⟩, hcode, hini, hy, hlen, hl, hstt⟩ := cw
  have hK : vx_Back l R p e below s args y 3 8 (PreOf R mc ms Pc) (PostOf Qc mc ms free) (vx_Post XC mc ms free) := vx_backW (hh := hh) (bytes := bytes) (maxL := maxL) (ret := ret) hM hp.1 hrc hrs hfr hlo hws hcw (fun a' U hW => word_at hW (Or.inl (by first | rfl | simp [Cond.onTables, Cond.keeps, Cond.steady])) hini)
  obtain ⟨hx, hb, hml, ho, -⟩ := S
  intro T hT X
  rcases vx_callSX X hx (hh := hh) (bytes := bytes) (maxL := maxL) (ret := ret) ho hl hstt hini hcode hy hK hg (hsize.trans hml.symm) (argsL := As) (rest := rest) (fun sig h => hn.trans (hlen sig h)) hstack hW (by rw [hb]; exact hdg)
    (fun vm₁ hW₁ => ⟨hf.1, hf.2, hp.2 (T.setVm vm₁) hT hW₁⟩) with ⟨v, vm₁, ⟨U', l2, c2, s2⟩, hW₁, X', ⟨g', mk, t, L, e1, e2, hq, h1, hL, h2, h3⟩, st⟩ | ⟨q, vm₁, ⟨U', l2, c2, s2⟩, hW₁, X', ⟨g', mk, t, L, E, ce, e1, e2, hq, hce, hcv, hcl, h1, hL, h2, h3⟩, st⟩
  · dsimp only [Pt.U, Pt.locs, Pt.cells, Pt.slots] at X' e1 e2 h1 h2 h3 st
    subst h1; subst h2; subst h3
    exact Or.inl ⟨v, (T.setVm vm₁).calling g' mk As.toArray, t, U', L, hT, X', hL, e1, e2, hq, st⟩
  · dsimp only [Pt.U, Pt.locs, Pt.cells, Pt.slots] at X' e1 e2 h1 h2 h3 st hcl
    subst h1; subst h2; subst h3
    exact Or.inr ⟨q, (T.setVm vm₁).calling g' mk As.toArray, t, U', L, E, ce, hT, X', hL, e1, e2, hq, hce, hcv, vx_cls hW₁ hcl, st⟩
end
end VXH
theorem vx_ofWH {l : Launch} {y : MethodName} {ws ws' : List Cond} {rm : Room} {Pc : Array Value → State → Prop} {Qc : Array Value → State → Outcome → State → Prop} {XC : String → State → State → Prop} {mc ms : Nat} {free : Addr → Prop} {cc : ByteArray} {maxL : Nat} {ret : Option FieldType} {hh : List (Nat × Nat × Nat × Nat)}
    (hy : plainName y.cls = true) (hw : ws = Cond.codeWith y cc maxL ret hh :: ws')
    (body : ∀ p e s m args below meth c s₁, BodyLoose p l y (headSpec ws rm) cc maxL ret e s m args below meth c s₁ → c.maxLocals = maxL → Pc args s →
      W p l e (headSpec ws rm).room s m args below meth c s.heap [] 0 0 (vx_MQ below Qc XC args s mc ms free) (entryFrame m args maxL)) : vx_Met l y ws rm Pc Qc XC mc ms free := by
  refine MetFree.of_bodyS (code := cc) (maxLocals := maxL) (ret := ret) hy ?_ ?_
  · intro args s m h hn
    obtain ⟨m9, meth, c, hn9, h1, h2, h3, h4, -, h5, h6, -⟩ := Cond.codeWith_spec (atoms_spec (ws := ws) h _ (by rw [hw]; exact List.mem_cons_self))
    cases hn.symm.trans hn9
    exact ⟨meth, c, h1, h2, h3, h4, h5, h6⟩
  · intro p e s m args below meth c s₁ B hml hP _
    have hh0 : s₁.heap = s.heap := by rw [B.state]; rfl
    obtain ⟨t, a1, o, b1, b2, b3⟩ := body p e s m args below meth c s₁ B hml hP s₁ hh0 (Stand.of_body B)
    exact ⟨t, o, a1, b1, b2, b3⟩
/-! ===== END ===== -/
end
section
/-! ===== BEGIN printed: names, fields, word lists, decode rows ===== -/
def RX0 : String := "AtlasFolder$BandTruths"
def TX0 : u_T := fun k => match k with
  | _ => ("AtlasFolder$BandTruths", "truths", "[I", true)
def tyX0 : Nat → FieldType := fun k => match k with
  | _ => .array .int
abbrev wsX00 : List Cond := u_ws RX0 TX0 1
theorem nmX0 : ∀ a, a < 1 → ∀ b, b < 1 → a ≠ b → (TX0 a).2.1 ≠ (TX0 b).2.1 := by decide +kernel
theorem tyX0_ok : ∀ k, k < 1 → parseFieldDescriptor (TX0 k).2.2.1 = some (tyX0 k) := by decide +kernel
abbrev cX0_init : ByteArray := prog_2_method_1_code
def yX0_init : MethodName := ⟨RX0, "<init>", "()V"⟩
abbrev cX0_replaceTruth : ByteArray := prog_2_method_2_code
def yX0_replaceTruth : MethodName := ⟨RX0, "replaceTruth", "(II)I"⟩
abbrev cX0_areAllAlike : ByteArray := prog_2_method_3_code
def yX0_areAllAlike : MethodName := ⟨RX0, "areAllAlike", "(LAtlasFolder$MapTable;)Z"⟩
abbrev cX0_greatest : ByteArray := prog_2_method_4_code
def yX0_greatest : MethodName := ⟨RX0, "greatest", "(LAtlasFolder$MapTable;)I"⟩
abbrev cX0_areaByTruth : ByteArray := prog_2_method_5_code
def yX0_areaByTruth : MethodName := ⟨RX0, "areaByTruth", "(LAtlasFolder$MapTable;I)F"⟩
abbrev cX0_compareBands : ByteArray := prog_2_method_6_code
def yX0_compareBands : MethodName := ⟨RX0, "compareBands", "(LAtlasFolder$MapTable;II)I"⟩
abbrev cX0_truthOf : ByteArray := prog_2_method_7_code
def yX0_truthOf : MethodName := ⟨RX0, "truthOf", "(I)I"⟩
def RX1 : String := "AtlasFolder$FoldedSheet"
def TX1 : u_T := fun k => match k with
  | 0 => ("AtlasFolder$FoldedSheet", "columnPlaces", "[I", true)
  | 1 => ("AtlasFolder$FoldedSheet", "rowPlaces", "[I", true)
  | 2 => ("AtlasFolder$FoldedSheet", "layers", "[I", true)
  | 3 => ("AtlasFolder$FoldedSheet", "faceUp", "[Z", true)
  | 4 => ("AtlasFolder$FoldedSheet", "columns", "I", false)
  | 5 => ("AtlasFolder$FoldedSheet", "rows", "I", false)
  | _ => ("AtlasFolder$FoldedSheet", "folds", "I", false)
def tyX1 : Nat → FieldType := fun k => match k with
  | 0 => .array .int
  | 1 => .array .int
  | 2 => .array .int
  | 3 => .array .boolean
  | 4 => .int
  | 5 => .int
  | _ => .int
abbrev wsX10 : List Cond := u_ws RX1 TX1 7
theorem nmX1 : ∀ a, a < 7 → ∀ b, b < 7 → a ≠ b → (TX1 a).2.1 ≠ (TX1 b).2.1 := by decide +kernel
theorem tyX1_ok : ∀ k, k < 7 → parseFieldDescriptor (TX1 k).2.2.1 = some (tyX1 k) := by decide +kernel
abbrev cX1_init : ByteArray := prog_3_method_1_code
def yX1_init : MethodName := ⟨RX1, "<init>", "()V"⟩
abbrev cX1_layOut : ByteArray := prog_3_method_2_code
def yX1_layOut : MethodName := ⟨RX1, "layOut", "(II)V"⟩
abbrev cX1_spread : ByteArray := prog_3_method_3_code
def yX1_spread : MethodName := ⟨RX1, "spread", "()I"⟩
abbrev cX1_columnOf : ByteArray := prog_3_method_4_code
def yX1_columnOf : MethodName := ⟨RX1, "columnOf", "(I)I"⟩
abbrev cX1_rowOf : ByteArray := prog_3_method_5_code
def yX1_rowOf : MethodName := ⟨RX1, "rowOf", "(I)I"⟩
abbrev cX1_hasPanel : ByteArray := prog_3_method_6_code
def yX1_hasPanel : MethodName := ⟨RX1, "hasPanel", "(II)Z"⟩
abbrev cX1_columnPlace : ByteArray := prog_3_method_7_code
def yX1_columnPlace : MethodName := ⟨RX1, "columnPlace", "(II)I"⟩
abbrev cX1_rowPlace : ByteArray := prog_3_method_8_code
def yX1_rowPlace : MethodName := ⟨RX1, "rowPlace", "(II)I"⟩
abbrev cX1_liesFaceUp : ByteArray := prog_3_method_9_code
def yX1_liesFaceUp : MethodName := ⟨RX1, "liesFaceUp", "(II)Z"⟩
abbrev cX1_panelsAbove : ByteArray := prog_3_method_10_code
def yX1_panelsAbove : MethodName := ⟨RX1, "panelsAbove", "(II)I"⟩
abbrev cX1_turnOverColumns : ByteArray := prog_3_method_11_code
def yX1_turnOverColumns : MethodName := ⟨RX1, "turnOverColumns", "(I)I"⟩
abbrev cX1_turnOverRows : ByteArray := prog_3_method_12_code
def yX1_turnOverRows : MethodName := ⟨RX1, "turnOverRows", "(I)I"⟩
abbrev cX1_mostPanels : ByteArray := prog_3_method_13_code
def yX1_mostPanels : MethodName := ⟨RX1, "mostPanels", "()I"⟩
abbrev cX1_readablePanels : ByteArray := prog_3_method_14_code
def yX1_readablePanels : MethodName := ⟨RX1, "readablePanels", "()I"⟩
abbrev cX1_panels : ByteArray := prog_3_method_15_code
def yX1_panels : MethodName := ⟨RX1, "panels", "()I"⟩
abbrev cX1_number : ByteArray := prog_3_method_16_code
def yX1_number : MethodName := ⟨RX1, "number", "(II)I"⟩
abbrev cX1_turnOver : ByteArray := prog_3_method_17_code
def yX1_turnOver : MethodName := ⟨RX1, "turnOver", "([II)I"⟩
abbrev cX1_placesBelow : ByteArray := prog_3_method_18_code
def yX1_placesBelow : MethodName := ⟨RX1, "placesBelow", "([II)I"⟩
abbrev cX1_highestLayer : ByteArray := prog_3_method_19_code
def yX1_highestLayer : MethodName := ⟨RX1, "highestLayer", "()I"⟩
abbrev cX1_higherThan : ByteArray := prog_3_method_20_code
def yX1_higherThan : MethodName := ⟨RX1, "higherThan", "(I)I"⟩
def RX2 : String := "AtlasFolder$MapTable"
def TX2 : u_T := fun k => match k with
  | 0 => ("AtlasFolder$MapTable", "widths", "[I", true)
  | _ => ("AtlasFolder$MapTable", "heights", "[I", true)
def tyX2 : Nat → FieldType := fun k => match k with
  | 0 => .array .int
  | _ => .array .int
abbrev wsX20 : List Cond := u_ws RX2 TX2 2
theorem nmX2 : ∀ a, a < 2 → ∀ b, b < 2 → a ≠ b → (TX2 a).2.1 ≠ (TX2 b).2.1 := by decide +kernel
theorem tyX2_ok : ∀ k, k < 2 → parseFieldDescriptor (TX2 k).2.2.1 = some (tyX2 k) := by decide +kernel
abbrev cX2_init : ByteArray := prog_4_method_1_code
def yX2_init : MethodName := ⟨RX2, "<init>", "()V"⟩
abbrev cX2_wouldRise : ByteArray := prog_4_method_2_code
def yX2_wouldRise : MethodName := ⟨RX2, "wouldRise", "(II)Z"⟩
abbrev cX2_setRow : ByteArray := prog_4_method_3_code
def yX2_setRow : MethodName := ⟨RX2, "setRow", "(III)V"⟩
abbrev cX2_tenWidths : ByteArray := prog_4_method_4_code
def yX2_tenWidths : MethodName := ⟨RX2, "tenWidths", "(I)I"⟩
abbrev cX2_tenHeights : ByteArray := prog_4_method_5_code
def yX2_tenHeights : MethodName := ⟨RX2, "tenHeights", "(I)I"⟩
abbrev cX2_greatestNotAbove : ByteArray := prog_4_method_6_code
def yX2_greatestNotAbove : MethodName := ⟨RX2, "greatestNotAbove", "(I)I"⟩
abbrev cX2_fieldArea : ByteArray := prog_4_method_7_code
def yX2_fieldArea : MethodName := ⟨RX2, "fieldArea", "(III)J"⟩
abbrev cX2_cellArea : ByteArray := prog_4_method_8_code
def yX2_cellArea : MethodName := ⟨RX2, "cellArea", "(I)J"⟩
abbrev cX2_bandArea : ByteArray := prog_4_method_9_code
def yX2_bandArea : MethodName := ⟨RX2, "bandArea", "(I)J"⟩
abbrev cX2_tenTimesAt : ByteArray := prog_4_method_10_code
def yX2_tenTimesAt : MethodName := ⟨RX2, "tenTimesAt", "([II)I"⟩
abbrev cX2_valueAt : ByteArray := prog_4_method_11_code
def yX2_valueAt : MethodName := ⟨RX2, "valueAt", "([II)I"⟩
def RX3 : String := "AtlasFolder$ZoneRing"
def TX3 : u_T := fun k => match k with
  | _ => ("AtlasFolder$ZoneRing", "breadth", "I", false)
def tyX3 : Nat → FieldType := fun k => match k with
  | _ => .int
abbrev wsX30 : List Cond := u_ws RX3 TX3 1
theorem nmX3 : ∀ a, a < 1 → ∀ b, b < 1 → a ≠ b → (TX3 a).2.1 ≠ (TX3 b).2.1 := by decide +kernel
theorem tyX3_ok : ∀ k, k < 1 → parseFieldDescriptor (TX3 k).2.2.1 = some (tyX3 k) := by decide +kernel
abbrev cX3_init : ByteArray := prog_5_method_1_code
def yX3_init : MethodName := ⟨RX3, "<init>", "()V"⟩
abbrev cX3_replaceBreadth : ByteArray := prog_5_method_2_code
def yX3_replaceBreadth : MethodName := ⟨RX3, "replaceBreadth", "(I)I"⟩
abbrev cX3_zonesBefore : ByteArray := prog_5_method_3_code
def yX3_zonesBefore : MethodName := ⟨RX3, "zonesBefore", "(I)I"⟩
abbrev cX3_seamsEastOf : ByteArray := prog_5_method_4_code
def yX3_seamsEastOf : MethodName := ⟨RX3, "seamsEastOf", "(II)I"⟩
def RX4 : String := "AtlasFolder"
def TX4 : u_T := fun k => match k with
  | 0 => ("AtlasFolder", "map", "LAtlasFolder$MapTable;", true)
  | 1 => ("AtlasFolder", "bands", "LAtlasFolder$BandTruths;", true)
  | 2 => ("AtlasFolder", "ring", "LAtlasFolder$ZoneRing;", true)
  | _ => ("AtlasFolder", "stack", "LAtlasFolder$FoldedSheet;", true)
def tyX4 : Nat → FieldType := fun k => match k with
  | 0 => .object "AtlasFolder$MapTable"
  | 1 => .object "AtlasFolder$BandTruths"
  | 2 => .object "AtlasFolder$ZoneRing"
  | _ => .object "AtlasFolder$FoldedSheet"
abbrev wsX40 : List Cond := u_ws RX4 TX4 4
theorem nmX4 : ∀ a, a < 4 → ∀ b, b < 4 → a ≠ b → (TX4 a).2.1 ≠ (TX4 b).2.1 := by decide +kernel
theorem tyX4_ok : ∀ k, k < 4 → parseFieldDescriptor (TX4 k).2.2.1 = some (tyX4 k) := by decide +kernel
abbrev cX4_init : ByteArray := prog_1_method_1_code
def yX4_init : MethodName := ⟨RX4, "<init>", "()V"⟩
abbrev cX4_table : ByteArray := prog_1_method_2_code
def yX4_table : MethodName := ⟨RX4, "table", "(III)V"⟩
abbrev cX4_x : ByteArray := prog_1_method_3_code
def yX4_x : MethodName := ⟨RX4, "x", "(II)I"⟩
abbrev cX4_y : ByteArray := prog_1_method_4_code
def yX4_y : MethodName := ⟨RX4, "y", "(I)I"⟩
abbrev cX4_latitudeAt : ByteArray := prog_1_method_5_code
def yX4_latitudeAt : MethodName := ⟨RX4, "latitudeAt", "(I)I"⟩
abbrev cX4_area : ByteArray := prog_1_method_6_code
def yX4_area : MethodName := ⟨RX4, "area", "(IIII)J"⟩
abbrev cX4_areaByCells : ByteArray := prog_1_method_7_code
def yX4_areaByCells : MethodName := ⟨RX4, "areaByCells", "(IIII)J"⟩
abbrev cX4_truth : ByteArray := prog_1_method_8_code
def yX4_truth : MethodName := ⟨RX4, "truth", "(II)I"⟩
abbrev cX4_keepsAreas : ByteArray := prog_1_method_9_code
def yX4_keepsAreas : MethodName := ⟨RX4, "keepsAreas", "()Z"⟩
abbrev cX4_widest : ByteArray := prog_1_method_10_code
def yX4_widest : MethodName := ⟨RX4, "widest", "()I"⟩
abbrev cX4_stretch : ByteArray := prog_1_method_11_code
def yX4_stretch : MethodName := ⟨RX4, "stretch", "(I)F"⟩
abbrev cX4_apart : ByteArray := prog_1_method_12_code
def yX4_apart : MethodName := ⟨RX4, "apart", "(II)I"⟩
abbrev cX4_ringWay : ByteArray := prog_1_method_13_code
def yX4_ringWay : MethodName := ⟨RX4, "ringWay", "(III)I"⟩
abbrev cX4_zones : ByteArray := prog_1_method_14_code
def yX4_zones : MethodName := ⟨RX4, "zones", "(I)I"⟩
abbrev cX4_zone : ByteArray := prog_1_method_15_code
def yX4_zone : MethodName := ⟨RX4, "zone", "(I)I"⟩
abbrev cX4_seams : ByteArray := prog_1_method_16_code
def yX4_seams : MethodName := ⟨RX4, "seams", "(II)I"⟩
abbrev cX4_dateLine : ByteArray := prog_1_method_17_code
def yX4_dateLine : MethodName := ⟨RX4, "dateLine", "(II)I"⟩
abbrev cX4_sheet : ByteArray := prog_1_method_18_code
def yX4_sheet : MethodName := ⟨RX4, "sheet", "(II)V"⟩
abbrev cX4_foldColumns : ByteArray := prog_1_method_19_code
def yX4_foldColumns : MethodName := ⟨RX4, "foldColumns", "(I)I"⟩
abbrev cX4_foldRows : ByteArray := prog_1_method_20_code
def yX4_foldRows : MethodName := ⟨RX4, "foldRows", "(I)I"⟩
abbrev cX4_unfold : ByteArray := prog_1_method_21_code
def yX4_unfold : MethodName := ⟨RX4, "unfold", "()I"⟩
abbrev cX4_panel : ByteArray := prog_1_method_22_code
def yX4_panel : MethodName := ⟨RX4, "panel", "(II)I"⟩
abbrev cX4_placeX : ByteArray := prog_1_method_23_code
def yX4_placeX : MethodName := ⟨RX4, "placeX", "(II)I"⟩
abbrev cX4_placeY : ByteArray := prog_1_method_24_code
def yX4_placeY : MethodName := ⟨RX4, "placeY", "(II)I"⟩
abbrev cX4_above : ByteArray := prog_1_method_25_code
def yX4_above : MethodName := ⟨RX4, "above", "(II)I"⟩
abbrev cX4_isUp : ByteArray := prog_1_method_26_code
def yX4_isUp : MethodName := ⟨RX4, "isUp", "(II)Z"⟩
abbrev cX4_thickness : ByteArray := prog_1_method_27_code
def yX4_thickness : MethodName := ⟨RX4, "thickness", "()I"⟩
abbrev cX4_readable : ByteArray := prog_1_method_28_code
def yX4_readable : MethodName := ⟨RX4, "readable", "()I"⟩
abbrev cX4_requireLatitude : ByteArray := prog_1_method_29_code
def yX4_requireLatitude : MethodName := ⟨RX4, "requireLatitude", "(I)V"⟩
abbrev cX4_requireLongitude : ByteArray := prog_1_method_30_code
def yX4_requireLongitude : MethodName := ⟨RX4, "requireLongitude", "(I)V"⟩
abbrev cX4_requireBand : ByteArray := prog_1_method_31_code
def yX4_requireBand : MethodName := ⟨RX4, "requireBand", "(I)V"⟩
abbrev cX4_requirePanel : ByteArray := prog_1_method_32_code
def yX4_requirePanel : MethodName := ⟨RX4, "requirePanel", "(II)V"⟩
abbrev cX4_someTurned : ByteArray := prog_1_method_33_code
def yX4_someTurned : MethodName := ⟨RX4, "someTurned", "(I)I"⟩
abbrev cX4_degreesEast : ByteArray := prog_1_method_34_code
def yX4_degreesEast : MethodName := ⟨RX4, "degreesEast", "(II)I"⟩
abbrev cX4_goesEast : ByteArray := prog_1_method_35_code
def yX4_goesEast : MethodName := ⟨RX4, "goesEast", "(II)Z"⟩
abbrev cX4_shorterWay : ByteArray := prog_1_method_36_code
def yX4_shorterWay : MethodName := ⟨RX4, "shorterWay", "(II)I"⟩
def RX5 : String := "AtlasFolderModel"
def TX5 : u_T := fun k => match k with
  | 0 => ("AtlasFolderModel", "width", "[I", true)
  | 1 => ("AtlasFolderModel", "height", "[I", true)
  | 2 => ("AtlasFolderModel", "truth", "[I", true)
  | 3 => ("AtlasFolderModel", "breadth", "I", false)
  | 4 => ("AtlasFolderModel", "columns", "I", false)
  | 5 => ("AtlasFolderModel", "rows", "I", false)
  | 6 => ("AtlasFolderModel", "folds", "I", false)
  | 7 => ("AtlasFolderModel", "atX", "[I", true)
  | 8 => ("AtlasFolderModel", "atY", "[I", true)
  | 9 => ("AtlasFolderModel", "layer", "[I", true)
  | 10 => ("AtlasFolderModel", "up", "[Z", true)
  | _ => ("AtlasFolderModel", "thrown", "I", false)
def tyX5 : Nat → FieldType := fun k => match k with
  | 0 => .array .int
  | 1 => .array .int
  | 2 => .array .int
  | 3 => .int
  | 4 => .int
  | 5 => .int
  | 6 => .int
  | 7 => .array .int
  | 8 => .array .int
  | 9 => .array .int
  | 10 => .array .boolean
  | _ => .int
abbrev wsX50 : List Cond := u_ws RX5 TX5 12
theorem nmX5 : ∀ a, a < 12 → ∀ b, b < 12 → a ≠ b → (TX5 a).2.1 ≠ (TX5 b).2.1 := by decide +kernel
theorem tyX5_ok : ∀ k, k < 12 → parseFieldDescriptor (TX5 k).2.2.1 = some (tyX5 k) := by decide +kernel
abbrev cX5_init : ByteArray := prog_7_method_1_code
def yX5_init : MethodName := ⟨RX5, "<init>", "()V"⟩
abbrev cX5_thrown : ByteArray := prog_7_method_2_code
def yX5_thrown : MethodName := ⟨RX5, "thrown", "()I"⟩
abbrev cX5_may : ByteArray := prog_7_method_3_code
def yX5_may : MethodName := ⟨RX5, "may", "(Z)Z"⟩
abbrev cX5_mayBoth : ByteArray := prog_7_method_4_code
def yX5_mayBoth : MethodName := ⟨RX5, "mayBoth", "(ZZ)Z"⟩
abbrev cX5_mayAll : ByteArray := prog_7_method_5_code
def yX5_mayAll : MethodName := ⟨RX5, "mayAll", "(ZZZ)Z"⟩
abbrev cX5_isLatitude : ByteArray := prog_7_method_6_code
def yX5_isLatitude : MethodName := ⟨RX5, "isLatitude", "(I)Z"⟩
abbrev cX5_isLongitude : ByteArray := prog_7_method_7_code
def yX5_isLongitude : MethodName := ⟨RX5, "isLongitude", "(I)Z"⟩
abbrev cX5_table : ByteArray := prog_7_method_8_code
def yX5_table : MethodName := ⟨RX5, "table", "(III)V"⟩
abbrev cX5_wide : ByteArray := prog_7_method_9_code
def yX5_wide : MethodName := ⟨RX5, "wide", "(I)I"⟩
abbrev cX5_high : ByteArray := prog_7_method_10_code
def yX5_high : MethodName := ⟨RX5, "high", "(I)I"⟩
abbrev cX5_x : ByteArray := prog_7_method_11_code
def yX5_x : MethodName := ⟨RX5, "x", "(II)I"⟩
abbrev cX5_y : ByteArray := prog_7_method_12_code
def yX5_y : MethodName := ⟨RX5, "y", "(I)I"⟩
abbrev cX5_latitudeAt : ByteArray := prog_7_method_13_code
def yX5_latitudeAt : MethodName := ⟨RX5, "latitudeAt", "(I)I"⟩
abbrev cX5_areaOf : ByteArray := prog_7_method_14_code
def yX5_areaOf : MethodName := ⟨RX5, "areaOf", "(III)J"⟩
abbrev cX5_area : ByteArray := prog_7_method_15_code
def yX5_area : MethodName := ⟨RX5, "area", "(IIII)J"⟩
abbrev cX5_areaByCells : ByteArray := prog_7_method_16_code
def yX5_areaByCells : MethodName := ⟨RX5, "areaByCells", "(IIII)J"⟩
abbrev cX5_bandOf : ByteArray := prog_7_method_17_code
def yX5_bandOf : MethodName := ⟨RX5, "bandOf", "(I)J"⟩
abbrev cX5_isBand : ByteArray := prog_7_method_18_code
def yX5_isBand : MethodName := ⟨RX5, "isBand", "(I)Z"⟩
abbrev cX5_truth : ByteArray := prog_7_method_19_code
def yX5_truth : MethodName := ⟨RX5, "truth", "(II)I"⟩
abbrev cX5_keepsAreas : ByteArray := prog_7_method_20_code
def yX5_keepsAreas : MethodName := ⟨RX5, "keepsAreas", "()Z"⟩
abbrev cX5_widest : ByteArray := prog_7_method_21_code
def yX5_widest : MethodName := ⟨RX5, "widest", "()I"⟩
abbrev cX5_stretch : ByteArray := prog_7_method_22_code
def yX5_stretch : MethodName := ⟨RX5, "stretch", "(I)F"⟩
abbrev cX5_east : ByteArray := prog_7_method_23_code
def yX5_east : MethodName := ⟨RX5, "east", "(II)I"⟩
abbrev cX5_shorter : ByteArray := prog_7_method_24_code
def yX5_shorter : MethodName := ⟨RX5, "shorter", "(II)I"⟩
abbrev cX5_apart : ByteArray := prog_7_method_25_code
def yX5_apart : MethodName := ⟨RX5, "apart", "(II)I"⟩
abbrev cX5_ringWay : ByteArray := prog_7_method_26_code
def yX5_ringWay : MethodName := ⟨RX5, "ringWay", "(III)I"⟩
abbrev cX5_zones : ByteArray := prog_7_method_27_code
def yX5_zones : MethodName := ⟨RX5, "zones", "(I)I"⟩
abbrev cX5_zoneOf : ByteArray := prog_7_method_28_code
def yX5_zoneOf : MethodName := ⟨RX5, "zoneOf", "(I)I"⟩
abbrev cX5_zone : ByteArray := prog_7_method_29_code
def yX5_zone : MethodName := ⟨RX5, "zone", "(I)I"⟩
abbrev cX5_crossed : ByteArray := prog_7_method_30_code
def yX5_crossed : MethodName := ⟨RX5, "crossed", "(IIZ)I"⟩
abbrev cX5_seams : ByteArray := prog_7_method_31_code
def yX5_seams : MethodName := ⟨RX5, "seams", "(II)I"⟩
abbrev cX5_dateLine : ByteArray := prog_7_method_32_code
def yX5_dateLine : MethodName := ⟨RX5, "dateLine", "(II)I"⟩
abbrev cX5_lay : ByteArray := prog_7_method_33_code
def yX5_lay : MethodName := ⟨RX5, "lay", "()V"⟩
abbrev cX5_isPanel : ByteArray := prog_7_method_34_code
def yX5_isPanel : MethodName := ⟨RX5, "isPanel", "(I)Z"⟩
abbrev cX5_sheet : ByteArray := prog_7_method_35_code
def yX5_sheet : MethodName := ⟨RX5, "sheet", "(II)V"⟩
abbrev cX5_ahead : ByteArray := prog_7_method_36_code
def yX5_ahead : MethodName := ⟨RX5, "ahead", "(IZ)I"⟩
abbrev cX5_fold : ByteArray := prog_7_method_37_code
def yX5_fold : MethodName := ⟨RX5, "fold", "(IZ)I"⟩
abbrev cX5_foldColumns : ByteArray := prog_7_method_38_code
def yX5_foldColumns : MethodName := ⟨RX5, "foldColumns", "(I)I"⟩
abbrev cX5_foldRows : ByteArray := prog_7_method_39_code
def yX5_foldRows : MethodName := ⟨RX5, "foldRows", "(I)I"⟩
abbrev cX5_unfold : ByteArray := prog_7_method_40_code
def yX5_unfold : MethodName := ⟨RX5, "unfold", "()I"⟩
abbrev cX5_panel : ByteArray := prog_7_method_41_code
def yX5_panel : MethodName := ⟨RX5, "panel", "(II)I"⟩
abbrev cX5_has : ByteArray := prog_7_method_42_code
def yX5_has : MethodName := ⟨RX5, "has", "(II)Z"⟩
abbrev cX5_placeX : ByteArray := prog_7_method_43_code
def yX5_placeX : MethodName := ⟨RX5, "placeX", "(II)I"⟩
abbrev cX5_placeY : ByteArray := prog_7_method_44_code
def yX5_placeY : MethodName := ⟨RX5, "placeY", "(II)I"⟩
abbrev cX5_stacked : ByteArray := prog_7_method_45_code
def yX5_stacked : MethodName := ⟨RX5, "stacked", "(IZ)I"⟩
abbrev cX5_above : ByteArray := prog_7_method_46_code
def yX5_above : MethodName := ⟨RX5, "above", "(II)I"⟩
abbrev cX5_isUp : ByteArray := prog_7_method_47_code
def yX5_isUp : MethodName := ⟨RX5, "isUp", "(II)Z"⟩
abbrev cX5_thickness : ByteArray := prog_7_method_48_code
def yX5_thickness : MethodName := ⟨RX5, "thickness", "()I"⟩
abbrev cX5_readable : ByteArray := prog_7_method_49_code
def yX5_readable : MethodName := ⟨RX5, "readable", "()I"⟩
def RJ13 : String := "java/lang/Long"
def TJ13 : u_T := fun k => match k with
  | _ => ("", "", "", false)
def tyJ13 : Nat → FieldType := fun k => match k with
  | _ => .int
abbrev wsJ130 : List Cond := u_ws RJ13 TJ13 0
theorem nmJ13 : ∀ a, a < 0 → ∀ b, b < 0 → a ≠ b → (TJ13 a).2.1 ≠ (TJ13 b).2.1 := by decide +kernel
theorem tyJ13_ok : ∀ k, k < 0 → parseFieldDescriptor (TJ13 k).2.2.1 = some (tyJ13 k) := by decide +kernel
abbrev cJ13_compare_74951 : ByteArray := prog_12_method_42_code
def yJ13_compare_74951 : MethodName := ⟨RJ13, "compare", "(JJ)I"⟩
def RJ9 : String := "java/lang/Math"
def TJ9 : u_T := fun k => match k with
  | _ => ("", "", "", false)
def tyJ9 : Nat → FieldType := fun k => match k with
  | _ => .int
abbrev wsJ90 : List Cond := u_ws RJ9 TJ9 0
theorem nmJ9 : ∀ a, a < 0 → ∀ b, b < 0 → a ≠ b → (TJ9 a).2.1 ≠ (TJ9 b).2.1 := by decide +kernel
theorem tyJ9_ok : ∀ k, k < 0 → parseFieldDescriptor (TJ9 k).2.2.1 = some (tyJ9 k) := by decide +kernel
abbrev cJ9_abs_0f7a4 : ByteArray := prog_13_method_59_code
def yJ9_abs_0f7a4 : MethodName := ⟨RJ9, "abs", "(I)I"⟩
abbrev cJ9_max_7cf53 : ByteArray := prog_13_method_65_code
def yJ9_max_7cf53 : MethodName := ⟨RJ9, "max", "(II)I"⟩
abbrev cJ9_min_7cf53 : ByteArray := prog_13_method_69_code
def yJ9_min_7cf53 : MethodName := ⟨RJ9, "min", "(II)I"⟩
def RJ0 : String := "java/lang/String"
def TJ0 : u_T := fun k => match k with
  | _ => ("", "", "", false)
def tyJ0 : Nat → FieldType := fun k => match k with
  | _ => .int
abbrev wsJ00 : List Cond := u_ws RJ0 TJ0 0
theorem nmJ0 : ∀ a, a < 0 → ∀ b, b < 0 → a ≠ b → (TJ0 a).2.1 ≠ (TJ0 b).2.1 := by decide +kernel
theorem tyJ0_ok : ∀ k, k < 0 → parseFieldDescriptor (TJ0 k).2.2.1 = some (tyJ0 k) := by decide +kernel
def RL : String := "AtlasFolderLaw"
abbrev cL_table : ByteArray := method_3_code
def yL_table : MethodName := ⟨RL, "table", "(LAtlasFolder;III)I"⟩
abbrev cL_x : ByteArray := method_4_code
def yL_x : MethodName := ⟨RL, "x", "(LAtlasFolder;II[J)I"⟩
abbrev cL_y : ByteArray := method_5_code
def yL_y : MethodName := ⟨RL, "y", "(LAtlasFolder;I[J)I"⟩
abbrev cL_latitudeAt : ByteArray := method_6_code
def yL_latitudeAt : MethodName := ⟨RL, "latitudeAt", "(LAtlasFolder;I[J)I"⟩
abbrev cL_area : ByteArray := method_7_code
def yL_area : MethodName := ⟨RL, "area", "(LAtlasFolder;IIII[J)I"⟩
abbrev cL_areaByCells : ByteArray := method_8_code
def yL_areaByCells : MethodName := ⟨RL, "areaByCells", "(LAtlasFolder;IIII[J)I"⟩
abbrev cL_truth : ByteArray := method_9_code
def yL_truth : MethodName := ⟨RL, "truth", "(LAtlasFolder;II[J)I"⟩
abbrev cL_stretch : ByteArray := method_10_code
def yL_stretch : MethodName := ⟨RL, "stretch", "(LAtlasFolder;I[D)I"⟩
abbrev cL_apart : ByteArray := method_11_code
def yL_apart : MethodName := ⟨RL, "apart", "(LAtlasFolder;II[J)I"⟩
abbrev cL_ringWay : ByteArray := method_12_code
def yL_ringWay : MethodName := ⟨RL, "ringWay", "(LAtlasFolder;III[J)I"⟩
abbrev cL_zones : ByteArray := method_13_code
def yL_zones : MethodName := ⟨RL, "zones", "(LAtlasFolder;I[J)I"⟩
abbrev cL_zone : ByteArray := method_14_code
def yL_zone : MethodName := ⟨RL, "zone", "(LAtlasFolder;I[J)I"⟩
abbrev cL_seams : ByteArray := method_15_code
def yL_seams : MethodName := ⟨RL, "seams", "(LAtlasFolder;II[J)I"⟩
abbrev cL_dateLine : ByteArray := method_16_code
def yL_dateLine : MethodName := ⟨RL, "dateLine", "(LAtlasFolder;II[J)I"⟩
abbrev cL_sheet : ByteArray := method_17_code
def yL_sheet : MethodName := ⟨RL, "sheet", "(LAtlasFolder;II)I"⟩
abbrev cL_foldColumns : ByteArray := method_18_code
def yL_foldColumns : MethodName := ⟨RL, "foldColumns", "(LAtlasFolder;I[J)I"⟩
abbrev cL_foldRows : ByteArray := method_19_code
def yL_foldRows : MethodName := ⟨RL, "foldRows", "(LAtlasFolder;I[J)I"⟩
abbrev cL_panel : ByteArray := method_20_code
def yL_panel : MethodName := ⟨RL, "panel", "(LAtlasFolder;II[J)I"⟩
abbrev cL_placeX : ByteArray := method_21_code
def yL_placeX : MethodName := ⟨RL, "placeX", "(LAtlasFolder;II[J)I"⟩
abbrev cL_placeY : ByteArray := method_22_code
def yL_placeY : MethodName := ⟨RL, "placeY", "(LAtlasFolder;II[J)I"⟩
abbrev cL_above : ByteArray := method_23_code
def yL_above : MethodName := ⟨RL, "above", "(LAtlasFolder;II[J)I"⟩
abbrev cL_isUp : ByteArray := method_24_code
def yL_isUp : MethodName := ⟨RL, "isUp", "(LAtlasFolder;II[J)I"⟩
abbrev cL_law : ByteArray := code
def yL_law : MethodName := ⟨RL, "law", "([I)Z"⟩
def wsX0_init : List Cond := .code yX0_init cX0_init 2 none :: ([.methodLink RX0 3 objectInit, .instanceMethod objectInit, .code objectInit ⟨#[0xb1]⟩ 1 none, .arrayClass .int, .fieldLink RX0 9 "AtlasFolder$BandTruths" "truths" "[I"] ++ wsX00)
def wsX0_truthOf : List Cond := .code yX0_truthOf cX0_truthOf 2 (some .int) :: ([.fieldLink RX0 9 "AtlasFolder$BandTruths" "truths" "[I"] ++ wsX00)
def wsX0_replaceTruth : List Cond := .code yX0_replaceTruth cX0_replaceTruth 4 (some .int) :: ([.fieldLink RX0 9 "AtlasFolder$BandTruths" "truths" "[I", .methodLink RX0 15 yX0_truthOf, .instanceMethod yX0_truthOf, .selects RX0 yX0_truthOf yX0_truthOf, .initialized RX0, .code yX0_truthOf cX0_truthOf 2 (some .int)] ++ wsX00)
def wsX2_valueAt : List Cond := .code yX2_valueAt cX2_valueAt 2 (some .int) :: ([])
def wsX2_bandArea : List Cond := .code yX2_bandArea cX2_bandArea 6 (some .long) :: ([.fieldLink RX2 9 "AtlasFolder$MapTable" "widths" "[I", .fieldLink RX2 15 "AtlasFolder$MapTable" "heights" "[I", .constantLong RX2 41 (36000), .methodLink RX2 18 yX2_valueAt, .static yX2_valueAt, .initialized RX2, .code yX2_valueAt cX2_valueAt 2 (some .int)] ++ wsX20)
def wsJ13_compare_74951 : List Cond := .code yJ13_compare_74951 cJ13_compare_74951 4 (some .int) :: ([])
def wsX0_compareBands : List Cond := .code yX0_compareBands cX0_compareBands 4 (some .int) :: ([.methodLink RX0 23 yX2_bandArea, .instanceMethod yX2_bandArea, .selects RX2 yX2_bandArea yX2_bandArea, .initialized RX2, .code yX2_bandArea cX2_bandArea 6 (some .long), .fieldLink RX2 9 "AtlasFolder$MapTable" "widths" "[I", .fieldLink RX2 15 "AtlasFolder$MapTable" "heights" "[I", .constantLong RX2 41 (36000), .methodLink RX2 18 yX2_valueAt, .static yX2_valueAt, .code yX2_valueAt cX2_valueAt 2 (some .int), .methodLink RX0 15 yX0_truthOf, .instanceMethod yX0_truthOf, .selects RX0 yX0_truthOf yX0_truthOf, .initialized RX0, .code yX0_truthOf cX0_truthOf 2 (some .int), .fieldLink RX0 9 "AtlasFolder$BandTruths" "truths" "[I", .methodLink RX0 29 yJ13_compare_74951, .static yJ13_compare_74951, .initialized RJ13, .code yJ13_compare_74951 cJ13_compare_74951 4 (some .int)] ++ wsX20 ++ wsX00)
def wsX0_areAllAlike_r1 : List Cond := [Cond.methodLink RX0 19 yX0_compareBands, Cond.instanceMethod yX0_compareBands, Cond.selects RX0 yX0_compareBands yX0_compareBands, Cond.initialized RX0, Cond.code yX0_compareBands cX0_compareBands 4 (some .int), Cond.methodLink RX0 23 yX2_bandArea, Cond.instanceMethod yX2_bandArea, Cond.selects RX2 yX2_bandArea yX2_bandArea, Cond.initialized RX2, Cond.code yX2_bandArea cX2_bandArea 6 (some .long), Cond.fieldLink RX2 9 "AtlasFolder$MapTable" "widths" "[I", Cond.fieldLink RX2 15 "AtlasFolder$MapTable" "heights" "[I", Cond.constantLong RX2 41 (36000), Cond.methodLink RX2 18 yX2_valueAt, Cond.static yX2_valueAt, Cond.code yX2_valueAt cX2_valueAt 2 (some .int), Cond.methodLink RX0 15 yX0_truthOf, Cond.instanceMethod yX0_truthOf, Cond.selects RX0 yX0_truthOf yX0_truthOf, Cond.code yX0_truthOf cX0_truthOf 2 (some .int), Cond.fieldLink RX0 9 "AtlasFolder$BandTruths" "truths" "[I", Cond.methodLink RX0 29 yJ13_compare_74951, Cond.static yJ13_compare_74951, Cond.initialized RJ13]
def wsX0_areAllAlike_r2 : List Cond := [Cond.code yJ13_compare_74951 cJ13_compare_74951 4 (some .int)]
def wsX0_areAllAlike : List Cond := .code yX0_areAllAlike cX0_areAllAlike 3 (some .boolean) :: ((wsX0_areAllAlike_r1 ++ wsX0_areAllAlike_r2) ++ wsX20 ++ wsX00)
def wsX0_greatest_r1 : List Cond := [Cond.methodLink RX0 19 yX0_compareBands, Cond.instanceMethod yX0_compareBands, Cond.selects RX0 yX0_compareBands yX0_compareBands, Cond.initialized RX0, Cond.code yX0_compareBands cX0_compareBands 4 (some .int), Cond.methodLink RX0 23 yX2_bandArea, Cond.instanceMethod yX2_bandArea, Cond.selects RX2 yX2_bandArea yX2_bandArea, Cond.initialized RX2, Cond.code yX2_bandArea cX2_bandArea 6 (some .long), Cond.fieldLink RX2 9 "AtlasFolder$MapTable" "widths" "[I", Cond.fieldLink RX2 15 "AtlasFolder$MapTable" "heights" "[I", Cond.constantLong RX2 41 (36000), Cond.methodLink RX2 18 yX2_valueAt, Cond.static yX2_valueAt, Cond.code yX2_valueAt cX2_valueAt 2 (some .int), Cond.methodLink RX0 15 yX0_truthOf, Cond.instanceMethod yX0_truthOf, Cond.selects RX0 yX0_truthOf yX0_truthOf, Cond.code yX0_truthOf cX0_truthOf 2 (some .int), Cond.fieldLink RX0 9 "AtlasFolder$BandTruths" "truths" "[I", Cond.methodLink RX0 29 yJ13_compare_74951, Cond.static yJ13_compare_74951, Cond.initialized RJ13]
def wsX0_greatest_r2 : List Cond := [Cond.code yJ13_compare_74951 cJ13_compare_74951 4 (some .int)]
def wsX0_greatest : List Cond := .code yX0_greatest cX0_greatest 4 (some .int) :: ((wsX0_greatest_r1 ++ wsX0_greatest_r2) ++ wsX20 ++ wsX00)
def wsX0_areaByTruth : List Cond := .code yX0_areaByTruth cX0_areaByTruth 3 (some .float) :: ([.methodLink RX0 23 yX2_bandArea, .instanceMethod yX2_bandArea, .selects RX2 yX2_bandArea yX2_bandArea, .initialized RX2, .code yX2_bandArea cX2_bandArea 6 (some .long), .fieldLink RX2 9 "AtlasFolder$MapTable" "widths" "[I", .fieldLink RX2 15 "AtlasFolder$MapTable" "heights" "[I", .constantLong RX2 41 (36000), .methodLink RX2 18 yX2_valueAt, .static yX2_valueAt, .code yX2_valueAt cX2_valueAt 2 (some .int), .methodLink RX0 15 yX0_truthOf, .instanceMethod yX0_truthOf, .selects RX0 yX0_truthOf yX0_truthOf, .initialized RX0, .code yX0_truthOf cX0_truthOf 2 (some .int), .fieldLink RX0 9 "AtlasFolder$BandTruths" "truths" "[I"] ++ wsX20 ++ wsX00)
def wsX1_number : List Cond := .code yX1_number cX1_number 3 (some .int) :: ([.fieldLink RX1 33 "AtlasFolder$FoldedSheet" "rows" "I"] ++ wsX10)
def wsX1_spread : List Cond := .code yX1_spread cX1_spread 4 (some .int) :: ([.fieldLink RX1 29 "AtlasFolder$FoldedSheet" "columns" "I", .fieldLink RX1 33 "AtlasFolder$FoldedSheet" "rows" "I", .fieldLink RX1 9 "AtlasFolder$FoldedSheet" "columnPlaces" "[I", .fieldLink RX1 15 "AtlasFolder$FoldedSheet" "rowPlaces" "[I", .fieldLink RX1 18 "AtlasFolder$FoldedSheet" "layers" "[I", .fieldLink RX1 21 "AtlasFolder$FoldedSheet" "faceUp" "[Z", .fieldLink RX1 44 "AtlasFolder$FoldedSheet" "folds" "I", .methodLink RX1 40 yX1_number, .instanceMethod yX1_number, .selects RX1 yX1_number yX1_number, .initialized RX1, .code yX1_number cX1_number 3 (some .int)] ++ wsX10)
def wsX1_layOut : List Cond := .code yX1_layOut cX1_layOut 3 none :: ([.fieldLink RX1 29 "AtlasFolder$FoldedSheet" "columns" "I", .fieldLink RX1 33 "AtlasFolder$FoldedSheet" "rows" "I", .methodLink RX1 36 yX1_spread, .instanceMethod yX1_spread, .selects RX1 yX1_spread yX1_spread, .initialized RX1, .code yX1_spread cX1_spread 4 (some .int), .fieldLink RX1 9 "AtlasFolder$FoldedSheet" "columnPlaces" "[I", .fieldLink RX1 15 "AtlasFolder$FoldedSheet" "rowPlaces" "[I", .fieldLink RX1 18 "AtlasFolder$FoldedSheet" "layers" "[I", .fieldLink RX1 21 "AtlasFolder$FoldedSheet" "faceUp" "[Z", .fieldLink RX1 44 "AtlasFolder$FoldedSheet" "folds" "I", .methodLink RX1 40 yX1_number, .instanceMethod yX1_number, .selects RX1 yX1_number yX1_number, .code yX1_number cX1_number 3 (some .int)] ++ wsX10)
def wsX1_init_r1 : List Cond := [Cond.methodLink RX1 3 objectInit, Cond.instanceMethod objectInit, Cond.code objectInit ⟨#[0xb1]⟩ 1 none, Cond.arrayClass .int, Cond.fieldLink RX1 9 "AtlasFolder$FoldedSheet" "columnPlaces" "[I", Cond.fieldLink RX1 15 "AtlasFolder$FoldedSheet" "rowPlaces" "[I", Cond.fieldLink RX1 18 "AtlasFolder$FoldedSheet" "layers" "[I", Cond.arrayClass .boolean, Cond.fieldLink RX1 21 "AtlasFolder$FoldedSheet" "faceUp" "[Z", Cond.methodLink RX1 25 yX1_layOut, Cond.instanceMethod yX1_layOut, Cond.selects RX1 yX1_layOut yX1_layOut, Cond.initialized RX1, Cond.code yX1_layOut cX1_layOut 3 none, Cond.fieldLink RX1 29 "AtlasFolder$FoldedSheet" "columns" "I", Cond.fieldLink RX1 33 "AtlasFolder$FoldedSheet" "rows" "I", Cond.methodLink RX1 36 yX1_spread, Cond.instanceMethod yX1_spread, Cond.selects RX1 yX1_spread yX1_spread, Cond.code yX1_spread cX1_spread 4 (some .int), Cond.fieldLink RX1 44 "AtlasFolder$FoldedSheet" "folds" "I", Cond.methodLink RX1 40 yX1_number, Cond.instanceMethod yX1_number, Cond.selects RX1 yX1_number yX1_number]
def wsX1_init_r2 : List Cond := [Cond.code yX1_number cX1_number 3 (some .int)]
def wsX1_init : List Cond := .code yX1_init cX1_init 2 none :: ((wsX1_init_r1 ++ wsX1_init_r2) ++ wsX10)
def wsX1_columnOf : List Cond := .code yX1_columnOf cX1_columnOf 2 (some .int) :: ([.fieldLink RX1 29 "AtlasFolder$FoldedSheet" "columns" "I"] ++ wsX10)
def wsX1_rowOf : List Cond := .code yX1_rowOf cX1_rowOf 2 (some .int) :: ([.fieldLink RX1 33 "AtlasFolder$FoldedSheet" "rows" "I", .methodLink RX1 47 Lib.Math.min.name, .static Lib.Math.min.name, .initialized "java/lang/Math", .code Lib.Math.min.name Lib.Math.min.code 2 (some .int)] ++ wsX10)
def wsX1_hasPanel : List Cond := .code yX1_hasPanel cX1_hasPanel 3 (some .boolean) :: ([.fieldLink RX1 29 "AtlasFolder$FoldedSheet" "columns" "I", .fieldLink RX1 33 "AtlasFolder$FoldedSheet" "rows" "I"] ++ wsX10)
def wsX1_columnPlace : List Cond := .code yX1_columnPlace cX1_columnPlace 3 (some .int) :: ([.fieldLink RX1 9 "AtlasFolder$FoldedSheet" "columnPlaces" "[I", .methodLink RX1 52 yX1_hasPanel, .instanceMethod yX1_hasPanel, .selects RX1 yX1_hasPanel yX1_hasPanel, .initialized RX1, .code yX1_hasPanel cX1_hasPanel 3 (some .boolean), .fieldLink RX1 29 "AtlasFolder$FoldedSheet" "columns" "I", .fieldLink RX1 33 "AtlasFolder$FoldedSheet" "rows" "I", .methodLink RX1 40 yX1_number, .instanceMethod yX1_number, .selects RX1 yX1_number yX1_number, .code yX1_number cX1_number 3 (some .int)] ++ wsX10)
def wsX1_rowPlace : List Cond := .code yX1_rowPlace cX1_rowPlace 3 (some .int) :: ([.fieldLink RX1 15 "AtlasFolder$FoldedSheet" "rowPlaces" "[I", .methodLink RX1 52 yX1_hasPanel, .instanceMethod yX1_hasPanel, .selects RX1 yX1_hasPanel yX1_hasPanel, .initialized RX1, .code yX1_hasPanel cX1_hasPanel 3 (some .boolean), .fieldLink RX1 29 "AtlasFolder$FoldedSheet" "columns" "I", .fieldLink RX1 33 "AtlasFolder$FoldedSheet" "rows" "I", .methodLink RX1 40 yX1_number, .instanceMethod yX1_number, .selects RX1 yX1_number yX1_number, .code yX1_number cX1_number 3 (some .int)] ++ wsX10)
def wsX1_liesFaceUp : List Cond := .code yX1_liesFaceUp cX1_liesFaceUp 3 (some .boolean) :: ([.fieldLink RX1 21 "AtlasFolder$FoldedSheet" "faceUp" "[Z", .methodLink RX1 52 yX1_hasPanel, .instanceMethod yX1_hasPanel, .selects RX1 yX1_hasPanel yX1_hasPanel, .initialized RX1, .code yX1_hasPanel cX1_hasPanel 3 (some .boolean), .fieldLink RX1 29 "AtlasFolder$FoldedSheet" "columns" "I", .fieldLink RX1 33 "AtlasFolder$FoldedSheet" "rows" "I", .methodLink RX1 40 yX1_number, .instanceMethod yX1_number, .selects RX1 yX1_number yX1_number, .code yX1_number cX1_number 3 (some .int)] ++ wsX10)
def wsX1_panels : List Cond := .code yX1_panels cX1_panels 1 (some .int) :: ([.fieldLink RX1 29 "AtlasFolder$FoldedSheet" "columns" "I", .fieldLink RX1 33 "AtlasFolder$FoldedSheet" "rows" "I"] ++ wsX10)
def wsX1_higherThan : List Cond := .code yX1_higherThan cX1_higherThan 4 (some .int) :: ([.fieldLink RX1 9 "AtlasFolder$FoldedSheet" "columnPlaces" "[I", .fieldLink RX1 15 "AtlasFolder$FoldedSheet" "rowPlaces" "[I", .fieldLink RX1 18 "AtlasFolder$FoldedSheet" "layers" "[I", .methodLink RX1 64 yX1_panels, .instanceMethod yX1_panels, .selects RX1 yX1_panels yX1_panels, .initialized RX1, .code yX1_panels cX1_panels 1 (some .int), .fieldLink RX1 29 "AtlasFolder$FoldedSheet" "columns" "I", .fieldLink RX1 33 "AtlasFolder$FoldedSheet" "rows" "I"] ++ wsX10)
def wsX1_panelsAbove : List Cond := .code yX1_panelsAbove cX1_panelsAbove 3 (some .int) :: ([.methodLink RX1 52 yX1_hasPanel, .instanceMethod yX1_hasPanel, .selects RX1 yX1_hasPanel yX1_hasPanel, .initialized RX1, .code yX1_hasPanel cX1_hasPanel 3 (some .boolean), .fieldLink RX1 29 "AtlasFolder$FoldedSheet" "columns" "I", .fieldLink RX1 33 "AtlasFolder$FoldedSheet" "rows" "I", .methodLink RX1 40 yX1_number, .instanceMethod yX1_number, .selects RX1 yX1_number yX1_number, .code yX1_number cX1_number 3 (some .int), .methodLink RX1 56 yX1_higherThan, .instanceMethod yX1_higherThan, .selects RX1 yX1_higherThan yX1_higherThan, .code yX1_higherThan cX1_higherThan 4 (some .int), .fieldLink RX1 9 "AtlasFolder$FoldedSheet" "columnPlaces" "[I", .fieldLink RX1 15 "AtlasFolder$FoldedSheet" "rowPlaces" "[I", .fieldLink RX1 18 "AtlasFolder$FoldedSheet" "layers" "[I", .methodLink RX1 64 yX1_panels, .instanceMethod yX1_panels, .selects RX1 yX1_panels yX1_panels, .code yX1_panels cX1_panels 1 (some .int)] ++ wsX10)
def wsX1_placesBelow : List Cond := .code yX1_placesBelow cX1_placesBelow 5 (some .int) :: ([.methodLink RX1 64 yX1_panels, .instanceMethod yX1_panels, .selects RX1 yX1_panels yX1_panels, .initialized RX1, .code yX1_panels cX1_panels 1 (some .int), .fieldLink RX1 29 "AtlasFolder$FoldedSheet" "columns" "I", .fieldLink RX1 33 "AtlasFolder$FoldedSheet" "rows" "I"] ++ wsX10)
def wsX1_highestLayer : List Cond := .code yX1_highestLayer cX1_highestLayer 3 (some .int) :: ([.fieldLink RX1 18 "AtlasFolder$FoldedSheet" "layers" "[I", .methodLink RX1 67 Lib.Math.max.name, .static Lib.Math.max.name, .initialized "java/lang/Math", .code Lib.Math.max.name Lib.Math.max.code 2 (some .int), .methodLink RX1 64 yX1_panels, .instanceMethod yX1_panels, .selects RX1 yX1_panels yX1_panels, .initialized RX1, .code yX1_panels cX1_panels 1 (some .int), .fieldLink RX1 29 "AtlasFolder$FoldedSheet" "columns" "I", .fieldLink RX1 33 "AtlasFolder$FoldedSheet" "rows" "I"] ++ wsX10)
def wsX1_turnOver : List Cond := .code yX1_turnOver cX1_turnOver 6 (some .int) :: ([.fieldLink RX1 18 "AtlasFolder$FoldedSheet" "layers" "[I", .fieldLink RX1 21 "AtlasFolder$FoldedSheet" "faceUp" "[Z", .fieldLink RX1 44 "AtlasFolder$FoldedSheet" "folds" "I", .methodLink RX1 70 yX1_placesBelow, .instanceMethod yX1_placesBelow, .selects RX1 yX1_placesBelow yX1_placesBelow, .initialized RX1, .code yX1_placesBelow cX1_placesBelow 5 (some .int), .methodLink RX1 64 yX1_panels, .instanceMethod yX1_panels, .selects RX1 yX1_panels yX1_panels, .code yX1_panels cX1_panels 1 (some .int), .fieldLink RX1 29 "AtlasFolder$FoldedSheet" "columns" "I", .fieldLink RX1 33 "AtlasFolder$FoldedSheet" "rows" "I", .methodLink RX1 73 yX1_highestLayer, .instanceMethod yX1_highestLayer, .selects RX1 yX1_highestLayer yX1_highestLayer, .code yX1_highestLayer cX1_highestLayer 3 (some .int), .methodLink RX1 67 Lib.Math.max.name, .static Lib.Math.max.name, .initialized "java/lang/Math", .code Lib.Math.max.name Lib.Math.max.code 2 (some .int)] ++ wsX10)
def wsX1_turnOverColumns_r1 : List Cond := [Cond.fieldLink RX1 9 "AtlasFolder$FoldedSheet" "columnPlaces" "[I", Cond.methodLink RX1 60 yX1_turnOver, Cond.instanceMethod yX1_turnOver, Cond.selects RX1 yX1_turnOver yX1_turnOver, Cond.initialized RX1, Cond.code yX1_turnOver cX1_turnOver 6 (some .int), Cond.fieldLink RX1 18 "AtlasFolder$FoldedSheet" "layers" "[I", Cond.fieldLink RX1 21 "AtlasFolder$FoldedSheet" "faceUp" "[Z", Cond.fieldLink RX1 44 "AtlasFolder$FoldedSheet" "folds" "I", Cond.methodLink RX1 70 yX1_placesBelow, Cond.instanceMethod yX1_placesBelow, Cond.selects RX1 yX1_placesBelow yX1_placesBelow, Cond.code yX1_placesBelow cX1_placesBelow 5 (some .int), Cond.methodLink RX1 64 yX1_panels, Cond.instanceMethod yX1_panels, Cond.selects RX1 yX1_panels yX1_panels, Cond.code yX1_panels cX1_panels 1 (some .int), Cond.fieldLink RX1 29 "AtlasFolder$FoldedSheet" "columns" "I", Cond.fieldLink RX1 33 "AtlasFolder$FoldedSheet" "rows" "I", Cond.methodLink RX1 73 yX1_highestLayer, Cond.instanceMethod yX1_highestLayer, Cond.selects RX1 yX1_highestLayer yX1_highestLayer, Cond.code yX1_highestLayer cX1_highestLayer 3 (some .int), Cond.methodLink RX1 67 Lib.Math.max.name]
def wsX1_turnOverColumns_r2 : List Cond := [Cond.static Lib.Math.max.name, Cond.initialized "java/lang/Math", Cond.code Lib.Math.max.name Lib.Math.max.code 2 (some .int)]
def wsX1_turnOverColumns : List Cond := .code yX1_turnOverColumns cX1_turnOverColumns 2 (some .int) :: ((wsX1_turnOverColumns_r1 ++ wsX1_turnOverColumns_r2) ++ wsX10)
def wsX1_turnOverRows_r1 : List Cond := [Cond.fieldLink RX1 15 "AtlasFolder$FoldedSheet" "rowPlaces" "[I", Cond.methodLink RX1 60 yX1_turnOver, Cond.instanceMethod yX1_turnOver, Cond.selects RX1 yX1_turnOver yX1_turnOver, Cond.initialized RX1, Cond.code yX1_turnOver cX1_turnOver 6 (some .int), Cond.fieldLink RX1 18 "AtlasFolder$FoldedSheet" "layers" "[I", Cond.fieldLink RX1 21 "AtlasFolder$FoldedSheet" "faceUp" "[Z", Cond.fieldLink RX1 44 "AtlasFolder$FoldedSheet" "folds" "I", Cond.methodLink RX1 70 yX1_placesBelow, Cond.instanceMethod yX1_placesBelow, Cond.selects RX1 yX1_placesBelow yX1_placesBelow, Cond.code yX1_placesBelow cX1_placesBelow 5 (some .int), Cond.methodLink RX1 64 yX1_panels, Cond.instanceMethod yX1_panels, Cond.selects RX1 yX1_panels yX1_panels, Cond.code yX1_panels cX1_panels 1 (some .int), Cond.fieldLink RX1 29 "AtlasFolder$FoldedSheet" "columns" "I", Cond.fieldLink RX1 33 "AtlasFolder$FoldedSheet" "rows" "I", Cond.methodLink RX1 73 yX1_highestLayer, Cond.instanceMethod yX1_highestLayer, Cond.selects RX1 yX1_highestLayer yX1_highestLayer, Cond.code yX1_highestLayer cX1_highestLayer 3 (some .int), Cond.methodLink RX1 67 Lib.Math.max.name]
def wsX1_turnOverRows_r2 : List Cond := [Cond.static Lib.Math.max.name, Cond.initialized "java/lang/Math", Cond.code Lib.Math.max.name Lib.Math.max.code 2 (some .int)]
def wsX1_turnOverRows : List Cond := .code yX1_turnOverRows cX1_turnOverRows 2 (some .int) :: ((wsX1_turnOverRows_r1 ++ wsX1_turnOverRows_r2) ++ wsX10)
def wsX1_mostPanels : List Cond := .code yX1_mostPanels cX1_mostPanels 3 (some .int) :: ([.methodLink RX1 67 Lib.Math.max.name, .static Lib.Math.max.name, .initialized "java/lang/Math", .code Lib.Math.max.name Lib.Math.max.code 2 (some .int), .methodLink RX1 64 yX1_panels, .instanceMethod yX1_panels, .selects RX1 yX1_panels yX1_panels, .initialized RX1, .code yX1_panels cX1_panels 1 (some .int), .fieldLink RX1 29 "AtlasFolder$FoldedSheet" "columns" "I", .fieldLink RX1 33 "AtlasFolder$FoldedSheet" "rows" "I", .methodLink RX1 56 yX1_higherThan, .instanceMethod yX1_higherThan, .selects RX1 yX1_higherThan yX1_higherThan, .code yX1_higherThan cX1_higherThan 4 (some .int), .fieldLink RX1 9 "AtlasFolder$FoldedSheet" "columnPlaces" "[I", .fieldLink RX1 15 "AtlasFolder$FoldedSheet" "rowPlaces" "[I", .fieldLink RX1 18 "AtlasFolder$FoldedSheet" "layers" "[I"] ++ wsX10)
def wsX1_readablePanels : List Cond := .code yX1_readablePanels cX1_readablePanels 3 (some .int) :: ([.fieldLink RX1 21 "AtlasFolder$FoldedSheet" "faceUp" "[Z", .methodLink RX1 64 yX1_panels, .instanceMethod yX1_panels, .selects RX1 yX1_panels yX1_panels, .initialized RX1, .code yX1_panels cX1_panels 1 (some .int), .fieldLink RX1 29 "AtlasFolder$FoldedSheet" "columns" "I", .fieldLink RX1 33 "AtlasFolder$FoldedSheet" "rows" "I", .methodLink RX1 56 yX1_higherThan, .instanceMethod yX1_higherThan, .selects RX1 yX1_higherThan yX1_higherThan, .code yX1_higherThan cX1_higherThan 4 (some .int), .fieldLink RX1 9 "AtlasFolder$FoldedSheet" "columnPlaces" "[I", .fieldLink RX1 15 "AtlasFolder$FoldedSheet" "rowPlaces" "[I", .fieldLink RX1 18 "AtlasFolder$FoldedSheet" "layers" "[I"] ++ wsX10)
def wsX2_init : List Cond := .code yX2_init cX2_init 2 none :: ([.methodLink RX2 3 objectInit, .instanceMethod objectInit, .code objectInit ⟨#[0xb1]⟩ 1 none, .arrayClass .int, .fieldLink RX2 9 "AtlasFolder$MapTable" "widths" "[I", .fieldLink RX2 15 "AtlasFolder$MapTable" "heights" "[I"] ++ wsX20)
def wsX2_wouldRise : List Cond := .code yX2_wouldRise cX2_wouldRise 3 (some .boolean) :: ([.fieldLink RX2 15 "AtlasFolder$MapTable" "heights" "[I", .methodLink RX2 18 yX2_valueAt, .static yX2_valueAt, .initialized RX2, .code yX2_valueAt cX2_valueAt 2 (some .int)] ++ wsX20)
def wsX2_setRow : List Cond := .code yX2_setRow cX2_setRow 4 none :: ([.fieldLink RX2 9 "AtlasFolder$MapTable" "widths" "[I", .fieldLink RX2 15 "AtlasFolder$MapTable" "heights" "[I"] ++ wsX20)
def wsX2_tenTimesAt : List Cond := .code yX2_tenTimesAt cX2_tenTimesAt 4 (some .int) :: ([.methodLink RX2 18 yX2_valueAt, .static yX2_valueAt, .initialized RX2, .code yX2_valueAt cX2_valueAt 2 (some .int)])
def wsX2_tenWidths : List Cond := .code yX2_tenWidths cX2_tenWidths 2 (some .int) :: ([.fieldLink RX2 9 "AtlasFolder$MapTable" "widths" "[I", .methodLink RX2 22 Lib.Math.abs.name, .static Lib.Math.abs.name, .initialized "java/lang/Math", .code Lib.Math.abs.name Lib.Math.abs.code 1 (some .int), .methodLink RX2 28 yX2_tenTimesAt, .static yX2_tenTimesAt, .initialized RX2, .code yX2_tenTimesAt cX2_tenTimesAt 4 (some .int), .methodLink RX2 18 yX2_valueAt, .static yX2_valueAt, .code yX2_valueAt cX2_valueAt 2 (some .int)] ++ wsX20)
def wsX2_tenHeights : List Cond := .code yX2_tenHeights cX2_tenHeights 3 (some .int) :: ([.fieldLink RX2 15 "AtlasFolder$MapTable" "heights" "[I", .methodLink RX2 22 Lib.Math.abs.name, .static Lib.Math.abs.name, .initialized "java/lang/Math", .code Lib.Math.abs.name Lib.Math.abs.code 1 (some .int), .methodLink RX2 28 yX2_tenTimesAt, .static yX2_tenTimesAt, .initialized RX2, .code yX2_tenTimesAt cX2_tenTimesAt 4 (some .int), .methodLink RX2 18 yX2_valueAt, .static yX2_valueAt, .code yX2_valueAt cX2_valueAt 2 (some .int)] ++ wsX20)
def wsX2_greatestNotAbove : List Cond := .code yX2_greatestNotAbove cX2_greatestNotAbove 3 (some .int) :: ([.methodLink RX2 31 yX2_tenHeights, .instanceMethod yX2_tenHeights, .selects RX2 yX2_tenHeights yX2_tenHeights, .initialized RX2, .code yX2_tenHeights cX2_tenHeights 3 (some .int), .fieldLink RX2 15 "AtlasFolder$MapTable" "heights" "[I", .methodLink RX2 22 Lib.Math.abs.name, .static Lib.Math.abs.name, .initialized "java/lang/Math", .code Lib.Math.abs.name Lib.Math.abs.code 1 (some .int), .methodLink RX2 28 yX2_tenTimesAt, .static yX2_tenTimesAt, .code yX2_tenTimesAt cX2_tenTimesAt 4 (some .int), .methodLink RX2 18 yX2_valueAt, .static yX2_valueAt, .code yX2_valueAt cX2_valueAt 2 (some .int)] ++ wsX20)
def wsX2_cellArea : List Cond := .code yX2_cellArea cX2_cellArea 4 (some .long) :: ([.methodLink RX2 38 yX2_tenWidths, .instanceMethod yX2_tenWidths, .selects RX2 yX2_tenWidths yX2_tenWidths, .initialized RX2, .code yX2_tenWidths cX2_tenWidths 2 (some .int), .fieldLink RX2 9 "AtlasFolder$MapTable" "widths" "[I", .methodLink RX2 22 Lib.Math.abs.name, .static Lib.Math.abs.name, .initialized "java/lang/Math", .code Lib.Math.abs.name Lib.Math.abs.code 1 (some .int), .methodLink RX2 28 yX2_tenTimesAt, .static yX2_tenTimesAt, .code yX2_tenTimesAt cX2_tenTimesAt 4 (some .int), .methodLink RX2 18 yX2_valueAt, .static yX2_valueAt, .code yX2_valueAt cX2_valueAt 2 (some .int), .methodLink RX2 31 yX2_tenHeights, .instanceMethod yX2_tenHeights, .selects RX2 yX2_tenHeights yX2_tenHeights, .code yX2_tenHeights cX2_tenHeights 3 (some .int), .fieldLink RX2 15 "AtlasFolder$MapTable" "heights" "[I"] ++ wsX20)
def wsX2_fieldArea_r1 : List Cond := [Cond.methodLink RX2 34 yX2_cellArea, Cond.instanceMethod yX2_cellArea, Cond.selects RX2 yX2_cellArea yX2_cellArea, Cond.initialized RX2, Cond.code yX2_cellArea cX2_cellArea 4 (some .long), Cond.methodLink RX2 38 yX2_tenWidths, Cond.instanceMethod yX2_tenWidths, Cond.selects RX2 yX2_tenWidths yX2_tenWidths, Cond.code yX2_tenWidths cX2_tenWidths 2 (some .int), Cond.fieldLink RX2 9 "AtlasFolder$MapTable" "widths" "[I", Cond.methodLink RX2 22 Lib.Math.abs.name, Cond.static Lib.Math.abs.name, Cond.initialized "java/lang/Math", Cond.code Lib.Math.abs.name Lib.Math.abs.code 1 (some .int), Cond.methodLink RX2 28 yX2_tenTimesAt, Cond.static yX2_tenTimesAt, Cond.code yX2_tenTimesAt cX2_tenTimesAt 4 (some .int), Cond.methodLink RX2 18 yX2_valueAt, Cond.static yX2_valueAt, Cond.code yX2_valueAt cX2_valueAt 2 (some .int), Cond.methodLink RX2 31 yX2_tenHeights, Cond.instanceMethod yX2_tenHeights, Cond.selects RX2 yX2_tenHeights yX2_tenHeights, Cond.code yX2_tenHeights cX2_tenHeights 3 (some .int)]
def wsX2_fieldArea_r2 : List Cond := [Cond.fieldLink RX2 15 "AtlasFolder$MapTable" "heights" "[I"]
def wsX2_fieldArea : List Cond := .code yX2_fieldArea cX2_fieldArea 7 (some .long) :: ((wsX2_fieldArea_r1 ++ wsX2_fieldArea_r2) ++ wsX20)
def wsX3_init : List Cond := .code yX3_init cX3_init 1 none :: ([.methodLink RX3 3 objectInit, .instanceMethod objectInit, .code objectInit ⟨#[0xb1]⟩ 1 none, .fieldLink RX3 9 "AtlasFolder$ZoneRing" "breadth" "I"] ++ wsX30)
def wsX3_replaceBreadth : List Cond := .code yX3_replaceBreadth cX3_replaceBreadth 3 (some .int) :: ([.fieldLink RX3 9 "AtlasFolder$ZoneRing" "breadth" "I"] ++ wsX30)
def wsX3_zonesBefore : List Cond := .code yX3_zonesBefore cX3_zonesBefore 2 (some .int) :: ([.fieldLink RX3 9 "AtlasFolder$ZoneRing" "breadth" "I"] ++ wsX30)
def wsX3_seamsEastOf : List Cond := .code yX3_seamsEastOf cX3_seamsEastOf 3 (some .int) :: ([.methodLink RX3 15 yX3_zonesBefore, .instanceMethod yX3_zonesBefore, .selects RX3 yX3_zonesBefore yX3_zonesBefore, .initialized RX3, .code yX3_zonesBefore cX3_zonesBefore 2 (some .int), .fieldLink RX3 9 "AtlasFolder$ZoneRing" "breadth" "I"] ++ wsX30)
def wsX4_init_r1 : List Cond := [Cond.methodLink RX4 1 objectInit, Cond.instanceMethod objectInit, Cond.code objectInit ⟨#[0xb1]⟩ 1 none, Cond.classLink RX4 7 RX2, Cond.instantiable RX2 2, Cond.initialized RX2, Cond.fieldLink RX4 10 "AtlasFolder" "map" "LAtlasFolder$MapTable;", Cond.classLink RX4 16 RX0, Cond.instantiable RX0 1, Cond.initialized RX0, Cond.fieldLink RX4 19 "AtlasFolder" "bands" "LAtlasFolder$BandTruths;", Cond.classLink RX4 23 RX3, Cond.instantiable RX3 1, Cond.initialized RX3, Cond.fieldLink RX4 26 "AtlasFolder" "ring" "LAtlasFolder$ZoneRing;", Cond.classLink RX4 30 RX1, Cond.instantiable RX1 7, Cond.initialized RX1, Cond.fieldLink RX4 33 "AtlasFolder" "stack" "LAtlasFolder$FoldedSheet;", Cond.methodLink RX4 9 yX2_init, Cond.instanceMethod yX2_init, Cond.code yX2_init cX2_init 2 none, Cond.methodLink RX2 3 objectInit, Cond.arrayClass .int]
def wsX4_init_r2 : List Cond := [Cond.fieldLink RX2 9 "AtlasFolder$MapTable" "widths" "[I", Cond.fieldLink RX2 15 "AtlasFolder$MapTable" "heights" "[I", Cond.methodLink RX4 18 yX0_init, Cond.instanceMethod yX0_init, Cond.code yX0_init cX0_init 2 none, Cond.methodLink RX0 3 objectInit, Cond.fieldLink RX0 9 "AtlasFolder$BandTruths" "truths" "[I", Cond.methodLink RX4 25 yX3_init, Cond.instanceMethod yX3_init, Cond.code yX3_init cX3_init 1 none, Cond.methodLink RX3 3 objectInit, Cond.fieldLink RX3 9 "AtlasFolder$ZoneRing" "breadth" "I", Cond.methodLink RX4 32 yX1_init, Cond.instanceMethod yX1_init, Cond.code yX1_init cX1_init 2 none, Cond.methodLink RX1 3 objectInit, Cond.fieldLink RX1 9 "AtlasFolder$FoldedSheet" "columnPlaces" "[I", Cond.fieldLink RX1 15 "AtlasFolder$FoldedSheet" "rowPlaces" "[I", Cond.fieldLink RX1 18 "AtlasFolder$FoldedSheet" "layers" "[I", Cond.arrayClass .boolean, Cond.fieldLink RX1 21 "AtlasFolder$FoldedSheet" "faceUp" "[Z", Cond.methodLink RX1 25 yX1_layOut, Cond.instanceMethod yX1_layOut, Cond.selects RX1 yX1_layOut yX1_layOut]
def wsX4_init_r3 : List Cond := [Cond.code yX1_layOut cX1_layOut 3 none, Cond.fieldLink RX1 29 "AtlasFolder$FoldedSheet" "columns" "I", Cond.fieldLink RX1 33 "AtlasFolder$FoldedSheet" "rows" "I", Cond.methodLink RX1 36 yX1_spread, Cond.instanceMethod yX1_spread, Cond.selects RX1 yX1_spread yX1_spread, Cond.code yX1_spread cX1_spread 4 (some .int), Cond.fieldLink RX1 44 "AtlasFolder$FoldedSheet" "folds" "I", Cond.methodLink RX1 40 yX1_number, Cond.instanceMethod yX1_number, Cond.selects RX1 yX1_number yX1_number, Cond.code yX1_number cX1_number 3 (some .int)]
def wsX4_init : List Cond := .code yX4_init cX4_init 1 none :: ((wsX4_init_r1 ++ (wsX4_init_r2 ++ wsX4_init_r3)) ++ wsX20 ++ wsX40 ++ wsX00 ++ wsX30 ++ wsX10)
def wsX4_table : List Cond := .code yX4_table cX4_table 4 none :: ([.classLink RX4 37 "java/lang/IndexOutOfBoundsException", .initialized "java/lang/IndexOutOfBoundsException", .classLink RX4 44 "java/lang/IllegalArgumentException", .initialized "java/lang/IllegalArgumentException", .classLink RX4 53 "java/lang/IllegalStateException", .initialized "java/lang/IllegalStateException", .fieldLink RX4 10 "AtlasFolder" "map" "LAtlasFolder$MapTable;", .methodLink RX4 49 yX2_wouldRise, .instanceMethod yX2_wouldRise, .selects RX2 yX2_wouldRise yX2_wouldRise, .initialized RX2, .code yX2_wouldRise cX2_wouldRise 3 (some .boolean), .fieldLink RX2 15 "AtlasFolder$MapTable" "heights" "[I", .methodLink RX2 18 yX2_valueAt, .static yX2_valueAt, .code yX2_valueAt cX2_valueAt 2 (some .int), .methodLink RX4 58 yX2_setRow, .instanceMethod yX2_setRow, .selects RX2 yX2_setRow yX2_setRow, .code yX2_setRow cX2_setRow 4 none, .fieldLink RX2 9 "AtlasFolder$MapTable" "widths" "[I"] ++ wsX40 ++ wsX20 ++ (vx_atS RX4 41 "java/lang/IndexOutOfBoundsException" ["java/lang/RuntimeException", "java/lang/Exception"]).filter goodWord ++ (vx_atS RX4 48 "java/lang/IllegalArgumentException" ["java/lang/RuntimeException", "java/lang/Exception"]).filter goodWord ++ (vx_atS RX4 57 "java/lang/IllegalStateException" ["java/lang/RuntimeException", "java/lang/Exception"]).filter goodWord)
def wsX4_requireLatitude : List Cond := .code yX4_requireLatitude cX4_requireLatitude 1 none :: ([.classLink RX4 44 "java/lang/IllegalArgumentException", .initialized "java/lang/IllegalArgumentException"] ++ (vx_atS RX4 48 "java/lang/IllegalArgumentException" ["java/lang/RuntimeException", "java/lang/Exception"]).filter goodWord)
def wsX4_requireLongitude : List Cond := .code yX4_requireLongitude cX4_requireLongitude 1 none :: ([.classLink RX4 44 "java/lang/IllegalArgumentException", .initialized "java/lang/IllegalArgumentException"] ++ (vx_atS RX4 48 "java/lang/IllegalArgumentException" ["java/lang/RuntimeException", "java/lang/Exception"]).filter goodWord)
def wsX4_x_r1 : List Cond := [Cond.fieldLink RX4 10 "AtlasFolder" "map" "LAtlasFolder$MapTable;", Cond.methodLink RX4 62 yX4_requireLatitude, Cond.static yX4_requireLatitude, Cond.initialized RX4, Cond.code yX4_requireLatitude cX4_requireLatitude 1 none, Cond.classLink RX4 44 "java/lang/IllegalArgumentException", Cond.initialized "java/lang/IllegalArgumentException", Cond.methodLink RX4 66 yX4_requireLongitude, Cond.static yX4_requireLongitude, Cond.code yX4_requireLongitude cX4_requireLongitude 1 none, Cond.methodLink RX4 69 yX2_tenWidths, Cond.instanceMethod yX2_tenWidths, Cond.selects RX2 yX2_tenWidths yX2_tenWidths, Cond.initialized RX2, Cond.code yX2_tenWidths cX2_tenWidths 2 (some .int), Cond.fieldLink RX2 9 "AtlasFolder$MapTable" "widths" "[I", Cond.methodLink RX2 22 Lib.Math.abs.name, Cond.static Lib.Math.abs.name, Cond.initialized "java/lang/Math", Cond.code Lib.Math.abs.name Lib.Math.abs.code 1 (some .int), Cond.methodLink RX2 28 yX2_tenTimesAt, Cond.static yX2_tenTimesAt, Cond.code yX2_tenTimesAt cX2_tenTimesAt 4 (some .int), Cond.methodLink RX2 18 yX2_valueAt]
def wsX4_x_r2 : List Cond := [Cond.static yX2_valueAt, Cond.code yX2_valueAt cX2_valueAt 2 (some .int)]
def wsX4_x : List Cond := .code yX4_x cX4_x 3 (some .int) :: ((wsX4_x_r1 ++ wsX4_x_r2) ++ wsX40 ++ wsX20 ++ (vx_atS RX4 48 "java/lang/IllegalArgumentException" ["java/lang/RuntimeException", "java/lang/Exception"]).filter goodWord)
def wsX4_y : List Cond := .code yX4_y cX4_y 2 (some .int) :: ([.fieldLink RX4 10 "AtlasFolder" "map" "LAtlasFolder$MapTable;", .methodLink RX4 62 yX4_requireLatitude, .static yX4_requireLatitude, .initialized RX4, .code yX4_requireLatitude cX4_requireLatitude 1 none, .classLink RX4 44 "java/lang/IllegalArgumentException", .initialized "java/lang/IllegalArgumentException", .methodLink RX4 73 yX2_tenHeights, .instanceMethod yX2_tenHeights, .selects RX2 yX2_tenHeights yX2_tenHeights, .initialized RX2, .code yX2_tenHeights cX2_tenHeights 3 (some .int), .fieldLink RX2 15 "AtlasFolder$MapTable" "heights" "[I", .methodLink RX2 22 Lib.Math.abs.name, .static Lib.Math.abs.name, .initialized "java/lang/Math", .code Lib.Math.abs.name Lib.Math.abs.code 1 (some .int), .methodLink RX2 28 yX2_tenTimesAt, .static yX2_tenTimesAt, .code yX2_tenTimesAt cX2_tenTimesAt 4 (some .int), .methodLink RX2 18 yX2_valueAt, .static yX2_valueAt, .code yX2_valueAt cX2_valueAt 2 (some .int)] ++ wsX40 ++ wsX20 ++ (vx_atS RX4 48 "java/lang/IllegalArgumentException" ["java/lang/RuntimeException", "java/lang/Exception"]).filter goodWord)
def wsX4_latitudeAt_r1 : List Cond := [Cond.classLink RX4 44 "java/lang/IllegalArgumentException", Cond.initialized "java/lang/IllegalArgumentException", Cond.classLink RX4 53 "java/lang/IllegalStateException", Cond.initialized "java/lang/IllegalStateException", Cond.constant RX4 76 (-99990), Cond.constant RX4 77 (99990), Cond.fieldLink RX4 10 "AtlasFolder" "map" "LAtlasFolder$MapTable;", Cond.methodLink RX4 80 yX2_greatestNotAbove, Cond.instanceMethod yX2_greatestNotAbove, Cond.selects RX2 yX2_greatestNotAbove yX2_greatestNotAbove, Cond.initialized RX2, Cond.code yX2_greatestNotAbove cX2_greatestNotAbove 3 (some .int), Cond.methodLink RX2 31 yX2_tenHeights, Cond.instanceMethod yX2_tenHeights, Cond.selects RX2 yX2_tenHeights yX2_tenHeights, Cond.code yX2_tenHeights cX2_tenHeights 3 (some .int), Cond.fieldLink RX2 15 "AtlasFolder$MapTable" "heights" "[I", Cond.methodLink RX2 22 Lib.Math.abs.name, Cond.static Lib.Math.abs.name, Cond.initialized "java/lang/Math", Cond.code Lib.Math.abs.name Lib.Math.abs.code 1 (some .int), Cond.methodLink RX2 28 yX2_tenTimesAt, Cond.static yX2_tenTimesAt, Cond.code yX2_tenTimesAt cX2_tenTimesAt 4 (some .int)]
def wsX4_latitudeAt_r2 : List Cond := [Cond.methodLink RX2 18 yX2_valueAt, Cond.static yX2_valueAt, Cond.code yX2_valueAt cX2_valueAt 2 (some .int)]
def wsX4_latitudeAt : List Cond := .code yX4_latitudeAt cX4_latitudeAt 3 (some .int) :: ((wsX4_latitudeAt_r1 ++ wsX4_latitudeAt_r2) ++ wsX40 ++ wsX20 ++ (vx_atS RX4 48 "java/lang/IllegalArgumentException" ["java/lang/RuntimeException", "java/lang/Exception"]).filter goodWord ++ (vx_atS RX4 57 "java/lang/IllegalStateException" ["java/lang/RuntimeException", "java/lang/Exception"]).filter goodWord)
def wsX4_area_r1 : List Cond := [Cond.classLink RX4 44 "java/lang/IllegalArgumentException", Cond.initialized "java/lang/IllegalArgumentException", Cond.fieldLink RX4 10 "AtlasFolder" "map" "LAtlasFolder$MapTable;", Cond.methodLink RX4 89 yX2_fieldArea, Cond.instanceMethod yX2_fieldArea, Cond.selects RX2 yX2_fieldArea yX2_fieldArea, Cond.initialized RX2, Cond.code yX2_fieldArea cX2_fieldArea 7 (some .long), Cond.methodLink RX2 34 yX2_cellArea, Cond.instanceMethod yX2_cellArea, Cond.selects RX2 yX2_cellArea yX2_cellArea, Cond.code yX2_cellArea cX2_cellArea 4 (some .long), Cond.methodLink RX2 38 yX2_tenWidths, Cond.instanceMethod yX2_tenWidths, Cond.selects RX2 yX2_tenWidths yX2_tenWidths, Cond.code yX2_tenWidths cX2_tenWidths 2 (some .int), Cond.fieldLink RX2 9 "AtlasFolder$MapTable" "widths" "[I", Cond.methodLink RX2 22 Lib.Math.abs.name, Cond.static Lib.Math.abs.name, Cond.initialized "java/lang/Math", Cond.code Lib.Math.abs.name Lib.Math.abs.code 1 (some .int), Cond.methodLink RX2 28 yX2_tenTimesAt, Cond.static yX2_tenTimesAt, Cond.code yX2_tenTimesAt cX2_tenTimesAt 4 (some .int)]
def wsX4_area_r2 : List Cond := [Cond.methodLink RX2 18 yX2_valueAt, Cond.static yX2_valueAt, Cond.code yX2_valueAt cX2_valueAt 2 (some .int), Cond.methodLink RX2 31 yX2_tenHeights, Cond.instanceMethod yX2_tenHeights, Cond.selects RX2 yX2_tenHeights yX2_tenHeights, Cond.code yX2_tenHeights cX2_tenHeights 3 (some .int), Cond.fieldLink RX2 15 "AtlasFolder$MapTable" "heights" "[I"]
def wsX4_area : List Cond := .code yX4_area cX4_area 5 (some .long) :: ((wsX4_area_r1 ++ wsX4_area_r2) ++ wsX40 ++ wsX20 ++ (vx_atS RX4 48 "java/lang/IllegalArgumentException" ["java/lang/RuntimeException", "java/lang/Exception"]).filter goodWord)
def wsX4_areaByCells_r1 : List Cond := [Cond.methodLink RX4 93 yX4_area, Cond.instanceMethod yX4_area, Cond.selects RX4 yX4_area yX4_area, Cond.initialized RX4, Cond.code yX4_area cX4_area 5 (some .long), Cond.classLink RX4 44 "java/lang/IllegalArgumentException", Cond.initialized "java/lang/IllegalArgumentException", Cond.fieldLink RX4 10 "AtlasFolder" "map" "LAtlasFolder$MapTable;", Cond.methodLink RX4 89 yX2_fieldArea, Cond.instanceMethod yX2_fieldArea, Cond.selects RX2 yX2_fieldArea yX2_fieldArea, Cond.initialized RX2, Cond.code yX2_fieldArea cX2_fieldArea 7 (some .long), Cond.methodLink RX2 34 yX2_cellArea, Cond.instanceMethod yX2_cellArea, Cond.selects RX2 yX2_cellArea yX2_cellArea, Cond.code yX2_cellArea cX2_cellArea 4 (some .long), Cond.methodLink RX2 38 yX2_tenWidths, Cond.instanceMethod yX2_tenWidths, Cond.selects RX2 yX2_tenWidths yX2_tenWidths, Cond.code yX2_tenWidths cX2_tenWidths 2 (some .int), Cond.fieldLink RX2 9 "AtlasFolder$MapTable" "widths" "[I", Cond.methodLink RX2 22 Lib.Math.abs.name, Cond.static Lib.Math.abs.name]
def wsX4_areaByCells_r2 : List Cond := [Cond.initialized "java/lang/Math", Cond.code Lib.Math.abs.name Lib.Math.abs.code 1 (some .int), Cond.methodLink RX2 28 yX2_tenTimesAt, Cond.static yX2_tenTimesAt, Cond.code yX2_tenTimesAt cX2_tenTimesAt 4 (some .int), Cond.methodLink RX2 18 yX2_valueAt, Cond.static yX2_valueAt, Cond.code yX2_valueAt cX2_valueAt 2 (some .int), Cond.methodLink RX2 31 yX2_tenHeights, Cond.instanceMethod yX2_tenHeights, Cond.selects RX2 yX2_tenHeights yX2_tenHeights, Cond.code yX2_tenHeights cX2_tenHeights 3 (some .int), Cond.fieldLink RX2 15 "AtlasFolder$MapTable" "heights" "[I"]
def wsX4_areaByCells : List Cond := .code yX4_areaByCells cX4_areaByCells 5 (some .long) :: ((wsX4_areaByCells_r1 ++ wsX4_areaByCells_r2) ++ wsX40 ++ wsX20 ++ (vx_atS RX4 48 "java/lang/IllegalArgumentException" ["java/lang/RuntimeException", "java/lang/Exception"]).filter goodWord)
def wsX4_requireBand : List Cond := .code yX4_requireBand cX4_requireBand 1 none :: ([.classLink RX4 37 "java/lang/IndexOutOfBoundsException", .initialized "java/lang/IndexOutOfBoundsException"] ++ (vx_atS RX4 41 "java/lang/IndexOutOfBoundsException" ["java/lang/RuntimeException", "java/lang/Exception"]).filter goodWord)
def wsX4_truth : List Cond := .code yX4_truth cX4_truth 3 (some .int) :: ([.classLink RX4 44 "java/lang/IllegalArgumentException", .initialized "java/lang/IllegalArgumentException", .constant RX4 100 (99999), .fieldLink RX4 19 "AtlasFolder" "bands" "LAtlasFolder$BandTruths;", .methodLink RX4 97 yX4_requireBand, .static yX4_requireBand, .initialized RX4, .code yX4_requireBand cX4_requireBand 1 none, .classLink RX4 37 "java/lang/IndexOutOfBoundsException", .initialized "java/lang/IndexOutOfBoundsException", .methodLink RX4 103 yX0_replaceTruth, .instanceMethod yX0_replaceTruth, .selects RX0 yX0_replaceTruth yX0_replaceTruth, .initialized RX0, .code yX0_replaceTruth cX0_replaceTruth 4 (some .int), .fieldLink RX0 9 "AtlasFolder$BandTruths" "truths" "[I", .methodLink RX0 15 yX0_truthOf, .instanceMethod yX0_truthOf, .selects RX0 yX0_truthOf yX0_truthOf, .code yX0_truthOf cX0_truthOf 2 (some .int)] ++ wsX40 ++ wsX00 ++ (vx_atS RX4 48 "java/lang/IllegalArgumentException" ["java/lang/RuntimeException", "java/lang/Exception"]).filter goodWord ++ (vx_atS RX4 41 "java/lang/IndexOutOfBoundsException" ["java/lang/RuntimeException", "java/lang/Exception"]).filter goodWord)
def wsX4_keepsAreas_r1 : List Cond := [Cond.fieldLink RX4 19 "AtlasFolder" "bands" "LAtlasFolder$BandTruths;", Cond.fieldLink RX4 10 "AtlasFolder" "map" "LAtlasFolder$MapTable;", Cond.methodLink RX4 107 yX0_areAllAlike, Cond.instanceMethod yX0_areAllAlike, Cond.selects RX0 yX0_areAllAlike yX0_areAllAlike, Cond.initialized RX0, Cond.code yX0_areAllAlike cX0_areAllAlike 3 (some .boolean), Cond.methodLink RX0 19 yX0_compareBands, Cond.instanceMethod yX0_compareBands, Cond.selects RX0 yX0_compareBands yX0_compareBands, Cond.code yX0_compareBands cX0_compareBands 4 (some .int), Cond.methodLink RX0 23 yX2_bandArea, Cond.instanceMethod yX2_bandArea, Cond.selects RX2 yX2_bandArea yX2_bandArea, Cond.initialized RX2, Cond.code yX2_bandArea cX2_bandArea 6 (some .long), Cond.fieldLink RX2 9 "AtlasFolder$MapTable" "widths" "[I", Cond.fieldLink RX2 15 "AtlasFolder$MapTable" "heights" "[I", Cond.constantLong RX2 41 (36000), Cond.methodLink RX2 18 yX2_valueAt, Cond.static yX2_valueAt, Cond.code yX2_valueAt cX2_valueAt 2 (some .int), Cond.methodLink RX0 15 yX0_truthOf, Cond.instanceMethod yX0_truthOf]
def wsX4_keepsAreas_r2 : List Cond := [Cond.selects RX0 yX0_truthOf yX0_truthOf, Cond.code yX0_truthOf cX0_truthOf 2 (some .int), Cond.fieldLink RX0 9 "AtlasFolder$BandTruths" "truths" "[I", Cond.methodLink RX0 29 yJ13_compare_74951, Cond.static yJ13_compare_74951, Cond.initialized RJ13, Cond.code yJ13_compare_74951 cJ13_compare_74951 4 (some .int)]
def wsX4_keepsAreas : List Cond := .code yX4_keepsAreas cX4_keepsAreas 1 (some .boolean) :: ((wsX4_keepsAreas_r1 ++ wsX4_keepsAreas_r2) ++ wsX40 ++ wsX20 ++ wsX00)
def wsX4_widest_r1 : List Cond := [Cond.fieldLink RX4 19 "AtlasFolder" "bands" "LAtlasFolder$BandTruths;", Cond.fieldLink RX4 10 "AtlasFolder" "map" "LAtlasFolder$MapTable;", Cond.methodLink RX4 111 yX0_greatest, Cond.instanceMethod yX0_greatest, Cond.selects RX0 yX0_greatest yX0_greatest, Cond.initialized RX0, Cond.code yX0_greatest cX0_greatest 4 (some .int), Cond.methodLink RX0 19 yX0_compareBands, Cond.instanceMethod yX0_compareBands, Cond.selects RX0 yX0_compareBands yX0_compareBands, Cond.code yX0_compareBands cX0_compareBands 4 (some .int), Cond.methodLink RX0 23 yX2_bandArea, Cond.instanceMethod yX2_bandArea, Cond.selects RX2 yX2_bandArea yX2_bandArea, Cond.initialized RX2, Cond.code yX2_bandArea cX2_bandArea 6 (some .long), Cond.fieldLink RX2 9 "AtlasFolder$MapTable" "widths" "[I", Cond.fieldLink RX2 15 "AtlasFolder$MapTable" "heights" "[I", Cond.constantLong RX2 41 (36000), Cond.methodLink RX2 18 yX2_valueAt, Cond.static yX2_valueAt, Cond.code yX2_valueAt cX2_valueAt 2 (some .int), Cond.methodLink RX0 15 yX0_truthOf, Cond.instanceMethod yX0_truthOf]
def wsX4_widest_r2 : List Cond := [Cond.selects RX0 yX0_truthOf yX0_truthOf, Cond.code yX0_truthOf cX0_truthOf 2 (some .int), Cond.fieldLink RX0 9 "AtlasFolder$BandTruths" "truths" "[I", Cond.methodLink RX0 29 yJ13_compare_74951, Cond.static yJ13_compare_74951, Cond.initialized RJ13, Cond.code yJ13_compare_74951 cJ13_compare_74951 4 (some .int)]
def wsX4_widest : List Cond := .code yX4_widest cX4_widest 1 (some .int) :: ((wsX4_widest_r1 ++ wsX4_widest_r2) ++ wsX40 ++ wsX20 ++ wsX00)
def wsX4_stretch_r1 : List Cond := [Cond.fieldLink RX4 19 "AtlasFolder" "bands" "LAtlasFolder$BandTruths;", Cond.fieldLink RX4 10 "AtlasFolder" "map" "LAtlasFolder$MapTable;", Cond.methodLink RX4 97 yX4_requireBand, Cond.static yX4_requireBand, Cond.initialized RX4, Cond.code yX4_requireBand cX4_requireBand 1 none, Cond.classLink RX4 37 "java/lang/IndexOutOfBoundsException", Cond.initialized "java/lang/IndexOutOfBoundsException", Cond.methodLink RX4 115 yX0_areaByTruth, Cond.instanceMethod yX0_areaByTruth, Cond.selects RX0 yX0_areaByTruth yX0_areaByTruth, Cond.initialized RX0, Cond.code yX0_areaByTruth cX0_areaByTruth 3 (some .float), Cond.methodLink RX0 23 yX2_bandArea, Cond.instanceMethod yX2_bandArea, Cond.selects RX2 yX2_bandArea yX2_bandArea, Cond.initialized RX2, Cond.code yX2_bandArea cX2_bandArea 6 (some .long), Cond.fieldLink RX2 9 "AtlasFolder$MapTable" "widths" "[I", Cond.fieldLink RX2 15 "AtlasFolder$MapTable" "heights" "[I", Cond.constantLong RX2 41 (36000), Cond.methodLink RX2 18 yX2_valueAt, Cond.static yX2_valueAt, Cond.code yX2_valueAt cX2_valueAt 2 (some .int)]
def wsX4_stretch_r2 : List Cond := [Cond.methodLink RX0 15 yX0_truthOf, Cond.instanceMethod yX0_truthOf, Cond.selects RX0 yX0_truthOf yX0_truthOf, Cond.code yX0_truthOf cX0_truthOf 2 (some .int), Cond.fieldLink RX0 9 "AtlasFolder$BandTruths" "truths" "[I"]
def wsX4_stretch : List Cond := .code yX4_stretch cX4_stretch 2 (some .float) :: ((wsX4_stretch_r1 ++ wsX4_stretch_r2) ++ wsX40 ++ wsX20 ++ wsX00 ++ (vx_atS RX4 41 "java/lang/IndexOutOfBoundsException" ["java/lang/RuntimeException", "java/lang/Exception"]).filter goodWord)
def wsX4_degreesEast : List Cond := .code yX4_degreesEast cX4_degreesEast 3 (some .int) :: ([])
def wsX4_shorterWay : List Cond := .code yX4_shorterWay cX4_shorterWay 3 (some .int) :: ([.methodLink RX4 198 Lib.Math.min.name, .static Lib.Math.min.name, .initialized "java/lang/Math", .code Lib.Math.min.name Lib.Math.min.code 2 (some .int), .methodLink RX4 195 yX4_degreesEast, .static yX4_degreesEast, .initialized RX4, .code yX4_degreesEast cX4_degreesEast 3 (some .int)])
def wsX4_apart : List Cond := .code yX4_apart cX4_apart 3 (some .int) :: ([.methodLink RX4 66 yX4_requireLongitude, .static yX4_requireLongitude, .initialized RX4, .code yX4_requireLongitude cX4_requireLongitude 1 none, .classLink RX4 44 "java/lang/IllegalArgumentException", .initialized "java/lang/IllegalArgumentException", .methodLink RX4 119 yX4_shorterWay, .static yX4_shorterWay, .code yX4_shorterWay cX4_shorterWay 3 (some .int), .methodLink RX4 198 Lib.Math.min.name, .static Lib.Math.min.name, .initialized "java/lang/Math", .code Lib.Math.min.name Lib.Math.min.code 2 (some .int), .methodLink RX4 195 yX4_degreesEast, .static yX4_degreesEast, .code yX4_degreesEast cX4_degreesEast 3 (some .int)] ++ (vx_atS RX4 48 "java/lang/IllegalArgumentException" ["java/lang/RuntimeException", "java/lang/Exception"]).filter goodWord)
def wsX4_ringWay_r1 : List Cond := [Cond.fieldLink RX4 10 "AtlasFolder" "map" "LAtlasFolder$MapTable;", Cond.methodLink RX4 62 yX4_requireLatitude, Cond.static yX4_requireLatitude, Cond.initialized RX4, Cond.code yX4_requireLatitude cX4_requireLatitude 1 none, Cond.classLink RX4 44 "java/lang/IllegalArgumentException", Cond.initialized "java/lang/IllegalArgumentException", Cond.methodLink RX4 66 yX4_requireLongitude, Cond.static yX4_requireLongitude, Cond.code yX4_requireLongitude cX4_requireLongitude 1 none, Cond.methodLink RX4 119 yX4_shorterWay, Cond.static yX4_shorterWay, Cond.code yX4_shorterWay cX4_shorterWay 3 (some .int), Cond.methodLink RX4 198 Lib.Math.min.name, Cond.static Lib.Math.min.name, Cond.initialized "java/lang/Math", Cond.code Lib.Math.min.name Lib.Math.min.code 2 (some .int), Cond.methodLink RX4 195 yX4_degreesEast, Cond.static yX4_degreesEast, Cond.code yX4_degreesEast cX4_degreesEast 3 (some .int), Cond.methodLink RX4 69 yX2_tenWidths, Cond.instanceMethod yX2_tenWidths, Cond.selects RX2 yX2_tenWidths yX2_tenWidths, Cond.initialized RX2]
def wsX4_ringWay_r2 : List Cond := [Cond.code yX2_tenWidths cX2_tenWidths 2 (some .int), Cond.fieldLink RX2 9 "AtlasFolder$MapTable" "widths" "[I", Cond.methodLink RX2 22 Lib.Math.abs.name, Cond.static Lib.Math.abs.name, Cond.code Lib.Math.abs.name Lib.Math.abs.code 1 (some .int), Cond.methodLink RX2 28 yX2_tenTimesAt, Cond.static yX2_tenTimesAt, Cond.code yX2_tenTimesAt cX2_tenTimesAt 4 (some .int), Cond.methodLink RX2 18 yX2_valueAt, Cond.static yX2_valueAt, Cond.code yX2_valueAt cX2_valueAt 2 (some .int)]
def wsX4_ringWay : List Cond := .code yX4_ringWay cX4_ringWay 4 (some .int) :: ((wsX4_ringWay_r1 ++ wsX4_ringWay_r2) ++ wsX40 ++ wsX20 ++ (vx_atS RX4 48 "java/lang/IllegalArgumentException" ["java/lang/RuntimeException", "java/lang/Exception"]).filter goodWord)
def wsX4_zones : List Cond := .code yX4_zones cX4_zones 2 (some .int) :: ([.classLink RX4 44 "java/lang/IllegalArgumentException", .initialized "java/lang/IllegalArgumentException", .fieldLink RX4 26 "AtlasFolder" "ring" "LAtlasFolder$ZoneRing;", .methodLink RX4 124 yX3_replaceBreadth, .instanceMethod yX3_replaceBreadth, .selects RX3 yX3_replaceBreadth yX3_replaceBreadth, .initialized RX3, .code yX3_replaceBreadth cX3_replaceBreadth 3 (some .int), .fieldLink RX3 9 "AtlasFolder$ZoneRing" "breadth" "I"] ++ wsX40 ++ wsX30 ++ (vx_atS RX4 48 "java/lang/IllegalArgumentException" ["java/lang/RuntimeException", "java/lang/Exception"]).filter goodWord)
def wsX4_zone : List Cond := .code yX4_zone cX4_zone 2 (some .int) :: ([.fieldLink RX4 26 "AtlasFolder" "ring" "LAtlasFolder$ZoneRing;", .methodLink RX4 66 yX4_requireLongitude, .static yX4_requireLongitude, .initialized RX4, .code yX4_requireLongitude cX4_requireLongitude 1 none, .classLink RX4 44 "java/lang/IllegalArgumentException", .initialized "java/lang/IllegalArgumentException", .methodLink RX4 127 yX3_zonesBefore, .instanceMethod yX3_zonesBefore, .selects RX3 yX3_zonesBefore yX3_zonesBefore, .initialized RX3, .code yX3_zonesBefore cX3_zonesBefore 2 (some .int), .fieldLink RX3 9 "AtlasFolder$ZoneRing" "breadth" "I"] ++ wsX40 ++ wsX30 ++ (vx_atS RX4 48 "java/lang/IllegalArgumentException" ["java/lang/RuntimeException", "java/lang/Exception"]).filter goodWord)
def wsX4_goesEast : List Cond := .code yX4_goesEast cX4_goesEast 2 (some .boolean) :: ([.methodLink RX4 195 yX4_degreesEast, .static yX4_degreesEast, .initialized RX4, .code yX4_degreesEast cX4_degreesEast 3 (some .int)])
def wsX4_seams_r1 : List Cond := [Cond.fieldLink RX4 26 "AtlasFolder" "ring" "LAtlasFolder$ZoneRing;", Cond.methodLink RX4 66 yX4_requireLongitude, Cond.static yX4_requireLongitude, Cond.initialized RX4, Cond.code yX4_requireLongitude cX4_requireLongitude 1 none, Cond.classLink RX4 44 "java/lang/IllegalArgumentException", Cond.initialized "java/lang/IllegalArgumentException", Cond.methodLink RX4 130 yX4_goesEast, Cond.static yX4_goesEast, Cond.code yX4_goesEast cX4_goesEast 2 (some .boolean), Cond.methodLink RX4 195 yX4_degreesEast, Cond.static yX4_degreesEast, Cond.code yX4_degreesEast cX4_degreesEast 3 (some .int), Cond.methodLink RX4 119 yX4_shorterWay, Cond.static yX4_shorterWay, Cond.code yX4_shorterWay cX4_shorterWay 3 (some .int), Cond.methodLink RX4 198 Lib.Math.min.name, Cond.static Lib.Math.min.name, Cond.initialized "java/lang/Math", Cond.code Lib.Math.min.name Lib.Math.min.code 2 (some .int), Cond.methodLink RX4 133 yX3_seamsEastOf, Cond.instanceMethod yX3_seamsEastOf, Cond.selects RX3 yX3_seamsEastOf yX3_seamsEastOf, Cond.initialized RX3]
def wsX4_seams_r2 : List Cond := [Cond.code yX3_seamsEastOf cX3_seamsEastOf 3 (some .int), Cond.methodLink RX3 15 yX3_zonesBefore, Cond.instanceMethod yX3_zonesBefore, Cond.selects RX3 yX3_zonesBefore yX3_zonesBefore, Cond.code yX3_zonesBefore cX3_zonesBefore 2 (some .int), Cond.fieldLink RX3 9 "AtlasFolder$ZoneRing" "breadth" "I"]
def wsX4_seams : List Cond := .code yX4_seams cX4_seams 4 (some .int) :: ((wsX4_seams_r1 ++ wsX4_seams_r2) ++ wsX40 ++ wsX30 ++ (vx_atS RX4 48 "java/lang/IllegalArgumentException" ["java/lang/RuntimeException", "java/lang/Exception"]).filter goodWord)
def wsX4_dateLine : List Cond := .code yX4_dateLine cX4_dateLine 3 (some .int) :: ([.methodLink RX4 66 yX4_requireLongitude, .static yX4_requireLongitude, .initialized RX4, .code yX4_requireLongitude cX4_requireLongitude 1 none, .classLink RX4 44 "java/lang/IllegalArgumentException", .initialized "java/lang/IllegalArgumentException", .methodLink RX4 130 yX4_goesEast, .static yX4_goesEast, .code yX4_goesEast cX4_goesEast 2 (some .boolean), .methodLink RX4 195 yX4_degreesEast, .static yX4_degreesEast, .code yX4_degreesEast cX4_degreesEast 3 (some .int)] ++ (vx_atS RX4 48 "java/lang/IllegalArgumentException" ["java/lang/RuntimeException", "java/lang/Exception"]).filter goodWord)
def wsX4_sheet : List Cond := .code yX4_sheet cX4_sheet 3 none :: ([.classLink RX4 44 "java/lang/IllegalArgumentException", .initialized "java/lang/IllegalArgumentException", .fieldLink RX4 33 "AtlasFolder" "stack" "LAtlasFolder$FoldedSheet;", .methodLink RX4 138 yX1_layOut, .instanceMethod yX1_layOut, .selects RX1 yX1_layOut yX1_layOut, .initialized RX1, .code yX1_layOut cX1_layOut 3 none, .fieldLink RX1 29 "AtlasFolder$FoldedSheet" "columns" "I", .fieldLink RX1 33 "AtlasFolder$FoldedSheet" "rows" "I", .methodLink RX1 36 yX1_spread, .instanceMethod yX1_spread, .selects RX1 yX1_spread yX1_spread, .code yX1_spread cX1_spread 4 (some .int), .fieldLink RX1 9 "AtlasFolder$FoldedSheet" "columnPlaces" "[I", .fieldLink RX1 15 "AtlasFolder$FoldedSheet" "rowPlaces" "[I", .fieldLink RX1 18 "AtlasFolder$FoldedSheet" "layers" "[I", .fieldLink RX1 21 "AtlasFolder$FoldedSheet" "faceUp" "[Z", .fieldLink RX1 44 "AtlasFolder$FoldedSheet" "folds" "I", .methodLink RX1 40 yX1_number, .instanceMethod yX1_number, .selects RX1 yX1_number yX1_number, .code yX1_number cX1_number 3 (some .int)] ++ wsX40 ++ wsX10 ++ (vx_atS RX4 48 "java/lang/IllegalArgumentException" ["java/lang/RuntimeException", "java/lang/Exception"]).filter goodWord)
def wsX4_someTurned : List Cond := .code yX4_someTurned cX4_someTurned 1 (some .int) :: ([.classLink RX4 53 "java/lang/IllegalStateException", .initialized "java/lang/IllegalStateException"] ++ (vx_atS RX4 57 "java/lang/IllegalStateException" ["java/lang/RuntimeException", "java/lang/Exception"]).filter goodWord)
def wsX4_foldColumns_r1 : List Cond := [Cond.fieldLink RX4 33 "AtlasFolder" "stack" "LAtlasFolder$FoldedSheet;", Cond.methodLink RX4 142 yX1_turnOverColumns, Cond.instanceMethod yX1_turnOverColumns, Cond.selects RX1 yX1_turnOverColumns yX1_turnOverColumns, Cond.initialized RX1, Cond.code yX1_turnOverColumns cX1_turnOverColumns 2 (some .int), Cond.fieldLink RX1 9 "AtlasFolder$FoldedSheet" "columnPlaces" "[I", Cond.methodLink RX1 60 yX1_turnOver, Cond.instanceMethod yX1_turnOver, Cond.selects RX1 yX1_turnOver yX1_turnOver, Cond.code yX1_turnOver cX1_turnOver 6 (some .int), Cond.fieldLink RX1 18 "AtlasFolder$FoldedSheet" "layers" "[I", Cond.fieldLink RX1 21 "AtlasFolder$FoldedSheet" "faceUp" "[Z", Cond.fieldLink RX1 44 "AtlasFolder$FoldedSheet" "folds" "I", Cond.methodLink RX1 70 yX1_placesBelow, Cond.instanceMethod yX1_placesBelow, Cond.selects RX1 yX1_placesBelow yX1_placesBelow, Cond.code yX1_placesBelow cX1_placesBelow 5 (some .int), Cond.methodLink RX1 64 yX1_panels, Cond.instanceMethod yX1_panels, Cond.selects RX1 yX1_panels yX1_panels, Cond.code yX1_panels cX1_panels 1 (some .int), Cond.fieldLink RX1 29 "AtlasFolder$FoldedSheet" "columns" "I", Cond.fieldLink RX1 33 "AtlasFolder$FoldedSheet" "rows" "I"]
def wsX4_foldColumns_r2 : List Cond := [Cond.methodLink RX1 73 yX1_highestLayer, Cond.instanceMethod yX1_highestLayer, Cond.selects RX1 yX1_highestLayer yX1_highestLayer, Cond.code yX1_highestLayer cX1_highestLayer 3 (some .int), Cond.methodLink RX1 67 Lib.Math.max.name, Cond.static Lib.Math.max.name, Cond.initialized "java/lang/Math", Cond.code Lib.Math.max.name Lib.Math.max.code 2 (some .int), Cond.methodLink RX4 145 yX4_someTurned, Cond.static yX4_someTurned, Cond.initialized RX4, Cond.code yX4_someTurned cX4_someTurned 1 (some .int), Cond.classLink RX4 53 "java/lang/IllegalStateException", Cond.initialized "java/lang/IllegalStateException"]
def wsX4_foldColumns : List Cond := .code yX4_foldColumns cX4_foldColumns 2 (some .int) :: ((wsX4_foldColumns_r1 ++ wsX4_foldColumns_r2) ++ wsX40 ++ wsX10 ++ (vx_atS RX4 57 "java/lang/IllegalStateException" ["java/lang/RuntimeException", "java/lang/Exception"]).filter goodWord)
def wsX4_foldRows_r1 : List Cond := [Cond.fieldLink RX4 33 "AtlasFolder" "stack" "LAtlasFolder$FoldedSheet;", Cond.methodLink RX4 148 yX1_turnOverRows, Cond.instanceMethod yX1_turnOverRows, Cond.selects RX1 yX1_turnOverRows yX1_turnOverRows, Cond.initialized RX1, Cond.code yX1_turnOverRows cX1_turnOverRows 2 (some .int), Cond.fieldLink RX1 15 "AtlasFolder$FoldedSheet" "rowPlaces" "[I", Cond.methodLink RX1 60 yX1_turnOver, Cond.instanceMethod yX1_turnOver, Cond.selects RX1 yX1_turnOver yX1_turnOver, Cond.code yX1_turnOver cX1_turnOver 6 (some .int), Cond.fieldLink RX1 18 "AtlasFolder$FoldedSheet" "layers" "[I", Cond.fieldLink RX1 21 "AtlasFolder$FoldedSheet" "faceUp" "[Z", Cond.fieldLink RX1 44 "AtlasFolder$FoldedSheet" "folds" "I", Cond.methodLink RX1 70 yX1_placesBelow, Cond.instanceMethod yX1_placesBelow, Cond.selects RX1 yX1_placesBelow yX1_placesBelow, Cond.code yX1_placesBelow cX1_placesBelow 5 (some .int), Cond.methodLink RX1 64 yX1_panels, Cond.instanceMethod yX1_panels, Cond.selects RX1 yX1_panels yX1_panels, Cond.code yX1_panels cX1_panels 1 (some .int), Cond.fieldLink RX1 29 "AtlasFolder$FoldedSheet" "columns" "I", Cond.fieldLink RX1 33 "AtlasFolder$FoldedSheet" "rows" "I"]
def wsX4_foldRows_r2 : List Cond := [Cond.methodLink RX1 73 yX1_highestLayer, Cond.instanceMethod yX1_highestLayer, Cond.selects RX1 yX1_highestLayer yX1_highestLayer, Cond.code yX1_highestLayer cX1_highestLayer 3 (some .int), Cond.methodLink RX1 67 Lib.Math.max.name, Cond.static Lib.Math.max.name, Cond.initialized "java/lang/Math", Cond.code Lib.Math.max.name Lib.Math.max.code 2 (some .int), Cond.methodLink RX4 145 yX4_someTurned, Cond.static yX4_someTurned, Cond.initialized RX4, Cond.code yX4_someTurned cX4_someTurned 1 (some .int), Cond.classLink RX4 53 "java/lang/IllegalStateException", Cond.initialized "java/lang/IllegalStateException"]
def wsX4_foldRows : List Cond := .code yX4_foldRows cX4_foldRows 2 (some .int) :: ((wsX4_foldRows_r1 ++ wsX4_foldRows_r2) ++ wsX40 ++ wsX10 ++ (vx_atS RX4 57 "java/lang/IllegalStateException" ["java/lang/RuntimeException", "java/lang/Exception"]).filter goodWord)
def wsX4_unfold : List Cond := .code yX4_unfold cX4_unfold 1 (some .int) :: ([.fieldLink RX4 33 "AtlasFolder" "stack" "LAtlasFolder$FoldedSheet;", .methodLink RX4 151 yX1_spread, .instanceMethod yX1_spread, .selects RX1 yX1_spread yX1_spread, .initialized RX1, .code yX1_spread cX1_spread 4 (some .int), .fieldLink RX1 29 "AtlasFolder$FoldedSheet" "columns" "I", .fieldLink RX1 33 "AtlasFolder$FoldedSheet" "rows" "I", .fieldLink RX1 9 "AtlasFolder$FoldedSheet" "columnPlaces" "[I", .fieldLink RX1 15 "AtlasFolder$FoldedSheet" "rowPlaces" "[I", .fieldLink RX1 18 "AtlasFolder$FoldedSheet" "layers" "[I", .fieldLink RX1 21 "AtlasFolder$FoldedSheet" "faceUp" "[Z", .fieldLink RX1 44 "AtlasFolder$FoldedSheet" "folds" "I", .methodLink RX1 40 yX1_number, .instanceMethod yX1_number, .selects RX1 yX1_number yX1_number, .code yX1_number cX1_number 3 (some .int)] ++ wsX40 ++ wsX10)
def wsX4_panel_r1 : List Cond := [Cond.fieldLink RX4 33 "AtlasFolder" "stack" "LAtlasFolder$FoldedSheet;", Cond.methodLink RX4 62 yX4_requireLatitude, Cond.static yX4_requireLatitude, Cond.initialized RX4, Cond.code yX4_requireLatitude cX4_requireLatitude 1 none, Cond.classLink RX4 44 "java/lang/IllegalArgumentException", Cond.initialized "java/lang/IllegalArgumentException", Cond.methodLink RX4 66 yX4_requireLongitude, Cond.static yX4_requireLongitude, Cond.code yX4_requireLongitude cX4_requireLongitude 1 none, Cond.methodLink RX4 155 yX1_columnOf, Cond.instanceMethod yX1_columnOf, Cond.selects RX1 yX1_columnOf yX1_columnOf, Cond.initialized RX1, Cond.code yX1_columnOf cX1_columnOf 2 (some .int), Cond.fieldLink RX1 29 "AtlasFolder$FoldedSheet" "columns" "I", Cond.methodLink RX4 158 yX1_rowOf, Cond.instanceMethod yX1_rowOf, Cond.selects RX1 yX1_rowOf yX1_rowOf, Cond.code yX1_rowOf cX1_rowOf 2 (some .int), Cond.fieldLink RX1 33 "AtlasFolder$FoldedSheet" "rows" "I", Cond.methodLink RX1 47 Lib.Math.min.name, Cond.static Lib.Math.min.name, Cond.initialized "java/lang/Math"]
def wsX4_panel_r2 : List Cond := [Cond.code Lib.Math.min.name Lib.Math.min.code 2 (some .int)]
def wsX4_panel : List Cond := .code yX4_panel cX4_panel 3 (some .int) :: ((wsX4_panel_r1 ++ wsX4_panel_r2) ++ wsX40 ++ wsX10 ++ (vx_atS RX4 48 "java/lang/IllegalArgumentException" ["java/lang/RuntimeException", "java/lang/Exception"]).filter goodWord)
def wsX4_requirePanel : List Cond := .code yX4_requirePanel cX4_requirePanel 3 none :: ([.classLink RX4 37 "java/lang/IndexOutOfBoundsException", .initialized "java/lang/IndexOutOfBoundsException", .fieldLink RX4 33 "AtlasFolder" "stack" "LAtlasFolder$FoldedSheet;", .methodLink RX4 188 yX1_hasPanel, .instanceMethod yX1_hasPanel, .selects RX1 yX1_hasPanel yX1_hasPanel, .initialized RX1, .code yX1_hasPanel cX1_hasPanel 3 (some .boolean), .fieldLink RX1 29 "AtlasFolder$FoldedSheet" "columns" "I", .fieldLink RX1 33 "AtlasFolder$FoldedSheet" "rows" "I"] ++ wsX40 ++ wsX10 ++ (vx_atS RX4 41 "java/lang/IndexOutOfBoundsException" ["java/lang/RuntimeException", "java/lang/Exception"]).filter goodWord)
def wsX4_placeX_r1 : List Cond := [Cond.fieldLink RX4 33 "AtlasFolder" "stack" "LAtlasFolder$FoldedSheet;", Cond.methodLink RX4 161 yX4_requirePanel, Cond.instanceMethod yX4_requirePanel, Cond.selects RX4 yX4_requirePanel yX4_requirePanel, Cond.initialized RX4, Cond.code yX4_requirePanel cX4_requirePanel 3 none, Cond.classLink RX4 37 "java/lang/IndexOutOfBoundsException", Cond.initialized "java/lang/IndexOutOfBoundsException", Cond.methodLink RX4 188 yX1_hasPanel, Cond.instanceMethod yX1_hasPanel, Cond.selects RX1 yX1_hasPanel yX1_hasPanel, Cond.initialized RX1, Cond.code yX1_hasPanel cX1_hasPanel 3 (some .boolean), Cond.fieldLink RX1 29 "AtlasFolder$FoldedSheet" "columns" "I", Cond.fieldLink RX1 33 "AtlasFolder$FoldedSheet" "rows" "I", Cond.methodLink RX4 164 yX1_columnPlace, Cond.instanceMethod yX1_columnPlace, Cond.selects RX1 yX1_columnPlace yX1_columnPlace, Cond.code yX1_columnPlace cX1_columnPlace 3 (some .int), Cond.fieldLink RX1 9 "AtlasFolder$FoldedSheet" "columnPlaces" "[I", Cond.methodLink RX1 52 yX1_hasPanel, Cond.methodLink RX1 40 yX1_number, Cond.instanceMethod yX1_number, Cond.selects RX1 yX1_number yX1_number]
def wsX4_placeX_r2 : List Cond := [Cond.code yX1_number cX1_number 3 (some .int)]
def wsX4_placeX : List Cond := .code yX4_placeX cX4_placeX 3 (some .int) :: ((wsX4_placeX_r1 ++ wsX4_placeX_r2) ++ wsX40 ++ wsX10 ++ (vx_atS RX4 41 "java/lang/IndexOutOfBoundsException" ["java/lang/RuntimeException", "java/lang/Exception"]).filter goodWord)
def wsX4_placeY_r1 : List Cond := [Cond.fieldLink RX4 33 "AtlasFolder" "stack" "LAtlasFolder$FoldedSheet;", Cond.methodLink RX4 161 yX4_requirePanel, Cond.instanceMethod yX4_requirePanel, Cond.selects RX4 yX4_requirePanel yX4_requirePanel, Cond.initialized RX4, Cond.code yX4_requirePanel cX4_requirePanel 3 none, Cond.classLink RX4 37 "java/lang/IndexOutOfBoundsException", Cond.initialized "java/lang/IndexOutOfBoundsException", Cond.methodLink RX4 188 yX1_hasPanel, Cond.instanceMethod yX1_hasPanel, Cond.selects RX1 yX1_hasPanel yX1_hasPanel, Cond.initialized RX1, Cond.code yX1_hasPanel cX1_hasPanel 3 (some .boolean), Cond.fieldLink RX1 29 "AtlasFolder$FoldedSheet" "columns" "I", Cond.fieldLink RX1 33 "AtlasFolder$FoldedSheet" "rows" "I", Cond.methodLink RX4 167 yX1_rowPlace, Cond.instanceMethod yX1_rowPlace, Cond.selects RX1 yX1_rowPlace yX1_rowPlace, Cond.code yX1_rowPlace cX1_rowPlace 3 (some .int), Cond.fieldLink RX1 15 "AtlasFolder$FoldedSheet" "rowPlaces" "[I", Cond.methodLink RX1 52 yX1_hasPanel, Cond.methodLink RX1 40 yX1_number, Cond.instanceMethod yX1_number, Cond.selects RX1 yX1_number yX1_number]
def wsX4_placeY_r2 : List Cond := [Cond.code yX1_number cX1_number 3 (some .int)]
def wsX4_placeY : List Cond := .code yX4_placeY cX4_placeY 3 (some .int) :: ((wsX4_placeY_r1 ++ wsX4_placeY_r2) ++ wsX40 ++ wsX10 ++ (vx_atS RX4 41 "java/lang/IndexOutOfBoundsException" ["java/lang/RuntimeException", "java/lang/Exception"]).filter goodWord)
def wsX4_above_r1 : List Cond := [Cond.fieldLink RX4 33 "AtlasFolder" "stack" "LAtlasFolder$FoldedSheet;", Cond.methodLink RX4 161 yX4_requirePanel, Cond.instanceMethod yX4_requirePanel, Cond.selects RX4 yX4_requirePanel yX4_requirePanel, Cond.initialized RX4, Cond.code yX4_requirePanel cX4_requirePanel 3 none, Cond.classLink RX4 37 "java/lang/IndexOutOfBoundsException", Cond.initialized "java/lang/IndexOutOfBoundsException", Cond.methodLink RX4 188 yX1_hasPanel, Cond.instanceMethod yX1_hasPanel, Cond.selects RX1 yX1_hasPanel yX1_hasPanel, Cond.initialized RX1, Cond.code yX1_hasPanel cX1_hasPanel 3 (some .boolean), Cond.fieldLink RX1 29 "AtlasFolder$FoldedSheet" "columns" "I", Cond.fieldLink RX1 33 "AtlasFolder$FoldedSheet" "rows" "I", Cond.methodLink RX4 170 yX1_panelsAbove, Cond.instanceMethod yX1_panelsAbove, Cond.selects RX1 yX1_panelsAbove yX1_panelsAbove, Cond.code yX1_panelsAbove cX1_panelsAbove 3 (some .int), Cond.methodLink RX1 52 yX1_hasPanel, Cond.methodLink RX1 40 yX1_number, Cond.instanceMethod yX1_number, Cond.selects RX1 yX1_number yX1_number, Cond.code yX1_number cX1_number 3 (some .int)]
def wsX4_above_r2 : List Cond := [Cond.methodLink RX1 56 yX1_higherThan, Cond.instanceMethod yX1_higherThan, Cond.selects RX1 yX1_higherThan yX1_higherThan, Cond.code yX1_higherThan cX1_higherThan 4 (some .int), Cond.fieldLink RX1 9 "AtlasFolder$FoldedSheet" "columnPlaces" "[I", Cond.fieldLink RX1 15 "AtlasFolder$FoldedSheet" "rowPlaces" "[I", Cond.fieldLink RX1 18 "AtlasFolder$FoldedSheet" "layers" "[I", Cond.methodLink RX1 64 yX1_panels, Cond.instanceMethod yX1_panels, Cond.selects RX1 yX1_panels yX1_panels, Cond.code yX1_panels cX1_panels 1 (some .int)]
def wsX4_above : List Cond := .code yX4_above cX4_above 3 (some .int) :: ((wsX4_above_r1 ++ wsX4_above_r2) ++ wsX40 ++ wsX10 ++ (vx_atS RX4 41 "java/lang/IndexOutOfBoundsException" ["java/lang/RuntimeException", "java/lang/Exception"]).filter goodWord)
def wsX4_isUp_r1 : List Cond := [Cond.fieldLink RX4 33 "AtlasFolder" "stack" "LAtlasFolder$FoldedSheet;", Cond.methodLink RX4 161 yX4_requirePanel, Cond.instanceMethod yX4_requirePanel, Cond.selects RX4 yX4_requirePanel yX4_requirePanel, Cond.initialized RX4, Cond.code yX4_requirePanel cX4_requirePanel 3 none, Cond.classLink RX4 37 "java/lang/IndexOutOfBoundsException", Cond.initialized "java/lang/IndexOutOfBoundsException", Cond.methodLink RX4 188 yX1_hasPanel, Cond.instanceMethod yX1_hasPanel, Cond.selects RX1 yX1_hasPanel yX1_hasPanel, Cond.initialized RX1, Cond.code yX1_hasPanel cX1_hasPanel 3 (some .boolean), Cond.fieldLink RX1 29 "AtlasFolder$FoldedSheet" "columns" "I", Cond.fieldLink RX1 33 "AtlasFolder$FoldedSheet" "rows" "I", Cond.methodLink RX4 173 yX1_liesFaceUp, Cond.instanceMethod yX1_liesFaceUp, Cond.selects RX1 yX1_liesFaceUp yX1_liesFaceUp, Cond.code yX1_liesFaceUp cX1_liesFaceUp 3 (some .boolean), Cond.fieldLink RX1 21 "AtlasFolder$FoldedSheet" "faceUp" "[Z", Cond.methodLink RX1 52 yX1_hasPanel, Cond.methodLink RX1 40 yX1_number, Cond.instanceMethod yX1_number, Cond.selects RX1 yX1_number yX1_number]
def wsX4_isUp_r2 : List Cond := [Cond.code yX1_number cX1_number 3 (some .int)]
def wsX4_isUp : List Cond := .code yX4_isUp cX4_isUp 3 (some .boolean) :: ((wsX4_isUp_r1 ++ wsX4_isUp_r2) ++ wsX40 ++ wsX10 ++ (vx_atS RX4 41 "java/lang/IndexOutOfBoundsException" ["java/lang/RuntimeException", "java/lang/Exception"]).filter goodWord)
def wsX4_thickness : List Cond := .code yX4_thickness cX4_thickness 1 (some .int) :: ([.fieldLink RX4 33 "AtlasFolder" "stack" "LAtlasFolder$FoldedSheet;", .methodLink RX4 176 yX1_mostPanels, .instanceMethod yX1_mostPanels, .selects RX1 yX1_mostPanels yX1_mostPanels, .initialized RX1, .code yX1_mostPanels cX1_mostPanels 3 (some .int), .methodLink RX1 67 Lib.Math.max.name, .static Lib.Math.max.name, .initialized "java/lang/Math", .code Lib.Math.max.name Lib.Math.max.code 2 (some .int), .methodLink RX1 64 yX1_panels, .instanceMethod yX1_panels, .selects RX1 yX1_panels yX1_panels, .code yX1_panels cX1_panels 1 (some .int), .fieldLink RX1 29 "AtlasFolder$FoldedSheet" "columns" "I", .fieldLink RX1 33 "AtlasFolder$FoldedSheet" "rows" "I", .methodLink RX1 56 yX1_higherThan, .instanceMethod yX1_higherThan, .selects RX1 yX1_higherThan yX1_higherThan, .code yX1_higherThan cX1_higherThan 4 (some .int), .fieldLink RX1 9 "AtlasFolder$FoldedSheet" "columnPlaces" "[I", .fieldLink RX1 15 "AtlasFolder$FoldedSheet" "rowPlaces" "[I", .fieldLink RX1 18 "AtlasFolder$FoldedSheet" "layers" "[I"] ++ wsX40 ++ wsX10)
def wsX4_readable : List Cond := .code yX4_readable cX4_readable 1 (some .int) :: ([.fieldLink RX4 33 "AtlasFolder" "stack" "LAtlasFolder$FoldedSheet;", .methodLink RX4 179 yX1_readablePanels, .instanceMethod yX1_readablePanels, .selects RX1 yX1_readablePanels yX1_readablePanels, .initialized RX1, .code yX1_readablePanels cX1_readablePanels 3 (some .int), .fieldLink RX1 21 "AtlasFolder$FoldedSheet" "faceUp" "[Z", .methodLink RX1 64 yX1_panels, .instanceMethod yX1_panels, .selects RX1 yX1_panels yX1_panels, .code yX1_panels cX1_panels 1 (some .int), .fieldLink RX1 29 "AtlasFolder$FoldedSheet" "columns" "I", .fieldLink RX1 33 "AtlasFolder$FoldedSheet" "rows" "I", .methodLink RX1 56 yX1_higherThan, .instanceMethod yX1_higherThan, .selects RX1 yX1_higherThan yX1_higherThan, .code yX1_higherThan cX1_higherThan 4 (some .int), .fieldLink RX1 9 "AtlasFolder$FoldedSheet" "columnPlaces" "[I", .fieldLink RX1 15 "AtlasFolder$FoldedSheet" "rowPlaces" "[I", .fieldLink RX1 18 "AtlasFolder$FoldedSheet" "layers" "[I"] ++ wsX40 ++ wsX10)
def wsX5_lay : List Cond := .code yX5_lay cX5_lay 2 none :: ([.fieldLink RX5 106 "AtlasFolderModel" "folds" "I", .fieldLink RX5 23 "AtlasFolderModel" "atX" "[I", .fieldLink RX5 26 "AtlasFolderModel" "atY" "[I", .fieldLink RX5 29 "AtlasFolderModel" "layer" "[I", .fieldLink RX5 32 "AtlasFolderModel" "up" "[Z"] ++ wsX50)
def wsX5_init : List Cond := .code yX5_init cX5_init 2 none :: ([.methodLink RX5 1 objectInit, .instanceMethod objectInit, .code objectInit ⟨#[0xb1]⟩ 1 none, .arrayClass .int, .fieldLink RX5 7 "AtlasFolderModel" "width" "[I", .fieldLink RX5 13 "AtlasFolderModel" "height" "[I", .fieldLink RX5 16 "AtlasFolderModel" "truth" "[I", .fieldLink RX5 19 "AtlasFolderModel" "breadth" "I", .fieldLink RX5 23 "AtlasFolderModel" "atX" "[I", .fieldLink RX5 26 "AtlasFolderModel" "atY" "[I", .fieldLink RX5 29 "AtlasFolderModel" "layer" "[I", .arrayClass .boolean, .fieldLink RX5 32 "AtlasFolderModel" "up" "[Z", .fieldLink RX5 36 "AtlasFolderModel" "columns" "I", .fieldLink RX5 39 "AtlasFolderModel" "rows" "I", .methodLink RX5 42 yX5_lay, .instanceMethod yX5_lay, .selects RX5 yX5_lay yX5_lay, .initialized RX5, .code yX5_lay cX5_lay 2 none, .fieldLink RX5 106 "AtlasFolderModel" "folds" "I"] ++ wsX50)
def wsX5_thrown : List Cond := .code yX5_thrown cX5_thrown 1 (some .int) :: ([.fieldLink RX5 45 "AtlasFolderModel" "thrown" "I"] ++ wsX50)
def wsX5_may : List Cond := .code yX5_may cX5_may 2 (some .boolean) :: ([.fieldLink RX5 45 "AtlasFolderModel" "thrown" "I"] ++ wsX50)
def wsX5_mayBoth : List Cond := .code yX5_mayBoth cX5_mayBoth 3 (some .boolean) :: ([.fieldLink RX5 45 "AtlasFolderModel" "thrown" "I"] ++ wsX50)
def wsX5_mayAll : List Cond := .code yX5_mayAll cX5_mayAll 4 (some .boolean) :: ([.fieldLink RX5 45 "AtlasFolderModel" "thrown" "I"] ++ wsX50)
def wsX5_isLatitude : List Cond := .code yX5_isLatitude cX5_isLatitude 1 (some .boolean) :: ([])
def wsX5_isLongitude : List Cond := .code yX5_isLongitude cX5_isLongitude 1 (some .boolean) :: ([])
def wsX5_table : List Cond := .code yX5_table cX5_table 7 none :: ([.fieldLink RX5 13 "AtlasFolderModel" "height" "[I", .fieldLink RX5 7 "AtlasFolderModel" "width" "[I", .methodLink RX5 48 yX5_mayAll, .instanceMethod yX5_mayAll, .selects RX5 yX5_mayAll yX5_mayAll, .initialized RX5, .code yX5_mayAll cX5_mayAll 4 (some .boolean), .fieldLink RX5 45 "AtlasFolderModel" "thrown" "I"] ++ wsX50)
def wsX5_wide : List Cond := .code yX5_wide cX5_wide 5 (some .int) :: ([.fieldLink RX5 7 "AtlasFolderModel" "width" "[I"] ++ wsX50)
def wsX5_high : List Cond := .code yX5_high cX5_high 6 (some .int) :: ([.fieldLink RX5 13 "AtlasFolderModel" "height" "[I"] ++ wsX50)
def wsX5_x : List Cond := .code yX5_x cX5_x 3 (some .int) :: ([.methodLink RX5 52 yX5_isLatitude, .static yX5_isLatitude, .initialized RX5, .code yX5_isLatitude cX5_isLatitude 1 (some .boolean), .methodLink RX5 56 yX5_isLongitude, .static yX5_isLongitude, .code yX5_isLongitude cX5_isLongitude 1 (some .boolean), .methodLink RX5 59 yX5_may, .instanceMethod yX5_may, .selects RX5 yX5_may yX5_may, .code yX5_may cX5_may 2 (some .boolean), .fieldLink RX5 45 "AtlasFolderModel" "thrown" "I", .methodLink RX5 63 yX5_wide, .instanceMethod yX5_wide, .selects RX5 yX5_wide yX5_wide, .code yX5_wide cX5_wide 5 (some .int), .fieldLink RX5 7 "AtlasFolderModel" "width" "[I"] ++ wsX50)
def wsX5_y : List Cond := .code yX5_y cX5_y 2 (some .int) :: ([.methodLink RX5 52 yX5_isLatitude, .static yX5_isLatitude, .initialized RX5, .code yX5_isLatitude cX5_isLatitude 1 (some .boolean), .methodLink RX5 59 yX5_may, .instanceMethod yX5_may, .selects RX5 yX5_may yX5_may, .code yX5_may cX5_may 2 (some .boolean), .fieldLink RX5 45 "AtlasFolderModel" "thrown" "I", .methodLink RX5 67 yX5_high, .instanceMethod yX5_high, .selects RX5 yX5_high yX5_high, .code yX5_high cX5_high 6 (some .int), .fieldLink RX5 13 "AtlasFolderModel" "height" "[I"] ++ wsX50)
def wsX5_latitudeAt : List Cond := .code yX5_latitudeAt cX5_latitudeAt 3 (some .int) :: ([.constant RX5 70 (-99990), .constant RX5 71 (99990), .methodLink RX5 67 yX5_high, .instanceMethod yX5_high, .selects RX5 yX5_high yX5_high, .initialized RX5, .code yX5_high cX5_high 6 (some .int), .fieldLink RX5 13 "AtlasFolderModel" "height" "[I", .methodLink RX5 72 yX5_mayBoth, .instanceMethod yX5_mayBoth, .selects RX5 yX5_mayBoth yX5_mayBoth, .code yX5_mayBoth cX5_mayBoth 3 (some .boolean), .fieldLink RX5 45 "AtlasFolderModel" "thrown" "I"] ++ wsX50)
def wsX5_areaOf : List Cond := .code yX5_areaOf cX5_areaOf 7 (some .long) :: ([.methodLink RX5 63 yX5_wide, .instanceMethod yX5_wide, .selects RX5 yX5_wide yX5_wide, .initialized RX5, .code yX5_wide cX5_wide 5 (some .int), .fieldLink RX5 7 "AtlasFolderModel" "width" "[I", .methodLink RX5 67 yX5_high, .instanceMethod yX5_high, .selects RX5 yX5_high yX5_high, .code yX5_high cX5_high 6 (some .int), .fieldLink RX5 13 "AtlasFolderModel" "height" "[I"] ++ wsX50)
def wsX5_area : List Cond := .code yX5_area cX5_area 6 (some .long) :: ([.methodLink RX5 52 yX5_isLatitude, .static yX5_isLatitude, .initialized RX5, .code yX5_isLatitude cX5_isLatitude 1 (some .boolean), .methodLink RX5 59 yX5_may, .instanceMethod yX5_may, .selects RX5 yX5_may yX5_may, .code yX5_may cX5_may 2 (some .boolean), .fieldLink RX5 45 "AtlasFolderModel" "thrown" "I", .methodLink RX5 76 yX5_areaOf, .instanceMethod yX5_areaOf, .selects RX5 yX5_areaOf yX5_areaOf, .code yX5_areaOf cX5_areaOf 7 (some .long), .methodLink RX5 63 yX5_wide, .instanceMethod yX5_wide, .selects RX5 yX5_wide yX5_wide, .code yX5_wide cX5_wide 5 (some .int), .fieldLink RX5 7 "AtlasFolderModel" "width" "[I", .methodLink RX5 67 yX5_high, .instanceMethod yX5_high, .selects RX5 yX5_high yX5_high, .code yX5_high cX5_high 6 (some .int), .fieldLink RX5 13 "AtlasFolderModel" "height" "[I"] ++ wsX50)
def wsX5_areaByCells_r1 : List Cond := [Cond.methodLink RX5 80 yX5_area, Cond.instanceMethod yX5_area, Cond.selects RX5 yX5_area yX5_area, Cond.initialized RX5, Cond.code yX5_area cX5_area 6 (some .long), Cond.methodLink RX5 52 yX5_isLatitude, Cond.static yX5_isLatitude, Cond.code yX5_isLatitude cX5_isLatitude 1 (some .boolean), Cond.methodLink RX5 59 yX5_may, Cond.instanceMethod yX5_may, Cond.selects RX5 yX5_may yX5_may, Cond.code yX5_may cX5_may 2 (some .boolean), Cond.fieldLink RX5 45 "AtlasFolderModel" "thrown" "I", Cond.methodLink RX5 76 yX5_areaOf, Cond.instanceMethod yX5_areaOf, Cond.selects RX5 yX5_areaOf yX5_areaOf, Cond.code yX5_areaOf cX5_areaOf 7 (some .long), Cond.methodLink RX5 63 yX5_wide, Cond.instanceMethod yX5_wide, Cond.selects RX5 yX5_wide yX5_wide, Cond.code yX5_wide cX5_wide 5 (some .int), Cond.fieldLink RX5 7 "AtlasFolderModel" "width" "[I", Cond.methodLink RX5 67 yX5_high, Cond.instanceMethod yX5_high]
def wsX5_areaByCells_r2 : List Cond := [Cond.selects RX5 yX5_high yX5_high, Cond.code yX5_high cX5_high 6 (some .int), Cond.fieldLink RX5 13 "AtlasFolderModel" "height" "[I"]
def wsX5_areaByCells : List Cond := .code yX5_areaByCells cX5_areaByCells 5 (some .long) :: ((wsX5_areaByCells_r1 ++ wsX5_areaByCells_r2) ++ wsX50)
def wsX5_bandOf : List Cond := .code yX5_bandOf cX5_bandOf 2 (some .long) :: ([.methodLink RX5 76 yX5_areaOf, .instanceMethod yX5_areaOf, .selects RX5 yX5_areaOf yX5_areaOf, .initialized RX5, .code yX5_areaOf cX5_areaOf 7 (some .long), .methodLink RX5 63 yX5_wide, .instanceMethod yX5_wide, .selects RX5 yX5_wide yX5_wide, .code yX5_wide cX5_wide 5 (some .int), .fieldLink RX5 7 "AtlasFolderModel" "width" "[I", .methodLink RX5 67 yX5_high, .instanceMethod yX5_high, .selects RX5 yX5_high yX5_high, .code yX5_high cX5_high 6 (some .int), .fieldLink RX5 13 "AtlasFolderModel" "height" "[I"] ++ wsX50)
def wsX5_isBand : List Cond := .code yX5_isBand cX5_isBand 1 (some .boolean) :: ([])
def wsX5_truth : List Cond := .code yX5_truth cX5_truth 4 (some .int) :: ([.constant RX5 87 (99999), .fieldLink RX5 16 "AtlasFolderModel" "truth" "[I", .methodLink RX5 84 yX5_isBand, .static yX5_isBand, .initialized RX5, .code yX5_isBand cX5_isBand 1 (some .boolean), .methodLink RX5 72 yX5_mayBoth, .instanceMethod yX5_mayBoth, .selects RX5 yX5_mayBoth yX5_mayBoth, .code yX5_mayBoth cX5_mayBoth 3 (some .boolean), .fieldLink RX5 45 "AtlasFolderModel" "thrown" "I"] ++ wsX50)
def wsX5_keepsAreas : List Cond := .code yX5_keepsAreas cX5_keepsAreas 3 (some .boolean) :: ([.fieldLink RX5 45 "AtlasFolderModel" "thrown" "I", .fieldLink RX5 16 "AtlasFolderModel" "truth" "[I", .methodLink RX5 88 yX5_bandOf, .instanceMethod yX5_bandOf, .selects RX5 yX5_bandOf yX5_bandOf, .initialized RX5, .code yX5_bandOf cX5_bandOf 2 (some .long), .methodLink RX5 76 yX5_areaOf, .instanceMethod yX5_areaOf, .selects RX5 yX5_areaOf yX5_areaOf, .code yX5_areaOf cX5_areaOf 7 (some .long), .methodLink RX5 63 yX5_wide, .instanceMethod yX5_wide, .selects RX5 yX5_wide yX5_wide, .code yX5_wide cX5_wide 5 (some .int), .fieldLink RX5 7 "AtlasFolderModel" "width" "[I", .methodLink RX5 67 yX5_high, .instanceMethod yX5_high, .selects RX5 yX5_high yX5_high, .code yX5_high cX5_high 6 (some .int), .fieldLink RX5 13 "AtlasFolderModel" "height" "[I"] ++ wsX50)
def wsX5_widest : List Cond := .code yX5_widest cX5_widest 3 (some .int) :: ([.fieldLink RX5 45 "AtlasFolderModel" "thrown" "I", .fieldLink RX5 16 "AtlasFolderModel" "truth" "[I", .methodLink RX5 88 yX5_bandOf, .instanceMethod yX5_bandOf, .selects RX5 yX5_bandOf yX5_bandOf, .initialized RX5, .code yX5_bandOf cX5_bandOf 2 (some .long), .methodLink RX5 76 yX5_areaOf, .instanceMethod yX5_areaOf, .selects RX5 yX5_areaOf yX5_areaOf, .code yX5_areaOf cX5_areaOf 7 (some .long), .methodLink RX5 63 yX5_wide, .instanceMethod yX5_wide, .selects RX5 yX5_wide yX5_wide, .code yX5_wide cX5_wide 5 (some .int), .fieldLink RX5 7 "AtlasFolderModel" "width" "[I", .methodLink RX5 67 yX5_high, .instanceMethod yX5_high, .selects RX5 yX5_high yX5_high, .code yX5_high cX5_high 6 (some .int), .fieldLink RX5 13 "AtlasFolderModel" "height" "[I"] ++ wsX50)
def wsX5_stretch_r1 : List Cond := [Cond.fieldLink RX5 16 "AtlasFolderModel" "truth" "[I", Cond.methodLink RX5 84 yX5_isBand, Cond.static yX5_isBand, Cond.initialized RX5, Cond.code yX5_isBand cX5_isBand 1 (some .boolean), Cond.methodLink RX5 59 yX5_may, Cond.instanceMethod yX5_may, Cond.selects RX5 yX5_may yX5_may, Cond.code yX5_may cX5_may 2 (some .boolean), Cond.fieldLink RX5 45 "AtlasFolderModel" "thrown" "I", Cond.methodLink RX5 88 yX5_bandOf, Cond.instanceMethod yX5_bandOf, Cond.selects RX5 yX5_bandOf yX5_bandOf, Cond.code yX5_bandOf cX5_bandOf 2 (some .long), Cond.methodLink RX5 76 yX5_areaOf, Cond.instanceMethod yX5_areaOf, Cond.selects RX5 yX5_areaOf yX5_areaOf, Cond.code yX5_areaOf cX5_areaOf 7 (some .long), Cond.methodLink RX5 63 yX5_wide, Cond.instanceMethod yX5_wide, Cond.selects RX5 yX5_wide yX5_wide, Cond.code yX5_wide cX5_wide 5 (some .int), Cond.fieldLink RX5 7 "AtlasFolderModel" "width" "[I", Cond.methodLink RX5 67 yX5_high]
def wsX5_stretch_r2 : List Cond := [Cond.instanceMethod yX5_high, Cond.selects RX5 yX5_high yX5_high, Cond.code yX5_high cX5_high 6 (some .int), Cond.fieldLink RX5 13 "AtlasFolderModel" "height" "[I"]
def wsX5_stretch : List Cond := .code yX5_stretch cX5_stretch 2 (some .float) :: ((wsX5_stretch_r1 ++ wsX5_stretch_r2) ++ wsX50)
def wsX5_east : List Cond := .code yX5_east cX5_east 2 (some .int) :: ([])
def wsX5_shorter : List Cond := .code yX5_shorter cX5_shorter 3 (some .int) :: ([.methodLink RX5 92 yX5_east, .static yX5_east, .initialized RX5, .code yX5_east cX5_east 2 (some .int)])
def wsX5_apart : List Cond := .code yX5_apart cX5_apart 3 (some .int) :: ([.methodLink RX5 56 yX5_isLongitude, .static yX5_isLongitude, .initialized RX5, .code yX5_isLongitude cX5_isLongitude 1 (some .boolean), .methodLink RX5 59 yX5_may, .instanceMethod yX5_may, .selects RX5 yX5_may yX5_may, .code yX5_may cX5_may 2 (some .boolean), .fieldLink RX5 45 "AtlasFolderModel" "thrown" "I", .methodLink RX5 96 yX5_shorter, .static yX5_shorter, .code yX5_shorter cX5_shorter 3 (some .int), .methodLink RX5 92 yX5_east, .static yX5_east, .code yX5_east cX5_east 2 (some .int)] ++ wsX50)
def wsX5_ringWay : List Cond := .code yX5_ringWay cX5_ringWay 4 (some .int) :: ([.methodLink RX5 52 yX5_isLatitude, .static yX5_isLatitude, .initialized RX5, .code yX5_isLatitude cX5_isLatitude 1 (some .boolean), .methodLink RX5 56 yX5_isLongitude, .static yX5_isLongitude, .code yX5_isLongitude cX5_isLongitude 1 (some .boolean), .methodLink RX5 59 yX5_may, .instanceMethod yX5_may, .selects RX5 yX5_may yX5_may, .code yX5_may cX5_may 2 (some .boolean), .fieldLink RX5 45 "AtlasFolderModel" "thrown" "I", .methodLink RX5 96 yX5_shorter, .static yX5_shorter, .code yX5_shorter cX5_shorter 3 (some .int), .methodLink RX5 92 yX5_east, .static yX5_east, .code yX5_east cX5_east 2 (some .int), .methodLink RX5 63 yX5_wide, .instanceMethod yX5_wide, .selects RX5 yX5_wide yX5_wide, .code yX5_wide cX5_wide 5 (some .int), .fieldLink RX5 7 "AtlasFolderModel" "width" "[I"] ++ wsX50)
def wsX5_zones : List Cond := .code yX5_zones cX5_zones 3 (some .int) :: ([.fieldLink RX5 19 "AtlasFolderModel" "breadth" "I", .methodLink RX5 59 yX5_may, .instanceMethod yX5_may, .selects RX5 yX5_may yX5_may, .initialized RX5, .code yX5_may cX5_may 2 (some .boolean), .fieldLink RX5 45 "AtlasFolderModel" "thrown" "I"] ++ wsX50)
def wsX5_zoneOf : List Cond := .code yX5_zoneOf cX5_zoneOf 2 (some .int) :: ([.fieldLink RX5 19 "AtlasFolderModel" "breadth" "I"] ++ wsX50)
def wsX5_zone : List Cond := .code yX5_zone cX5_zone 2 (some .int) :: ([.methodLink RX5 56 yX5_isLongitude, .static yX5_isLongitude, .initialized RX5, .code yX5_isLongitude cX5_isLongitude 1 (some .boolean), .methodLink RX5 59 yX5_may, .instanceMethod yX5_may, .selects RX5 yX5_may yX5_may, .code yX5_may cX5_may 2 (some .boolean), .fieldLink RX5 45 "AtlasFolderModel" "thrown" "I", .methodLink RX5 99 yX5_zoneOf, .instanceMethod yX5_zoneOf, .selects RX5 yX5_zoneOf yX5_zoneOf, .code yX5_zoneOf cX5_zoneOf 2 (some .int), .fieldLink RX5 19 "AtlasFolderModel" "breadth" "I"] ++ wsX50)
def wsX5_crossed : List Cond := .code yX5_crossed cX5_crossed 10 (some .int) :: ([.methodLink RX5 92 yX5_east, .static yX5_east, .initialized RX5, .code yX5_east cX5_east 2 (some .int), .methodLink RX5 99 yX5_zoneOf, .instanceMethod yX5_zoneOf, .selects RX5 yX5_zoneOf yX5_zoneOf, .code yX5_zoneOf cX5_zoneOf 2 (some .int), .fieldLink RX5 19 "AtlasFolderModel" "breadth" "I"] ++ wsX50)
def wsX5_seams : List Cond := .code yX5_seams cX5_seams 3 (some .int) :: ([.methodLink RX5 56 yX5_isLongitude, .static yX5_isLongitude, .initialized RX5, .code yX5_isLongitude cX5_isLongitude 1 (some .boolean), .methodLink RX5 59 yX5_may, .instanceMethod yX5_may, .selects RX5 yX5_may yX5_may, .code yX5_may cX5_may 2 (some .boolean), .fieldLink RX5 45 "AtlasFolderModel" "thrown" "I", .methodLink RX5 102 yX5_crossed, .instanceMethod yX5_crossed, .selects RX5 yX5_crossed yX5_crossed, .code yX5_crossed cX5_crossed 10 (some .int), .methodLink RX5 92 yX5_east, .static yX5_east, .code yX5_east cX5_east 2 (some .int), .methodLink RX5 99 yX5_zoneOf, .instanceMethod yX5_zoneOf, .selects RX5 yX5_zoneOf yX5_zoneOf, .code yX5_zoneOf cX5_zoneOf 2 (some .int), .fieldLink RX5 19 "AtlasFolderModel" "breadth" "I"] ++ wsX50)
def wsX5_dateLine : List Cond := .code yX5_dateLine cX5_dateLine 3 (some .int) :: ([.methodLink RX5 56 yX5_isLongitude, .static yX5_isLongitude, .initialized RX5, .code yX5_isLongitude cX5_isLongitude 1 (some .boolean), .methodLink RX5 59 yX5_may, .instanceMethod yX5_may, .selects RX5 yX5_may yX5_may, .code yX5_may cX5_may 2 (some .boolean), .fieldLink RX5 45 "AtlasFolderModel" "thrown" "I", .methodLink RX5 102 yX5_crossed, .instanceMethod yX5_crossed, .selects RX5 yX5_crossed yX5_crossed, .code yX5_crossed cX5_crossed 10 (some .int), .methodLink RX5 92 yX5_east, .static yX5_east, .code yX5_east cX5_east 2 (some .int), .methodLink RX5 99 yX5_zoneOf, .instanceMethod yX5_zoneOf, .selects RX5 yX5_zoneOf yX5_zoneOf, .code yX5_zoneOf cX5_zoneOf 2 (some .int), .fieldLink RX5 19 "AtlasFolderModel" "breadth" "I"] ++ wsX50)
def wsX5_isPanel : List Cond := .code yX5_isPanel cX5_isPanel 2 (some .boolean) :: ([.fieldLink RX5 36 "AtlasFolderModel" "columns" "I", .fieldLink RX5 39 "AtlasFolderModel" "rows" "I"] ++ wsX50)
def wsX5_sheet : List Cond := .code yX5_sheet cX5_sheet 3 none :: ([.fieldLink RX5 36 "AtlasFolderModel" "columns" "I", .fieldLink RX5 39 "AtlasFolderModel" "rows" "I", .methodLink RX5 59 yX5_may, .instanceMethod yX5_may, .selects RX5 yX5_may yX5_may, .initialized RX5, .code yX5_may cX5_may 2 (some .boolean), .fieldLink RX5 45 "AtlasFolderModel" "thrown" "I", .methodLink RX5 42 yX5_lay, .instanceMethod yX5_lay, .selects RX5 yX5_lay yX5_lay, .code yX5_lay cX5_lay 2 none, .fieldLink RX5 106 "AtlasFolderModel" "folds" "I", .fieldLink RX5 23 "AtlasFolderModel" "atX" "[I", .fieldLink RX5 26 "AtlasFolderModel" "atY" "[I", .fieldLink RX5 29 "AtlasFolderModel" "layer" "[I", .fieldLink RX5 32 "AtlasFolderModel" "up" "[Z"] ++ wsX50)
def wsX5_ahead : List Cond := .code yX5_ahead cX5_ahead 5 (some .int) :: ([.fieldLink RX5 23 "AtlasFolderModel" "atX" "[I", .fieldLink RX5 26 "AtlasFolderModel" "atY" "[I", .methodLink RX5 109 yX5_isPanel, .instanceMethod yX5_isPanel, .selects RX5 yX5_isPanel yX5_isPanel, .initialized RX5, .code yX5_isPanel cX5_isPanel 2 (some .boolean), .fieldLink RX5 36 "AtlasFolderModel" "columns" "I", .fieldLink RX5 39 "AtlasFolderModel" "rows" "I"] ++ wsX50)
def wsX5_fold : List Cond := .code yX5_fold cX5_fold 6 (some .int) :: ([.fieldLink RX5 36 "AtlasFolderModel" "columns" "I", .fieldLink RX5 39 "AtlasFolderModel" "rows" "I", .fieldLink RX5 29 "AtlasFolderModel" "layer" "[I", .fieldLink RX5 23 "AtlasFolderModel" "atX" "[I", .fieldLink RX5 26 "AtlasFolderModel" "atY" "[I", .fieldLink RX5 32 "AtlasFolderModel" "up" "[Z", .fieldLink RX5 106 "AtlasFolderModel" "folds" "I", .methodLink RX5 112 yX5_ahead, .instanceMethod yX5_ahead, .selects RX5 yX5_ahead yX5_ahead, .initialized RX5, .code yX5_ahead cX5_ahead 5 (some .int), .methodLink RX5 109 yX5_isPanel, .instanceMethod yX5_isPanel, .selects RX5 yX5_isPanel yX5_isPanel, .code yX5_isPanel cX5_isPanel 2 (some .boolean), .methodLink RX5 59 yX5_may, .instanceMethod yX5_may, .selects RX5 yX5_may yX5_may, .code yX5_may cX5_may 2 (some .boolean), .fieldLink RX5 45 "AtlasFolderModel" "thrown" "I"] ++ wsX50)
def wsX5_foldColumns_r1 : List Cond := [Cond.methodLink RX5 116 yX5_fold, Cond.instanceMethod yX5_fold, Cond.selects RX5 yX5_fold yX5_fold, Cond.initialized RX5, Cond.code yX5_fold cX5_fold 6 (some .int), Cond.fieldLink RX5 36 "AtlasFolderModel" "columns" "I", Cond.fieldLink RX5 39 "AtlasFolderModel" "rows" "I", Cond.fieldLink RX5 29 "AtlasFolderModel" "layer" "[I", Cond.fieldLink RX5 23 "AtlasFolderModel" "atX" "[I", Cond.fieldLink RX5 26 "AtlasFolderModel" "atY" "[I", Cond.fieldLink RX5 32 "AtlasFolderModel" "up" "[Z", Cond.fieldLink RX5 106 "AtlasFolderModel" "folds" "I", Cond.methodLink RX5 112 yX5_ahead, Cond.instanceMethod yX5_ahead, Cond.selects RX5 yX5_ahead yX5_ahead, Cond.code yX5_ahead cX5_ahead 5 (some .int), Cond.methodLink RX5 109 yX5_isPanel, Cond.instanceMethod yX5_isPanel, Cond.selects RX5 yX5_isPanel yX5_isPanel, Cond.code yX5_isPanel cX5_isPanel 2 (some .boolean), Cond.methodLink RX5 59 yX5_may, Cond.instanceMethod yX5_may, Cond.selects RX5 yX5_may yX5_may, Cond.code yX5_may cX5_may 2 (some .boolean)]
def wsX5_foldColumns_r2 : List Cond := [Cond.fieldLink RX5 45 "AtlasFolderModel" "thrown" "I"]
def wsX5_foldColumns : List Cond := .code yX5_foldColumns cX5_foldColumns 2 (some .int) :: ((wsX5_foldColumns_r1 ++ wsX5_foldColumns_r2) ++ wsX50)
def wsX5_foldRows_r1 : List Cond := [Cond.methodLink RX5 116 yX5_fold, Cond.instanceMethod yX5_fold, Cond.selects RX5 yX5_fold yX5_fold, Cond.initialized RX5, Cond.code yX5_fold cX5_fold 6 (some .int), Cond.fieldLink RX5 36 "AtlasFolderModel" "columns" "I", Cond.fieldLink RX5 39 "AtlasFolderModel" "rows" "I", Cond.fieldLink RX5 29 "AtlasFolderModel" "layer" "[I", Cond.fieldLink RX5 23 "AtlasFolderModel" "atX" "[I", Cond.fieldLink RX5 26 "AtlasFolderModel" "atY" "[I", Cond.fieldLink RX5 32 "AtlasFolderModel" "up" "[Z", Cond.fieldLink RX5 106 "AtlasFolderModel" "folds" "I", Cond.methodLink RX5 112 yX5_ahead, Cond.instanceMethod yX5_ahead, Cond.selects RX5 yX5_ahead yX5_ahead, Cond.code yX5_ahead cX5_ahead 5 (some .int), Cond.methodLink RX5 109 yX5_isPanel, Cond.instanceMethod yX5_isPanel, Cond.selects RX5 yX5_isPanel yX5_isPanel, Cond.code yX5_isPanel cX5_isPanel 2 (some .boolean), Cond.methodLink RX5 59 yX5_may, Cond.instanceMethod yX5_may, Cond.selects RX5 yX5_may yX5_may, Cond.code yX5_may cX5_may 2 (some .boolean)]
def wsX5_foldRows_r2 : List Cond := [Cond.fieldLink RX5 45 "AtlasFolderModel" "thrown" "I"]
def wsX5_foldRows : List Cond := .code yX5_foldRows cX5_foldRows 2 (some .int) :: ((wsX5_foldRows_r1 ++ wsX5_foldRows_r2) ++ wsX50)
def wsX5_unfold : List Cond := .code yX5_unfold cX5_unfold 2 (some .int) :: ([.fieldLink RX5 45 "AtlasFolderModel" "thrown" "I", .fieldLink RX5 106 "AtlasFolderModel" "folds" "I", .methodLink RX5 42 yX5_lay, .instanceMethod yX5_lay, .selects RX5 yX5_lay yX5_lay, .initialized RX5, .code yX5_lay cX5_lay 2 none, .fieldLink RX5 23 "AtlasFolderModel" "atX" "[I", .fieldLink RX5 26 "AtlasFolderModel" "atY" "[I", .fieldLink RX5 29 "AtlasFolderModel" "layer" "[I", .fieldLink RX5 32 "AtlasFolderModel" "up" "[Z"] ++ wsX50)
def wsX5_panel : List Cond := .code yX5_panel cX5_panel 4 (some .int) :: ([.fieldLink RX5 39 "AtlasFolderModel" "rows" "I", .fieldLink RX5 36 "AtlasFolderModel" "columns" "I", .methodLink RX5 52 yX5_isLatitude, .static yX5_isLatitude, .initialized RX5, .code yX5_isLatitude cX5_isLatitude 1 (some .boolean), .methodLink RX5 56 yX5_isLongitude, .static yX5_isLongitude, .code yX5_isLongitude cX5_isLongitude 1 (some .boolean), .methodLink RX5 59 yX5_may, .instanceMethod yX5_may, .selects RX5 yX5_may yX5_may, .code yX5_may cX5_may 2 (some .boolean), .fieldLink RX5 45 "AtlasFolderModel" "thrown" "I"] ++ wsX50)
def wsX5_has : List Cond := .code yX5_has cX5_has 3 (some .boolean) :: ([.fieldLink RX5 36 "AtlasFolderModel" "columns" "I", .fieldLink RX5 39 "AtlasFolderModel" "rows" "I", .methodLink RX5 59 yX5_may, .instanceMethod yX5_may, .selects RX5 yX5_may yX5_may, .initialized RX5, .code yX5_may cX5_may 2 (some .boolean), .fieldLink RX5 45 "AtlasFolderModel" "thrown" "I"] ++ wsX50)
def wsX5_placeX : List Cond := .code yX5_placeX cX5_placeX 3 (some .int) :: ([.fieldLink RX5 23 "AtlasFolderModel" "atX" "[I", .methodLink RX5 119 yX5_has, .instanceMethod yX5_has, .selects RX5 yX5_has yX5_has, .initialized RX5, .code yX5_has cX5_has 3 (some .boolean), .fieldLink RX5 36 "AtlasFolderModel" "columns" "I", .fieldLink RX5 39 "AtlasFolderModel" "rows" "I", .methodLink RX5 59 yX5_may, .instanceMethod yX5_may, .selects RX5 yX5_may yX5_may, .code yX5_may cX5_may 2 (some .boolean), .fieldLink RX5 45 "AtlasFolderModel" "thrown" "I"] ++ wsX50)
def wsX5_placeY : List Cond := .code yX5_placeY cX5_placeY 3 (some .int) :: ([.fieldLink RX5 26 "AtlasFolderModel" "atY" "[I", .methodLink RX5 119 yX5_has, .instanceMethod yX5_has, .selects RX5 yX5_has yX5_has, .initialized RX5, .code yX5_has cX5_has 3 (some .boolean), .fieldLink RX5 36 "AtlasFolderModel" "columns" "I", .fieldLink RX5 39 "AtlasFolderModel" "rows" "I", .methodLink RX5 59 yX5_may, .instanceMethod yX5_may, .selects RX5 yX5_may yX5_may, .code yX5_may cX5_may 2 (some .boolean), .fieldLink RX5 45 "AtlasFolderModel" "thrown" "I"] ++ wsX50)
def wsX5_stacked : List Cond := .code yX5_stacked cX5_stacked 6 (some .int) :: ([.fieldLink RX5 23 "AtlasFolderModel" "atX" "[I", .fieldLink RX5 26 "AtlasFolderModel" "atY" "[I", .fieldLink RX5 29 "AtlasFolderModel" "layer" "[I", .methodLink RX5 109 yX5_isPanel, .instanceMethod yX5_isPanel, .selects RX5 yX5_isPanel yX5_isPanel, .initialized RX5, .code yX5_isPanel cX5_isPanel 2 (some .boolean), .fieldLink RX5 36 "AtlasFolderModel" "columns" "I", .fieldLink RX5 39 "AtlasFolderModel" "rows" "I"] ++ wsX50)
def wsX5_above : List Cond := .code yX5_above cX5_above 3 (some .int) :: ([.methodLink RX5 119 yX5_has, .instanceMethod yX5_has, .selects RX5 yX5_has yX5_has, .initialized RX5, .code yX5_has cX5_has 3 (some .boolean), .fieldLink RX5 36 "AtlasFolderModel" "columns" "I", .fieldLink RX5 39 "AtlasFolderModel" "rows" "I", .methodLink RX5 59 yX5_may, .instanceMethod yX5_may, .selects RX5 yX5_may yX5_may, .code yX5_may cX5_may 2 (some .boolean), .fieldLink RX5 45 "AtlasFolderModel" "thrown" "I", .methodLink RX5 123 yX5_stacked, .instanceMethod yX5_stacked, .selects RX5 yX5_stacked yX5_stacked, .code yX5_stacked cX5_stacked 6 (some .int), .fieldLink RX5 23 "AtlasFolderModel" "atX" "[I", .fieldLink RX5 26 "AtlasFolderModel" "atY" "[I", .fieldLink RX5 29 "AtlasFolderModel" "layer" "[I", .methodLink RX5 109 yX5_isPanel, .instanceMethod yX5_isPanel, .selects RX5 yX5_isPanel yX5_isPanel, .code yX5_isPanel cX5_isPanel 2 (some .boolean)] ++ wsX50)
def wsX5_isUp : List Cond := .code yX5_isUp cX5_isUp 3 (some .boolean) :: ([.fieldLink RX5 32 "AtlasFolderModel" "up" "[Z", .methodLink RX5 119 yX5_has, .instanceMethod yX5_has, .selects RX5 yX5_has yX5_has, .initialized RX5, .code yX5_has cX5_has 3 (some .boolean), .fieldLink RX5 36 "AtlasFolderModel" "columns" "I", .fieldLink RX5 39 "AtlasFolderModel" "rows" "I", .methodLink RX5 59 yX5_may, .instanceMethod yX5_may, .selects RX5 yX5_may yX5_may, .code yX5_may cX5_may 2 (some .boolean), .fieldLink RX5 45 "AtlasFolderModel" "thrown" "I"] ++ wsX50)
def wsX5_thickness : List Cond := .code yX5_thickness cX5_thickness 4 (some .int) :: ([.fieldLink RX5 45 "AtlasFolderModel" "thrown" "I", .methodLink RX5 109 yX5_isPanel, .instanceMethod yX5_isPanel, .selects RX5 yX5_isPanel yX5_isPanel, .initialized RX5, .code yX5_isPanel cX5_isPanel 2 (some .boolean), .fieldLink RX5 36 "AtlasFolderModel" "columns" "I", .fieldLink RX5 39 "AtlasFolderModel" "rows" "I", .methodLink RX5 123 yX5_stacked, .instanceMethod yX5_stacked, .selects RX5 yX5_stacked yX5_stacked, .code yX5_stacked cX5_stacked 6 (some .int), .fieldLink RX5 23 "AtlasFolderModel" "atX" "[I", .fieldLink RX5 26 "AtlasFolderModel" "atY" "[I", .fieldLink RX5 29 "AtlasFolderModel" "layer" "[I"] ++ wsX50)
def wsX5_readable : List Cond := .code yX5_readable cX5_readable 3 (some .int) :: ([.fieldLink RX5 45 "AtlasFolderModel" "thrown" "I", .fieldLink RX5 32 "AtlasFolderModel" "up" "[Z", .methodLink RX5 109 yX5_isPanel, .instanceMethod yX5_isPanel, .selects RX5 yX5_isPanel yX5_isPanel, .initialized RX5, .code yX5_isPanel cX5_isPanel 2 (some .boolean), .fieldLink RX5 36 "AtlasFolderModel" "columns" "I", .fieldLink RX5 39 "AtlasFolderModel" "rows" "I", .methodLink RX5 123 yX5_stacked, .instanceMethod yX5_stacked, .selects RX5 yX5_stacked yX5_stacked, .code yX5_stacked cX5_stacked 6 (some .int), .fieldLink RX5 23 "AtlasFolderModel" "atX" "[I", .fieldLink RX5 26 "AtlasFolderModel" "atY" "[I", .fieldLink RX5 29 "AtlasFolderModel" "layer" "[I"] ++ wsX50)
def wsJ9_abs_0f7a4 : List Cond := .code yJ9_abs_0f7a4 cJ9_abs_0f7a4 1 (some .int) :: ([])
def wsJ9_max_7cf53 : List Cond := .code yJ9_max_7cf53 cJ9_max_7cf53 2 (some .int) :: ([])
def wsJ9_min_7cf53 : List Cond := .code yJ9_min_7cf53 cJ9_min_7cf53 2 (some .int) :: ([])
def wsL_table_r1 : List Cond := [Cond.classLink RL 13 "java/lang/IndexOutOfBoundsException", Cond.classLink RL 15 "java/lang/IllegalArgumentException", Cond.classLink RL 17 "java/lang/IllegalStateException", Cond.methodLink RL 7 yX4_table, Cond.instanceMethod yX4_table, Cond.selects RX4 yX4_table yX4_table, Cond.initialized RX4, Cond.code yX4_table cX4_table 4 none, Cond.classLink RX4 37 "java/lang/IndexOutOfBoundsException", Cond.initialized "java/lang/IndexOutOfBoundsException", Cond.classLink RX4 44 "java/lang/IllegalArgumentException", Cond.initialized "java/lang/IllegalArgumentException", Cond.classLink RX4 53 "java/lang/IllegalStateException", Cond.initialized "java/lang/IllegalStateException", Cond.fieldLink RX4 10 "AtlasFolder" "map" "LAtlasFolder$MapTable;", Cond.methodLink RX4 49 yX2_wouldRise, Cond.instanceMethod yX2_wouldRise, Cond.selects RX2 yX2_wouldRise yX2_wouldRise, Cond.initialized RX2, Cond.code yX2_wouldRise cX2_wouldRise 3 (some .boolean), Cond.fieldLink RX2 15 "AtlasFolder$MapTable" "heights" "[I", Cond.methodLink RX2 18 yX2_valueAt, Cond.static yX2_valueAt, Cond.code yX2_valueAt cX2_valueAt 2 (some .int)]
def wsL_table_r2 : List Cond := [Cond.methodLink RX4 58 yX2_setRow, Cond.instanceMethod yX2_setRow, Cond.selects RX2 yX2_setRow yX2_setRow, Cond.code yX2_setRow cX2_setRow 4 none, Cond.fieldLink RX2 9 "AtlasFolder$MapTable" "widths" "[I"]
def wsL_table : List Cond := .codeWith yL_table cL_table 5 (some .int) [(0, 7, 10, 13), (0, 7, 14, 15), (0, 7, 18, 17)] :: ((wsL_table_r1 ++ wsL_table_r2) ++ wsX40 ++ wsX20 ++ (vx_atS RX4 41 "java/lang/IndexOutOfBoundsException" ["java/lang/RuntimeException", "java/lang/Exception"]).filter goodWord ++ (vx_atS RX4 48 "java/lang/IllegalArgumentException" ["java/lang/RuntimeException", "java/lang/Exception"]).filter goodWord ++ (vx_atS RX4 57 "java/lang/IllegalStateException" ["java/lang/RuntimeException", "java/lang/Exception"]).filter goodWord)
def wsL_x_r1 : List Cond := [Cond.classLink RL 15 "java/lang/IllegalArgumentException", Cond.methodLink RL 19 yX4_x, Cond.instanceMethod yX4_x, Cond.selects RX4 yX4_x yX4_x, Cond.initialized RX4, Cond.code yX4_x cX4_x 3 (some .int), Cond.fieldLink RX4 10 "AtlasFolder" "map" "LAtlasFolder$MapTable;", Cond.methodLink RX4 62 yX4_requireLatitude, Cond.static yX4_requireLatitude, Cond.code yX4_requireLatitude cX4_requireLatitude 1 none, Cond.classLink RX4 44 "java/lang/IllegalArgumentException", Cond.initialized "java/lang/IllegalArgumentException", Cond.methodLink RX4 66 yX4_requireLongitude, Cond.static yX4_requireLongitude, Cond.code yX4_requireLongitude cX4_requireLongitude 1 none, Cond.methodLink RX4 69 yX2_tenWidths, Cond.instanceMethod yX2_tenWidths, Cond.selects RX2 yX2_tenWidths yX2_tenWidths, Cond.initialized RX2, Cond.code yX2_tenWidths cX2_tenWidths 2 (some .int), Cond.fieldLink RX2 9 "AtlasFolder$MapTable" "widths" "[I", Cond.methodLink RX2 22 Lib.Math.abs.name, Cond.static Lib.Math.abs.name, Cond.initialized "java/lang/Math"]
def wsL_x_r2 : List Cond := [Cond.code Lib.Math.abs.name Lib.Math.abs.code 1 (some .int), Cond.methodLink RX2 28 yX2_tenTimesAt, Cond.static yX2_tenTimesAt, Cond.code yX2_tenTimesAt cX2_tenTimesAt 4 (some .int), Cond.methodLink RX2 18 yX2_valueAt, Cond.static yX2_valueAt, Cond.code yX2_valueAt cX2_valueAt 2 (some .int)]
def wsL_x : List Cond := .codeWith yL_x cL_x 5 (some .int) [(0, 10, 13, 15)] :: ((wsL_x_r1 ++ wsL_x_r2) ++ wsX40 ++ wsX20 ++ (vx_atS RX4 48 "java/lang/IllegalArgumentException" ["java/lang/RuntimeException", "java/lang/Exception"]).filter goodWord)
def wsL_y_r1 : List Cond := [Cond.classLink RL 15 "java/lang/IllegalArgumentException", Cond.methodLink RL 23 yX4_y, Cond.instanceMethod yX4_y, Cond.selects RX4 yX4_y yX4_y, Cond.initialized RX4, Cond.code yX4_y cX4_y 2 (some .int), Cond.fieldLink RX4 10 "AtlasFolder" "map" "LAtlasFolder$MapTable;", Cond.methodLink RX4 62 yX4_requireLatitude, Cond.static yX4_requireLatitude, Cond.code yX4_requireLatitude cX4_requireLatitude 1 none, Cond.classLink RX4 44 "java/lang/IllegalArgumentException", Cond.initialized "java/lang/IllegalArgumentException", Cond.methodLink RX4 73 yX2_tenHeights, Cond.instanceMethod yX2_tenHeights, Cond.selects RX2 yX2_tenHeights yX2_tenHeights, Cond.initialized RX2, Cond.code yX2_tenHeights cX2_tenHeights 3 (some .int), Cond.fieldLink RX2 15 "AtlasFolder$MapTable" "heights" "[I", Cond.methodLink RX2 22 Lib.Math.abs.name, Cond.static Lib.Math.abs.name, Cond.initialized "java/lang/Math", Cond.code Lib.Math.abs.name Lib.Math.abs.code 1 (some .int), Cond.methodLink RX2 28 yX2_tenTimesAt, Cond.static yX2_tenTimesAt]
def wsL_y_r2 : List Cond := [Cond.code yX2_tenTimesAt cX2_tenTimesAt 4 (some .int), Cond.methodLink RX2 18 yX2_valueAt, Cond.static yX2_valueAt, Cond.code yX2_valueAt cX2_valueAt 2 (some .int)]
def wsL_y : List Cond := .codeWith yL_y cL_y 4 (some .int) [(0, 9, 12, 15)] :: ((wsL_y_r1 ++ wsL_y_r2) ++ wsX40 ++ wsX20 ++ (vx_atS RX4 48 "java/lang/IllegalArgumentException" ["java/lang/RuntimeException", "java/lang/Exception"]).filter goodWord)
def wsL_latitudeAt_r1 : List Cond := [Cond.classLink RL 15 "java/lang/IllegalArgumentException", Cond.classLink RL 17 "java/lang/IllegalStateException", Cond.methodLink RL 27 yX4_latitudeAt, Cond.instanceMethod yX4_latitudeAt, Cond.selects RX4 yX4_latitudeAt yX4_latitudeAt, Cond.initialized RX4, Cond.code yX4_latitudeAt cX4_latitudeAt 3 (some .int), Cond.classLink RX4 44 "java/lang/IllegalArgumentException", Cond.initialized "java/lang/IllegalArgumentException", Cond.classLink RX4 53 "java/lang/IllegalStateException", Cond.initialized "java/lang/IllegalStateException", Cond.constant RX4 76 (-99990), Cond.constant RX4 77 (99990), Cond.fieldLink RX4 10 "AtlasFolder" "map" "LAtlasFolder$MapTable;", Cond.methodLink RX4 80 yX2_greatestNotAbove, Cond.instanceMethod yX2_greatestNotAbove, Cond.selects RX2 yX2_greatestNotAbove yX2_greatestNotAbove, Cond.initialized RX2, Cond.code yX2_greatestNotAbove cX2_greatestNotAbove 3 (some .int), Cond.methodLink RX2 31 yX2_tenHeights, Cond.instanceMethod yX2_tenHeights, Cond.selects RX2 yX2_tenHeights yX2_tenHeights, Cond.code yX2_tenHeights cX2_tenHeights 3 (some .int), Cond.fieldLink RX2 15 "AtlasFolder$MapTable" "heights" "[I"]
def wsL_latitudeAt_r2 : List Cond := [Cond.methodLink RX2 22 Lib.Math.abs.name, Cond.static Lib.Math.abs.name, Cond.initialized "java/lang/Math", Cond.code Lib.Math.abs.name Lib.Math.abs.code 1 (some .int), Cond.methodLink RX2 28 yX2_tenTimesAt, Cond.static yX2_tenTimesAt, Cond.code yX2_tenTimesAt cX2_tenTimesAt 4 (some .int), Cond.methodLink RX2 18 yX2_valueAt, Cond.static yX2_valueAt, Cond.code yX2_valueAt cX2_valueAt 2 (some .int)]
def wsL_latitudeAt : List Cond := .codeWith yL_latitudeAt cL_latitudeAt 4 (some .int) [(0, 9, 12, 15), (0, 9, 15, 17)] :: ((wsL_latitudeAt_r1 ++ wsL_latitudeAt_r2) ++ wsX40 ++ wsX20 ++ (vx_atS RX4 48 "java/lang/IllegalArgumentException" ["java/lang/RuntimeException", "java/lang/Exception"]).filter goodWord ++ (vx_atS RX4 57 "java/lang/IllegalStateException" ["java/lang/RuntimeException", "java/lang/Exception"]).filter goodWord)
def wsL_area_r1 : List Cond := [Cond.classLink RL 15 "java/lang/IllegalArgumentException", Cond.methodLink RL 30 yX4_area, Cond.instanceMethod yX4_area, Cond.selects RX4 yX4_area yX4_area, Cond.initialized RX4, Cond.code yX4_area cX4_area 5 (some .long), Cond.classLink RX4 44 "java/lang/IllegalArgumentException", Cond.initialized "java/lang/IllegalArgumentException", Cond.fieldLink RX4 10 "AtlasFolder" "map" "LAtlasFolder$MapTable;", Cond.methodLink RX4 89 yX2_fieldArea, Cond.instanceMethod yX2_fieldArea, Cond.selects RX2 yX2_fieldArea yX2_fieldArea, Cond.initialized RX2, Cond.code yX2_fieldArea cX2_fieldArea 7 (some .long), Cond.methodLink RX2 34 yX2_cellArea, Cond.instanceMethod yX2_cellArea, Cond.selects RX2 yX2_cellArea yX2_cellArea, Cond.code yX2_cellArea cX2_cellArea 4 (some .long), Cond.methodLink RX2 38 yX2_tenWidths, Cond.instanceMethod yX2_tenWidths, Cond.selects RX2 yX2_tenWidths yX2_tenWidths, Cond.code yX2_tenWidths cX2_tenWidths 2 (some .int), Cond.fieldLink RX2 9 "AtlasFolder$MapTable" "widths" "[I", Cond.methodLink RX2 22 Lib.Math.abs.name]
def wsL_area_r2 : List Cond := [Cond.static Lib.Math.abs.name, Cond.initialized "java/lang/Math", Cond.code Lib.Math.abs.name Lib.Math.abs.code 1 (some .int), Cond.methodLink RX2 28 yX2_tenTimesAt, Cond.static yX2_tenTimesAt, Cond.code yX2_tenTimesAt cX2_tenTimesAt 4 (some .int), Cond.methodLink RX2 18 yX2_valueAt, Cond.static yX2_valueAt, Cond.code yX2_valueAt cX2_valueAt 2 (some .int), Cond.methodLink RX2 31 yX2_tenHeights, Cond.instanceMethod yX2_tenHeights, Cond.selects RX2 yX2_tenHeights yX2_tenHeights, Cond.code yX2_tenHeights cX2_tenHeights 3 (some .int), Cond.fieldLink RX2 15 "AtlasFolder$MapTable" "heights" "[I"]
def wsL_area : List Cond := .codeWith yL_area cL_area 7 (some .int) [(0, 13, 16, 15)] :: ((wsL_area_r1 ++ wsL_area_r2) ++ wsX40 ++ wsX20 ++ (vx_atS RX4 48 "java/lang/IllegalArgumentException" ["java/lang/RuntimeException", "java/lang/Exception"]).filter goodWord)
def wsL_areaByCells_r1 : List Cond := [Cond.classLink RL 15 "java/lang/IllegalArgumentException", Cond.methodLink RL 34 yX4_areaByCells, Cond.instanceMethod yX4_areaByCells, Cond.selects RX4 yX4_areaByCells yX4_areaByCells, Cond.initialized RX4, Cond.code yX4_areaByCells cX4_areaByCells 5 (some .long), Cond.methodLink RX4 93 yX4_area, Cond.instanceMethod yX4_area, Cond.selects RX4 yX4_area yX4_area, Cond.code yX4_area cX4_area 5 (some .long), Cond.classLink RX4 44 "java/lang/IllegalArgumentException", Cond.initialized "java/lang/IllegalArgumentException", Cond.fieldLink RX4 10 "AtlasFolder" "map" "LAtlasFolder$MapTable;", Cond.methodLink RX4 89 yX2_fieldArea, Cond.instanceMethod yX2_fieldArea, Cond.selects RX2 yX2_fieldArea yX2_fieldArea, Cond.initialized RX2, Cond.code yX2_fieldArea cX2_fieldArea 7 (some .long), Cond.methodLink RX2 34 yX2_cellArea, Cond.instanceMethod yX2_cellArea, Cond.selects RX2 yX2_cellArea yX2_cellArea, Cond.code yX2_cellArea cX2_cellArea 4 (some .long), Cond.methodLink RX2 38 yX2_tenWidths, Cond.instanceMethod yX2_tenWidths]
def wsL_areaByCells_r2 : List Cond := [Cond.selects RX2 yX2_tenWidths yX2_tenWidths, Cond.code yX2_tenWidths cX2_tenWidths 2 (some .int), Cond.fieldLink RX2 9 "AtlasFolder$MapTable" "widths" "[I", Cond.methodLink RX2 22 Lib.Math.abs.name, Cond.static Lib.Math.abs.name, Cond.initialized "java/lang/Math", Cond.code Lib.Math.abs.name Lib.Math.abs.code 1 (some .int), Cond.methodLink RX2 28 yX2_tenTimesAt, Cond.static yX2_tenTimesAt, Cond.code yX2_tenTimesAt cX2_tenTimesAt 4 (some .int), Cond.methodLink RX2 18 yX2_valueAt, Cond.static yX2_valueAt, Cond.code yX2_valueAt cX2_valueAt 2 (some .int), Cond.methodLink RX2 31 yX2_tenHeights, Cond.instanceMethod yX2_tenHeights, Cond.selects RX2 yX2_tenHeights yX2_tenHeights, Cond.code yX2_tenHeights cX2_tenHeights 3 (some .int), Cond.fieldLink RX2 15 "AtlasFolder$MapTable" "heights" "[I"]
def wsL_areaByCells : List Cond := .codeWith yL_areaByCells cL_areaByCells 7 (some .int) [(0, 13, 16, 15)] :: ((wsL_areaByCells_r1 ++ wsL_areaByCells_r2) ++ wsX40 ++ wsX20 ++ (vx_atS RX4 48 "java/lang/IllegalArgumentException" ["java/lang/RuntimeException", "java/lang/Exception"]).filter goodWord)
def wsL_truth_r1 : List Cond := [Cond.classLink RL 13 "java/lang/IndexOutOfBoundsException", Cond.classLink RL 15 "java/lang/IllegalArgumentException", Cond.methodLink RL 37 yX4_truth, Cond.instanceMethod yX4_truth, Cond.selects RX4 yX4_truth yX4_truth, Cond.initialized RX4, Cond.code yX4_truth cX4_truth 3 (some .int), Cond.classLink RX4 44 "java/lang/IllegalArgumentException", Cond.initialized "java/lang/IllegalArgumentException", Cond.constant RX4 100 (99999), Cond.fieldLink RX4 19 "AtlasFolder" "bands" "LAtlasFolder$BandTruths;", Cond.methodLink RX4 97 yX4_requireBand, Cond.static yX4_requireBand, Cond.code yX4_requireBand cX4_requireBand 1 none, Cond.classLink RX4 37 "java/lang/IndexOutOfBoundsException", Cond.initialized "java/lang/IndexOutOfBoundsException", Cond.methodLink RX4 103 yX0_replaceTruth, Cond.instanceMethod yX0_replaceTruth, Cond.selects RX0 yX0_replaceTruth yX0_replaceTruth, Cond.initialized RX0, Cond.code yX0_replaceTruth cX0_replaceTruth 4 (some .int), Cond.fieldLink RX0 9 "AtlasFolder$BandTruths" "truths" "[I", Cond.methodLink RX0 15 yX0_truthOf, Cond.instanceMethod yX0_truthOf]
def wsL_truth_r2 : List Cond := [Cond.selects RX0 yX0_truthOf yX0_truthOf, Cond.code yX0_truthOf cX0_truthOf 2 (some .int)]
def wsL_truth : List Cond := .codeWith yL_truth cL_truth 5 (some .int) [(0, 10, 13, 13), (0, 10, 17, 15)] :: ((wsL_truth_r1 ++ wsL_truth_r2) ++ wsX40 ++ wsX00 ++ (vx_atS RX4 48 "java/lang/IllegalArgumentException" ["java/lang/RuntimeException", "java/lang/Exception"]).filter goodWord ++ (vx_atS RX4 41 "java/lang/IndexOutOfBoundsException" ["java/lang/RuntimeException", "java/lang/Exception"]).filter goodWord)
def wsL_stretch_r1 : List Cond := [Cond.classLink RL 13 "java/lang/IndexOutOfBoundsException", Cond.methodLink RL 40 yX4_stretch, Cond.instanceMethod yX4_stretch, Cond.selects RX4 yX4_stretch yX4_stretch, Cond.initialized RX4, Cond.code yX4_stretch cX4_stretch 2 (some .float), Cond.fieldLink RX4 19 "AtlasFolder" "bands" "LAtlasFolder$BandTruths;", Cond.fieldLink RX4 10 "AtlasFolder" "map" "LAtlasFolder$MapTable;", Cond.methodLink RX4 97 yX4_requireBand, Cond.static yX4_requireBand, Cond.code yX4_requireBand cX4_requireBand 1 none, Cond.classLink RX4 37 "java/lang/IndexOutOfBoundsException", Cond.initialized "java/lang/IndexOutOfBoundsException", Cond.methodLink RX4 115 yX0_areaByTruth, Cond.instanceMethod yX0_areaByTruth, Cond.selects RX0 yX0_areaByTruth yX0_areaByTruth, Cond.initialized RX0, Cond.code yX0_areaByTruth cX0_areaByTruth 3 (some .float), Cond.methodLink RX0 23 yX2_bandArea, Cond.instanceMethod yX2_bandArea, Cond.selects RX2 yX2_bandArea yX2_bandArea, Cond.initialized RX2, Cond.code yX2_bandArea cX2_bandArea 6 (some .long), Cond.fieldLink RX2 9 "AtlasFolder$MapTable" "widths" "[I"]
def wsL_stretch_r2 : List Cond := [Cond.fieldLink RX2 15 "AtlasFolder$MapTable" "heights" "[I", Cond.constantLong RX2 41 (36000), Cond.methodLink RX2 18 yX2_valueAt, Cond.static yX2_valueAt, Cond.code yX2_valueAt cX2_valueAt 2 (some .int), Cond.methodLink RX0 15 yX0_truthOf, Cond.instanceMethod yX0_truthOf, Cond.selects RX0 yX0_truthOf yX0_truthOf, Cond.code yX0_truthOf cX0_truthOf 2 (some .int), Cond.fieldLink RX0 9 "AtlasFolder$BandTruths" "truths" "[I"]
def wsL_stretch : List Cond := .codeWith yL_stretch cL_stretch 4 (some .int) [(0, 9, 12, 13)] :: ((wsL_stretch_r1 ++ wsL_stretch_r2) ++ wsX40 ++ wsX20 ++ wsX00 ++ (vx_atS RX4 41 "java/lang/IndexOutOfBoundsException" ["java/lang/RuntimeException", "java/lang/Exception"]).filter goodWord)
def wsL_apart : List Cond := .codeWith yL_apart cL_apart 5 (some .int) [(0, 10, 13, 15)] :: ([.classLink RL 15 "java/lang/IllegalArgumentException", .methodLink RL 44 yX4_apart, .instanceMethod yX4_apart, .selects RX4 yX4_apart yX4_apart, .initialized RX4, .code yX4_apart cX4_apart 3 (some .int), .methodLink RX4 66 yX4_requireLongitude, .static yX4_requireLongitude, .code yX4_requireLongitude cX4_requireLongitude 1 none, .classLink RX4 44 "java/lang/IllegalArgumentException", .initialized "java/lang/IllegalArgumentException", .methodLink RX4 119 yX4_shorterWay, .static yX4_shorterWay, .code yX4_shorterWay cX4_shorterWay 3 (some .int), .methodLink RX4 198 Lib.Math.min.name, .static Lib.Math.min.name, .initialized "java/lang/Math", .code Lib.Math.min.name Lib.Math.min.code 2 (some .int), .methodLink RX4 195 yX4_degreesEast, .static yX4_degreesEast, .code yX4_degreesEast cX4_degreesEast 3 (some .int)] ++ (vx_atS RX4 48 "java/lang/IllegalArgumentException" ["java/lang/RuntimeException", "java/lang/Exception"]).filter goodWord)
def wsL_ringWay_r1 : List Cond := [Cond.classLink RL 15 "java/lang/IllegalArgumentException", Cond.methodLink RL 47 yX4_ringWay, Cond.instanceMethod yX4_ringWay, Cond.selects RX4 yX4_ringWay yX4_ringWay, Cond.initialized RX4, Cond.code yX4_ringWay cX4_ringWay 4 (some .int), Cond.fieldLink RX4 10 "AtlasFolder" "map" "LAtlasFolder$MapTable;", Cond.methodLink RX4 62 yX4_requireLatitude, Cond.static yX4_requireLatitude, Cond.code yX4_requireLatitude cX4_requireLatitude 1 none, Cond.classLink RX4 44 "java/lang/IllegalArgumentException", Cond.initialized "java/lang/IllegalArgumentException", Cond.methodLink RX4 66 yX4_requireLongitude, Cond.static yX4_requireLongitude, Cond.code yX4_requireLongitude cX4_requireLongitude 1 none, Cond.methodLink RX4 119 yX4_shorterWay, Cond.static yX4_shorterWay, Cond.code yX4_shorterWay cX4_shorterWay 3 (some .int), Cond.methodLink RX4 198 Lib.Math.min.name, Cond.static Lib.Math.min.name, Cond.initialized "java/lang/Math", Cond.code Lib.Math.min.name Lib.Math.min.code 2 (some .int), Cond.methodLink RX4 195 yX4_degreesEast, Cond.static yX4_degreesEast]
def wsL_ringWay_r2 : List Cond := [Cond.code yX4_degreesEast cX4_degreesEast 3 (some .int), Cond.methodLink RX4 69 yX2_tenWidths, Cond.instanceMethod yX2_tenWidths, Cond.selects RX2 yX2_tenWidths yX2_tenWidths, Cond.initialized RX2, Cond.code yX2_tenWidths cX2_tenWidths 2 (some .int), Cond.fieldLink RX2 9 "AtlasFolder$MapTable" "widths" "[I", Cond.methodLink RX2 22 Lib.Math.abs.name, Cond.static Lib.Math.abs.name, Cond.code Lib.Math.abs.name Lib.Math.abs.code 1 (some .int), Cond.methodLink RX2 28 yX2_tenTimesAt, Cond.static yX2_tenTimesAt, Cond.code yX2_tenTimesAt cX2_tenTimesAt 4 (some .int), Cond.methodLink RX2 18 yX2_valueAt, Cond.static yX2_valueAt, Cond.code yX2_valueAt cX2_valueAt 2 (some .int)]
def wsL_ringWay : List Cond := .codeWith yL_ringWay cL_ringWay 6 (some .int) [(0, 12, 15, 15)] :: ((wsL_ringWay_r1 ++ wsL_ringWay_r2) ++ wsX40 ++ wsX20 ++ (vx_atS RX4 48 "java/lang/IllegalArgumentException" ["java/lang/RuntimeException", "java/lang/Exception"]).filter goodWord)
def wsL_zones : List Cond := .codeWith yL_zones cL_zones 4 (some .int) [(0, 9, 12, 15)] :: ([.classLink RL 15 "java/lang/IllegalArgumentException", .methodLink RL 51 yX4_zones, .instanceMethod yX4_zones, .selects RX4 yX4_zones yX4_zones, .initialized RX4, .code yX4_zones cX4_zones 2 (some .int), .classLink RX4 44 "java/lang/IllegalArgumentException", .initialized "java/lang/IllegalArgumentException", .fieldLink RX4 26 "AtlasFolder" "ring" "LAtlasFolder$ZoneRing;", .methodLink RX4 124 yX3_replaceBreadth, .instanceMethod yX3_replaceBreadth, .selects RX3 yX3_replaceBreadth yX3_replaceBreadth, .initialized RX3, .code yX3_replaceBreadth cX3_replaceBreadth 3 (some .int), .fieldLink RX3 9 "AtlasFolder$ZoneRing" "breadth" "I"] ++ wsX40 ++ wsX30 ++ (vx_atS RX4 48 "java/lang/IllegalArgumentException" ["java/lang/RuntimeException", "java/lang/Exception"]).filter goodWord)
def wsL_zone : List Cond := .codeWith yL_zone cL_zone 4 (some .int) [(0, 9, 12, 15)] :: ([.classLink RL 15 "java/lang/IllegalArgumentException", .methodLink RL 54 yX4_zone, .instanceMethod yX4_zone, .selects RX4 yX4_zone yX4_zone, .initialized RX4, .code yX4_zone cX4_zone 2 (some .int), .fieldLink RX4 26 "AtlasFolder" "ring" "LAtlasFolder$ZoneRing;", .methodLink RX4 66 yX4_requireLongitude, .static yX4_requireLongitude, .code yX4_requireLongitude cX4_requireLongitude 1 none, .classLink RX4 44 "java/lang/IllegalArgumentException", .initialized "java/lang/IllegalArgumentException", .methodLink RX4 127 yX3_zonesBefore, .instanceMethod yX3_zonesBefore, .selects RX3 yX3_zonesBefore yX3_zonesBefore, .initialized RX3, .code yX3_zonesBefore cX3_zonesBefore 2 (some .int), .fieldLink RX3 9 "AtlasFolder$ZoneRing" "breadth" "I"] ++ wsX40 ++ wsX30 ++ (vx_atS RX4 48 "java/lang/IllegalArgumentException" ["java/lang/RuntimeException", "java/lang/Exception"]).filter goodWord)
def wsL_seams_r1 : List Cond := [Cond.classLink RL 15 "java/lang/IllegalArgumentException", Cond.methodLink RL 57 yX4_seams, Cond.instanceMethod yX4_seams, Cond.selects RX4 yX4_seams yX4_seams, Cond.initialized RX4, Cond.code yX4_seams cX4_seams 4 (some .int), Cond.fieldLink RX4 26 "AtlasFolder" "ring" "LAtlasFolder$ZoneRing;", Cond.methodLink RX4 66 yX4_requireLongitude, Cond.static yX4_requireLongitude, Cond.code yX4_requireLongitude cX4_requireLongitude 1 none, Cond.classLink RX4 44 "java/lang/IllegalArgumentException", Cond.initialized "java/lang/IllegalArgumentException", Cond.methodLink RX4 130 yX4_goesEast, Cond.static yX4_goesEast, Cond.code yX4_goesEast cX4_goesEast 2 (some .boolean), Cond.methodLink RX4 195 yX4_degreesEast, Cond.static yX4_degreesEast, Cond.code yX4_degreesEast cX4_degreesEast 3 (some .int), Cond.methodLink RX4 119 yX4_shorterWay, Cond.static yX4_shorterWay, Cond.code yX4_shorterWay cX4_shorterWay 3 (some .int), Cond.methodLink RX4 198 Lib.Math.min.name, Cond.static Lib.Math.min.name, Cond.initialized "java/lang/Math"]
def wsL_seams_r2 : List Cond := [Cond.code Lib.Math.min.name Lib.Math.min.code 2 (some .int), Cond.methodLink RX4 133 yX3_seamsEastOf, Cond.instanceMethod yX3_seamsEastOf, Cond.selects RX3 yX3_seamsEastOf yX3_seamsEastOf, Cond.initialized RX3, Cond.code yX3_seamsEastOf cX3_seamsEastOf 3 (some .int), Cond.methodLink RX3 15 yX3_zonesBefore, Cond.instanceMethod yX3_zonesBefore, Cond.selects RX3 yX3_zonesBefore yX3_zonesBefore, Cond.code yX3_zonesBefore cX3_zonesBefore 2 (some .int), Cond.fieldLink RX3 9 "AtlasFolder$ZoneRing" "breadth" "I"]
def wsL_seams : List Cond := .codeWith yL_seams cL_seams 5 (some .int) [(0, 10, 13, 15)] :: ((wsL_seams_r1 ++ wsL_seams_r2) ++ wsX40 ++ wsX30 ++ (vx_atS RX4 48 "java/lang/IllegalArgumentException" ["java/lang/RuntimeException", "java/lang/Exception"]).filter goodWord)
def wsL_dateLine : List Cond := .codeWith yL_dateLine cL_dateLine 5 (some .int) [(0, 10, 13, 15)] :: ([.classLink RL 15 "java/lang/IllegalArgumentException", .methodLink RL 60 yX4_dateLine, .instanceMethod yX4_dateLine, .selects RX4 yX4_dateLine yX4_dateLine, .initialized RX4, .code yX4_dateLine cX4_dateLine 3 (some .int), .methodLink RX4 66 yX4_requireLongitude, .static yX4_requireLongitude, .code yX4_requireLongitude cX4_requireLongitude 1 none, .classLink RX4 44 "java/lang/IllegalArgumentException", .initialized "java/lang/IllegalArgumentException", .methodLink RX4 130 yX4_goesEast, .static yX4_goesEast, .code yX4_goesEast cX4_goesEast 2 (some .boolean), .methodLink RX4 195 yX4_degreesEast, .static yX4_degreesEast, .code yX4_degreesEast cX4_degreesEast 3 (some .int)] ++ (vx_atS RX4 48 "java/lang/IllegalArgumentException" ["java/lang/RuntimeException", "java/lang/Exception"]).filter goodWord)
def wsL_sheet_r1 : List Cond := [Cond.classLink RL 15 "java/lang/IllegalArgumentException", Cond.methodLink RL 63 yX4_sheet, Cond.instanceMethod yX4_sheet, Cond.selects RX4 yX4_sheet yX4_sheet, Cond.initialized RX4, Cond.code yX4_sheet cX4_sheet 3 none, Cond.classLink RX4 44 "java/lang/IllegalArgumentException", Cond.initialized "java/lang/IllegalArgumentException", Cond.fieldLink RX4 33 "AtlasFolder" "stack" "LAtlasFolder$FoldedSheet;", Cond.methodLink RX4 138 yX1_layOut, Cond.instanceMethod yX1_layOut, Cond.selects RX1 yX1_layOut yX1_layOut, Cond.initialized RX1, Cond.code yX1_layOut cX1_layOut 3 none, Cond.fieldLink RX1 29 "AtlasFolder$FoldedSheet" "columns" "I", Cond.fieldLink RX1 33 "AtlasFolder$FoldedSheet" "rows" "I", Cond.methodLink RX1 36 yX1_spread, Cond.instanceMethod yX1_spread, Cond.selects RX1 yX1_spread yX1_spread, Cond.code yX1_spread cX1_spread 4 (some .int), Cond.fieldLink RX1 9 "AtlasFolder$FoldedSheet" "columnPlaces" "[I", Cond.fieldLink RX1 15 "AtlasFolder$FoldedSheet" "rowPlaces" "[I", Cond.fieldLink RX1 18 "AtlasFolder$FoldedSheet" "layers" "[I", Cond.fieldLink RX1 21 "AtlasFolder$FoldedSheet" "faceUp" "[Z"]
def wsL_sheet_r2 : List Cond := [Cond.fieldLink RX1 44 "AtlasFolder$FoldedSheet" "folds" "I", Cond.methodLink RX1 40 yX1_number, Cond.instanceMethod yX1_number, Cond.selects RX1 yX1_number yX1_number, Cond.code yX1_number cX1_number 3 (some .int)]
def wsL_sheet : List Cond := .codeWith yL_sheet cL_sheet 4 (some .int) [(0, 6, 9, 15)] :: ((wsL_sheet_r1 ++ wsL_sheet_r2) ++ wsX40 ++ wsX10 ++ (vx_atS RX4 48 "java/lang/IllegalArgumentException" ["java/lang/RuntimeException", "java/lang/Exception"]).filter goodWord)
def wsL_foldColumns_r1 : List Cond := [Cond.classLink RL 17 "java/lang/IllegalStateException", Cond.methodLink RL 67 yX4_foldColumns, Cond.instanceMethod yX4_foldColumns, Cond.selects RX4 yX4_foldColumns yX4_foldColumns, Cond.initialized RX4, Cond.code yX4_foldColumns cX4_foldColumns 2 (some .int), Cond.fieldLink RX4 33 "AtlasFolder" "stack" "LAtlasFolder$FoldedSheet;", Cond.methodLink RX4 142 yX1_turnOverColumns, Cond.instanceMethod yX1_turnOverColumns, Cond.selects RX1 yX1_turnOverColumns yX1_turnOverColumns, Cond.initialized RX1, Cond.code yX1_turnOverColumns cX1_turnOverColumns 2 (some .int), Cond.fieldLink RX1 9 "AtlasFolder$FoldedSheet" "columnPlaces" "[I", Cond.methodLink RX1 60 yX1_turnOver, Cond.instanceMethod yX1_turnOver, Cond.selects RX1 yX1_turnOver yX1_turnOver, Cond.code yX1_turnOver cX1_turnOver 6 (some .int), Cond.fieldLink RX1 18 "AtlasFolder$FoldedSheet" "layers" "[I", Cond.fieldLink RX1 21 "AtlasFolder$FoldedSheet" "faceUp" "[Z", Cond.fieldLink RX1 44 "AtlasFolder$FoldedSheet" "folds" "I", Cond.methodLink RX1 70 yX1_placesBelow, Cond.instanceMethod yX1_placesBelow, Cond.selects RX1 yX1_placesBelow yX1_placesBelow, Cond.code yX1_placesBelow cX1_placesBelow 5 (some .int)]
def wsL_foldColumns_r2 : List Cond := [Cond.methodLink RX1 64 yX1_panels, Cond.instanceMethod yX1_panels, Cond.selects RX1 yX1_panels yX1_panels, Cond.code yX1_panels cX1_panels 1 (some .int), Cond.fieldLink RX1 29 "AtlasFolder$FoldedSheet" "columns" "I", Cond.fieldLink RX1 33 "AtlasFolder$FoldedSheet" "rows" "I", Cond.methodLink RX1 73 yX1_highestLayer, Cond.instanceMethod yX1_highestLayer, Cond.selects RX1 yX1_highestLayer yX1_highestLayer, Cond.code yX1_highestLayer cX1_highestLayer 3 (some .int), Cond.methodLink RX1 67 Lib.Math.max.name, Cond.static Lib.Math.max.name, Cond.initialized "java/lang/Math", Cond.code Lib.Math.max.name Lib.Math.max.code 2 (some .int), Cond.methodLink RX4 145 yX4_someTurned, Cond.static yX4_someTurned, Cond.code yX4_someTurned cX4_someTurned 1 (some .int), Cond.classLink RX4 53 "java/lang/IllegalStateException", Cond.initialized "java/lang/IllegalStateException"]
def wsL_foldColumns : List Cond := .codeWith yL_foldColumns cL_foldColumns 4 (some .int) [(0, 9, 12, 17)] :: ((wsL_foldColumns_r1 ++ wsL_foldColumns_r2) ++ wsX40 ++ wsX10 ++ (vx_atS RX4 57 "java/lang/IllegalStateException" ["java/lang/RuntimeException", "java/lang/Exception"]).filter goodWord)
def wsL_foldRows_r1 : List Cond := [Cond.classLink RL 17 "java/lang/IllegalStateException", Cond.methodLink RL 70 yX4_foldRows, Cond.instanceMethod yX4_foldRows, Cond.selects RX4 yX4_foldRows yX4_foldRows, Cond.initialized RX4, Cond.code yX4_foldRows cX4_foldRows 2 (some .int), Cond.fieldLink RX4 33 "AtlasFolder" "stack" "LAtlasFolder$FoldedSheet;", Cond.methodLink RX4 148 yX1_turnOverRows, Cond.instanceMethod yX1_turnOverRows, Cond.selects RX1 yX1_turnOverRows yX1_turnOverRows, Cond.initialized RX1, Cond.code yX1_turnOverRows cX1_turnOverRows 2 (some .int), Cond.fieldLink RX1 15 "AtlasFolder$FoldedSheet" "rowPlaces" "[I", Cond.methodLink RX1 60 yX1_turnOver, Cond.instanceMethod yX1_turnOver, Cond.selects RX1 yX1_turnOver yX1_turnOver, Cond.code yX1_turnOver cX1_turnOver 6 (some .int), Cond.fieldLink RX1 18 "AtlasFolder$FoldedSheet" "layers" "[I", Cond.fieldLink RX1 21 "AtlasFolder$FoldedSheet" "faceUp" "[Z", Cond.fieldLink RX1 44 "AtlasFolder$FoldedSheet" "folds" "I", Cond.methodLink RX1 70 yX1_placesBelow, Cond.instanceMethod yX1_placesBelow, Cond.selects RX1 yX1_placesBelow yX1_placesBelow, Cond.code yX1_placesBelow cX1_placesBelow 5 (some .int)]
def wsL_foldRows_r2 : List Cond := [Cond.methodLink RX1 64 yX1_panels, Cond.instanceMethod yX1_panels, Cond.selects RX1 yX1_panels yX1_panels, Cond.code yX1_panels cX1_panels 1 (some .int), Cond.fieldLink RX1 29 "AtlasFolder$FoldedSheet" "columns" "I", Cond.fieldLink RX1 33 "AtlasFolder$FoldedSheet" "rows" "I", Cond.methodLink RX1 73 yX1_highestLayer, Cond.instanceMethod yX1_highestLayer, Cond.selects RX1 yX1_highestLayer yX1_highestLayer, Cond.code yX1_highestLayer cX1_highestLayer 3 (some .int), Cond.methodLink RX1 67 Lib.Math.max.name, Cond.static Lib.Math.max.name, Cond.initialized "java/lang/Math", Cond.code Lib.Math.max.name Lib.Math.max.code 2 (some .int), Cond.methodLink RX4 145 yX4_someTurned, Cond.static yX4_someTurned, Cond.code yX4_someTurned cX4_someTurned 1 (some .int), Cond.classLink RX4 53 "java/lang/IllegalStateException", Cond.initialized "java/lang/IllegalStateException"]
def wsL_foldRows : List Cond := .codeWith yL_foldRows cL_foldRows 4 (some .int) [(0, 9, 12, 17)] :: ((wsL_foldRows_r1 ++ wsL_foldRows_r2) ++ wsX40 ++ wsX10 ++ (vx_atS RX4 57 "java/lang/IllegalStateException" ["java/lang/RuntimeException", "java/lang/Exception"]).filter goodWord)
def wsL_panel_r1 : List Cond := [Cond.classLink RL 15 "java/lang/IllegalArgumentException", Cond.methodLink RL 73 yX4_panel, Cond.instanceMethod yX4_panel, Cond.selects RX4 yX4_panel yX4_panel, Cond.initialized RX4, Cond.code yX4_panel cX4_panel 3 (some .int), Cond.fieldLink RX4 33 "AtlasFolder" "stack" "LAtlasFolder$FoldedSheet;", Cond.methodLink RX4 62 yX4_requireLatitude, Cond.static yX4_requireLatitude, Cond.code yX4_requireLatitude cX4_requireLatitude 1 none, Cond.classLink RX4 44 "java/lang/IllegalArgumentException", Cond.initialized "java/lang/IllegalArgumentException", Cond.methodLink RX4 66 yX4_requireLongitude, Cond.static yX4_requireLongitude, Cond.code yX4_requireLongitude cX4_requireLongitude 1 none, Cond.methodLink RX4 155 yX1_columnOf, Cond.instanceMethod yX1_columnOf, Cond.selects RX1 yX1_columnOf yX1_columnOf, Cond.initialized RX1, Cond.code yX1_columnOf cX1_columnOf 2 (some .int), Cond.fieldLink RX1 29 "AtlasFolder$FoldedSheet" "columns" "I", Cond.methodLink RX4 158 yX1_rowOf, Cond.instanceMethod yX1_rowOf, Cond.selects RX1 yX1_rowOf yX1_rowOf]
def wsL_panel_r2 : List Cond := [Cond.code yX1_rowOf cX1_rowOf 2 (some .int), Cond.fieldLink RX1 33 "AtlasFolder$FoldedSheet" "rows" "I", Cond.methodLink RX1 47 Lib.Math.min.name, Cond.static Lib.Math.min.name, Cond.initialized "java/lang/Math", Cond.code Lib.Math.min.name Lib.Math.min.code 2 (some .int)]
def wsL_panel : List Cond := .codeWith yL_panel cL_panel 5 (some .int) [(0, 10, 13, 15)] :: ((wsL_panel_r1 ++ wsL_panel_r2) ++ wsX40 ++ wsX10 ++ (vx_atS RX4 48 "java/lang/IllegalArgumentException" ["java/lang/RuntimeException", "java/lang/Exception"]).filter goodWord)
def wsL_placeX_r1 : List Cond := [Cond.classLink RL 13 "java/lang/IndexOutOfBoundsException", Cond.methodLink RL 76 yX4_placeX, Cond.instanceMethod yX4_placeX, Cond.selects RX4 yX4_placeX yX4_placeX, Cond.initialized RX4, Cond.code yX4_placeX cX4_placeX 3 (some .int), Cond.fieldLink RX4 33 "AtlasFolder" "stack" "LAtlasFolder$FoldedSheet;", Cond.methodLink RX4 161 yX4_requirePanel, Cond.instanceMethod yX4_requirePanel, Cond.selects RX4 yX4_requirePanel yX4_requirePanel, Cond.code yX4_requirePanel cX4_requirePanel 3 none, Cond.classLink RX4 37 "java/lang/IndexOutOfBoundsException", Cond.initialized "java/lang/IndexOutOfBoundsException", Cond.methodLink RX4 188 yX1_hasPanel, Cond.instanceMethod yX1_hasPanel, Cond.selects RX1 yX1_hasPanel yX1_hasPanel, Cond.initialized RX1, Cond.code yX1_hasPanel cX1_hasPanel 3 (some .boolean), Cond.fieldLink RX1 29 "AtlasFolder$FoldedSheet" "columns" "I", Cond.fieldLink RX1 33 "AtlasFolder$FoldedSheet" "rows" "I", Cond.methodLink RX4 164 yX1_columnPlace, Cond.instanceMethod yX1_columnPlace, Cond.selects RX1 yX1_columnPlace yX1_columnPlace, Cond.code yX1_columnPlace cX1_columnPlace 3 (some .int)]
def wsL_placeX_r2 : List Cond := [Cond.fieldLink RX1 9 "AtlasFolder$FoldedSheet" "columnPlaces" "[I", Cond.methodLink RX1 52 yX1_hasPanel, Cond.methodLink RX1 40 yX1_number, Cond.instanceMethod yX1_number, Cond.selects RX1 yX1_number yX1_number, Cond.code yX1_number cX1_number 3 (some .int)]
def wsL_placeX : List Cond := .codeWith yL_placeX cL_placeX 5 (some .int) [(0, 10, 13, 13)] :: ((wsL_placeX_r1 ++ wsL_placeX_r2) ++ wsX40 ++ wsX10 ++ (vx_atS RX4 41 "java/lang/IndexOutOfBoundsException" ["java/lang/RuntimeException", "java/lang/Exception"]).filter goodWord)
def wsL_placeY_r1 : List Cond := [Cond.classLink RL 13 "java/lang/IndexOutOfBoundsException", Cond.methodLink RL 79 yX4_placeY, Cond.instanceMethod yX4_placeY, Cond.selects RX4 yX4_placeY yX4_placeY, Cond.initialized RX4, Cond.code yX4_placeY cX4_placeY 3 (some .int), Cond.fieldLink RX4 33 "AtlasFolder" "stack" "LAtlasFolder$FoldedSheet;", Cond.methodLink RX4 161 yX4_requirePanel, Cond.instanceMethod yX4_requirePanel, Cond.selects RX4 yX4_requirePanel yX4_requirePanel, Cond.code yX4_requirePanel cX4_requirePanel 3 none, Cond.classLink RX4 37 "java/lang/IndexOutOfBoundsException", Cond.initialized "java/lang/IndexOutOfBoundsException", Cond.methodLink RX4 188 yX1_hasPanel, Cond.instanceMethod yX1_hasPanel, Cond.selects RX1 yX1_hasPanel yX1_hasPanel, Cond.initialized RX1, Cond.code yX1_hasPanel cX1_hasPanel 3 (some .boolean), Cond.fieldLink RX1 29 "AtlasFolder$FoldedSheet" "columns" "I", Cond.fieldLink RX1 33 "AtlasFolder$FoldedSheet" "rows" "I", Cond.methodLink RX4 167 yX1_rowPlace, Cond.instanceMethod yX1_rowPlace, Cond.selects RX1 yX1_rowPlace yX1_rowPlace, Cond.code yX1_rowPlace cX1_rowPlace 3 (some .int)]
def wsL_placeY_r2 : List Cond := [Cond.fieldLink RX1 15 "AtlasFolder$FoldedSheet" "rowPlaces" "[I", Cond.methodLink RX1 52 yX1_hasPanel, Cond.methodLink RX1 40 yX1_number, Cond.instanceMethod yX1_number, Cond.selects RX1 yX1_number yX1_number, Cond.code yX1_number cX1_number 3 (some .int)]
def wsL_placeY : List Cond := .codeWith yL_placeY cL_placeY 5 (some .int) [(0, 10, 13, 13)] :: ((wsL_placeY_r1 ++ wsL_placeY_r2) ++ wsX40 ++ wsX10 ++ (vx_atS RX4 41 "java/lang/IndexOutOfBoundsException" ["java/lang/RuntimeException", "java/lang/Exception"]).filter goodWord)
def wsL_above_r1 : List Cond := [Cond.classLink RL 13 "java/lang/IndexOutOfBoundsException", Cond.methodLink RL 82 yX4_above, Cond.instanceMethod yX4_above, Cond.selects RX4 yX4_above yX4_above, Cond.initialized RX4, Cond.code yX4_above cX4_above 3 (some .int), Cond.fieldLink RX4 33 "AtlasFolder" "stack" "LAtlasFolder$FoldedSheet;", Cond.methodLink RX4 161 yX4_requirePanel, Cond.instanceMethod yX4_requirePanel, Cond.selects RX4 yX4_requirePanel yX4_requirePanel, Cond.code yX4_requirePanel cX4_requirePanel 3 none, Cond.classLink RX4 37 "java/lang/IndexOutOfBoundsException", Cond.initialized "java/lang/IndexOutOfBoundsException", Cond.methodLink RX4 188 yX1_hasPanel, Cond.instanceMethod yX1_hasPanel, Cond.selects RX1 yX1_hasPanel yX1_hasPanel, Cond.initialized RX1, Cond.code yX1_hasPanel cX1_hasPanel 3 (some .boolean), Cond.fieldLink RX1 29 "AtlasFolder$FoldedSheet" "columns" "I", Cond.fieldLink RX1 33 "AtlasFolder$FoldedSheet" "rows" "I", Cond.methodLink RX4 170 yX1_panelsAbove, Cond.instanceMethod yX1_panelsAbove, Cond.selects RX1 yX1_panelsAbove yX1_panelsAbove, Cond.code yX1_panelsAbove cX1_panelsAbove 3 (some .int)]
def wsL_above_r2 : List Cond := [Cond.methodLink RX1 52 yX1_hasPanel, Cond.methodLink RX1 40 yX1_number, Cond.instanceMethod yX1_number, Cond.selects RX1 yX1_number yX1_number, Cond.code yX1_number cX1_number 3 (some .int), Cond.methodLink RX1 56 yX1_higherThan, Cond.instanceMethod yX1_higherThan, Cond.selects RX1 yX1_higherThan yX1_higherThan, Cond.code yX1_higherThan cX1_higherThan 4 (some .int), Cond.fieldLink RX1 9 "AtlasFolder$FoldedSheet" "columnPlaces" "[I", Cond.fieldLink RX1 15 "AtlasFolder$FoldedSheet" "rowPlaces" "[I", Cond.fieldLink RX1 18 "AtlasFolder$FoldedSheet" "layers" "[I", Cond.methodLink RX1 64 yX1_panels, Cond.instanceMethod yX1_panels, Cond.selects RX1 yX1_panels yX1_panels, Cond.code yX1_panels cX1_panels 1 (some .int)]
def wsL_above : List Cond := .codeWith yL_above cL_above 5 (some .int) [(0, 10, 13, 13)] :: ((wsL_above_r1 ++ wsL_above_r2) ++ wsX40 ++ wsX10 ++ (vx_atS RX4 41 "java/lang/IndexOutOfBoundsException" ["java/lang/RuntimeException", "java/lang/Exception"]).filter goodWord)
def wsL_isUp_r1 : List Cond := [Cond.classLink RL 13 "java/lang/IndexOutOfBoundsException", Cond.methodLink RL 85 yX4_isUp, Cond.instanceMethod yX4_isUp, Cond.selects RX4 yX4_isUp yX4_isUp, Cond.initialized RX4, Cond.code yX4_isUp cX4_isUp 3 (some .boolean), Cond.fieldLink RX4 33 "AtlasFolder" "stack" "LAtlasFolder$FoldedSheet;", Cond.methodLink RX4 161 yX4_requirePanel, Cond.instanceMethod yX4_requirePanel, Cond.selects RX4 yX4_requirePanel yX4_requirePanel, Cond.code yX4_requirePanel cX4_requirePanel 3 none, Cond.classLink RX4 37 "java/lang/IndexOutOfBoundsException", Cond.initialized "java/lang/IndexOutOfBoundsException", Cond.methodLink RX4 188 yX1_hasPanel, Cond.instanceMethod yX1_hasPanel, Cond.selects RX1 yX1_hasPanel yX1_hasPanel, Cond.initialized RX1, Cond.code yX1_hasPanel cX1_hasPanel 3 (some .boolean), Cond.fieldLink RX1 29 "AtlasFolder$FoldedSheet" "columns" "I", Cond.fieldLink RX1 33 "AtlasFolder$FoldedSheet" "rows" "I", Cond.methodLink RX4 173 yX1_liesFaceUp, Cond.instanceMethod yX1_liesFaceUp, Cond.selects RX1 yX1_liesFaceUp yX1_liesFaceUp, Cond.code yX1_liesFaceUp cX1_liesFaceUp 3 (some .boolean)]
def wsL_isUp_r2 : List Cond := [Cond.fieldLink RX1 21 "AtlasFolder$FoldedSheet" "faceUp" "[Z", Cond.methodLink RX1 52 yX1_hasPanel, Cond.methodLink RX1 40 yX1_number, Cond.instanceMethod yX1_number, Cond.selects RX1 yX1_number yX1_number, Cond.code yX1_number cX1_number 3 (some .int)]
def wsL_isUp : List Cond := .codeWith yL_isUp cL_isUp 5 (some .int) [(0, 17, 20, 13)] :: ((wsL_isUp_r1 ++ wsL_isUp_r2) ++ wsX40 ++ wsX10 ++ (vx_atS RX4 41 "java/lang/IndexOutOfBoundsException" ["java/lang/RuntimeException", "java/lang/Exception"]).filter goodWord)
def wsL_law0_r1 : List Cond := [Cond.classLink RL 8 RX4, Cond.instantiable RX4 4, Cond.initialized RX4, Cond.classLink RL 90 RX5, Cond.instantiable RX5 12, Cond.initialized RX5, Cond.arrayClass .long, Cond.arrayClass .double, Cond.methodLink RL 89 yX4_init, Cond.instanceMethod yX4_init, Cond.code yX4_init cX4_init 1 none, Cond.methodLink RX4 1 objectInit, Cond.instanceMethod objectInit, Cond.code objectInit ⟨#[0xb1]⟩ 1 none, Cond.classLink RX4 7 RX2, Cond.instantiable RX2 2, Cond.initialized RX2, Cond.fieldLink RX4 10 "AtlasFolder" "map" "LAtlasFolder$MapTable;", Cond.classLink RX4 16 RX0, Cond.instantiable RX0 1, Cond.initialized RX0, Cond.fieldLink RX4 19 "AtlasFolder" "bands" "LAtlasFolder$BandTruths;", Cond.classLink RX4 23 RX3, Cond.instantiable RX3 1]
def wsL_law0_r2 : List Cond := [Cond.initialized RX3, Cond.fieldLink RX4 26 "AtlasFolder" "ring" "LAtlasFolder$ZoneRing;", Cond.classLink RX4 30 RX1, Cond.instantiable RX1 7, Cond.initialized RX1, Cond.fieldLink RX4 33 "AtlasFolder" "stack" "LAtlasFolder$FoldedSheet;", Cond.methodLink RX4 9 yX2_init, Cond.instanceMethod yX2_init, Cond.code yX2_init cX2_init 2 none, Cond.methodLink RX2 3 objectInit, Cond.arrayClass .int, Cond.fieldLink RX2 9 "AtlasFolder$MapTable" "widths" "[I", Cond.fieldLink RX2 15 "AtlasFolder$MapTable" "heights" "[I", Cond.methodLink RX4 18 yX0_init, Cond.instanceMethod yX0_init, Cond.code yX0_init cX0_init 2 none, Cond.methodLink RX0 3 objectInit, Cond.fieldLink RX0 9 "AtlasFolder$BandTruths" "truths" "[I", Cond.methodLink RX4 25 yX3_init, Cond.instanceMethod yX3_init, Cond.code yX3_init cX3_init 1 none, Cond.methodLink RX3 3 objectInit, Cond.fieldLink RX3 9 "AtlasFolder$ZoneRing" "breadth" "I", Cond.methodLink RX4 32 yX1_init]
def wsL_law0_r3 : List Cond := [Cond.instanceMethod yX1_init, Cond.code yX1_init cX1_init 2 none, Cond.methodLink RX1 3 objectInit, Cond.fieldLink RX1 9 "AtlasFolder$FoldedSheet" "columnPlaces" "[I", Cond.fieldLink RX1 15 "AtlasFolder$FoldedSheet" "rowPlaces" "[I", Cond.fieldLink RX1 18 "AtlasFolder$FoldedSheet" "layers" "[I", Cond.arrayClass .boolean, Cond.fieldLink RX1 21 "AtlasFolder$FoldedSheet" "faceUp" "[Z", Cond.methodLink RX1 25 yX1_layOut, Cond.instanceMethod yX1_layOut, Cond.selects RX1 yX1_layOut yX1_layOut, Cond.code yX1_layOut cX1_layOut 3 none, Cond.fieldLink RX1 29 "AtlasFolder$FoldedSheet" "columns" "I", Cond.fieldLink RX1 33 "AtlasFolder$FoldedSheet" "rows" "I", Cond.methodLink RX1 36 yX1_spread, Cond.instanceMethod yX1_spread, Cond.selects RX1 yX1_spread yX1_spread, Cond.code yX1_spread cX1_spread 4 (some .int), Cond.fieldLink RX1 44 "AtlasFolder$FoldedSheet" "folds" "I", Cond.methodLink RX1 40 yX1_number, Cond.instanceMethod yX1_number, Cond.selects RX1 yX1_number yX1_number, Cond.code yX1_number cX1_number 3 (some .int), Cond.methodLink RL 92 yX5_init]
def wsL_law0_r4 : List Cond := [Cond.instanceMethod yX5_init, Cond.code yX5_init cX5_init 2 none, Cond.methodLink RX5 1 objectInit, Cond.fieldLink RX5 7 "AtlasFolderModel" "width" "[I", Cond.fieldLink RX5 13 "AtlasFolderModel" "height" "[I", Cond.fieldLink RX5 16 "AtlasFolderModel" "truth" "[I", Cond.fieldLink RX5 19 "AtlasFolderModel" "breadth" "I", Cond.fieldLink RX5 23 "AtlasFolderModel" "atX" "[I", Cond.fieldLink RX5 26 "AtlasFolderModel" "atY" "[I", Cond.fieldLink RX5 29 "AtlasFolderModel" "layer" "[I", Cond.fieldLink RX5 32 "AtlasFolderModel" "up" "[Z", Cond.fieldLink RX5 36 "AtlasFolderModel" "columns" "I", Cond.fieldLink RX5 39 "AtlasFolderModel" "rows" "I", Cond.methodLink RX5 42 yX5_lay, Cond.instanceMethod yX5_lay, Cond.selects RX5 yX5_lay yX5_lay, Cond.code yX5_lay cX5_lay 2 none, Cond.fieldLink RX5 106 "AtlasFolderModel" "folds" "I", Cond.methodLink RL 93 yL_table, Cond.static yL_table, Cond.initialized RL, Cond.codeWith yL_table cL_table 5 (some .int) [(0, 7, 10, 13), (0, 7, 14, 15), (0, 7, 18, 17)], Cond.classLink RL 13 "java/lang/IndexOutOfBoundsException", Cond.classLink RL 15 "java/lang/IllegalArgumentException"]
def wsL_law0_r5 : List Cond := [Cond.classLink RL 17 "java/lang/IllegalStateException", Cond.methodLink RL 7 yX4_table, Cond.instanceMethod yX4_table, Cond.selects RX4 yX4_table yX4_table, Cond.code yX4_table cX4_table 4 none, Cond.classLink RX4 37 "java/lang/IndexOutOfBoundsException", Cond.initialized "java/lang/IndexOutOfBoundsException", Cond.classLink RX4 44 "java/lang/IllegalArgumentException", Cond.initialized "java/lang/IllegalArgumentException", Cond.classLink RX4 53 "java/lang/IllegalStateException", Cond.initialized "java/lang/IllegalStateException", Cond.methodLink RX4 49 yX2_wouldRise, Cond.instanceMethod yX2_wouldRise, Cond.selects RX2 yX2_wouldRise yX2_wouldRise, Cond.code yX2_wouldRise cX2_wouldRise 3 (some .boolean), Cond.methodLink RX2 18 yX2_valueAt, Cond.static yX2_valueAt, Cond.code yX2_valueAt cX2_valueAt 2 (some .int), Cond.methodLink RX4 58 yX2_setRow, Cond.instanceMethod yX2_setRow, Cond.selects RX2 yX2_setRow yX2_setRow, Cond.code yX2_setRow cX2_setRow 4 none, Cond.methodLink RL 98 yX5_table, Cond.instanceMethod yX5_table]
def wsL_law0_r6 : List Cond := [Cond.selects RX5 yX5_table yX5_table, Cond.code yX5_table cX5_table 7 none, Cond.methodLink RX5 48 yX5_mayAll, Cond.instanceMethod yX5_mayAll, Cond.selects RX5 yX5_mayAll yX5_mayAll, Cond.code yX5_mayAll cX5_mayAll 4 (some .boolean), Cond.fieldLink RX5 45 "AtlasFolderModel" "thrown" "I", Cond.methodLink RL 99 yX5_thrown, Cond.instanceMethod yX5_thrown, Cond.selects RX5 yX5_thrown yX5_thrown, Cond.code yX5_thrown cX5_thrown 1 (some .int), Cond.methodLink RL 103 yL_x, Cond.static yL_x, Cond.codeWith yL_x cL_x 5 (some .int) [(0, 10, 13, 15)], Cond.methodLink RL 19 yX4_x, Cond.instanceMethod yX4_x, Cond.selects RX4 yX4_x yX4_x, Cond.code yX4_x cX4_x 3 (some .int), Cond.methodLink RX4 62 yX4_requireLatitude, Cond.static yX4_requireLatitude, Cond.code yX4_requireLatitude cX4_requireLatitude 1 none, Cond.methodLink RX4 66 yX4_requireLongitude, Cond.static yX4_requireLongitude, Cond.code yX4_requireLongitude cX4_requireLongitude 1 none]
def wsL_law0_r7 : List Cond := [Cond.methodLink RX4 69 yX2_tenWidths, Cond.instanceMethod yX2_tenWidths, Cond.selects RX2 yX2_tenWidths yX2_tenWidths, Cond.code yX2_tenWidths cX2_tenWidths 2 (some .int), Cond.methodLink RX2 22 Lib.Math.abs.name, Cond.static Lib.Math.abs.name, Cond.initialized "java/lang/Math", Cond.code Lib.Math.abs.name Lib.Math.abs.code 1 (some .int), Cond.methodLink RX2 28 yX2_tenTimesAt, Cond.static yX2_tenTimesAt, Cond.code yX2_tenTimesAt cX2_tenTimesAt 4 (some .int), Cond.methodLink RL 106 yX5_x, Cond.instanceMethod yX5_x, Cond.selects RX5 yX5_x yX5_x, Cond.code yX5_x cX5_x 3 (some .int), Cond.methodLink RX5 52 yX5_isLatitude, Cond.static yX5_isLatitude, Cond.code yX5_isLatitude cX5_isLatitude 1 (some .boolean), Cond.methodLink RX5 56 yX5_isLongitude, Cond.static yX5_isLongitude, Cond.code yX5_isLongitude cX5_isLongitude 1 (some .boolean), Cond.methodLink RX5 59 yX5_may, Cond.instanceMethod yX5_may, Cond.selects RX5 yX5_may yX5_may]
def wsL_law0_r8 : List Cond := [Cond.code yX5_may cX5_may 2 (some .boolean), Cond.methodLink RX5 63 yX5_wide, Cond.instanceMethod yX5_wide, Cond.selects RX5 yX5_wide yX5_wide, Cond.code yX5_wide cX5_wide 5 (some .int), Cond.methodLink RL 107 yL_y, Cond.static yL_y, Cond.codeWith yL_y cL_y 4 (some .int) [(0, 9, 12, 15)], Cond.methodLink RL 23 yX4_y, Cond.instanceMethod yX4_y, Cond.selects RX4 yX4_y yX4_y, Cond.code yX4_y cX4_y 2 (some .int), Cond.methodLink RX4 73 yX2_tenHeights, Cond.instanceMethod yX2_tenHeights, Cond.selects RX2 yX2_tenHeights yX2_tenHeights, Cond.code yX2_tenHeights cX2_tenHeights 3 (some .int), Cond.methodLink RL 110 yX5_y, Cond.instanceMethod yX5_y, Cond.selects RX5 yX5_y yX5_y, Cond.code yX5_y cX5_y 2 (some .int), Cond.methodLink RX5 67 yX5_high, Cond.instanceMethod yX5_high, Cond.selects RX5 yX5_high yX5_high, Cond.code yX5_high cX5_high 6 (some .int)]
def wsL_law0_r9 : List Cond := [Cond.methodLink RL 111 yL_latitudeAt, Cond.static yL_latitudeAt, Cond.codeWith yL_latitudeAt cL_latitudeAt 4 (some .int) [(0, 9, 12, 15), (0, 9, 15, 17)], Cond.methodLink RL 27 yX4_latitudeAt, Cond.instanceMethod yX4_latitudeAt, Cond.selects RX4 yX4_latitudeAt yX4_latitudeAt, Cond.code yX4_latitudeAt cX4_latitudeAt 3 (some .int), Cond.constant RX4 76 (-99990), Cond.constant RX4 77 (99990), Cond.methodLink RX4 80 yX2_greatestNotAbove, Cond.instanceMethod yX2_greatestNotAbove, Cond.selects RX2 yX2_greatestNotAbove yX2_greatestNotAbove, Cond.code yX2_greatestNotAbove cX2_greatestNotAbove 3 (some .int), Cond.methodLink RX2 31 yX2_tenHeights, Cond.methodLink RL 113 yX5_latitudeAt, Cond.instanceMethod yX5_latitudeAt, Cond.selects RX5 yX5_latitudeAt yX5_latitudeAt, Cond.code yX5_latitudeAt cX5_latitudeAt 3 (some .int), Cond.constant RX5 70 (-99990), Cond.constant RX5 71 (99990), Cond.methodLink RX5 72 yX5_mayBoth, Cond.instanceMethod yX5_mayBoth, Cond.selects RX5 yX5_mayBoth yX5_mayBoth, Cond.code yX5_mayBoth cX5_mayBoth 3 (some .boolean)]
def wsL_law0_r10 : List Cond := [Cond.methodLink RL 114 yL_area, Cond.static yL_area, Cond.codeWith yL_area cL_area 7 (some .int) [(0, 13, 16, 15)], Cond.methodLink RL 30 yX4_area, Cond.instanceMethod yX4_area, Cond.selects RX4 yX4_area yX4_area, Cond.code yX4_area cX4_area 5 (some .long), Cond.methodLink RX4 89 yX2_fieldArea, Cond.instanceMethod yX2_fieldArea, Cond.selects RX2 yX2_fieldArea yX2_fieldArea, Cond.code yX2_fieldArea cX2_fieldArea 7 (some .long), Cond.methodLink RX2 34 yX2_cellArea, Cond.instanceMethod yX2_cellArea, Cond.selects RX2 yX2_cellArea yX2_cellArea, Cond.code yX2_cellArea cX2_cellArea 4 (some .long), Cond.methodLink RX2 38 yX2_tenWidths, Cond.methodLink RL 117 yX5_area, Cond.instanceMethod yX5_area, Cond.selects RX5 yX5_area yX5_area, Cond.code yX5_area cX5_area 6 (some .long), Cond.methodLink RX5 76 yX5_areaOf, Cond.instanceMethod yX5_areaOf, Cond.selects RX5 yX5_areaOf yX5_areaOf, Cond.code yX5_areaOf cX5_areaOf 7 (some .long)]
def wsL_law0_r11 : List Cond := [Cond.methodLink RL 118 yL_areaByCells, Cond.static yL_areaByCells, Cond.codeWith yL_areaByCells cL_areaByCells 7 (some .int) [(0, 13, 16, 15)], Cond.methodLink RL 34 yX4_areaByCells, Cond.instanceMethod yX4_areaByCells, Cond.selects RX4 yX4_areaByCells yX4_areaByCells, Cond.code yX4_areaByCells cX4_areaByCells 5 (some .long), Cond.methodLink RX4 93 yX4_area, Cond.methodLink RL 120 yX5_areaByCells, Cond.instanceMethod yX5_areaByCells, Cond.selects RX5 yX5_areaByCells yX5_areaByCells, Cond.code yX5_areaByCells cX5_areaByCells 5 (some .long), Cond.methodLink RX5 80 yX5_area, Cond.methodLink RL 121 yL_truth, Cond.static yL_truth, Cond.codeWith yL_truth cL_truth 5 (some .int) [(0, 10, 13, 13), (0, 10, 17, 15)], Cond.methodLink RL 37 yX4_truth, Cond.instanceMethod yX4_truth, Cond.selects RX4 yX4_truth yX4_truth, Cond.code yX4_truth cX4_truth 3 (some .int), Cond.constant RX4 100 (99999), Cond.methodLink RX4 97 yX4_requireBand, Cond.static yX4_requireBand, Cond.code yX4_requireBand cX4_requireBand 1 none]
def wsL_law0_r12 : List Cond := [Cond.methodLink RX4 103 yX0_replaceTruth, Cond.instanceMethod yX0_replaceTruth, Cond.selects RX0 yX0_replaceTruth yX0_replaceTruth, Cond.code yX0_replaceTruth cX0_replaceTruth 4 (some .int), Cond.methodLink RX0 15 yX0_truthOf, Cond.instanceMethod yX0_truthOf, Cond.selects RX0 yX0_truthOf yX0_truthOf, Cond.code yX0_truthOf cX0_truthOf 2 (some .int), Cond.methodLink RL 123 yX5_truth, Cond.instanceMethod yX5_truth, Cond.selects RX5 yX5_truth yX5_truth, Cond.code yX5_truth cX5_truth 4 (some .int), Cond.constant RX5 87 (99999), Cond.methodLink RX5 84 yX5_isBand, Cond.static yX5_isBand, Cond.code yX5_isBand cX5_isBand 1 (some .boolean), Cond.methodLink RL 124 yX4_keepsAreas, Cond.instanceMethod yX4_keepsAreas, Cond.selects RX4 yX4_keepsAreas yX4_keepsAreas, Cond.code yX4_keepsAreas cX4_keepsAreas 1 (some .boolean), Cond.methodLink RX4 107 yX0_areAllAlike, Cond.instanceMethod yX0_areAllAlike, Cond.selects RX0 yX0_areAllAlike yX0_areAllAlike, Cond.code yX0_areAllAlike cX0_areAllAlike 3 (some .boolean)]
def wsL_law0_r13 : List Cond := [Cond.methodLink RX0 19 yX0_compareBands, Cond.instanceMethod yX0_compareBands, Cond.selects RX0 yX0_compareBands yX0_compareBands, Cond.code yX0_compareBands cX0_compareBands 4 (some .int), Cond.methodLink RX0 23 yX2_bandArea, Cond.instanceMethod yX2_bandArea, Cond.selects RX2 yX2_bandArea yX2_bandArea, Cond.code yX2_bandArea cX2_bandArea 6 (some .long), Cond.constantLong RX2 41 (36000), Cond.methodLink RX0 29 yJ13_compare_74951, Cond.static yJ13_compare_74951, Cond.initialized RJ13, Cond.code yJ13_compare_74951 cJ13_compare_74951 4 (some .int), Cond.methodLink RL 128 yX5_keepsAreas, Cond.instanceMethod yX5_keepsAreas, Cond.selects RX5 yX5_keepsAreas yX5_keepsAreas, Cond.code yX5_keepsAreas cX5_keepsAreas 3 (some .boolean), Cond.methodLink RX5 88 yX5_bandOf, Cond.instanceMethod yX5_bandOf, Cond.selects RX5 yX5_bandOf yX5_bandOf, Cond.code yX5_bandOf cX5_bandOf 2 (some .long), Cond.methodLink RL 129 yX4_widest, Cond.instanceMethod yX4_widest, Cond.selects RX4 yX4_widest yX4_widest]
def wsL_law0_r14 : List Cond := [Cond.code yX4_widest cX4_widest 1 (some .int), Cond.methodLink RX4 111 yX0_greatest, Cond.instanceMethod yX0_greatest, Cond.selects RX0 yX0_greatest yX0_greatest, Cond.code yX0_greatest cX0_greatest 4 (some .int), Cond.methodLink RL 132 yX5_widest, Cond.instanceMethod yX5_widest, Cond.selects RX5 yX5_widest yX5_widest, Cond.code yX5_widest cX5_widest 3 (some .int), Cond.methodLink RL 133 yL_stretch, Cond.static yL_stretch, Cond.codeWith yL_stretch cL_stretch 4 (some .int) [(0, 9, 12, 13)], Cond.methodLink RL 40 yX4_stretch, Cond.instanceMethod yX4_stretch, Cond.selects RX4 yX4_stretch yX4_stretch, Cond.code yX4_stretch cX4_stretch 2 (some .float), Cond.methodLink RX4 115 yX0_areaByTruth, Cond.instanceMethod yX0_areaByTruth, Cond.selects RX0 yX0_areaByTruth yX0_areaByTruth, Cond.code yX0_areaByTruth cX0_areaByTruth 3 (some .float), Cond.methodLink RL 136 yX5_stretch, Cond.instanceMethod yX5_stretch, Cond.selects RX5 yX5_stretch yX5_stretch, Cond.code yX5_stretch cX5_stretch 2 (some .float)]
def wsL_law0_r15 : List Cond := [Cond.methodLink RL 137 yL_apart, Cond.static yL_apart, Cond.codeWith yL_apart cL_apart 5 (some .int) [(0, 10, 13, 15)], Cond.methodLink RL 44 yX4_apart, Cond.instanceMethod yX4_apart, Cond.selects RX4 yX4_apart yX4_apart, Cond.code yX4_apart cX4_apart 3 (some .int), Cond.methodLink RX4 119 yX4_shorterWay, Cond.static yX4_shorterWay, Cond.code yX4_shorterWay cX4_shorterWay 3 (some .int), Cond.methodLink RX4 198 Lib.Math.min.name, Cond.static Lib.Math.min.name, Cond.code Lib.Math.min.name Lib.Math.min.code 2 (some .int), Cond.methodLink RX4 195 yX4_degreesEast, Cond.static yX4_degreesEast, Cond.code yX4_degreesEast cX4_degreesEast 3 (some .int), Cond.methodLink RL 139 yX5_apart, Cond.instanceMethod yX5_apart, Cond.selects RX5 yX5_apart yX5_apart, Cond.code yX5_apart cX5_apart 3 (some .int), Cond.methodLink RX5 96 yX5_shorter, Cond.static yX5_shorter, Cond.code yX5_shorter cX5_shorter 3 (some .int), Cond.methodLink RX5 92 yX5_east]
def wsL_law0_r16 : List Cond := [Cond.static yX5_east, Cond.code yX5_east cX5_east 2 (some .int), Cond.methodLink RL 140 yL_ringWay, Cond.static yL_ringWay, Cond.codeWith yL_ringWay cL_ringWay 6 (some .int) [(0, 12, 15, 15)], Cond.methodLink RL 47 yX4_ringWay, Cond.instanceMethod yX4_ringWay, Cond.selects RX4 yX4_ringWay yX4_ringWay, Cond.code yX4_ringWay cX4_ringWay 4 (some .int), Cond.methodLink RL 143 yX5_ringWay, Cond.instanceMethod yX5_ringWay, Cond.selects RX5 yX5_ringWay yX5_ringWay, Cond.code yX5_ringWay cX5_ringWay 4 (some .int), Cond.methodLink RL 144 yL_zones, Cond.static yL_zones, Cond.codeWith yL_zones cL_zones 4 (some .int) [(0, 9, 12, 15)], Cond.methodLink RL 51 yX4_zones, Cond.instanceMethod yX4_zones, Cond.selects RX4 yX4_zones yX4_zones, Cond.code yX4_zones cX4_zones 2 (some .int), Cond.methodLink RX4 124 yX3_replaceBreadth, Cond.instanceMethod yX3_replaceBreadth, Cond.selects RX3 yX3_replaceBreadth yX3_replaceBreadth, Cond.code yX3_replaceBreadth cX3_replaceBreadth 3 (some .int)]
def wsL_law0_r17 : List Cond := [Cond.methodLink RL 146 yX5_zones, Cond.instanceMethod yX5_zones, Cond.selects RX5 yX5_zones yX5_zones, Cond.code yX5_zones cX5_zones 3 (some .int), Cond.methodLink RL 147 yL_zone, Cond.static yL_zone, Cond.codeWith yL_zone cL_zone 4 (some .int) [(0, 9, 12, 15)], Cond.methodLink RL 54 yX4_zone, Cond.instanceMethod yX4_zone, Cond.selects RX4 yX4_zone yX4_zone, Cond.code yX4_zone cX4_zone 2 (some .int), Cond.methodLink RX4 127 yX3_zonesBefore, Cond.instanceMethod yX3_zonesBefore, Cond.selects RX3 yX3_zonesBefore yX3_zonesBefore, Cond.code yX3_zonesBefore cX3_zonesBefore 2 (some .int), Cond.methodLink RL 149 yX5_zone, Cond.instanceMethod yX5_zone, Cond.selects RX5 yX5_zone yX5_zone, Cond.code yX5_zone cX5_zone 2 (some .int), Cond.methodLink RX5 99 yX5_zoneOf, Cond.instanceMethod yX5_zoneOf, Cond.selects RX5 yX5_zoneOf yX5_zoneOf, Cond.code yX5_zoneOf cX5_zoneOf 2 (some .int), Cond.methodLink RL 150 yL_seams]
def wsL_law0_r18 : List Cond := [Cond.static yL_seams, Cond.codeWith yL_seams cL_seams 5 (some .int) [(0, 10, 13, 15)], Cond.methodLink RL 57 yX4_seams, Cond.instanceMethod yX4_seams, Cond.selects RX4 yX4_seams yX4_seams, Cond.code yX4_seams cX4_seams 4 (some .int), Cond.methodLink RX4 130 yX4_goesEast, Cond.static yX4_goesEast, Cond.code yX4_goesEast cX4_goesEast 2 (some .boolean), Cond.methodLink RX4 133 yX3_seamsEastOf, Cond.instanceMethod yX3_seamsEastOf, Cond.selects RX3 yX3_seamsEastOf yX3_seamsEastOf, Cond.code yX3_seamsEastOf cX3_seamsEastOf 3 (some .int), Cond.methodLink RX3 15 yX3_zonesBefore, Cond.methodLink RL 152 yX5_seams, Cond.instanceMethod yX5_seams, Cond.selects RX5 yX5_seams yX5_seams, Cond.code yX5_seams cX5_seams 3 (some .int), Cond.methodLink RX5 102 yX5_crossed, Cond.instanceMethod yX5_crossed, Cond.selects RX5 yX5_crossed yX5_crossed, Cond.code yX5_crossed cX5_crossed 10 (some .int), Cond.methodLink RL 153 yL_dateLine, Cond.static yL_dateLine]
def wsL_law0_r19 : List Cond := [Cond.codeWith yL_dateLine cL_dateLine 5 (some .int) [(0, 10, 13, 15)], Cond.methodLink RL 60 yX4_dateLine, Cond.instanceMethod yX4_dateLine, Cond.selects RX4 yX4_dateLine yX4_dateLine, Cond.code yX4_dateLine cX4_dateLine 3 (some .int), Cond.methodLink RL 155 yX5_dateLine, Cond.instanceMethod yX5_dateLine, Cond.selects RX5 yX5_dateLine yX5_dateLine, Cond.code yX5_dateLine cX5_dateLine 3 (some .int), Cond.methodLink RL 156 yL_sheet, Cond.static yL_sheet, Cond.codeWith yL_sheet cL_sheet 4 (some .int) [(0, 6, 9, 15)], Cond.methodLink RL 63 yX4_sheet, Cond.instanceMethod yX4_sheet, Cond.selects RX4 yX4_sheet yX4_sheet, Cond.code yX4_sheet cX4_sheet 3 none, Cond.methodLink RX4 138 yX1_layOut, Cond.methodLink RL 159 yX5_sheet, Cond.instanceMethod yX5_sheet, Cond.selects RX5 yX5_sheet yX5_sheet, Cond.code yX5_sheet cX5_sheet 3 none, Cond.methodLink RL 160 yL_foldColumns, Cond.static yL_foldColumns, Cond.codeWith yL_foldColumns cL_foldColumns 4 (some .int) [(0, 9, 12, 17)]]
def wsL_law0_r20 : List Cond := [Cond.methodLink RL 67 yX4_foldColumns, Cond.instanceMethod yX4_foldColumns, Cond.selects RX4 yX4_foldColumns yX4_foldColumns, Cond.code yX4_foldColumns cX4_foldColumns 2 (some .int), Cond.methodLink RX4 142 yX1_turnOverColumns, Cond.instanceMethod yX1_turnOverColumns, Cond.selects RX1 yX1_turnOverColumns yX1_turnOverColumns, Cond.code yX1_turnOverColumns cX1_turnOverColumns 2 (some .int), Cond.methodLink RX1 60 yX1_turnOver, Cond.instanceMethod yX1_turnOver, Cond.selects RX1 yX1_turnOver yX1_turnOver, Cond.code yX1_turnOver cX1_turnOver 6 (some .int), Cond.methodLink RX1 70 yX1_placesBelow, Cond.instanceMethod yX1_placesBelow, Cond.selects RX1 yX1_placesBelow yX1_placesBelow, Cond.code yX1_placesBelow cX1_placesBelow 5 (some .int), Cond.methodLink RX1 64 yX1_panels, Cond.instanceMethod yX1_panels, Cond.selects RX1 yX1_panels yX1_panels, Cond.code yX1_panels cX1_panels 1 (some .int), Cond.methodLink RX1 73 yX1_highestLayer, Cond.instanceMethod yX1_highestLayer, Cond.selects RX1 yX1_highestLayer yX1_highestLayer, Cond.code yX1_highestLayer cX1_highestLayer 3 (some .int)]
def wsL_law0_r21 : List Cond := [Cond.methodLink RX1 67 Lib.Math.max.name, Cond.static Lib.Math.max.name, Cond.code Lib.Math.max.name Lib.Math.max.code 2 (some .int), Cond.methodLink RX4 145 yX4_someTurned, Cond.static yX4_someTurned, Cond.code yX4_someTurned cX4_someTurned 1 (some .int), Cond.methodLink RL 162 yX5_foldColumns, Cond.instanceMethod yX5_foldColumns, Cond.selects RX5 yX5_foldColumns yX5_foldColumns, Cond.code yX5_foldColumns cX5_foldColumns 2 (some .int), Cond.methodLink RX5 116 yX5_fold, Cond.instanceMethod yX5_fold, Cond.selects RX5 yX5_fold yX5_fold, Cond.code yX5_fold cX5_fold 6 (some .int), Cond.methodLink RX5 112 yX5_ahead, Cond.instanceMethod yX5_ahead, Cond.selects RX5 yX5_ahead yX5_ahead, Cond.code yX5_ahead cX5_ahead 5 (some .int), Cond.methodLink RX5 109 yX5_isPanel, Cond.instanceMethod yX5_isPanel, Cond.selects RX5 yX5_isPanel yX5_isPanel, Cond.code yX5_isPanel cX5_isPanel 2 (some .boolean), Cond.methodLink RL 163 yL_foldRows, Cond.static yL_foldRows]
def wsL_law0_r22 : List Cond := [Cond.codeWith yL_foldRows cL_foldRows 4 (some .int) [(0, 9, 12, 17)], Cond.methodLink RL 70 yX4_foldRows, Cond.instanceMethod yX4_foldRows, Cond.selects RX4 yX4_foldRows yX4_foldRows, Cond.code yX4_foldRows cX4_foldRows 2 (some .int), Cond.methodLink RX4 148 yX1_turnOverRows, Cond.instanceMethod yX1_turnOverRows, Cond.selects RX1 yX1_turnOverRows yX1_turnOverRows, Cond.code yX1_turnOverRows cX1_turnOverRows 2 (some .int), Cond.methodLink RL 165 yX5_foldRows, Cond.instanceMethod yX5_foldRows, Cond.selects RX5 yX5_foldRows yX5_foldRows, Cond.code yX5_foldRows cX5_foldRows 2 (some .int), Cond.methodLink RL 166 yX4_unfold, Cond.instanceMethod yX4_unfold, Cond.selects RX4 yX4_unfold yX4_unfold, Cond.code yX4_unfold cX4_unfold 1 (some .int), Cond.methodLink RX4 151 yX1_spread, Cond.methodLink RL 169 yX5_unfold, Cond.instanceMethod yX5_unfold, Cond.selects RX5 yX5_unfold yX5_unfold, Cond.code yX5_unfold cX5_unfold 2 (some .int), Cond.methodLink RL 170 yL_panel, Cond.static yL_panel]
def wsL_law0_r23 : List Cond := [Cond.codeWith yL_panel cL_panel 5 (some .int) [(0, 10, 13, 15)], Cond.methodLink RL 73 yX4_panel, Cond.instanceMethod yX4_panel, Cond.selects RX4 yX4_panel yX4_panel, Cond.code yX4_panel cX4_panel 3 (some .int), Cond.methodLink RX4 155 yX1_columnOf, Cond.instanceMethod yX1_columnOf, Cond.selects RX1 yX1_columnOf yX1_columnOf, Cond.code yX1_columnOf cX1_columnOf 2 (some .int), Cond.methodLink RX4 158 yX1_rowOf, Cond.instanceMethod yX1_rowOf, Cond.selects RX1 yX1_rowOf yX1_rowOf, Cond.code yX1_rowOf cX1_rowOf 2 (some .int), Cond.methodLink RX1 47 Lib.Math.min.name, Cond.methodLink RL 172 yX5_panel, Cond.instanceMethod yX5_panel, Cond.selects RX5 yX5_panel yX5_panel, Cond.code yX5_panel cX5_panel 4 (some .int), Cond.methodLink RL 173 yL_placeX, Cond.static yL_placeX, Cond.codeWith yL_placeX cL_placeX 5 (some .int) [(0, 10, 13, 13)], Cond.methodLink RL 76 yX4_placeX, Cond.instanceMethod yX4_placeX, Cond.selects RX4 yX4_placeX yX4_placeX]
def wsL_law0_r24 : List Cond := [Cond.code yX4_placeX cX4_placeX 3 (some .int), Cond.methodLink RX4 161 yX4_requirePanel, Cond.instanceMethod yX4_requirePanel, Cond.selects RX4 yX4_requirePanel yX4_requirePanel, Cond.code yX4_requirePanel cX4_requirePanel 3 none, Cond.methodLink RX4 188 yX1_hasPanel, Cond.instanceMethod yX1_hasPanel, Cond.selects RX1 yX1_hasPanel yX1_hasPanel, Cond.code yX1_hasPanel cX1_hasPanel 3 (some .boolean), Cond.methodLink RX4 164 yX1_columnPlace, Cond.instanceMethod yX1_columnPlace, Cond.selects RX1 yX1_columnPlace yX1_columnPlace, Cond.code yX1_columnPlace cX1_columnPlace 3 (some .int), Cond.methodLink RX1 52 yX1_hasPanel, Cond.methodLink RL 175 yX5_placeX, Cond.instanceMethod yX5_placeX, Cond.selects RX5 yX5_placeX yX5_placeX, Cond.code yX5_placeX cX5_placeX 3 (some .int), Cond.methodLink RX5 119 yX5_has, Cond.instanceMethod yX5_has, Cond.selects RX5 yX5_has yX5_has, Cond.code yX5_has cX5_has 3 (some .boolean), Cond.methodLink RL 176 yL_placeY, Cond.static yL_placeY]
def wsL_law0_r25 : List Cond := [Cond.codeWith yL_placeY cL_placeY 5 (some .int) [(0, 10, 13, 13)], Cond.methodLink RL 79 yX4_placeY, Cond.instanceMethod yX4_placeY, Cond.selects RX4 yX4_placeY yX4_placeY, Cond.code yX4_placeY cX4_placeY 3 (some .int), Cond.methodLink RX4 167 yX1_rowPlace, Cond.instanceMethod yX1_rowPlace, Cond.selects RX1 yX1_rowPlace yX1_rowPlace, Cond.code yX1_rowPlace cX1_rowPlace 3 (some .int), Cond.methodLink RL 178 yX5_placeY, Cond.instanceMethod yX5_placeY, Cond.selects RX5 yX5_placeY yX5_placeY, Cond.code yX5_placeY cX5_placeY 3 (some .int), Cond.methodLink RL 179 yL_above, Cond.static yL_above, Cond.codeWith yL_above cL_above 5 (some .int) [(0, 10, 13, 13)], Cond.methodLink RL 82 yX4_above, Cond.instanceMethod yX4_above, Cond.selects RX4 yX4_above yX4_above, Cond.code yX4_above cX4_above 3 (some .int), Cond.methodLink RX4 170 yX1_panelsAbove, Cond.instanceMethod yX1_panelsAbove, Cond.selects RX1 yX1_panelsAbove yX1_panelsAbove, Cond.code yX1_panelsAbove cX1_panelsAbove 3 (some .int)]
def wsL_law0_r26 : List Cond := [Cond.methodLink RX1 56 yX1_higherThan, Cond.instanceMethod yX1_higherThan, Cond.selects RX1 yX1_higherThan yX1_higherThan, Cond.code yX1_higherThan cX1_higherThan 4 (some .int), Cond.methodLink RL 181 yX5_above, Cond.instanceMethod yX5_above, Cond.selects RX5 yX5_above yX5_above, Cond.code yX5_above cX5_above 3 (some .int), Cond.methodLink RX5 123 yX5_stacked, Cond.instanceMethod yX5_stacked, Cond.selects RX5 yX5_stacked yX5_stacked, Cond.code yX5_stacked cX5_stacked 6 (some .int), Cond.methodLink RL 182 yL_isUp, Cond.static yL_isUp, Cond.codeWith yL_isUp cL_isUp 5 (some .int) [(0, 17, 20, 13)], Cond.methodLink RL 85 yX4_isUp, Cond.instanceMethod yX4_isUp, Cond.selects RX4 yX4_isUp yX4_isUp, Cond.code yX4_isUp cX4_isUp 3 (some .boolean), Cond.methodLink RX4 173 yX1_liesFaceUp, Cond.instanceMethod yX1_liesFaceUp, Cond.selects RX1 yX1_liesFaceUp yX1_liesFaceUp, Cond.code yX1_liesFaceUp cX1_liesFaceUp 3 (some .boolean), Cond.methodLink RL 184 yX5_isUp]
def wsL_law0_r27 : List Cond := [Cond.instanceMethod yX5_isUp, Cond.selects RX5 yX5_isUp yX5_isUp, Cond.code yX5_isUp cX5_isUp 3 (some .boolean), Cond.methodLink RL 185 yX4_thickness, Cond.instanceMethod yX4_thickness, Cond.selects RX4 yX4_thickness yX4_thickness, Cond.code yX4_thickness cX4_thickness 1 (some .int), Cond.methodLink RX4 176 yX1_mostPanels, Cond.instanceMethod yX1_mostPanels, Cond.selects RX1 yX1_mostPanels yX1_mostPanels, Cond.code yX1_mostPanels cX1_mostPanels 3 (some .int), Cond.methodLink RL 188 yX5_thickness, Cond.instanceMethod yX5_thickness, Cond.selects RX5 yX5_thickness yX5_thickness, Cond.code yX5_thickness cX5_thickness 4 (some .int), Cond.methodLink RL 189 yX4_readable, Cond.instanceMethod yX4_readable, Cond.selects RX4 yX4_readable yX4_readable, Cond.code yX4_readable cX4_readable 1 (some .int), Cond.methodLink RX4 179 yX1_readablePanels, Cond.instanceMethod yX1_readablePanels, Cond.selects RX1 yX1_readablePanels yX1_readablePanels, Cond.code yX1_readablePanels cX1_readablePanels 3 (some .int), Cond.methodLink RL 192 yX5_readable]
def wsL_law0_r28 : List Cond := [Cond.instanceMethod yX5_readable, Cond.selects RX5 yX5_readable yX5_readable, Cond.code yX5_readable cX5_readable 3 (some .int)]
def wsL_law0 : List Cond := (wsL_law0_r1 ++ (wsL_law0_r2 ++ (wsL_law0_r3 ++ (wsL_law0_r4 ++ (wsL_law0_r5 ++ (wsL_law0_r6 ++ (wsL_law0_r7 ++ (wsL_law0_r8 ++ (wsL_law0_r9 ++ (wsL_law0_r10 ++ (wsL_law0_r11 ++ (wsL_law0_r12 ++ (wsL_law0_r13 ++ (wsL_law0_r14 ++ (wsL_law0_r15 ++ (wsL_law0_r16 ++ (wsL_law0_r17 ++ (wsL_law0_r18 ++ (wsL_law0_r19 ++ (wsL_law0_r20 ++ (wsL_law0_r21 ++ (wsL_law0_r22 ++ (wsL_law0_r23 ++ (wsL_law0_r24 ++ (wsL_law0_r25 ++ (wsL_law0_r26 ++ (wsL_law0_r27 ++ wsL_law0_r28))))))))))))))))))))))))))) ++ wsX40 ++ wsX50 ++ wsX20 ++ wsX00 ++ wsX30 ++ wsX10 ++ ([] : List Cond)
def wsL_law : List Cond := wsL_law0 ++ (vx_atS RX4 41 "java/lang/IndexOutOfBoundsException" ["java/lang/RuntimeException", "java/lang/Exception"]).filter goodWord ++ (vx_atS RX4 48 "java/lang/IllegalArgumentException" ["java/lang/RuntimeException", "java/lang/Exception"]).filter goodWord ++ (vx_atS RX4 57 "java/lang/IllegalStateException" ["java/lang/RuntimeException", "java/lang/Exception"]).filter goodWord
abbrev vwCl : List vw_C := [(RX0, TX0, 1), (RX1, TX1, 7), (RX2, TX2, 2), (RX3, TX3, 1), (RX4, TX4, 4), (RX5, TX5, 12)]
end
section
set_option maxRecDepth 20000 in
theorem ggX0_replaceTruth_X0_truthOf : GoodIn wsX0_replaceTruth wsX0_truthOf := goodIn_r _ [6, 1, 7] (by decide +kernel) (by decide +kernel)
set_option maxRecDepth 20000 in
theorem gX0_replaceTruth_X0_truthOf : GoodIn wsX0_replaceTruth (wsV RX0 15 RX0 yX0_truthOf wsX0_truthOf) := goodIn_app (goodIn_of _ (by decide +kernel)) ggX0_replaceTruth_X0_truthOf
set_option maxRecDepth 20000 in
theorem ggX0_areAllAlike_X0_compareBands : GoodIn wsX0_areAllAlike wsX0_compareBands := goodIn_r _ [5, 6, 7, 8, 9, 10, 11, 12, 13, 14, 15, 16, 17, 18, 19, 4, 20, 21, 22, 23, 24, 25, 26, 27, 28] (by decide +kernel) (by decide +kernel)
set_option maxRecDepth 20000 in
theorem gX0_areAllAlike_X0_compareBands : GoodIn wsX0_areAllAlike (wsV RX0 19 RX0 yX0_compareBands wsX0_compareBands) := goodIn_app (goodIn_of _ (by decide +kernel)) ggX0_areAllAlike_X0_compareBands
set_option maxRecDepth 20000 in
theorem ggX0_greatest_X0_compareBands : GoodIn wsX0_greatest wsX0_compareBands := goodIn_r _ [5, 6, 7, 8, 9, 10, 11, 12, 13, 14, 15, 16, 17, 18, 19, 4, 20, 21, 22, 23, 24, 25, 26, 27, 28] (by decide +kernel) (by decide +kernel)
set_option maxRecDepth 20000 in
theorem gX0_greatest_X0_compareBands : GoodIn wsX0_greatest (wsV RX0 19 RX0 yX0_compareBands wsX0_compareBands) := goodIn_app (goodIn_of _ (by decide +kernel)) ggX0_greatest_X0_compareBands
set_option maxRecDepth 20000 in
theorem ggX0_areaByTruth_X2_bandArea : GoodIn wsX0_areaByTruth wsX2_bandArea := goodIn_r _ [5, 6, 7, 8, 9, 10, 4, 11, 18, 19] (by decide +kernel) (by decide +kernel)
set_option maxRecDepth 20000 in
theorem gX0_areaByTruth_X2_bandArea : GoodIn wsX0_areaByTruth (wsV RX0 23 RX2 yX2_bandArea wsX2_bandArea) := goodIn_app (goodIn_of _ (by decide +kernel)) ggX0_areaByTruth_X2_bandArea
set_option maxRecDepth 20000 in
theorem ggX0_areaByTruth_X0_truthOf : GoodIn wsX0_areaByTruth wsX0_truthOf := goodIn_r _ [16, 17, 20] (by decide +kernel) (by decide +kernel)
set_option maxRecDepth 20000 in
theorem gX0_areaByTruth_X0_truthOf : GoodIn wsX0_areaByTruth (wsV RX0 15 RX0 yX0_truthOf wsX0_truthOf) := goodIn_app (goodIn_of _ (by decide +kernel)) ggX0_areaByTruth_X0_truthOf
set_option maxRecDepth 20000 in
theorem ggX0_compareBands_X2_bandArea : GoodIn wsX0_compareBands wsX2_bandArea := goodIn_r _ [5, 6, 7, 8, 9, 10, 4, 11, 22, 23] (by decide +kernel) (by decide +kernel)
set_option maxRecDepth 20000 in
theorem gX0_compareBands_X2_bandArea : GoodIn wsX0_compareBands (wsV RX0 23 RX2 yX2_bandArea wsX2_bandArea) := goodIn_app (goodIn_of _ (by decide +kernel)) ggX0_compareBands_X2_bandArea
set_option maxRecDepth 20000 in
theorem ggX0_compareBands_X0_truthOf : GoodIn wsX0_compareBands wsX0_truthOf := goodIn_r _ [16, 17, 24] (by decide +kernel) (by decide +kernel)
set_option maxRecDepth 20000 in
theorem gX0_compareBands_X0_truthOf : GoodIn wsX0_compareBands (wsV RX0 15 RX0 yX0_truthOf wsX0_truthOf) := goodIn_app (goodIn_of _ (by decide +kernel)) ggX0_compareBands_X0_truthOf
set_option maxRecDepth 20000 in
theorem ggX0_compareBands_J13_compare_74951 : GoodIn wsX0_compareBands wsJ13_compare_74951 := goodIn_r _ [21] (by decide +kernel) (by decide +kernel)
set_option maxRecDepth 20000 in
theorem gX0_compareBands_J13_compare_74951 : GoodIn wsX0_compareBands (va_wsS RX0 29 yJ13_compare_74951 wsJ13_compare_74951) := goodIn_app (goodIn_of _ (by decide +kernel)) ggX0_compareBands_J13_compare_74951
set_option maxRecDepth 20000 in
theorem ggX1_init_X1_layOut : GoodIn wsX1_init wsX1_layOut := goodIn_r _ [14, 15, 16, 17, 18, 19, 13, 20, 5, 6, 7, 9, 21, 22, 23, 24, 25, 26, 27, 28, 29, 30, 31, 32] (by decide +kernel) (by decide +kernel)
set_option maxRecDepth 20000 in
theorem gX1_init_X1_layOut : GoodIn wsX1_init (wsV RX1 25 RX1 yX1_layOut wsX1_layOut) := goodIn_app (goodIn_of _ (by decide +kernel)) ggX1_init_X1_layOut
set_option maxRecDepth 20000 in
theorem ggX1_layOut_X1_spread : GoodIn wsX1_layOut wsX1_spread := goodIn_r _ [7, 1, 2, 8, 9, 10, 11, 12, 13, 14, 15, 6, 16, 17, 18, 19, 20, 21, 22, 23] (by decide +kernel) (by decide +kernel)
set_option maxRecDepth 20000 in
theorem gX1_layOut_X1_spread : GoodIn wsX1_layOut (wsV RX1 36 RX1 yX1_spread wsX1_spread) := goodIn_app (goodIn_of _ (by decide +kernel)) ggX1_layOut_X1_spread
set_option maxRecDepth 20000 in
theorem ggX1_spread_X1_number : GoodIn wsX1_spread wsX1_number := goodIn_r _ [12, 2, 13, 14, 15, 16, 17, 18, 19] (by decide +kernel) (by decide +kernel)
set_option maxRecDepth 20000 in
theorem gX1_spread_X1_number : GoodIn wsX1_spread (wsV RX1 40 RX1 yX1_number wsX1_number) := goodIn_app (goodIn_of _ (by decide +kernel)) ggX1_spread_X1_number
set_option maxRecDepth 20000 in
theorem ggX1_columnPlace_X1_hasPanel : GoodIn wsX1_columnPlace wsX1_hasPanel := goodIn_r _ [6, 7, 8, 13, 14, 15, 16, 17, 18, 19] (by decide +kernel) (by decide +kernel)
set_option maxRecDepth 20000 in
theorem gX1_columnPlace_X1_hasPanel : GoodIn wsX1_columnPlace (wsV RX1 52 RX1 yX1_hasPanel wsX1_hasPanel) := goodIn_app (goodIn_of _ (by decide +kernel)) ggX1_columnPlace_X1_hasPanel
set_option maxRecDepth 20000 in
theorem ggX1_columnPlace_X1_number : GoodIn wsX1_columnPlace wsX1_number := goodIn_r _ [12, 8, 13, 14, 15, 16, 17, 18, 19] (by decide +kernel) (by decide +kernel)
set_option maxRecDepth 20000 in
theorem gX1_columnPlace_X1_number : GoodIn wsX1_columnPlace (wsV RX1 40 RX1 yX1_number wsX1_number) := goodIn_app (goodIn_of _ (by decide +kernel)) ggX1_columnPlace_X1_number
set_option maxRecDepth 20000 in
theorem ggX1_rowPlace_X1_hasPanel : GoodIn wsX1_rowPlace wsX1_hasPanel := goodIn_r _ [6, 7, 8, 13, 14, 15, 16, 17, 18, 19] (by decide +kernel) (by decide +kernel)
set_option maxRecDepth 20000 in
theorem gX1_rowPlace_X1_hasPanel : GoodIn wsX1_rowPlace (wsV RX1 52 RX1 yX1_hasPanel wsX1_hasPanel) := goodIn_app (goodIn_of _ (by decide +kernel)) ggX1_rowPlace_X1_hasPanel
set_option maxRecDepth 20000 in
theorem ggX1_rowPlace_X1_number : GoodIn wsX1_rowPlace wsX1_number := goodIn_r _ [12, 8, 13, 14, 15, 16, 17, 18, 19] (by decide +kernel) (by decide +kernel)
set_option maxRecDepth 20000 in
theorem gX1_rowPlace_X1_number : GoodIn wsX1_rowPlace (wsV RX1 40 RX1 yX1_number wsX1_number) := goodIn_app (goodIn_of _ (by decide +kernel)) ggX1_rowPlace_X1_number
set_option maxRecDepth 20000 in
theorem ggX1_liesFaceUp_X1_hasPanel : GoodIn wsX1_liesFaceUp wsX1_hasPanel := goodIn_r _ [6, 7, 8, 13, 14, 15, 16, 17, 18, 19] (by decide +kernel) (by decide +kernel)
set_option maxRecDepth 20000 in
theorem gX1_liesFaceUp_X1_hasPanel : GoodIn wsX1_liesFaceUp (wsV RX1 52 RX1 yX1_hasPanel wsX1_hasPanel) := goodIn_app (goodIn_of _ (by decide +kernel)) ggX1_liesFaceUp_X1_hasPanel
set_option maxRecDepth 20000 in
theorem ggX1_liesFaceUp_X1_number : GoodIn wsX1_liesFaceUp wsX1_number := goodIn_r _ [12, 8, 13, 14, 15, 16, 17, 18, 19] (by decide +kernel) (by decide +kernel)
set_option maxRecDepth 20000 in
theorem gX1_liesFaceUp_X1_number : GoodIn wsX1_liesFaceUp (wsV RX1 40 RX1 yX1_number wsX1_number) := goodIn_app (goodIn_of _ (by decide +kernel)) ggX1_liesFaceUp_X1_number
set_option maxRecDepth 20000 in
theorem ggX1_panelsAbove_X1_hasPanel : GoodIn wsX1_panelsAbove wsX1_hasPanel := goodIn_r _ [5, 6, 7, 23, 24, 25, 26, 27, 28, 29] (by decide +kernel) (by decide +kernel)
set_option maxRecDepth 20000 in
theorem gX1_panelsAbove_X1_hasPanel : GoodIn wsX1_panelsAbove (wsV RX1 52 RX1 yX1_hasPanel wsX1_hasPanel) := goodIn_app (goodIn_of _ (by decide +kernel)) ggX1_panelsAbove_X1_hasPanel
set_option maxRecDepth 20000 in
theorem ggX1_panelsAbove_X1_number : GoodIn wsX1_panelsAbove wsX1_number := goodIn_r _ [11, 7, 23, 24, 25, 26, 27, 28, 29] (by decide +kernel) (by decide +kernel)
set_option maxRecDepth 20000 in
theorem gX1_panelsAbove_X1_number : GoodIn wsX1_panelsAbove (wsV RX1 40 RX1 yX1_number wsX1_number) := goodIn_app (goodIn_of _ (by decide +kernel)) ggX1_panelsAbove_X1_number
set_option maxRecDepth 20000 in
theorem ggX1_panelsAbove_X1_higherThan : GoodIn wsX1_panelsAbove wsX1_higherThan := goodIn_r _ [15, 16, 17, 18, 19, 20, 21, 4, 22, 6, 7, 23, 24, 25, 26, 27, 28, 29] (by decide +kernel) (by decide +kernel)
set_option maxRecDepth 20000 in
theorem gX1_panelsAbove_X1_higherThan : GoodIn wsX1_panelsAbove (wsV RX1 56 RX1 yX1_higherThan wsX1_higherThan) := goodIn_app (goodIn_of _ (by decide +kernel)) ggX1_panelsAbove_X1_higherThan
set_option maxRecDepth 20000 in
theorem ggX1_turnOverColumns_X1_turnOver : GoodIn wsX1_turnOverColumns wsX1_turnOver := goodIn_r _ [6, 7, 8, 9, 10, 11, 12, 5, 13, 14, 15, 16, 17, 18, 19, 20, 21, 22, 23, 24, 25, 26, 27, 28, 29, 30, 31, 32, 33, 34] (by decide +kernel) (by decide +kernel)
set_option maxRecDepth 20000 in
theorem gX1_turnOverColumns_X1_turnOver : GoodIn wsX1_turnOverColumns (wsV RX1 60 RX1 yX1_turnOver wsX1_turnOver) := goodIn_app (goodIn_of _ (by decide +kernel)) ggX1_turnOverColumns_X1_turnOver
set_option maxRecDepth 20000 in
theorem ggX1_turnOverRows_X1_turnOver : GoodIn wsX1_turnOverRows wsX1_turnOver := goodIn_r _ [6, 7, 8, 9, 10, 11, 12, 5, 13, 14, 15, 16, 17, 18, 19, 20, 21, 22, 23, 24, 25, 26, 27, 28, 29, 30, 31, 32, 33, 34] (by decide +kernel) (by decide +kernel)
set_option maxRecDepth 20000 in
theorem gX1_turnOverRows_X1_turnOver : GoodIn wsX1_turnOverRows (wsV RX1 60 RX1 yX1_turnOver wsX1_turnOver) := goodIn_app (goodIn_of _ (by decide +kernel)) ggX1_turnOverRows_X1_turnOver
set_option maxRecDepth 20000 in
theorem ggX1_mostPanels_X1_panels : GoodIn wsX1_mostPanels wsX1_panels := goodIn_r _ [9, 10, 11, 19, 20, 21, 22, 23, 24, 25] (by decide +kernel) (by decide +kernel)
set_option maxRecDepth 20000 in
theorem gX1_mostPanels_X1_panels : GoodIn wsX1_mostPanels (wsV RX1 64 RX1 yX1_panels wsX1_panels) := goodIn_app (goodIn_of _ (by decide +kernel)) ggX1_mostPanels_X1_panels
set_option maxRecDepth 20000 in
theorem ggX1_mostPanels_X1_higherThan : GoodIn wsX1_mostPanels wsX1_higherThan := goodIn_r _ [15, 16, 17, 18, 5, 6, 7, 8, 9, 10, 11, 19, 20, 21, 22, 23, 24, 25] (by decide +kernel) (by decide +kernel)
set_option maxRecDepth 20000 in
theorem gX1_mostPanels_X1_higherThan : GoodIn wsX1_mostPanels (wsV RX1 56 RX1 yX1_higherThan wsX1_higherThan) := goodIn_app (goodIn_of _ (by decide +kernel)) ggX1_mostPanels_X1_higherThan
set_option maxRecDepth 20000 in
theorem ggX1_readablePanels_X1_panels : GoodIn wsX1_readablePanels wsX1_panels := goodIn_r _ [6, 7, 8, 16, 17, 18, 19, 20, 21, 22] (by decide +kernel) (by decide +kernel)
set_option maxRecDepth 20000 in
theorem gX1_readablePanels_X1_panels : GoodIn wsX1_readablePanels (wsV RX1 64 RX1 yX1_panels wsX1_panels) := goodIn_app (goodIn_of _ (by decide +kernel)) ggX1_readablePanels_X1_panels
set_option maxRecDepth 20000 in
theorem ggX1_readablePanels_X1_higherThan : GoodIn wsX1_readablePanels wsX1_higherThan := goodIn_r _ [12, 13, 14, 15, 2, 3, 4, 5, 6, 7, 8, 16, 17, 18, 19, 20, 21, 22] (by decide +kernel) (by decide +kernel)
set_option maxRecDepth 20000 in
theorem gX1_readablePanels_X1_higherThan : GoodIn wsX1_readablePanels (wsV RX1 56 RX1 yX1_higherThan wsX1_higherThan) := goodIn_app (goodIn_of _ (by decide +kernel)) ggX1_readablePanels_X1_higherThan
set_option maxRecDepth 20000 in
theorem ggX1_turnOver_X1_placesBelow : GoodIn wsX1_turnOver wsX1_placesBelow := goodIn_r _ [8, 9, 10, 11, 7, 12, 13, 14, 23, 24, 25, 26, 27, 28, 29] (by decide +kernel) (by decide +kernel)
set_option maxRecDepth 20000 in
theorem gX1_turnOver_X1_placesBelow : GoodIn wsX1_turnOver (wsV RX1 70 RX1 yX1_placesBelow wsX1_placesBelow) := goodIn_app (goodIn_of _ (by decide +kernel)) ggX1_turnOver_X1_placesBelow
set_option maxRecDepth 20000 in
theorem ggX1_turnOver_X1_panels : GoodIn wsX1_turnOver wsX1_panels := goodIn_r _ [12, 13, 14, 23, 24, 25, 26, 27, 28, 29] (by decide +kernel) (by decide +kernel)
set_option maxRecDepth 20000 in
theorem gX1_turnOver_X1_panels : GoodIn wsX1_turnOver (wsV RX1 64 RX1 yX1_panels wsX1_panels) := goodIn_app (goodIn_of _ (by decide +kernel)) ggX1_turnOver_X1_panels
set_option maxRecDepth 20000 in
theorem ggX1_turnOver_X1_highestLayer : GoodIn wsX1_turnOver wsX1_highestLayer := goodIn_r _ [18, 1, 19, 20, 21, 22, 9, 10, 11, 7, 12, 13, 14, 23, 24, 25, 26, 27, 28, 29] (by decide +kernel) (by decide +kernel)
set_option maxRecDepth 20000 in
theorem gX1_turnOver_X1_highestLayer : GoodIn wsX1_turnOver (wsV RX1 73 RX1 yX1_highestLayer wsX1_highestLayer) := goodIn_app (goodIn_of _ (by decide +kernel)) ggX1_turnOver_X1_highestLayer
set_option maxRecDepth 20000 in
theorem ggX1_placesBelow_X1_panels : GoodIn wsX1_placesBelow wsX1_panels := goodIn_r _ [5, 6, 7, 8, 9, 10, 11, 12, 13, 14] (by decide +kernel) (by decide +kernel)
set_option maxRecDepth 20000 in
theorem gX1_placesBelow_X1_panels : GoodIn wsX1_placesBelow (wsV RX1 64 RX1 yX1_panels wsX1_panels) := goodIn_app (goodIn_of _ (by decide +kernel)) ggX1_placesBelow_X1_panels
set_option maxRecDepth 20000 in
theorem ggX1_highestLayer_X1_panels : GoodIn wsX1_highestLayer wsX1_panels := goodIn_r _ [10, 11, 12, 13, 14, 15, 16, 17, 18, 19] (by decide +kernel) (by decide +kernel)
set_option maxRecDepth 20000 in
theorem gX1_highestLayer_X1_panels : GoodIn wsX1_highestLayer (wsV RX1 64 RX1 yX1_panels wsX1_panels) := goodIn_app (goodIn_of _ (by decide +kernel)) ggX1_highestLayer_X1_panels
set_option maxRecDepth 20000 in
theorem ggX1_higherThan_X1_panels : GoodIn wsX1_higherThan wsX1_panels := goodIn_r _ [8, 9, 10, 11, 12, 13, 14, 15, 16, 17] (by decide +kernel) (by decide +kernel)
set_option maxRecDepth 20000 in
theorem gX1_higherThan_X1_panels : GoodIn wsX1_higherThan (wsV RX1 64 RX1 yX1_panels wsX1_panels) := goodIn_app (goodIn_of _ (by decide +kernel)) ggX1_higherThan_X1_panels
set_option maxRecDepth 20000 in
theorem ggX2_wouldRise_X2_valueAt : GoodIn wsX2_wouldRise wsX2_valueAt := goodIn_r _ [5] (by decide +kernel) (by decide +kernel)
set_option maxRecDepth 20000 in
theorem gX2_wouldRise_X2_valueAt : GoodIn wsX2_wouldRise (va_wsS RX2 18 yX2_valueAt wsX2_valueAt) := goodIn_app (goodIn_of _ (by decide +kernel)) ggX2_wouldRise_X2_valueAt
set_option maxRecDepth 20000 in
theorem ggX2_tenWidths_X2_tenTimesAt : GoodIn wsX2_tenWidths wsX2_tenTimesAt := goodIn_r _ [9, 10, 11, 8, 12] (by decide +kernel) (by decide +kernel)
set_option maxRecDepth 20000 in
theorem gX2_tenWidths_X2_tenTimesAt : GoodIn wsX2_tenWidths (va_wsS RX2 28 yX2_tenTimesAt wsX2_tenTimesAt) := goodIn_app (goodIn_of _ (by decide +kernel)) ggX2_tenWidths_X2_tenTimesAt
set_option maxRecDepth 20000 in
theorem ggX2_tenHeights_X2_tenTimesAt : GoodIn wsX2_tenHeights wsX2_tenTimesAt := goodIn_r _ [9, 10, 11, 8, 12] (by decide +kernel) (by decide +kernel)
set_option maxRecDepth 20000 in
theorem gX2_tenHeights_X2_tenTimesAt : GoodIn wsX2_tenHeights (va_wsS RX2 28 yX2_tenTimesAt wsX2_tenTimesAt) := goodIn_app (goodIn_of _ (by decide +kernel)) ggX2_tenHeights_X2_tenTimesAt
set_option maxRecDepth 20000 in
theorem ggX2_greatestNotAbove_X2_tenHeights : GoodIn wsX2_greatestNotAbove wsX2_tenHeights := goodIn_r _ [5, 6, 7, 8, 9, 10, 11, 12, 4, 13, 14, 15, 16, 17, 18] (by decide +kernel) (by decide +kernel)
set_option maxRecDepth 20000 in
theorem gX2_greatestNotAbove_X2_tenHeights : GoodIn wsX2_greatestNotAbove (wsV RX2 31 RX2 yX2_tenHeights wsX2_tenHeights) := goodIn_app (goodIn_of _ (by decide +kernel)) ggX2_greatestNotAbove_X2_tenHeights
set_option maxRecDepth 20000 in
theorem ggX2_fieldArea_X2_cellArea : GoodIn wsX2_fieldArea wsX2_cellArea := goodIn_r _ [5, 6, 7, 8, 4, 9, 10, 11, 12, 13, 14, 15, 16, 17, 18, 19, 20, 21, 22, 23, 24, 25, 26, 27] (by decide +kernel) (by decide +kernel)
set_option maxRecDepth 20000 in
theorem gX2_fieldArea_X2_cellArea : GoodIn wsX2_fieldArea (wsV RX2 34 RX2 yX2_cellArea wsX2_cellArea) := goodIn_app (goodIn_of _ (by decide +kernel)) ggX2_fieldArea_X2_cellArea
set_option maxRecDepth 20000 in
theorem ggX2_cellArea_X2_tenWidths : GoodIn wsX2_cellArea wsX2_tenWidths := goodIn_r _ [5, 6, 7, 8, 9, 10, 11, 12, 4, 13, 14, 15, 16, 22, 23] (by decide +kernel) (by decide +kernel)
set_option maxRecDepth 20000 in
theorem gX2_cellArea_X2_tenWidths : GoodIn wsX2_cellArea (wsV RX2 38 RX2 yX2_tenWidths wsX2_tenWidths) := goodIn_app (goodIn_of _ (by decide +kernel)) ggX2_cellArea_X2_tenWidths
set_option maxRecDepth 20000 in
theorem ggX2_cellArea_X2_tenHeights : GoodIn wsX2_cellArea wsX2_tenHeights := goodIn_r _ [20, 21, 7, 8, 9, 10, 11, 12, 4, 13, 14, 15, 16, 22, 23] (by decide +kernel) (by decide +kernel)
set_option maxRecDepth 20000 in
theorem gX2_cellArea_X2_tenHeights : GoodIn wsX2_cellArea (wsV RX2 31 RX2 yX2_tenHeights wsX2_tenHeights) := goodIn_app (goodIn_of _ (by decide +kernel)) ggX2_cellArea_X2_tenHeights
set_option maxRecDepth 20000 in
theorem ggX2_bandArea_X2_valueAt : GoodIn wsX2_bandArea wsX2_valueAt := goodIn_r _ [7] (by decide +kernel) (by decide +kernel)
set_option maxRecDepth 20000 in
theorem gX2_bandArea_X2_valueAt : GoodIn wsX2_bandArea (va_wsS RX2 18 yX2_valueAt wsX2_valueAt) := goodIn_app (goodIn_of _ (by decide +kernel)) ggX2_bandArea_X2_valueAt
set_option maxRecDepth 20000 in
theorem ggX2_tenTimesAt_X2_valueAt : GoodIn wsX2_tenTimesAt wsX2_valueAt := goodIn_r _ [4] (by decide +kernel) (by decide +kernel)
set_option maxRecDepth 20000 in
theorem gX2_tenTimesAt_X2_valueAt : GoodIn wsX2_tenTimesAt (va_wsS RX2 18 yX2_valueAt wsX2_valueAt) := goodIn_app (goodIn_of _ (by decide +kernel)) ggX2_tenTimesAt_X2_valueAt
set_option maxRecDepth 20000 in
theorem ggX3_seamsEastOf_X3_zonesBefore : GoodIn wsX3_seamsEastOf wsX3_zonesBefore := goodIn_r _ [5, 6, 7] (by decide +kernel) (by decide +kernel)
set_option maxRecDepth 20000 in
theorem gX3_seamsEastOf_X3_zonesBefore : GoodIn wsX3_seamsEastOf (wsV RX3 15 RX3 yX3_zonesBefore wsX3_zonesBefore) := goodIn_app (goodIn_of _ (by decide +kernel)) ggX3_seamsEastOf_X3_zonesBefore
set_option maxRecDepth 20000 in
theorem ggX4_init_X2_init : GoodIn wsX4_init wsX2_init := goodIn_r _ [22, 23, 2, 3, 24, 25, 26, 61, 62] (by decide +kernel) (by decide +kernel)
set_option maxRecDepth 20000 in
theorem gX4_init_X2_init : GoodIn wsX4_init (wsX2_init) := ggX4_init_X2_init
set_option maxRecDepth 20000 in
theorem ggX4_init_X0_init : GoodIn wsX4_init wsX0_init := goodIn_r _ [29, 30, 2, 3, 24, 31, 67] (by decide +kernel) (by decide +kernel)
set_option maxRecDepth 20000 in
theorem gX4_init_X0_init : GoodIn wsX4_init (wsX0_init) := ggX4_init_X0_init
set_option maxRecDepth 20000 in
theorem ggX4_init_X3_init : GoodIn wsX4_init wsX3_init := goodIn_r _ [34, 35, 2, 3, 36, 68] (by decide +kernel) (by decide +kernel)
set_option maxRecDepth 20000 in
theorem gX4_init_X3_init : GoodIn wsX4_init (wsX3_init) := ggX4_init_X3_init
set_option maxRecDepth 20000 in
theorem ggX4_init_X1_init : GoodIn wsX4_init wsX1_init := goodIn_r _ [39, 40, 2, 3, 24, 41, 42, 43, 44, 45, 46, 47, 48, 18, 49, 50, 51, 52, 53, 54, 55, 56, 57, 58, 59, 60, 69, 70, 71, 72, 73, 74, 75] (by decide +kernel) (by decide +kernel)
set_option maxRecDepth 20000 in
theorem gX4_init_X1_init : GoodIn wsX4_init (wsX1_init) := ggX4_init_X1_init
set_option maxRecDepth 20000 in
theorem ggX4_table_X2_wouldRise : GoodIn wsX4_table wsX2_wouldRise := goodIn_r _ [12, 13, 14, 15, 11, 16, 26, 27] (by decide +kernel) (by decide +kernel)
set_option maxRecDepth 20000 in
theorem gX4_table_X2_wouldRise : GoodIn wsX4_table (wsV RX4 49 RX2 yX2_wouldRise wsX2_wouldRise) := goodIn_app (goodIn_of _ (by decide +kernel)) ggX4_table_X2_wouldRise
set_option maxRecDepth 20000 in
theorem ggX4_table_X2_setRow : GoodIn wsX4_table wsX2_setRow := goodIn_r _ [20, 21, 13, 26, 27] (by decide +kernel) (by decide +kernel)
set_option maxRecDepth 20000 in
theorem gX4_table_X2_setRow : GoodIn wsX4_table (wsV RX4 58 RX2 yX2_setRow wsX2_setRow) := goodIn_app (goodIn_of _ (by decide +kernel)) ggX4_table_X2_setRow
set_option maxRecDepth 20000 in
theorem ggX4_x_X4_requireLatitude : GoodIn wsX4_x wsX4_requireLatitude := goodIn_ca (goodIn_r _ [5, 6, 7] (by decide +kernel) (by decide +kernel)) (goodIn_sub (fun _ h => List.mem_cons_of_mem _ (List.mem_append_right _ h)) (by decide +kernel))
set_option maxRecDepth 20000 in
theorem gX4_x_X4_requireLatitude : GoodIn wsX4_x (va_wsS RX4 62 yX4_requireLatitude wsX4_requireLatitude) := goodIn_app (goodIn_of _ (by decide +kernel)) ggX4_x_X4_requireLatitude
set_option maxRecDepth 20000 in
theorem ggX4_x_X4_requireLongitude : GoodIn wsX4_x wsX4_requireLongitude := goodIn_ca (goodIn_r _ [10, 6, 7] (by decide +kernel) (by decide +kernel)) (goodIn_sub (fun _ h => List.mem_cons_of_mem _ (List.mem_append_right _ h)) (by decide +kernel))
set_option maxRecDepth 20000 in
theorem gX4_x_X4_requireLongitude : GoodIn wsX4_x (va_wsS RX4 66 yX4_requireLongitude wsX4_requireLongitude) := goodIn_app (goodIn_of _ (by decide +kernel)) ggX4_x_X4_requireLongitude
set_option maxRecDepth 20000 in
theorem ggX4_x_X2_tenWidths : GoodIn wsX4_x wsX2_tenWidths := goodIn_r _ [15, 16, 17, 18, 19, 20, 21, 22, 14, 23, 24, 25, 26, 31, 32] (by decide +kernel) (by decide +kernel)
set_option maxRecDepth 20000 in
theorem gX4_x_X2_tenWidths : GoodIn wsX4_x (wsV RX4 69 RX2 yX2_tenWidths wsX2_tenWidths) := goodIn_app (goodIn_of _ (by decide +kernel)) ggX4_x_X2_tenWidths
set_option maxRecDepth 20000 in
theorem ggX4_y_X4_requireLatitude : GoodIn wsX4_y wsX4_requireLatitude := goodIn_ca (goodIn_r _ [5, 6, 7] (by decide +kernel) (by decide +kernel)) (goodIn_sub (fun _ h => List.mem_cons_of_mem _ (List.mem_append_right _ h)) (by decide +kernel))
set_option maxRecDepth 20000 in
theorem gX4_y_X4_requireLatitude : GoodIn wsX4_y (va_wsS RX4 62 yX4_requireLatitude wsX4_requireLatitude) := goodIn_app (goodIn_of _ (by decide +kernel)) ggX4_y_X4_requireLatitude
set_option maxRecDepth 20000 in
theorem ggX4_y_X2_tenHeights : GoodIn wsX4_y wsX2_tenHeights := goodIn_r _ [12, 13, 14, 15, 16, 17, 18, 19, 11, 20, 21, 22, 23, 28, 29] (by decide +kernel) (by decide +kernel)
set_option maxRecDepth 20000 in
theorem gX4_y_X2_tenHeights : GoodIn wsX4_y (wsV RX4 73 RX2 yX2_tenHeights wsX2_tenHeights) := goodIn_app (goodIn_of _ (by decide +kernel)) ggX4_y_X2_tenHeights
set_option maxRecDepth 20000 in
theorem ggX4_latitudeAt_X2_greatestNotAbove : GoodIn wsX4_latitudeAt wsX2_greatestNotAbove := goodIn_r _ [12, 13, 14, 15, 11, 16, 17, 18, 19, 20, 21, 22, 23, 24, 25, 26, 27, 32, 33] (by decide +kernel) (by decide +kernel)
set_option maxRecDepth 20000 in
theorem gX4_latitudeAt_X2_greatestNotAbove : GoodIn wsX4_latitudeAt (wsV RX4 80 RX2 yX2_greatestNotAbove wsX2_greatestNotAbove) := goodIn_app (goodIn_of _ (by decide +kernel)) ggX4_latitudeAt_X2_greatestNotAbove
set_option maxRecDepth 20000 in
theorem ggX4_area_X2_fieldArea : GoodIn wsX4_area wsX2_fieldArea := goodIn_r _ [8, 9, 10, 11, 7, 12, 13, 14, 15, 16, 17, 18, 19, 20, 21, 22, 23, 24, 25, 26, 27, 28, 29, 30, 31, 32, 37, 38] (by decide +kernel) (by decide +kernel)
set_option maxRecDepth 20000 in
theorem gX4_area_X2_fieldArea : GoodIn wsX4_area (wsV RX4 89 RX2 yX2_fieldArea wsX2_fieldArea) := goodIn_app (goodIn_of _ (by decide +kernel)) ggX4_area_X2_fieldArea
set_option maxRecDepth 20000 in
theorem ggX4_areaByCells_X4_area : GoodIn wsX4_areaByCells wsX4_area := goodIn_ca (goodIn_r _ [5, 6, 7, 8, 9, 10, 11, 12, 13, 14, 15, 16, 17, 18, 19, 20, 21, 22, 23, 24, 25, 26, 27, 28, 29, 30, 31, 32, 33, 34, 35, 36, 37, 38, 39, 40, 41, 42, 43] (by decide +kernel) (by decide +kernel)) (goodIn_sub (fun _ h => List.mem_cons_of_mem _ (List.mem_append_right _ h)) (by decide +kernel))
set_option maxRecDepth 20000 in
theorem gX4_areaByCells_X4_area : GoodIn wsX4_areaByCells (wsV RX4 93 RX4 yX4_area wsX4_area) := goodIn_app (goodIn_of _ (by decide +kernel)) ggX4_areaByCells_X4_area
set_option maxRecDepth 20000 in
theorem ggX4_truth_X4_requireBand : GoodIn wsX4_truth wsX4_requireBand := goodIn_ca (goodIn_r _ [8, 9, 10] (by decide +kernel) (by decide +kernel)) (goodIn_sub (fun _ h => List.mem_cons_of_mem _ (List.mem_append_right _ h)) (by decide +kernel))
set_option maxRecDepth 20000 in
theorem gX4_truth_X4_requireBand : GoodIn wsX4_truth (va_wsS RX4 97 yX4_requireBand wsX4_requireBand) := goodIn_app (goodIn_of _ (by decide +kernel)) ggX4_truth_X4_requireBand
set_option maxRecDepth 20000 in
theorem ggX4_truth_X0_replaceTruth : GoodIn wsX4_truth wsX0_replaceTruth := goodIn_r _ [15, 16, 17, 18, 19, 14, 20, 25] (by decide +kernel) (by decide +kernel)
set_option maxRecDepth 20000 in
theorem gX4_truth_X0_replaceTruth : GoodIn wsX4_truth (wsV RX4 103 RX0 yX0_replaceTruth wsX0_replaceTruth) := goodIn_app (goodIn_of _ (by decide +kernel)) ggX4_truth_X0_replaceTruth
set_option maxRecDepth 20000 in
theorem ggX4_keepsAreas_X0_areAllAlike : GoodIn wsX4_keepsAreas wsX0_areAllAlike := goodIn_r _ [7, 8, 9, 10, 6, 11, 12, 13, 14, 15, 16, 17, 18, 19, 20, 21, 22, 23, 24, 25, 26, 27, 28, 29, 30, 31, 36, 37, 38] (by decide +kernel) (by decide +kernel)
set_option maxRecDepth 20000 in
theorem gX4_keepsAreas_X0_areAllAlike : GoodIn wsX4_keepsAreas (wsV RX4 107 RX0 yX0_areAllAlike wsX0_areAllAlike) := goodIn_app (goodIn_of _ (by decide +kernel)) ggX4_keepsAreas_X0_areAllAlike
set_option maxRecDepth 20000 in
theorem ggX4_widest_X0_greatest : GoodIn wsX4_widest wsX0_greatest := goodIn_r _ [7, 8, 9, 10, 6, 11, 12, 13, 14, 15, 16, 17, 18, 19, 20, 21, 22, 23, 24, 25, 26, 27, 28, 29, 30, 31, 36, 37, 38] (by decide +kernel) (by decide +kernel)
set_option maxRecDepth 20000 in
theorem gX4_widest_X0_greatest : GoodIn wsX4_widest (wsV RX4 111 RX0 yX0_greatest wsX0_greatest) := goodIn_app (goodIn_of _ (by decide +kernel)) ggX4_widest_X0_greatest
set_option maxRecDepth 20000 in
theorem ggX4_stretch_X4_requireBand : GoodIn wsX4_stretch wsX4_requireBand := goodIn_ca (goodIn_r _ [6, 7, 8] (by decide +kernel) (by decide +kernel)) (goodIn_sub (fun _ h => List.mem_cons_of_mem _ (List.mem_append_right _ h)) (by decide +kernel))
set_option maxRecDepth 20000 in
theorem gX4_stretch_X4_requireBand : GoodIn wsX4_stretch (va_wsS RX4 97 yX4_requireBand wsX4_requireBand) := goodIn_app (goodIn_of _ (by decide +kernel)) ggX4_stretch_X4_requireBand
set_option maxRecDepth 20000 in
theorem ggX4_stretch_X0_areaByTruth : GoodIn wsX4_stretch wsX0_areaByTruth := goodIn_r _ [13, 14, 15, 16, 17, 18, 19, 20, 21, 22, 23, 24, 25, 26, 27, 12, 28, 29, 34, 35, 36] (by decide +kernel) (by decide +kernel)
set_option maxRecDepth 20000 in
theorem gX4_stretch_X0_areaByTruth : GoodIn wsX4_stretch (wsV RX4 115 RX0 yX0_areaByTruth wsX0_areaByTruth) := goodIn_app (goodIn_of _ (by decide +kernel)) ggX4_stretch_X0_areaByTruth
set_option maxRecDepth 20000 in
theorem ggX4_apart_X4_requireLongitude : GoodIn wsX4_apart wsX4_requireLongitude := goodIn_ca (goodIn_r _ [4, 5, 6] (by decide +kernel) (by decide +kernel)) (goodIn_sub (fun _ h => List.mem_cons_of_mem _ (List.mem_append_right _ h)) (by decide +kernel))
set_option maxRecDepth 20000 in
theorem gX4_apart_X4_requireLongitude : GoodIn wsX4_apart (va_wsS RX4 66 yX4_requireLongitude wsX4_requireLongitude) := goodIn_app (goodIn_of _ (by decide +kernel)) ggX4_apart_X4_requireLongitude
set_option maxRecDepth 20000 in
theorem ggX4_apart_X4_shorterWay : GoodIn wsX4_apart wsX4_shorterWay := goodIn_r _ [9, 10, 11, 12, 13, 14, 15, 3, 16] (by decide +kernel) (by decide +kernel)
set_option maxRecDepth 20000 in
theorem gX4_apart_X4_shorterWay : GoodIn wsX4_apart (va_wsS RX4 119 yX4_shorterWay wsX4_shorterWay) := goodIn_app (goodIn_of _ (by decide +kernel)) ggX4_apart_X4_shorterWay
end
section
set_option maxRecDepth 20000 in
theorem ggX4_ringWay_X4_requireLatitude : GoodIn wsX4_ringWay wsX4_requireLatitude := goodIn_ca (goodIn_r _ [5, 6, 7] (by decide +kernel) (by decide +kernel)) (goodIn_sub (fun _ h => List.mem_cons_of_mem _ (List.mem_append_right _ h)) (by decide +kernel))
set_option maxRecDepth 20000 in
theorem gX4_ringWay_X4_requireLatitude : GoodIn wsX4_ringWay (va_wsS RX4 62 yX4_requireLatitude wsX4_requireLatitude) := goodIn_app (goodIn_of _ (by decide +kernel)) ggX4_ringWay_X4_requireLatitude
set_option maxRecDepth 20000 in
theorem ggX4_ringWay_X4_requireLongitude : GoodIn wsX4_ringWay wsX4_requireLongitude := goodIn_ca (goodIn_r _ [10, 6, 7] (by decide +kernel) (by decide +kernel)) (goodIn_sub (fun _ h => List.mem_cons_of_mem _ (List.mem_append_right _ h)) (by decide +kernel))
set_option maxRecDepth 20000 in
theorem gX4_ringWay_X4_requireLongitude : GoodIn wsX4_ringWay (va_wsS RX4 66 yX4_requireLongitude wsX4_requireLongitude) := goodIn_app (goodIn_of _ (by decide +kernel)) ggX4_ringWay_X4_requireLongitude
set_option maxRecDepth 20000 in
theorem ggX4_ringWay_X4_shorterWay : GoodIn wsX4_ringWay wsX4_shorterWay := goodIn_r _ [13, 14, 15, 16, 17, 18, 19, 4, 20] (by decide +kernel) (by decide +kernel)
set_option maxRecDepth 20000 in
theorem gX4_ringWay_X4_shorterWay : GoodIn wsX4_ringWay (va_wsS RX4 119 yX4_shorterWay wsX4_shorterWay) := goodIn_app (goodIn_of _ (by decide +kernel)) ggX4_ringWay_X4_shorterWay
set_option maxRecDepth 20000 in
theorem ggX4_ringWay_X2_tenWidths : GoodIn wsX4_ringWay wsX2_tenWidths := goodIn_r _ [25, 26, 27, 28, 16, 29, 30, 31, 24, 32, 33, 34, 35, 40, 41] (by decide +kernel) (by decide +kernel)
set_option maxRecDepth 20000 in
theorem gX4_ringWay_X2_tenWidths : GoodIn wsX4_ringWay (wsV RX4 69 RX2 yX2_tenWidths wsX2_tenWidths) := goodIn_app (goodIn_of _ (by decide +kernel)) ggX4_ringWay_X2_tenWidths
set_option maxRecDepth 20000 in
theorem ggX4_zones_X3_replaceBreadth : GoodIn wsX4_zones wsX3_replaceBreadth := goodIn_r _ [8, 9, 14] (by decide +kernel) (by decide +kernel)
set_option maxRecDepth 20000 in
theorem gX4_zones_X3_replaceBreadth : GoodIn wsX4_zones (wsV RX4 124 RX3 yX3_replaceBreadth wsX3_replaceBreadth) := goodIn_app (goodIn_of _ (by decide +kernel)) ggX4_zones_X3_replaceBreadth
set_option maxRecDepth 20000 in
theorem ggX4_zone_X4_requireLongitude : GoodIn wsX4_zone wsX4_requireLongitude := goodIn_ca (goodIn_r _ [5, 6, 7] (by decide +kernel) (by decide +kernel)) (goodIn_sub (fun _ h => List.mem_cons_of_mem _ (List.mem_append_right _ h)) (by decide +kernel))
set_option maxRecDepth 20000 in
theorem gX4_zone_X4_requireLongitude : GoodIn wsX4_zone (va_wsS RX4 66 yX4_requireLongitude wsX4_requireLongitude) := goodIn_app (goodIn_of _ (by decide +kernel)) ggX4_zone_X4_requireLongitude
set_option maxRecDepth 20000 in
theorem ggX4_zone_X3_zonesBefore : GoodIn wsX4_zone wsX3_zonesBefore := goodIn_r _ [12, 13, 18] (by decide +kernel) (by decide +kernel)
set_option maxRecDepth 20000 in
theorem gX4_zone_X3_zonesBefore : GoodIn wsX4_zone (wsV RX4 127 RX3 yX3_zonesBefore wsX3_zonesBefore) := goodIn_app (goodIn_of _ (by decide +kernel)) ggX4_zone_X3_zonesBefore
set_option maxRecDepth 20000 in
theorem ggX4_seams_X4_requireLongitude : GoodIn wsX4_seams wsX4_requireLongitude := goodIn_ca (goodIn_r _ [5, 6, 7] (by decide +kernel) (by decide +kernel)) (goodIn_sub (fun _ h => List.mem_cons_of_mem _ (List.mem_append_right _ h)) (by decide +kernel))
set_option maxRecDepth 20000 in
theorem gX4_seams_X4_requireLongitude : GoodIn wsX4_seams (va_wsS RX4 66 yX4_requireLongitude wsX4_requireLongitude) := goodIn_app (goodIn_of _ (by decide +kernel)) ggX4_seams_X4_requireLongitude
set_option maxRecDepth 20000 in
theorem ggX4_seams_X4_goesEast : GoodIn wsX4_seams wsX4_goesEast := goodIn_r _ [10, 11, 12, 4, 13] (by decide +kernel) (by decide +kernel)
set_option maxRecDepth 20000 in
theorem gX4_seams_X4_goesEast : GoodIn wsX4_seams (va_wsS RX4 130 yX4_goesEast wsX4_goesEast) := goodIn_app (goodIn_of _ (by decide +kernel)) ggX4_seams_X4_goesEast
set_option maxRecDepth 20000 in
theorem ggX4_seams_X4_shorterWay : GoodIn wsX4_seams wsX4_shorterWay := goodIn_r _ [16, 17, 18, 19, 20, 11, 12, 4, 13] (by decide +kernel) (by decide +kernel)
set_option maxRecDepth 20000 in
theorem gX4_seams_X4_shorterWay : GoodIn wsX4_seams (va_wsS RX4 119 yX4_shorterWay wsX4_shorterWay) := goodIn_app (goodIn_of _ (by decide +kernel)) ggX4_seams_X4_shorterWay
set_option maxRecDepth 20000 in
theorem ggX4_seams_X3_seamsEastOf : GoodIn wsX4_seams wsX3_seamsEastOf := goodIn_r _ [25, 26, 27, 28, 24, 29, 30, 35] (by decide +kernel) (by decide +kernel)
set_option maxRecDepth 20000 in
theorem gX4_seams_X3_seamsEastOf : GoodIn wsX4_seams (wsV RX4 133 RX3 yX3_seamsEastOf wsX3_seamsEastOf) := goodIn_app (goodIn_of _ (by decide +kernel)) ggX4_seams_X3_seamsEastOf
set_option maxRecDepth 20000 in
theorem ggX4_dateLine_X4_requireLongitude : GoodIn wsX4_dateLine wsX4_requireLongitude := goodIn_ca (goodIn_r _ [4, 5, 6] (by decide +kernel) (by decide +kernel)) (goodIn_sub (fun _ h => List.mem_cons_of_mem _ (List.mem_append_right _ h)) (by decide +kernel))
set_option maxRecDepth 20000 in
theorem gX4_dateLine_X4_requireLongitude : GoodIn wsX4_dateLine (va_wsS RX4 66 yX4_requireLongitude wsX4_requireLongitude) := goodIn_app (goodIn_of _ (by decide +kernel)) ggX4_dateLine_X4_requireLongitude
set_option maxRecDepth 20000 in
theorem ggX4_dateLine_X4_goesEast : GoodIn wsX4_dateLine wsX4_goesEast := goodIn_r _ [9, 10, 11, 3, 12] (by decide +kernel) (by decide +kernel)
set_option maxRecDepth 20000 in
theorem gX4_dateLine_X4_goesEast : GoodIn wsX4_dateLine (va_wsS RX4 130 yX4_goesEast wsX4_goesEast) := goodIn_app (goodIn_of _ (by decide +kernel)) ggX4_dateLine_X4_goesEast
set_option maxRecDepth 20000 in
theorem ggX4_sheet_X1_layOut : GoodIn wsX4_sheet wsX1_layOut := goodIn_r _ [8, 9, 10, 11, 12, 13, 7, 14, 15, 16, 17, 18, 19, 20, 21, 22, 23, 28, 29, 30, 31, 32, 33, 34] (by decide +kernel) (by decide +kernel)
set_option maxRecDepth 20000 in
theorem gX4_sheet_X1_layOut : GoodIn wsX4_sheet (wsV RX4 138 RX1 yX1_layOut wsX1_layOut) := goodIn_app (goodIn_of _ (by decide +kernel)) ggX4_sheet_X1_layOut
set_option maxRecDepth 20000 in
theorem ggX4_foldColumns_X1_turnOverColumns : GoodIn wsX4_foldColumns wsX1_turnOverColumns := goodIn_r _ [6, 7, 8, 9, 10, 5, 11, 12, 13, 14, 15, 16, 17, 18, 19, 20, 21, 22, 23, 24, 25, 26, 27, 28, 29, 30, 31, 32, 43, 44, 45, 46, 47, 48, 49] (by decide +kernel) (by decide +kernel)
set_option maxRecDepth 20000 in
theorem gX4_foldColumns_X1_turnOverColumns : GoodIn wsX4_foldColumns (wsV RX4 142 RX1 yX1_turnOverColumns wsX1_turnOverColumns) := goodIn_app (goodIn_of _ (by decide +kernel)) ggX4_foldColumns_X1_turnOverColumns
set_option maxRecDepth 20000 in
theorem ggX4_foldColumns_X4_someTurned : GoodIn wsX4_foldColumns wsX4_someTurned := goodIn_ca (goodIn_r _ [36, 37, 38] (by decide +kernel) (by decide +kernel)) (goodIn_sub (fun _ h => List.mem_cons_of_mem _ (List.mem_append_right _ h)) (by decide +kernel))
set_option maxRecDepth 20000 in
theorem gX4_foldColumns_X4_someTurned : GoodIn wsX4_foldColumns (va_wsS RX4 145 yX4_someTurned wsX4_someTurned) := goodIn_app (goodIn_of _ (by decide +kernel)) ggX4_foldColumns_X4_someTurned
set_option maxRecDepth 20000 in
theorem ggX4_foldRows_X1_turnOverRows : GoodIn wsX4_foldRows wsX1_turnOverRows := goodIn_r _ [6, 7, 8, 9, 10, 5, 11, 12, 13, 14, 15, 16, 17, 18, 19, 20, 21, 22, 23, 24, 25, 26, 27, 28, 29, 30, 31, 32, 43, 44, 45, 46, 47, 48, 49] (by decide +kernel) (by decide +kernel)
set_option maxRecDepth 20000 in
theorem gX4_foldRows_X1_turnOverRows : GoodIn wsX4_foldRows (wsV RX4 148 RX1 yX1_turnOverRows wsX1_turnOverRows) := goodIn_app (goodIn_of _ (by decide +kernel)) ggX4_foldRows_X1_turnOverRows
set_option maxRecDepth 20000 in
theorem ggX4_foldRows_X4_someTurned : GoodIn wsX4_foldRows wsX4_someTurned := goodIn_ca (goodIn_r _ [36, 37, 38] (by decide +kernel) (by decide +kernel)) (goodIn_sub (fun _ h => List.mem_cons_of_mem _ (List.mem_append_right _ h)) (by decide +kernel))
set_option maxRecDepth 20000 in
theorem gX4_foldRows_X4_someTurned : GoodIn wsX4_foldRows (va_wsS RX4 145 yX4_someTurned wsX4_someTurned) := goodIn_app (goodIn_of _ (by decide +kernel)) ggX4_foldRows_X4_someTurned
set_option maxRecDepth 20000 in
theorem ggX4_unfold_X1_spread : GoodIn wsX4_unfold wsX1_spread := goodIn_r _ [6, 7, 8, 9, 10, 11, 12, 13, 14, 15, 16, 5, 17, 22, 23, 24, 25, 26, 27, 28] (by decide +kernel) (by decide +kernel)
set_option maxRecDepth 20000 in
theorem gX4_unfold_X1_spread : GoodIn wsX4_unfold (wsV RX4 151 RX1 yX1_spread wsX1_spread) := goodIn_app (goodIn_of _ (by decide +kernel)) ggX4_unfold_X1_spread
set_option maxRecDepth 20000 in
theorem ggX4_panel_X4_requireLatitude : GoodIn wsX4_panel wsX4_requireLatitude := goodIn_ca (goodIn_r _ [5, 6, 7] (by decide +kernel) (by decide +kernel)) (goodIn_sub (fun _ h => List.mem_cons_of_mem _ (List.mem_append_right _ h)) (by decide +kernel))
set_option maxRecDepth 20000 in
theorem gX4_panel_X4_requireLatitude : GoodIn wsX4_panel (va_wsS RX4 62 yX4_requireLatitude wsX4_requireLatitude) := goodIn_app (goodIn_of _ (by decide +kernel)) ggX4_panel_X4_requireLatitude
set_option maxRecDepth 20000 in
theorem ggX4_panel_X4_requireLongitude : GoodIn wsX4_panel wsX4_requireLongitude := goodIn_ca (goodIn_r _ [10, 6, 7] (by decide +kernel) (by decide +kernel)) (goodIn_sub (fun _ h => List.mem_cons_of_mem _ (List.mem_append_right _ h)) (by decide +kernel))
set_option maxRecDepth 20000 in
theorem gX4_panel_X4_requireLongitude : GoodIn wsX4_panel (va_wsS RX4 66 yX4_requireLongitude wsX4_requireLongitude) := goodIn_app (goodIn_of _ (by decide +kernel)) ggX4_panel_X4_requireLongitude
set_option maxRecDepth 20000 in
theorem ggX4_panel_X1_columnOf : GoodIn wsX4_panel wsX1_columnOf := goodIn_r _ [15, 16, 30, 31, 32, 33, 34, 35, 36] (by decide +kernel) (by decide +kernel)
set_option maxRecDepth 20000 in
theorem gX4_panel_X1_columnOf : GoodIn wsX4_panel (wsV RX4 155 RX1 yX1_columnOf wsX1_columnOf) := goodIn_app (goodIn_of _ (by decide +kernel)) ggX4_panel_X1_columnOf
set_option maxRecDepth 20000 in
theorem ggX4_panel_X1_rowOf : GoodIn wsX4_panel wsX1_rowOf := goodIn_r _ [20, 21, 22, 23, 24, 25, 30, 31, 32, 33, 34, 35, 36] (by decide +kernel) (by decide +kernel)
set_option maxRecDepth 20000 in
theorem gX4_panel_X1_rowOf : GoodIn wsX4_panel (wsV RX4 158 RX1 yX1_rowOf wsX1_rowOf) := goodIn_app (goodIn_of _ (by decide +kernel)) ggX4_panel_X1_rowOf
set_option maxRecDepth 20000 in
theorem ggX4_placeX_X4_requirePanel : GoodIn wsX4_placeX wsX4_requirePanel := goodIn_ca (goodIn_r _ [6, 7, 8, 1, 9, 10, 11, 12, 13, 14, 15, 26, 27, 28, 29, 30, 31, 32, 33, 34, 35, 36] (by decide +kernel) (by decide +kernel)) (goodIn_sub (fun _ h => List.mem_cons_of_mem _ (List.mem_append_right _ h)) (by decide +kernel))
set_option maxRecDepth 20000 in
theorem gX4_placeX_X4_requirePanel : GoodIn wsX4_placeX (wsV RX4 161 RX4 yX4_requirePanel wsX4_requirePanel) := goodIn_app (goodIn_of _ (by decide +kernel)) ggX4_placeX_X4_requirePanel
set_option maxRecDepth 20000 in
theorem ggX4_placeX_X1_columnPlace : GoodIn wsX4_placeX wsX1_columnPlace := goodIn_r _ [19, 20, 21, 10, 11, 12, 13, 14, 15, 22, 23, 24, 25, 30, 31, 32, 33, 34, 35, 36] (by decide +kernel) (by decide +kernel)
set_option maxRecDepth 20000 in
theorem gX4_placeX_X1_columnPlace : GoodIn wsX4_placeX (wsV RX4 164 RX1 yX1_columnPlace wsX1_columnPlace) := goodIn_app (goodIn_of _ (by decide +kernel)) ggX4_placeX_X1_columnPlace
set_option maxRecDepth 20000 in
theorem ggX4_placeY_X4_requirePanel : GoodIn wsX4_placeY wsX4_requirePanel := goodIn_ca (goodIn_r _ [6, 7, 8, 1, 9, 10, 11, 12, 13, 14, 15, 26, 27, 28, 29, 30, 31, 32, 33, 34, 35, 36] (by decide +kernel) (by decide +kernel)) (goodIn_sub (fun _ h => List.mem_cons_of_mem _ (List.mem_append_right _ h)) (by decide +kernel))
set_option maxRecDepth 20000 in
theorem gX4_placeY_X4_requirePanel : GoodIn wsX4_placeY (wsV RX4 161 RX4 yX4_requirePanel wsX4_requirePanel) := goodIn_app (goodIn_of _ (by decide +kernel)) ggX4_placeY_X4_requirePanel
set_option maxRecDepth 20000 in
theorem ggX4_placeY_X1_rowPlace : GoodIn wsX4_placeY wsX1_rowPlace := goodIn_r _ [19, 20, 21, 10, 11, 12, 13, 14, 15, 22, 23, 24, 25, 30, 31, 32, 33, 34, 35, 36] (by decide +kernel) (by decide +kernel)
set_option maxRecDepth 20000 in
theorem gX4_placeY_X1_rowPlace : GoodIn wsX4_placeY (wsV RX4 167 RX1 yX1_rowPlace wsX1_rowPlace) := goodIn_app (goodIn_of _ (by decide +kernel)) ggX4_placeY_X1_rowPlace
set_option maxRecDepth 20000 in
theorem ggX4_above_X4_requirePanel : GoodIn wsX4_above wsX4_requirePanel := goodIn_ca (goodIn_r _ [6, 7, 8, 1, 9, 10, 11, 12, 13, 14, 15, 36, 37, 38, 39, 40, 41, 42, 43, 44, 45, 46] (by decide +kernel) (by decide +kernel)) (goodIn_sub (fun _ h => List.mem_cons_of_mem _ (List.mem_append_right _ h)) (by decide +kernel))
set_option maxRecDepth 20000 in
theorem gX4_above_X4_requirePanel : GoodIn wsX4_above (wsV RX4 161 RX4 yX4_requirePanel wsX4_requirePanel) := goodIn_app (goodIn_of _ (by decide +kernel)) ggX4_above_X4_requirePanel
set_option maxRecDepth 20000 in
theorem ggX4_above_X1_panelsAbove : GoodIn wsX4_above wsX1_panelsAbove := goodIn_r _ [19, 20, 10, 11, 12, 13, 14, 15, 21, 22, 23, 24, 25, 26, 27, 28, 29, 30, 31, 32, 33, 34, 35, 40, 41, 42, 43, 44, 45, 46] (by decide +kernel) (by decide +kernel)
set_option maxRecDepth 20000 in
theorem gX4_above_X1_panelsAbove : GoodIn wsX4_above (wsV RX4 170 RX1 yX1_panelsAbove wsX1_panelsAbove) := goodIn_app (goodIn_of _ (by decide +kernel)) ggX4_above_X1_panelsAbove
set_option maxRecDepth 20000 in
theorem ggX4_isUp_X4_requirePanel : GoodIn wsX4_isUp wsX4_requirePanel := goodIn_ca (goodIn_r _ [6, 7, 8, 1, 9, 10, 11, 12, 13, 14, 15, 26, 27, 28, 29, 30, 31, 32, 33, 34, 35, 36] (by decide +kernel) (by decide +kernel)) (goodIn_sub (fun _ h => List.mem_cons_of_mem _ (List.mem_append_right _ h)) (by decide +kernel))
set_option maxRecDepth 20000 in
theorem gX4_isUp_X4_requirePanel : GoodIn wsX4_isUp (wsV RX4 161 RX4 yX4_requirePanel wsX4_requirePanel) := goodIn_app (goodIn_of _ (by decide +kernel)) ggX4_isUp_X4_requirePanel
set_option maxRecDepth 20000 in
theorem ggX4_isUp_X1_liesFaceUp : GoodIn wsX4_isUp wsX1_liesFaceUp := goodIn_r _ [19, 20, 21, 10, 11, 12, 13, 14, 15, 22, 23, 24, 25, 30, 31, 32, 33, 34, 35, 36] (by decide +kernel) (by decide +kernel)
set_option maxRecDepth 20000 in
theorem gX4_isUp_X1_liesFaceUp : GoodIn wsX4_isUp (wsV RX4 173 RX1 yX1_liesFaceUp wsX1_liesFaceUp) := goodIn_app (goodIn_of _ (by decide +kernel)) ggX4_isUp_X1_liesFaceUp
set_option maxRecDepth 20000 in
theorem ggX4_thickness_X1_mostPanels : GoodIn wsX4_thickness wsX1_mostPanels := goodIn_r _ [6, 7, 8, 9, 10, 11, 12, 13, 5, 14, 15, 16, 17, 18, 19, 20, 21, 22, 23, 28, 29, 30, 31, 32, 33, 34] (by decide +kernel) (by decide +kernel)
set_option maxRecDepth 20000 in
theorem gX4_thickness_X1_mostPanels : GoodIn wsX4_thickness (wsV RX4 176 RX1 yX1_mostPanels wsX1_mostPanels) := goodIn_app (goodIn_of _ (by decide +kernel)) ggX4_thickness_X1_mostPanels
set_option maxRecDepth 20000 in
theorem ggX4_readable_X1_readablePanels : GoodIn wsX4_readable wsX1_readablePanels := goodIn_r _ [6, 7, 8, 9, 10, 5, 11, 12, 13, 14, 15, 16, 17, 18, 19, 20, 25, 26, 27, 28, 29, 30, 31] (by decide +kernel) (by decide +kernel)
set_option maxRecDepth 20000 in
theorem gX4_readable_X1_readablePanels : GoodIn wsX4_readable (wsV RX4 179 RX1 yX1_readablePanels wsX1_readablePanels) := goodIn_app (goodIn_of _ (by decide +kernel)) ggX4_readable_X1_readablePanels
set_option maxRecDepth 20000 in
theorem ggX4_requirePanel_X1_hasPanel : GoodIn wsX4_requirePanel wsX1_hasPanel := goodIn_r _ [8, 9, 10, 15, 16, 17, 18, 19, 20, 21] (by decide +kernel) (by decide +kernel)
set_option maxRecDepth 20000 in
theorem gX4_requirePanel_X1_hasPanel : GoodIn wsX4_requirePanel (wsV RX4 188 RX1 yX1_hasPanel wsX1_hasPanel) := goodIn_app (goodIn_of _ (by decide +kernel)) ggX4_requirePanel_X1_hasPanel
set_option maxRecDepth 20000 in
theorem ggX4_goesEast_X4_degreesEast : GoodIn wsX4_goesEast wsX4_degreesEast := goodIn_r _ [4] (by decide +kernel) (by decide +kernel)
set_option maxRecDepth 20000 in
theorem gX4_goesEast_X4_degreesEast : GoodIn wsX4_goesEast (va_wsS RX4 195 yX4_degreesEast wsX4_degreesEast) := goodIn_app (goodIn_of _ (by decide +kernel)) ggX4_goesEast_X4_degreesEast
set_option maxRecDepth 20000 in
theorem ggX4_shorterWay_X4_degreesEast : GoodIn wsX4_shorterWay wsX4_degreesEast := goodIn_r _ [8] (by decide +kernel) (by decide +kernel)
set_option maxRecDepth 20000 in
theorem gX4_shorterWay_X4_degreesEast : GoodIn wsX4_shorterWay (va_wsS RX4 195 yX4_degreesEast wsX4_degreesEast) := goodIn_app (goodIn_of _ (by decide +kernel)) ggX4_shorterWay_X4_degreesEast
set_option maxRecDepth 20000 in
theorem ggX5_init_X5_lay : GoodIn wsX5_init wsX5_lay := goodIn_r _ [20, 21, 9, 10, 11, 13, 22, 23, 24, 25, 26, 27, 28, 29, 30, 31, 32, 33] (by decide +kernel) (by decide +kernel)
set_option maxRecDepth 20000 in
theorem gX5_init_X5_lay : GoodIn wsX5_init (wsV RX5 42 RX5 yX5_lay wsX5_lay) := goodIn_app (goodIn_of _ (by decide +kernel)) ggX5_init_X5_lay
set_option maxRecDepth 20000 in
theorem ggX5_table_X5_mayAll : GoodIn wsX5_table wsX5_mayAll := goodIn_r _ [7, 8, 9, 10, 11, 12, 13, 14, 15, 16, 17, 18, 19, 20] (by decide +kernel) (by decide +kernel)
set_option maxRecDepth 20000 in
theorem gX5_table_X5_mayAll : GoodIn wsX5_table (wsV RX5 48 RX5 yX5_mayAll wsX5_mayAll) := goodIn_app (goodIn_of _ (by decide +kernel)) ggX5_table_X5_mayAll
set_option maxRecDepth 20000 in
theorem ggX5_x_X5_isLatitude : GoodIn wsX5_x wsX5_isLatitude := goodIn_r _ [4] (by decide +kernel) (by decide +kernel)
set_option maxRecDepth 20000 in
theorem gX5_x_X5_isLatitude : GoodIn wsX5_x (va_wsS RX5 52 yX5_isLatitude wsX5_isLatitude) := goodIn_app (goodIn_of _ (by decide +kernel)) ggX5_x_X5_isLatitude
set_option maxRecDepth 20000 in
theorem ggX5_x_X5_isLongitude : GoodIn wsX5_x wsX5_isLongitude := goodIn_r _ [7] (by decide +kernel) (by decide +kernel)
set_option maxRecDepth 20000 in
theorem gX5_x_X5_isLongitude : GoodIn wsX5_x (va_wsS RX5 56 yX5_isLongitude wsX5_isLongitude) := goodIn_app (goodIn_of _ (by decide +kernel)) ggX5_x_X5_isLongitude
set_option maxRecDepth 20000 in
theorem ggX5_x_X5_may : GoodIn wsX5_x wsX5_may := goodIn_r _ [11, 12, 18, 19, 20, 21, 22, 23, 24, 25, 26, 27, 28, 29] (by decide +kernel) (by decide +kernel)
set_option maxRecDepth 20000 in
theorem gX5_x_X5_may : GoodIn wsX5_x (wsV RX5 59 RX5 yX5_may wsX5_may) := goodIn_app (goodIn_of _ (by decide +kernel)) ggX5_x_X5_may
set_option maxRecDepth 20000 in
theorem ggX5_x_X5_wide : GoodIn wsX5_x wsX5_wide := goodIn_r _ [16, 17, 18, 19, 20, 21, 22, 23, 24, 25, 26, 27, 28, 29] (by decide +kernel) (by decide +kernel)
set_option maxRecDepth 20000 in
theorem gX5_x_X5_wide : GoodIn wsX5_x (wsV RX5 63 RX5 yX5_wide wsX5_wide) := goodIn_app (goodIn_of _ (by decide +kernel)) ggX5_x_X5_wide
set_option maxRecDepth 20000 in
theorem ggX5_y_X5_isLatitude : GoodIn wsX5_y wsX5_isLatitude := goodIn_r _ [4] (by decide +kernel) (by decide +kernel)
set_option maxRecDepth 20000 in
theorem gX5_y_X5_isLatitude : GoodIn wsX5_y (va_wsS RX5 52 yX5_isLatitude wsX5_isLatitude) := goodIn_app (goodIn_of _ (by decide +kernel)) ggX5_y_X5_isLatitude
set_option maxRecDepth 20000 in
theorem ggX5_y_X5_may : GoodIn wsX5_y wsX5_may := goodIn_r _ [8, 9, 15, 16, 17, 18, 19, 20, 21, 22, 23, 24, 25, 26] (by decide +kernel) (by decide +kernel)
set_option maxRecDepth 20000 in
theorem gX5_y_X5_may : GoodIn wsX5_y (wsV RX5 59 RX5 yX5_may wsX5_may) := goodIn_app (goodIn_of _ (by decide +kernel)) ggX5_y_X5_may
set_option maxRecDepth 20000 in
theorem ggX5_y_X5_high : GoodIn wsX5_y wsX5_high := goodIn_r _ [13, 14, 15, 16, 17, 18, 19, 20, 21, 22, 23, 24, 25, 26] (by decide +kernel) (by decide +kernel)
set_option maxRecDepth 20000 in
theorem gX5_y_X5_high : GoodIn wsX5_y (wsV RX5 67 RX5 yX5_high wsX5_high) := goodIn_app (goodIn_of _ (by decide +kernel)) ggX5_y_X5_high
set_option maxRecDepth 20000 in
theorem ggX5_latitudeAt_X5_high : GoodIn wsX5_latitudeAt wsX5_high := goodIn_r _ [7, 8, 14, 15, 16, 17, 18, 19, 20, 21, 22, 23, 24, 25] (by decide +kernel) (by decide +kernel)
set_option maxRecDepth 20000 in
theorem gX5_latitudeAt_X5_high : GoodIn wsX5_latitudeAt (wsV RX5 67 RX5 yX5_high wsX5_high) := goodIn_app (goodIn_of _ (by decide +kernel)) ggX5_latitudeAt_X5_high
set_option maxRecDepth 20000 in
theorem ggX5_latitudeAt_X5_mayBoth : GoodIn wsX5_latitudeAt wsX5_mayBoth := goodIn_r _ [12, 13, 14, 15, 16, 17, 18, 19, 20, 21, 22, 23, 24, 25] (by decide +kernel) (by decide +kernel)
set_option maxRecDepth 20000 in
theorem gX5_latitudeAt_X5_mayBoth : GoodIn wsX5_latitudeAt (wsV RX5 72 RX5 yX5_mayBoth wsX5_mayBoth) := goodIn_app (goodIn_of _ (by decide +kernel)) ggX5_latitudeAt_X5_mayBoth
set_option maxRecDepth 20000 in
theorem ggX5_areaOf_X5_wide : GoodIn wsX5_areaOf wsX5_wide := goodIn_r _ [5, 6, 12, 13, 14, 15, 16, 17, 18, 19, 20, 21, 22, 23] (by decide +kernel) (by decide +kernel)
set_option maxRecDepth 20000 in
theorem gX5_areaOf_X5_wide : GoodIn wsX5_areaOf (wsV RX5 63 RX5 yX5_wide wsX5_wide) := goodIn_app (goodIn_of _ (by decide +kernel)) ggX5_areaOf_X5_wide
set_option maxRecDepth 20000 in
theorem ggX5_areaOf_X5_high : GoodIn wsX5_areaOf wsX5_high := goodIn_r _ [10, 11, 12, 13, 14, 15, 16, 17, 18, 19, 20, 21, 22, 23] (by decide +kernel) (by decide +kernel)
set_option maxRecDepth 20000 in
theorem gX5_areaOf_X5_high : GoodIn wsX5_areaOf (wsV RX5 67 RX5 yX5_high wsX5_high) := goodIn_app (goodIn_of _ (by decide +kernel)) ggX5_areaOf_X5_high
set_option maxRecDepth 20000 in
theorem ggX5_area_X5_isLatitude : GoodIn wsX5_area wsX5_isLatitude := goodIn_r _ [4] (by decide +kernel) (by decide +kernel)
set_option maxRecDepth 20000 in
theorem gX5_area_X5_isLatitude : GoodIn wsX5_area (va_wsS RX5 52 yX5_isLatitude wsX5_isLatitude) := goodIn_app (goodIn_of _ (by decide +kernel)) ggX5_area_X5_isLatitude
set_option maxRecDepth 20000 in
theorem ggX5_area_X5_may : GoodIn wsX5_area wsX5_may := goodIn_r _ [8, 9, 24, 25, 26, 27, 28, 29, 30, 31, 32, 33, 34, 35] (by decide +kernel) (by decide +kernel)
set_option maxRecDepth 20000 in
theorem gX5_area_X5_may : GoodIn wsX5_area (wsV RX5 59 RX5 yX5_may wsX5_may) := goodIn_app (goodIn_of _ (by decide +kernel)) ggX5_area_X5_may
set_option maxRecDepth 20000 in
theorem ggX5_area_X5_areaOf : GoodIn wsX5_area wsX5_areaOf := goodIn_r _ [13, 14, 15, 16, 3, 17, 18, 19, 20, 21, 22, 23, 24, 25, 26, 27, 28, 29, 30, 31, 32, 33, 34, 35] (by decide +kernel) (by decide +kernel)
set_option maxRecDepth 20000 in
theorem gX5_area_X5_areaOf : GoodIn wsX5_area (wsV RX5 76 RX5 yX5_areaOf wsX5_areaOf) := goodIn_app (goodIn_of _ (by decide +kernel)) ggX5_area_X5_areaOf
set_option maxRecDepth 20000 in
theorem ggX5_areaByCells_X5_area : GoodIn wsX5_areaByCells wsX5_area := goodIn_r _ [5, 6, 7, 4, 8, 9, 10, 11, 12, 13, 14, 15, 16, 17, 18, 19, 20, 21, 22, 23, 24, 25, 26, 27, 28, 29, 30, 31, 32, 33, 34, 35, 36, 37, 38, 39] (by decide +kernel) (by decide +kernel)
set_option maxRecDepth 20000 in
theorem gX5_areaByCells_X5_area : GoodIn wsX5_areaByCells (wsV RX5 80 RX5 yX5_area wsX5_area) := goodIn_app (goodIn_of _ (by decide +kernel)) ggX5_areaByCells_X5_area
set_option maxRecDepth 20000 in
theorem ggX5_bandOf_X5_areaOf : GoodIn wsX5_bandOf wsX5_areaOf := goodIn_r _ [5, 6, 7, 8, 4, 9, 10, 11, 12, 13, 14, 15, 16, 17, 18, 19, 20, 21, 22, 23, 24, 25, 26, 27] (by decide +kernel) (by decide +kernel)
set_option maxRecDepth 20000 in
theorem gX5_bandOf_X5_areaOf : GoodIn wsX5_bandOf (wsV RX5 76 RX5 yX5_areaOf wsX5_areaOf) := goodIn_app (goodIn_of _ (by decide +kernel)) ggX5_bandOf_X5_areaOf
set_option maxRecDepth 20000 in
theorem ggX5_truth_X5_isBand : GoodIn wsX5_truth wsX5_isBand := goodIn_r _ [6] (by decide +kernel) (by decide +kernel)
set_option maxRecDepth 20000 in
theorem gX5_truth_X5_isBand : GoodIn wsX5_truth (va_wsS RX5 84 yX5_isBand wsX5_isBand) := goodIn_app (goodIn_of _ (by decide +kernel)) ggX5_truth_X5_isBand
set_option maxRecDepth 20000 in
theorem ggX5_truth_X5_mayBoth : GoodIn wsX5_truth wsX5_mayBoth := goodIn_r _ [10, 11, 12, 13, 14, 15, 16, 17, 18, 19, 20, 21, 22, 23] (by decide +kernel) (by decide +kernel)
set_option maxRecDepth 20000 in
theorem gX5_truth_X5_mayBoth : GoodIn wsX5_truth (wsV RX5 72 RX5 yX5_mayBoth wsX5_mayBoth) := goodIn_app (goodIn_of _ (by decide +kernel)) ggX5_truth_X5_mayBoth
set_option maxRecDepth 20000 in
theorem ggX5_keepsAreas_X5_bandOf : GoodIn wsX5_keepsAreas wsX5_bandOf := goodIn_r _ [7, 8, 9, 10, 6, 11, 12, 13, 14, 15, 16, 17, 18, 19, 20, 21, 22, 23, 24, 25, 26, 27, 28, 29, 30, 31, 32, 33] (by decide +kernel) (by decide +kernel)
set_option maxRecDepth 20000 in
theorem gX5_keepsAreas_X5_bandOf : GoodIn wsX5_keepsAreas (wsV RX5 88 RX5 yX5_bandOf wsX5_bandOf) := goodIn_app (goodIn_of _ (by decide +kernel)) ggX5_keepsAreas_X5_bandOf
set_option maxRecDepth 20000 in
theorem ggX5_widest_X5_bandOf : GoodIn wsX5_widest wsX5_bandOf := goodIn_r _ [7, 8, 9, 10, 6, 11, 12, 13, 14, 15, 16, 17, 18, 19, 20, 21, 22, 23, 24, 25, 26, 27, 28, 29, 30, 31, 32, 33] (by decide +kernel) (by decide +kernel)
set_option maxRecDepth 20000 in
theorem gX5_widest_X5_bandOf : GoodIn wsX5_widest (wsV RX5 88 RX5 yX5_bandOf wsX5_bandOf) := goodIn_app (goodIn_of _ (by decide +kernel)) ggX5_widest_X5_bandOf
set_option maxRecDepth 20000 in
theorem ggX5_stretch_X5_isBand : GoodIn wsX5_stretch wsX5_isBand := goodIn_r _ [5] (by decide +kernel) (by decide +kernel)
set_option maxRecDepth 20000 in
theorem gX5_stretch_X5_isBand : GoodIn wsX5_stretch (va_wsS RX5 84 yX5_isBand wsX5_isBand) := goodIn_app (goodIn_of _ (by decide +kernel)) ggX5_stretch_X5_isBand
set_option maxRecDepth 20000 in
theorem ggX5_stretch_X5_may : GoodIn wsX5_stretch wsX5_may := goodIn_r _ [9, 10, 29, 30, 31, 32, 33, 34, 35, 36, 37, 38, 39, 40] (by decide +kernel) (by decide +kernel)
set_option maxRecDepth 20000 in
theorem gX5_stretch_X5_may : GoodIn wsX5_stretch (wsV RX5 59 RX5 yX5_may wsX5_may) := goodIn_app (goodIn_of _ (by decide +kernel)) ggX5_stretch_X5_may
set_option maxRecDepth 20000 in
theorem ggX5_stretch_X5_bandOf : GoodIn wsX5_stretch wsX5_bandOf := goodIn_r _ [14, 15, 16, 17, 4, 18, 19, 20, 21, 22, 23, 24, 25, 26, 27, 28, 29, 30, 31, 32, 33, 34, 35, 36, 37, 38, 39, 40] (by decide +kernel) (by decide +kernel)
set_option maxRecDepth 20000 in
theorem gX5_stretch_X5_bandOf : GoodIn wsX5_stretch (wsV RX5 88 RX5 yX5_bandOf wsX5_bandOf) := goodIn_app (goodIn_of _ (by decide +kernel)) ggX5_stretch_X5_bandOf
set_option maxRecDepth 20000 in
theorem ggX5_shorter_X5_east : GoodIn wsX5_shorter wsX5_east := goodIn_r _ [4] (by decide +kernel) (by decide +kernel)
set_option maxRecDepth 20000 in
theorem gX5_shorter_X5_east : GoodIn wsX5_shorter (va_wsS RX5 92 yX5_east wsX5_east) := goodIn_app (goodIn_of _ (by decide +kernel)) ggX5_shorter_X5_east
set_option maxRecDepth 20000 in
theorem ggX5_apart_X5_isLongitude : GoodIn wsX5_apart wsX5_isLongitude := goodIn_r _ [4] (by decide +kernel) (by decide +kernel)
set_option maxRecDepth 20000 in
theorem gX5_apart_X5_isLongitude : GoodIn wsX5_apart (va_wsS RX5 56 yX5_isLongitude wsX5_isLongitude) := goodIn_app (goodIn_of _ (by decide +kernel)) ggX5_apart_X5_isLongitude
set_option maxRecDepth 20000 in
theorem ggX5_apart_X5_may : GoodIn wsX5_apart wsX5_may := goodIn_r _ [8, 9, 16, 17, 18, 19, 20, 21, 22, 23, 24, 25, 26, 27] (by decide +kernel) (by decide +kernel)
set_option maxRecDepth 20000 in
theorem gX5_apart_X5_may : GoodIn wsX5_apart (wsV RX5 59 RX5 yX5_may wsX5_may) := goodIn_app (goodIn_of _ (by decide +kernel)) ggX5_apart_X5_may
end
section
set_option maxRecDepth 20000 in
theorem ggX5_apart_X5_shorter : GoodIn wsX5_apart wsX5_shorter := goodIn_r _ [12, 13, 14, 3, 15] (by decide +kernel) (by decide +kernel)
set_option maxRecDepth 20000 in
theorem gX5_apart_X5_shorter : GoodIn wsX5_apart (va_wsS RX5 96 yX5_shorter wsX5_shorter) := goodIn_app (goodIn_of _ (by decide +kernel)) ggX5_apart_X5_shorter
set_option maxRecDepth 20000 in
theorem ggX5_ringWay_X5_isLatitude : GoodIn wsX5_ringWay wsX5_isLatitude := goodIn_r _ [4] (by decide +kernel) (by decide +kernel)
set_option maxRecDepth 20000 in
theorem gX5_ringWay_X5_isLatitude : GoodIn wsX5_ringWay (va_wsS RX5 52 yX5_isLatitude wsX5_isLatitude) := goodIn_app (goodIn_of _ (by decide +kernel)) ggX5_ringWay_X5_isLatitude
set_option maxRecDepth 20000 in
theorem ggX5_ringWay_X5_isLongitude : GoodIn wsX5_ringWay wsX5_isLongitude := goodIn_r _ [7] (by decide +kernel) (by decide +kernel)
set_option maxRecDepth 20000 in
theorem gX5_ringWay_X5_isLongitude : GoodIn wsX5_ringWay (va_wsS RX5 56 yX5_isLongitude wsX5_isLongitude) := goodIn_app (goodIn_of _ (by decide +kernel)) ggX5_ringWay_X5_isLongitude
set_option maxRecDepth 20000 in
theorem ggX5_ringWay_X5_may : GoodIn wsX5_ringWay wsX5_may := goodIn_r _ [11, 12, 24, 25, 26, 27, 28, 29, 30, 31, 32, 33, 34, 35] (by decide +kernel) (by decide +kernel)
set_option maxRecDepth 20000 in
theorem gX5_ringWay_X5_may : GoodIn wsX5_ringWay (wsV RX5 59 RX5 yX5_may wsX5_may) := goodIn_app (goodIn_of _ (by decide +kernel)) ggX5_ringWay_X5_may
set_option maxRecDepth 20000 in
theorem ggX5_ringWay_X5_shorter : GoodIn wsX5_ringWay wsX5_shorter := goodIn_r _ [15, 16, 17, 3, 18] (by decide +kernel) (by decide +kernel)
set_option maxRecDepth 20000 in
theorem gX5_ringWay_X5_shorter : GoodIn wsX5_ringWay (va_wsS RX5 96 yX5_shorter wsX5_shorter) := goodIn_app (goodIn_of _ (by decide +kernel)) ggX5_ringWay_X5_shorter
set_option maxRecDepth 20000 in
theorem ggX5_ringWay_X5_wide : GoodIn wsX5_ringWay wsX5_wide := goodIn_r _ [22, 23, 24, 25, 26, 27, 28, 29, 30, 31, 32, 33, 34, 35] (by decide +kernel) (by decide +kernel)
set_option maxRecDepth 20000 in
theorem gX5_ringWay_X5_wide : GoodIn wsX5_ringWay (wsV RX5 63 RX5 yX5_wide wsX5_wide) := goodIn_app (goodIn_of _ (by decide +kernel)) ggX5_ringWay_X5_wide
set_option maxRecDepth 20000 in
theorem ggX5_zones_X5_may : GoodIn wsX5_zones wsX5_may := goodIn_r _ [6, 7, 8, 9, 10, 11, 12, 13, 14, 15, 16, 17, 18, 19] (by decide +kernel) (by decide +kernel)
set_option maxRecDepth 20000 in
theorem gX5_zones_X5_may : GoodIn wsX5_zones (wsV RX5 59 RX5 yX5_may wsX5_may) := goodIn_app (goodIn_of _ (by decide +kernel)) ggX5_zones_X5_may
set_option maxRecDepth 20000 in
theorem ggX5_zone_X5_isLongitude : GoodIn wsX5_zone wsX5_isLongitude := goodIn_r _ [4] (by decide +kernel) (by decide +kernel)
set_option maxRecDepth 20000 in
theorem gX5_zone_X5_isLongitude : GoodIn wsX5_zone (va_wsS RX5 56 yX5_isLongitude wsX5_isLongitude) := goodIn_app (goodIn_of _ (by decide +kernel)) ggX5_zone_X5_isLongitude
set_option maxRecDepth 20000 in
theorem ggX5_zone_X5_may : GoodIn wsX5_zone wsX5_may := goodIn_r _ [8, 9, 15, 16, 17, 18, 19, 20, 21, 22, 23, 24, 25, 26] (by decide +kernel) (by decide +kernel)
set_option maxRecDepth 20000 in
theorem gX5_zone_X5_may : GoodIn wsX5_zone (wsV RX5 59 RX5 yX5_may wsX5_may) := goodIn_app (goodIn_of _ (by decide +kernel)) ggX5_zone_X5_may
set_option maxRecDepth 20000 in
theorem ggX5_zone_X5_zoneOf : GoodIn wsX5_zone wsX5_zoneOf := goodIn_r _ [13, 14, 15, 16, 17, 18, 19, 20, 21, 22, 23, 24, 25, 26] (by decide +kernel) (by decide +kernel)
set_option maxRecDepth 20000 in
theorem gX5_zone_X5_zoneOf : GoodIn wsX5_zone (wsV RX5 99 RX5 yX5_zoneOf wsX5_zoneOf) := goodIn_app (goodIn_of _ (by decide +kernel)) ggX5_zone_X5_zoneOf
set_option maxRecDepth 20000 in
theorem ggX5_crossed_X5_east : GoodIn wsX5_crossed wsX5_east := goodIn_r _ [4] (by decide +kernel) (by decide +kernel)
set_option maxRecDepth 20000 in
theorem gX5_crossed_X5_east : GoodIn wsX5_crossed (va_wsS RX5 92 yX5_east wsX5_east) := goodIn_app (goodIn_of _ (by decide +kernel)) ggX5_crossed_X5_east
set_option maxRecDepth 20000 in
theorem ggX5_crossed_X5_zoneOf : GoodIn wsX5_crossed wsX5_zoneOf := goodIn_r _ [8, 9, 10, 11, 12, 13, 14, 15, 16, 17, 18, 19, 20, 21] (by decide +kernel) (by decide +kernel)
set_option maxRecDepth 20000 in
theorem gX5_crossed_X5_zoneOf : GoodIn wsX5_crossed (wsV RX5 99 RX5 yX5_zoneOf wsX5_zoneOf) := goodIn_app (goodIn_of _ (by decide +kernel)) ggX5_crossed_X5_zoneOf
set_option maxRecDepth 20000 in
theorem ggX5_seams_X5_isLongitude : GoodIn wsX5_seams wsX5_isLongitude := goodIn_r _ [4] (by decide +kernel) (by decide +kernel)
set_option maxRecDepth 20000 in
theorem gX5_seams_X5_isLongitude : GoodIn wsX5_seams (va_wsS RX5 56 yX5_isLongitude wsX5_isLongitude) := goodIn_app (goodIn_of _ (by decide +kernel)) ggX5_seams_X5_isLongitude
set_option maxRecDepth 20000 in
theorem ggX5_seams_X5_may : GoodIn wsX5_seams wsX5_may := goodIn_r _ [8, 9, 22, 23, 24, 25, 26, 27, 28, 29, 30, 31, 32, 33] (by decide +kernel) (by decide +kernel)
set_option maxRecDepth 20000 in
theorem gX5_seams_X5_may : GoodIn wsX5_seams (wsV RX5 59 RX5 yX5_may wsX5_may) := goodIn_app (goodIn_of _ (by decide +kernel)) ggX5_seams_X5_may
set_option maxRecDepth 20000 in
theorem ggX5_seams_X5_crossed : GoodIn wsX5_seams wsX5_crossed := goodIn_r _ [13, 14, 15, 3, 16, 17, 18, 19, 20, 21, 22, 23, 24, 25, 26, 27, 28, 29, 30, 31, 32, 33] (by decide +kernel) (by decide +kernel)
set_option maxRecDepth 20000 in
theorem gX5_seams_X5_crossed : GoodIn wsX5_seams (wsV RX5 102 RX5 yX5_crossed wsX5_crossed) := goodIn_app (goodIn_of _ (by decide +kernel)) ggX5_seams_X5_crossed
set_option maxRecDepth 20000 in
theorem ggX5_dateLine_X5_isLongitude : GoodIn wsX5_dateLine wsX5_isLongitude := goodIn_r _ [4] (by decide +kernel) (by decide +kernel)
set_option maxRecDepth 20000 in
theorem gX5_dateLine_X5_isLongitude : GoodIn wsX5_dateLine (va_wsS RX5 56 yX5_isLongitude wsX5_isLongitude) := goodIn_app (goodIn_of _ (by decide +kernel)) ggX5_dateLine_X5_isLongitude
set_option maxRecDepth 20000 in
theorem ggX5_dateLine_X5_may : GoodIn wsX5_dateLine wsX5_may := goodIn_r _ [8, 9, 22, 23, 24, 25, 26, 27, 28, 29, 30, 31, 32, 33] (by decide +kernel) (by decide +kernel)
set_option maxRecDepth 20000 in
theorem gX5_dateLine_X5_may : GoodIn wsX5_dateLine (wsV RX5 59 RX5 yX5_may wsX5_may) := goodIn_app (goodIn_of _ (by decide +kernel)) ggX5_dateLine_X5_may
set_option maxRecDepth 20000 in
theorem ggX5_dateLine_X5_crossed : GoodIn wsX5_dateLine wsX5_crossed := goodIn_r _ [13, 14, 15, 3, 16, 17, 18, 19, 20, 21, 22, 23, 24, 25, 26, 27, 28, 29, 30, 31, 32, 33] (by decide +kernel) (by decide +kernel)
set_option maxRecDepth 20000 in
theorem gX5_dateLine_X5_crossed : GoodIn wsX5_dateLine (wsV RX5 102 RX5 yX5_crossed wsX5_crossed) := goodIn_app (goodIn_of _ (by decide +kernel)) ggX5_dateLine_X5_crossed
set_option maxRecDepth 20000 in
theorem ggX5_sheet_X5_may : GoodIn wsX5_sheet wsX5_may := goodIn_r _ [7, 8, 18, 19, 20, 21, 22, 23, 24, 25, 26, 27, 28, 29] (by decide +kernel) (by decide +kernel)
set_option maxRecDepth 20000 in
theorem gX5_sheet_X5_may : GoodIn wsX5_sheet (wsV RX5 59 RX5 yX5_may wsX5_may) := goodIn_app (goodIn_of _ (by decide +kernel)) ggX5_sheet_X5_may
set_option maxRecDepth 20000 in
theorem ggX5_sheet_X5_lay : GoodIn wsX5_sheet wsX5_lay := goodIn_r _ [12, 13, 14, 15, 16, 17, 18, 19, 20, 21, 22, 23, 24, 25, 26, 27, 28, 29] (by decide +kernel) (by decide +kernel)
set_option maxRecDepth 20000 in
theorem gX5_sheet_X5_lay : GoodIn wsX5_sheet (wsV RX5 42 RX5 yX5_lay wsX5_lay) := goodIn_app (goodIn_of _ (by decide +kernel)) ggX5_sheet_X5_lay
set_option maxRecDepth 20000 in
theorem ggX5_ahead_X5_isPanel : GoodIn wsX5_ahead wsX5_isPanel := goodIn_r _ [7, 8, 9, 10, 11, 12, 13, 14, 15, 16, 17, 18, 19, 20, 21] (by decide +kernel) (by decide +kernel)
set_option maxRecDepth 20000 in
theorem gX5_ahead_X5_isPanel : GoodIn wsX5_ahead (wsV RX5 109 RX5 yX5_isPanel wsX5_isPanel) := goodIn_app (goodIn_of _ (by decide +kernel)) ggX5_ahead_X5_isPanel
set_option maxRecDepth 20000 in
theorem ggX5_fold_X5_ahead : GoodIn wsX5_fold wsX5_ahead := goodIn_r _ [12, 4, 5, 13, 14, 15, 11, 16, 1, 2, 22, 23, 24, 25, 26, 27, 28, 29, 30, 31, 32, 33] (by decide +kernel) (by decide +kernel)
set_option maxRecDepth 20000 in
theorem gX5_fold_X5_ahead : GoodIn wsX5_fold (wsV RX5 112 RX5 yX5_ahead wsX5_ahead) := goodIn_app (goodIn_of _ (by decide +kernel)) ggX5_fold_X5_ahead
set_option maxRecDepth 20000 in
theorem ggX5_fold_X5_may : GoodIn wsX5_fold wsX5_may := goodIn_r _ [20, 21, 22, 23, 24, 25, 26, 27, 28, 29, 30, 31, 32, 33] (by decide +kernel) (by decide +kernel)
set_option maxRecDepth 20000 in
theorem gX5_fold_X5_may : GoodIn wsX5_fold (wsV RX5 59 RX5 yX5_may wsX5_may) := goodIn_app (goodIn_of _ (by decide +kernel)) ggX5_fold_X5_may
set_option maxRecDepth 20000 in
theorem ggX5_fold_X5_isPanel : GoodIn wsX5_fold wsX5_isPanel := goodIn_r _ [16, 1, 2, 22, 23, 24, 25, 26, 27, 28, 29, 30, 31, 32, 33] (by decide +kernel) (by decide +kernel)
set_option maxRecDepth 20000 in
theorem gX5_fold_X5_isPanel : GoodIn wsX5_fold (wsV RX5 109 RX5 yX5_isPanel wsX5_isPanel) := goodIn_app (goodIn_of _ (by decide +kernel)) ggX5_fold_X5_isPanel
set_option maxRecDepth 20000 in
theorem ggX5_foldColumns_X5_fold : GoodIn wsX5_foldColumns wsX5_fold := goodIn_r _ [5, 6, 7, 8, 9, 10, 11, 12, 13, 14, 15, 4, 16, 17, 18, 19, 20, 21, 22, 23, 24, 25, 26, 27, 28, 29, 30, 31, 32, 33, 34, 35, 36, 37] (by decide +kernel) (by decide +kernel)
set_option maxRecDepth 20000 in
theorem gX5_foldColumns_X5_fold : GoodIn wsX5_foldColumns (wsV RX5 116 RX5 yX5_fold wsX5_fold) := goodIn_app (goodIn_of _ (by decide +kernel)) ggX5_foldColumns_X5_fold
set_option maxRecDepth 20000 in
theorem ggX5_foldRows_X5_fold : GoodIn wsX5_foldRows wsX5_fold := goodIn_r _ [5, 6, 7, 8, 9, 10, 11, 12, 13, 14, 15, 4, 16, 17, 18, 19, 20, 21, 22, 23, 24, 25, 26, 27, 28, 29, 30, 31, 32, 33, 34, 35, 36, 37] (by decide +kernel) (by decide +kernel)
set_option maxRecDepth 20000 in
theorem gX5_foldRows_X5_fold : GoodIn wsX5_foldRows (wsV RX5 116 RX5 yX5_fold wsX5_fold) := goodIn_app (goodIn_of _ (by decide +kernel)) ggX5_foldRows_X5_fold
set_option maxRecDepth 20000 in
theorem ggX5_unfold_X5_lay : GoodIn wsX5_unfold wsX5_lay := goodIn_r _ [7, 2, 8, 9, 10, 11, 12, 13, 14, 15, 16, 17, 18, 19, 20, 21, 22, 23] (by decide +kernel) (by decide +kernel)
set_option maxRecDepth 20000 in
theorem gX5_unfold_X5_lay : GoodIn wsX5_unfold (wsV RX5 42 RX5 yX5_lay wsX5_lay) := goodIn_app (goodIn_of _ (by decide +kernel)) ggX5_unfold_X5_lay
set_option maxRecDepth 20000 in
theorem ggX5_panel_X5_isLatitude : GoodIn wsX5_panel wsX5_isLatitude := goodIn_r _ [6] (by decide +kernel) (by decide +kernel)
set_option maxRecDepth 20000 in
theorem gX5_panel_X5_isLatitude : GoodIn wsX5_panel (va_wsS RX5 52 yX5_isLatitude wsX5_isLatitude) := goodIn_app (goodIn_of _ (by decide +kernel)) ggX5_panel_X5_isLatitude
set_option maxRecDepth 20000 in
theorem ggX5_panel_X5_isLongitude : GoodIn wsX5_panel wsX5_isLongitude := goodIn_r _ [9] (by decide +kernel) (by decide +kernel)
set_option maxRecDepth 20000 in
theorem gX5_panel_X5_isLongitude : GoodIn wsX5_panel (va_wsS RX5 56 yX5_isLongitude wsX5_isLongitude) := goodIn_app (goodIn_of _ (by decide +kernel)) ggX5_panel_X5_isLongitude
set_option maxRecDepth 20000 in
theorem ggX5_panel_X5_may : GoodIn wsX5_panel wsX5_may := goodIn_r _ [13, 14, 15, 16, 17, 18, 19, 20, 21, 22, 23, 24, 25, 26] (by decide +kernel) (by decide +kernel)
set_option maxRecDepth 20000 in
theorem gX5_panel_X5_may : GoodIn wsX5_panel (wsV RX5 59 RX5 yX5_may wsX5_may) := goodIn_app (goodIn_of _ (by decide +kernel)) ggX5_panel_X5_may
set_option maxRecDepth 20000 in
theorem ggX5_has_X5_may : GoodIn wsX5_has wsX5_may := goodIn_r _ [7, 8, 9, 10, 11, 12, 13, 14, 15, 16, 17, 18, 19, 20] (by decide +kernel) (by decide +kernel)
set_option maxRecDepth 20000 in
theorem gX5_has_X5_may : GoodIn wsX5_has (wsV RX5 59 RX5 yX5_may wsX5_may) := goodIn_app (goodIn_of _ (by decide +kernel)) ggX5_has_X5_may
set_option maxRecDepth 20000 in
theorem ggX5_placeX_X5_has : GoodIn wsX5_placeX wsX5_has := goodIn_r _ [6, 7, 8, 9, 10, 11, 5, 12, 13, 14, 15, 16, 17, 18, 19, 20, 21, 22, 23, 24, 25] (by decide +kernel) (by decide +kernel)
set_option maxRecDepth 20000 in
theorem gX5_placeX_X5_has : GoodIn wsX5_placeX (wsV RX5 119 RX5 yX5_has wsX5_has) := goodIn_app (goodIn_of _ (by decide +kernel)) ggX5_placeX_X5_has
set_option maxRecDepth 20000 in
theorem ggX5_placeY_X5_has : GoodIn wsX5_placeY wsX5_has := goodIn_r _ [6, 7, 8, 9, 10, 11, 5, 12, 13, 14, 15, 16, 17, 18, 19, 20, 21, 22, 23, 24, 25] (by decide +kernel) (by decide +kernel)
set_option maxRecDepth 20000 in
theorem gX5_placeY_X5_has : GoodIn wsX5_placeY (wsV RX5 119 RX5 yX5_has wsX5_has) := goodIn_app (goodIn_of _ (by decide +kernel)) ggX5_placeY_X5_has
set_option maxRecDepth 20000 in
theorem ggX5_stacked_X5_isPanel : GoodIn wsX5_stacked wsX5_isPanel := goodIn_r _ [8, 9, 10, 11, 12, 13, 14, 15, 16, 17, 18, 19, 20, 21, 22] (by decide +kernel) (by decide +kernel)
set_option maxRecDepth 20000 in
theorem gX5_stacked_X5_isPanel : GoodIn wsX5_stacked (wsV RX5 109 RX5 yX5_isPanel wsX5_isPanel) := goodIn_app (goodIn_of _ (by decide +kernel)) ggX5_stacked_X5_isPanel
set_option maxRecDepth 20000 in
theorem ggX5_above_X5_has : GoodIn wsX5_above wsX5_has := goodIn_r _ [5, 6, 7, 8, 9, 10, 4, 11, 12, 24, 25, 26, 27, 28, 29, 30, 31, 32, 33, 34, 35] (by decide +kernel) (by decide +kernel)
set_option maxRecDepth 20000 in
theorem gX5_above_X5_has : GoodIn wsX5_above (wsV RX5 119 RX5 yX5_has wsX5_has) := goodIn_app (goodIn_of _ (by decide +kernel)) ggX5_above_X5_has
set_option maxRecDepth 20000 in
theorem ggX5_above_X5_stacked : GoodIn wsX5_above wsX5_stacked := goodIn_r _ [16, 17, 18, 19, 20, 21, 22, 4, 23, 6, 7, 24, 25, 26, 27, 28, 29, 30, 31, 32, 33, 34, 35] (by decide +kernel) (by decide +kernel)
set_option maxRecDepth 20000 in
theorem gX5_above_X5_stacked : GoodIn wsX5_above (wsV RX5 123 RX5 yX5_stacked wsX5_stacked) := goodIn_app (goodIn_of _ (by decide +kernel)) ggX5_above_X5_stacked
set_option maxRecDepth 20000 in
theorem ggX5_isUp_X5_has : GoodIn wsX5_isUp wsX5_has := goodIn_r _ [6, 7, 8, 9, 10, 11, 5, 12, 13, 14, 15, 16, 17, 18, 19, 20, 21, 22, 23, 24, 25] (by decide +kernel) (by decide +kernel)
set_option maxRecDepth 20000 in
theorem gX5_isUp_X5_has : GoodIn wsX5_isUp (wsV RX5 119 RX5 yX5_has wsX5_has) := goodIn_app (goodIn_of _ (by decide +kernel)) ggX5_isUp_X5_has
set_option maxRecDepth 20000 in
theorem ggX5_thickness_X5_isPanel : GoodIn wsX5_thickness wsX5_isPanel := goodIn_r _ [6, 7, 8, 16, 17, 18, 19, 20, 21, 22, 23, 24, 25, 26, 27] (by decide +kernel) (by decide +kernel)
set_option maxRecDepth 20000 in
theorem gX5_thickness_X5_isPanel : GoodIn wsX5_thickness (wsV RX5 109 RX5 yX5_isPanel wsX5_isPanel) := goodIn_app (goodIn_of _ (by decide +kernel)) ggX5_thickness_X5_isPanel
set_option maxRecDepth 20000 in
theorem ggX5_thickness_X5_stacked : GoodIn wsX5_thickness wsX5_stacked := goodIn_r _ [12, 13, 14, 15, 2, 3, 4, 5, 6, 7, 8, 16, 17, 18, 19, 20, 21, 22, 23, 24, 25, 26, 27] (by decide +kernel) (by decide +kernel)
set_option maxRecDepth 20000 in
theorem gX5_thickness_X5_stacked : GoodIn wsX5_thickness (wsV RX5 123 RX5 yX5_stacked wsX5_stacked) := goodIn_app (goodIn_of _ (by decide +kernel)) ggX5_thickness_X5_stacked
set_option maxRecDepth 20000 in
theorem ggX5_readable_X5_isPanel : GoodIn wsX5_readable wsX5_isPanel := goodIn_r _ [7, 8, 9, 17, 18, 19, 20, 21, 22, 23, 24, 25, 26, 27, 28] (by decide +kernel) (by decide +kernel)
set_option maxRecDepth 20000 in
theorem gX5_readable_X5_isPanel : GoodIn wsX5_readable (wsV RX5 109 RX5 yX5_isPanel wsX5_isPanel) := goodIn_app (goodIn_of _ (by decide +kernel)) ggX5_readable_X5_isPanel
set_option maxRecDepth 20000 in
theorem ggX5_readable_X5_stacked : GoodIn wsX5_readable wsX5_stacked := goodIn_r _ [13, 14, 15, 16, 3, 4, 5, 6, 7, 8, 9, 17, 18, 19, 20, 21, 22, 23, 24, 25, 26, 27, 28] (by decide +kernel) (by decide +kernel)
set_option maxRecDepth 20000 in
theorem gX5_readable_X5_stacked : GoodIn wsX5_readable (wsV RX5 123 RX5 yX5_stacked wsX5_stacked) := goodIn_app (goodIn_of _ (by decide +kernel)) ggX5_readable_X5_stacked
set_option maxRecDepth 20000 in
theorem ggL_table_X4_table : GoodIn wsL_table wsX4_table := goodIn_ca (goodIn_ca (goodIn_ca (goodIn_r _ [8, 9, 10, 11, 12, 13, 14, 15, 16, 17, 18, 19, 20, 21, 22, 23, 24, 25, 26, 27, 28, 29, 30, 31, 32, 33, 34, 35] (by decide +kernel) (by decide +kernel)) (goodIn_sub (fun _ h => List.mem_cons_of_mem _ (List.mem_append_left _ (List.mem_append_left _ (List.mem_append_right _ h)))) (by decide +kernel))) (goodIn_sub (fun _ h => List.mem_cons_of_mem _ (List.mem_append_left _ (List.mem_append_right _ h))) (by decide +kernel))) (goodIn_sub (fun _ h => List.mem_cons_of_mem _ (List.mem_append_right _ h)) (by decide +kernel))
set_option maxRecDepth 20000 in
theorem gL_table_X4_table : GoodIn wsL_table (wsV RL 7 RX4 yX4_table wsX4_table) := goodIn_app (goodIn_of _ (by decide +kernel)) ggL_table_X4_table
set_option maxRecDepth 20000 in
theorem ggL_x_X4_x : GoodIn wsL_x wsX4_x := goodIn_ca (goodIn_r _ [6, 7, 8, 9, 5, 10, 11, 12, 13, 14, 15, 16, 17, 18, 19, 20, 21, 22, 23, 24, 25, 26, 27, 28, 29, 30, 31, 32, 33, 34, 35, 36, 37] (by decide +kernel) (by decide +kernel)) (goodIn_sub (fun _ h => List.mem_cons_of_mem _ (List.mem_append_right _ h)) (by decide +kernel))
set_option maxRecDepth 20000 in
theorem gL_x_X4_x : GoodIn wsL_x (wsV RL 19 RX4 yX4_x wsX4_x) := goodIn_app (goodIn_of _ (by decide +kernel)) ggL_x_X4_x
set_option maxRecDepth 20000 in
theorem ggL_y_X4_y : GoodIn wsL_y wsX4_y := goodIn_ca (goodIn_r _ [6, 7, 8, 9, 5, 10, 11, 12, 13, 14, 15, 16, 17, 18, 19, 20, 21, 22, 23, 24, 25, 26, 27, 28, 29, 30, 31, 32, 33, 34] (by decide +kernel) (by decide +kernel)) (goodIn_sub (fun _ h => List.mem_cons_of_mem _ (List.mem_append_right _ h)) (by decide +kernel))
set_option maxRecDepth 20000 in
theorem gL_y_X4_y : GoodIn wsL_y (wsV RL 23 RX4 yX4_y wsX4_y) := goodIn_app (goodIn_of _ (by decide +kernel)) ggL_y_X4_y
set_option maxRecDepth 20000 in
theorem ggL_latitudeAt_X4_latitudeAt : GoodIn wsL_latitudeAt wsX4_latitudeAt := goodIn_ca (goodIn_ca (goodIn_r _ [7, 8, 9, 10, 11, 12, 13, 14, 15, 16, 17, 18, 19, 20, 21, 22, 23, 24, 25, 26, 27, 28, 29, 30, 31, 32, 33, 34, 35, 36, 37, 38, 39, 40] (by decide +kernel) (by decide +kernel)) (goodIn_sub (fun _ h => List.mem_cons_of_mem _ (List.mem_append_left _ (List.mem_append_right _ h))) (by decide +kernel))) (goodIn_sub (fun _ h => List.mem_cons_of_mem _ (List.mem_append_right _ h)) (by decide +kernel))
set_option maxRecDepth 20000 in
theorem gL_latitudeAt_X4_latitudeAt : GoodIn wsL_latitudeAt (wsV RL 27 RX4 yX4_latitudeAt wsX4_latitudeAt) := goodIn_app (goodIn_of _ (by decide +kernel)) ggL_latitudeAt_X4_latitudeAt
set_option maxRecDepth 20000 in
theorem ggL_area_X4_area : GoodIn wsL_area wsX4_area := goodIn_ca (goodIn_r _ [6, 7, 8, 9, 10, 11, 12, 13, 14, 15, 16, 17, 18, 19, 20, 21, 22, 23, 24, 25, 26, 27, 28, 29, 30, 31, 32, 33, 34, 35, 36, 37, 38, 39, 40, 41, 42, 43, 44] (by decide +kernel) (by decide +kernel)) (goodIn_sub (fun _ h => List.mem_cons_of_mem _ (List.mem_append_right _ h)) (by decide +kernel))
set_option maxRecDepth 20000 in
theorem gL_area_X4_area : GoodIn wsL_area (wsV RL 30 RX4 yX4_area wsX4_area) := goodIn_app (goodIn_of _ (by decide +kernel)) ggL_area_X4_area
set_option maxRecDepth 20000 in
theorem ggL_areaByCells_X4_areaByCells : GoodIn wsL_areaByCells wsX4_areaByCells := goodIn_ca (goodIn_r _ [6, 7, 8, 9, 5, 10, 11, 12, 13, 14, 15, 16, 17, 18, 19, 20, 21, 22, 23, 24, 25, 26, 27, 28, 29, 30, 31, 32, 33, 34, 35, 36, 37, 38, 39, 40, 41, 42, 43, 44, 45, 46, 47, 48] (by decide +kernel) (by decide +kernel)) (goodIn_sub (fun _ h => List.mem_cons_of_mem _ (List.mem_append_right _ h)) (by decide +kernel))
set_option maxRecDepth 20000 in
theorem gL_areaByCells_X4_areaByCells : GoodIn wsL_areaByCells (wsV RL 34 RX4 yX4_areaByCells wsX4_areaByCells) := goodIn_app (goodIn_of _ (by decide +kernel)) ggL_areaByCells_X4_areaByCells
set_option maxRecDepth 20000 in
theorem ggL_truth_X4_truth : GoodIn wsL_truth wsX4_truth := goodIn_ca (goodIn_ca (goodIn_r _ [7, 8, 9, 10, 11, 12, 13, 6, 14, 15, 16, 17, 18, 19, 20, 21, 22, 23, 24, 25, 26, 27, 28, 29, 30, 31] (by decide +kernel) (by decide +kernel)) (goodIn_sub (fun _ h => List.mem_cons_of_mem _ (List.mem_append_left _ (List.mem_append_right _ h))) (by decide +kernel))) (goodIn_sub (fun _ h => List.mem_cons_of_mem _ (List.mem_append_right _ h)) (by decide +kernel))
set_option maxRecDepth 20000 in
theorem gL_truth_X4_truth : GoodIn wsL_truth (wsV RL 37 RX4 yX4_truth wsX4_truth) := goodIn_app (goodIn_of _ (by decide +kernel)) ggL_truth_X4_truth
set_option maxRecDepth 20000 in
theorem ggL_stretch_X4_stretch : GoodIn wsL_stretch wsX4_stretch := goodIn_ca (goodIn_r _ [6, 7, 8, 9, 10, 5, 11, 12, 13, 14, 15, 16, 17, 18, 19, 20, 21, 22, 23, 24, 25, 26, 27, 28, 29, 30, 31, 32, 33, 34, 35, 36, 37, 38, 39, 40, 41] (by decide +kernel) (by decide +kernel)) (goodIn_sub (fun _ h => List.mem_cons_of_mem _ (List.mem_append_right _ h)) (by decide +kernel))
set_option maxRecDepth 20000 in
theorem gL_stretch_X4_stretch : GoodIn wsL_stretch (wsV RL 40 RX4 yX4_stretch wsX4_stretch) := goodIn_app (goodIn_of _ (by decide +kernel)) ggL_stretch_X4_stretch
set_option maxRecDepth 20000 in
theorem ggL_apart_X4_apart : GoodIn wsL_apart wsX4_apart := goodIn_ca (goodIn_r _ [6, 7, 8, 5, 9, 10, 11, 12, 13, 14, 15, 16, 17, 18, 19, 20, 21] (by decide +kernel) (by decide +kernel)) (goodIn_sub (fun _ h => List.mem_cons_of_mem _ (List.mem_append_right _ h)) (by decide +kernel))
set_option maxRecDepth 20000 in
theorem gL_apart_X4_apart : GoodIn wsL_apart (wsV RL 44 RX4 yX4_apart wsX4_apart) := goodIn_app (goodIn_of _ (by decide +kernel)) ggL_apart_X4_apart
set_option maxRecDepth 20000 in
theorem ggL_ringWay_X4_ringWay : GoodIn wsL_ringWay wsX4_ringWay := goodIn_ca (goodIn_r _ [6, 7, 8, 9, 5, 10, 11, 12, 13, 14, 15, 16, 17, 18, 19, 20, 21, 22, 23, 24, 25, 26, 27, 28, 29, 30, 31, 32, 33, 34, 35, 36, 37, 38, 39, 40, 41, 42, 43, 44, 45, 46] (by decide +kernel) (by decide +kernel)) (goodIn_sub (fun _ h => List.mem_cons_of_mem _ (List.mem_append_right _ h)) (by decide +kernel))
set_option maxRecDepth 20000 in
theorem gL_ringWay_X4_ringWay : GoodIn wsL_ringWay (wsV RL 47 RX4 yX4_ringWay wsX4_ringWay) := goodIn_app (goodIn_of _ (by decide +kernel)) ggL_ringWay_X4_ringWay
set_option maxRecDepth 20000 in
theorem ggL_zones_X4_zones : GoodIn wsL_zones wsX4_zones := goodIn_ca (goodIn_r _ [6, 7, 8, 9, 10, 11, 12, 13, 14, 15, 16, 17, 18, 19, 20] (by decide +kernel) (by decide +kernel)) (goodIn_sub (fun _ h => List.mem_cons_of_mem _ (List.mem_append_right _ h)) (by decide +kernel))
set_option maxRecDepth 20000 in
theorem gL_zones_X4_zones : GoodIn wsL_zones (wsV RL 51 RX4 yX4_zones wsX4_zones) := goodIn_app (goodIn_of _ (by decide +kernel)) ggL_zones_X4_zones
set_option maxRecDepth 20000 in
theorem ggL_zone_X4_zone : GoodIn wsL_zone wsX4_zone := goodIn_ca (goodIn_r _ [6, 7, 8, 9, 5, 10, 11, 12, 13, 14, 15, 16, 17, 18, 19, 20, 21, 22, 23] (by decide +kernel) (by decide +kernel)) (goodIn_sub (fun _ h => List.mem_cons_of_mem _ (List.mem_append_right _ h)) (by decide +kernel))
set_option maxRecDepth 20000 in
theorem gL_zone_X4_zone : GoodIn wsL_zone (wsV RL 54 RX4 yX4_zone wsX4_zone) := goodIn_app (goodIn_of _ (by decide +kernel)) ggL_zone_X4_zone
set_option maxRecDepth 20000 in
theorem ggL_seams_X4_seams : GoodIn wsL_seams wsX4_seams := goodIn_ca (goodIn_r _ [6, 7, 8, 9, 5, 10, 11, 12, 13, 14, 15, 16, 17, 18, 19, 20, 21, 22, 23, 24, 25, 26, 27, 28, 29, 30, 31, 32, 33, 34, 35, 36, 37, 38, 39, 40] (by decide +kernel) (by decide +kernel)) (goodIn_sub (fun _ h => List.mem_cons_of_mem _ (List.mem_append_right _ h)) (by decide +kernel))
set_option maxRecDepth 20000 in
theorem gL_seams_X4_seams : GoodIn wsL_seams (wsV RL 57 RX4 yX4_seams wsX4_seams) := goodIn_app (goodIn_of _ (by decide +kernel)) ggL_seams_X4_seams
set_option maxRecDepth 20000 in
theorem ggL_dateLine_X4_dateLine : GoodIn wsL_dateLine wsX4_dateLine := goodIn_ca (goodIn_r _ [6, 7, 8, 5, 9, 10, 11, 12, 13, 14, 15, 16, 17] (by decide +kernel) (by decide +kernel)) (goodIn_sub (fun _ h => List.mem_cons_of_mem _ (List.mem_append_right _ h)) (by decide +kernel))
set_option maxRecDepth 20000 in
theorem gL_dateLine_X4_dateLine : GoodIn wsL_dateLine (wsV RL 60 RX4 yX4_dateLine wsX4_dateLine) := goodIn_app (goodIn_of _ (by decide +kernel)) ggL_dateLine_X4_dateLine
set_option maxRecDepth 20000 in
theorem ggL_sheet_X4_sheet : GoodIn wsL_sheet wsX4_sheet := goodIn_ca (goodIn_r _ [6, 7, 8, 9, 10, 11, 12, 13, 14, 15, 16, 17, 18, 19, 20, 21, 22, 23, 24, 25, 26, 27, 28, 29, 30, 31, 32, 33, 34, 35, 36, 37, 38, 39, 40] (by decide +kernel) (by decide +kernel)) (goodIn_sub (fun _ h => List.mem_cons_of_mem _ (List.mem_append_right _ h)) (by decide +kernel))
set_option maxRecDepth 20000 in
theorem gL_sheet_X4_sheet : GoodIn wsL_sheet (wsV RL 63 RX4 yX4_sheet wsX4_sheet) := goodIn_app (goodIn_of _ (by decide +kernel)) ggL_sheet_X4_sheet
set_option maxRecDepth 20000 in
theorem ggL_foldColumns_X4_foldColumns : GoodIn wsL_foldColumns wsX4_foldColumns := goodIn_ca (goodIn_r _ [6, 7, 8, 9, 10, 11, 12, 13, 14, 15, 16, 17, 18, 19, 20, 21, 22, 23, 24, 25, 26, 27, 28, 29, 30, 31, 32, 33, 34, 35, 36, 37, 38, 39, 40, 5, 41, 42, 43, 44, 45, 46, 47, 48, 49, 50, 51, 52, 53, 54] (by decide +kernel) (by decide +kernel)) (goodIn_sub (fun _ h => List.mem_cons_of_mem _ (List.mem_append_right _ h)) (by decide +kernel))
set_option maxRecDepth 20000 in
theorem gL_foldColumns_X4_foldColumns : GoodIn wsL_foldColumns (wsV RL 67 RX4 yX4_foldColumns wsX4_foldColumns) := goodIn_app (goodIn_of _ (by decide +kernel)) ggL_foldColumns_X4_foldColumns
set_option maxRecDepth 20000 in
theorem ggL_foldRows_X4_foldRows : GoodIn wsL_foldRows wsX4_foldRows := goodIn_ca (goodIn_r _ [6, 7, 8, 9, 10, 11, 12, 13, 14, 15, 16, 17, 18, 19, 20, 21, 22, 23, 24, 25, 26, 27, 28, 29, 30, 31, 32, 33, 34, 35, 36, 37, 38, 39, 40, 5, 41, 42, 43, 44, 45, 46, 47, 48, 49, 50, 51, 52, 53, 54] (by decide +kernel) (by decide +kernel)) (goodIn_sub (fun _ h => List.mem_cons_of_mem _ (List.mem_append_right _ h)) (by decide +kernel))
set_option maxRecDepth 20000 in
theorem gL_foldRows_X4_foldRows : GoodIn wsL_foldRows (wsV RL 70 RX4 yX4_foldRows wsX4_foldRows) := goodIn_app (goodIn_of _ (by decide +kernel)) ggL_foldRows_X4_foldRows
set_option maxRecDepth 20000 in
theorem ggL_panel_X4_panel : GoodIn wsL_panel wsX4_panel := goodIn_ca (goodIn_r _ [6, 7, 8, 9, 5, 10, 11, 12, 13, 14, 15, 16, 17, 18, 19, 20, 21, 22, 23, 24, 25, 26, 27, 28, 29, 30, 31, 32, 33, 34, 35, 36, 37, 38, 39, 40, 41] (by decide +kernel) (by decide +kernel)) (goodIn_sub (fun _ h => List.mem_cons_of_mem _ (List.mem_append_right _ h)) (by decide +kernel))
set_option maxRecDepth 20000 in
theorem gL_panel_X4_panel : GoodIn wsL_panel (wsV RL 73 RX4 yX4_panel wsX4_panel) := goodIn_app (goodIn_of _ (by decide +kernel)) ggL_panel_X4_panel
set_option maxRecDepth 20000 in
theorem ggL_placeX_X4_placeX : GoodIn wsL_placeX wsX4_placeX := goodIn_ca (goodIn_r _ [6, 7, 8, 9, 10, 5, 11, 12, 13, 14, 15, 16, 17, 18, 19, 20, 21, 22, 23, 24, 25, 26, 27, 28, 29, 30, 31, 32, 33, 34, 35, 36, 37, 38, 39, 40, 41] (by decide +kernel) (by decide +kernel)) (goodIn_sub (fun _ h => List.mem_cons_of_mem _ (List.mem_append_right _ h)) (by decide +kernel))
set_option maxRecDepth 20000 in
theorem gL_placeX_X4_placeX : GoodIn wsL_placeX (wsV RL 76 RX4 yX4_placeX wsX4_placeX) := goodIn_app (goodIn_of _ (by decide +kernel)) ggL_placeX_X4_placeX
set_option maxRecDepth 20000 in
theorem ggL_placeY_X4_placeY : GoodIn wsL_placeY wsX4_placeY := goodIn_ca (goodIn_r _ [6, 7, 8, 9, 10, 5, 11, 12, 13, 14, 15, 16, 17, 18, 19, 20, 21, 22, 23, 24, 25, 26, 27, 28, 29, 30, 31, 32, 33, 34, 35, 36, 37, 38, 39, 40, 41] (by decide +kernel) (by decide +kernel)) (goodIn_sub (fun _ h => List.mem_cons_of_mem _ (List.mem_append_right _ h)) (by decide +kernel))
set_option maxRecDepth 20000 in
theorem gL_placeY_X4_placeY : GoodIn wsL_placeY (wsV RL 79 RX4 yX4_placeY wsX4_placeY) := goodIn_app (goodIn_of _ (by decide +kernel)) ggL_placeY_X4_placeY
set_option maxRecDepth 20000 in
theorem ggL_above_X4_above : GoodIn wsL_above wsX4_above := goodIn_ca (goodIn_r _ [6, 7, 8, 9, 10, 5, 11, 12, 13, 14, 15, 16, 17, 18, 19, 20, 21, 22, 23, 24, 25, 26, 27, 28, 29, 30, 31, 32, 33, 34, 35, 36, 37, 38, 39, 40, 41, 42, 43, 44, 45, 46, 47, 48, 49, 50, 51] (by decide +kernel) (by decide +kernel)) (goodIn_sub (fun _ h => List.mem_cons_of_mem _ (List.mem_append_right _ h)) (by decide +kernel))
set_option maxRecDepth 20000 in
theorem gL_above_X4_above : GoodIn wsL_above (wsV RL 82 RX4 yX4_above wsX4_above) := goodIn_app (goodIn_of _ (by decide +kernel)) ggL_above_X4_above
set_option maxRecDepth 20000 in
theorem ggL_isUp_X4_isUp : GoodIn wsL_isUp wsX4_isUp := goodIn_ca (goodIn_r _ [6, 7, 8, 9, 10, 5, 11, 12, 13, 14, 15, 16, 17, 18, 19, 20, 21, 22, 23, 24, 25, 26, 27, 28, 29, 30, 31, 32, 33, 34, 35, 36, 37, 38, 39, 40, 41] (by decide +kernel) (by decide +kernel)) (goodIn_sub (fun _ h => List.mem_cons_of_mem _ (List.mem_append_right _ h)) (by decide +kernel))
set_option maxRecDepth 20000 in
theorem gL_isUp_X4_isUp : GoodIn wsL_isUp (wsV RL 85 RX4 yX4_isUp wsX4_isUp) := goodIn_app (goodIn_of _ (by decide +kernel)) ggL_isUp_X4_isUp
end
section
theorem dX0_init_0 : decode cX0_init 0 = .ok (.aload_n 0, 1) := by decide +kernel
theorem dX0_init_1 : decode cX0_init 1 = .ok (.invokespecial 3, 3) := by decide +kernel
theorem dX0_init_4 : decode cX0_init 4 = .ok (.aload_n 0, 1) := by decide +kernel
theorem dX0_init_5 : decode cX0_init 5 = .ok (.bipush 9, 2) := by decide +kernel
theorem dX0_init_7 : decode cX0_init 7 = .ok (.newarray .int, 2) := by decide +kernel
theorem dX0_init_9 : decode cX0_init 9 = .ok (.putfield 9, 3) := by decide +kernel
theorem dX0_init_12 : decode cX0_init 12 = .ok (.iconst 0, 1) := by decide +kernel
theorem dX0_init_13 : decode cX0_init 13 = .ok (.istore_n 1, 1) := by decide +kernel
theorem dX0_init_14 : decode cX0_init 14 = .ok (.iload_n 1, 1) := by decide +kernel
theorem dX0_init_15 : decode cX0_init 15 = .ok (.bipush 9, 2) := by decide +kernel
theorem dX0_init_17 : decode cX0_init 17 = .ok (.if_icmp .ge 18, 3) := by decide +kernel
theorem dX0_init_20 : decode cX0_init 20 = .ok (.aload_n 0, 1) := by decide +kernel
theorem dX0_init_21 : decode cX0_init 21 = .ok (.getfield 9, 3) := by decide +kernel
theorem dX0_init_24 : decode cX0_init 24 = .ok (.iload_n 1, 1) := by decide +kernel
theorem dX0_init_25 : decode cX0_init 25 = .ok (.sipush 1000, 3) := by decide +kernel
theorem dX0_init_28 : decode cX0_init 28 = .ok (.iastore, 1) := by decide +kernel
theorem dX0_init_29 : decode cX0_init 29 = .ok (.iinc 1 1, 3) := by decide +kernel
theorem dX0_init_32 : decode cX0_init 32 = .ok (.goto (-18), 3) := by decide +kernel
theorem dX0_init_35 : decode cX0_init 35 = .ok (.return_, 1) := by decide +kernel
theorem dX0_replaceTruth_0 : decode cX0_replaceTruth 0 = .ok (.aload_n 0, 1) := by decide +kernel
theorem dX0_replaceTruth_1 : decode cX0_replaceTruth 1 = .ok (.iload_n 1, 1) := by decide +kernel
theorem dX0_replaceTruth_2 : decode cX0_replaceTruth 2 = .ok (.invokevirtual 15, 3) := by decide +kernel
theorem dX0_replaceTruth_5 : decode cX0_replaceTruth 5 = .ok (.istore_n 3, 1) := by decide +kernel
theorem dX0_replaceTruth_6 : decode cX0_replaceTruth 6 = .ok (.iload_n 1, 1) := by decide +kernel
theorem dX0_replaceTruth_7 : decode cX0_replaceTruth 7 = .ok (.ifCond .lt 16, 3) := by decide +kernel
theorem dX0_replaceTruth_10 : decode cX0_replaceTruth 10 = .ok (.iload_n 1, 1) := by decide +kernel
theorem dX0_replaceTruth_11 : decode cX0_replaceTruth 11 = .ok (.bipush 9, 2) := by decide +kernel
theorem dX0_replaceTruth_13 : decode cX0_replaceTruth 13 = .ok (.if_icmp .ge 10, 3) := by decide +kernel
theorem dX0_replaceTruth_16 : decode cX0_replaceTruth 16 = .ok (.aload_n 0, 1) := by decide +kernel
theorem dX0_replaceTruth_17 : decode cX0_replaceTruth 17 = .ok (.getfield 9, 3) := by decide +kernel
theorem dX0_replaceTruth_20 : decode cX0_replaceTruth 20 = .ok (.iload_n 1, 1) := by decide +kernel
theorem dX0_replaceTruth_21 : decode cX0_replaceTruth 21 = .ok (.iload_n 2, 1) := by decide +kernel
theorem dX0_replaceTruth_22 : decode cX0_replaceTruth 22 = .ok (.iastore, 1) := by decide +kernel
theorem dX0_replaceTruth_23 : decode cX0_replaceTruth 23 = .ok (.iload_n 3, 1) := by decide +kernel
theorem dX0_replaceTruth_24 : decode cX0_replaceTruth 24 = .ok (.ireturn, 1) := by decide +kernel
theorem dX0_areAllAlike_0 : decode cX0_areAllAlike 0 = .ok (.iconst 1, 1) := by decide +kernel
theorem dX0_areAllAlike_1 : decode cX0_areAllAlike 1 = .ok (.istore_n 2, 1) := by decide +kernel
theorem dX0_areAllAlike_2 : decode cX0_areAllAlike 2 = .ok (.iload_n 2, 1) := by decide +kernel
theorem dX0_areAllAlike_3 : decode cX0_areAllAlike 3 = .ok (.bipush 9, 2) := by decide +kernel
theorem dX0_areAllAlike_5 : decode cX0_areAllAlike 5 = .ok (.if_icmp .ge 21, 3) := by decide +kernel
theorem dX0_areAllAlike_8 : decode cX0_areAllAlike 8 = .ok (.aload_n 0, 1) := by decide +kernel
theorem dX0_areAllAlike_9 : decode cX0_areAllAlike 9 = .ok (.aload_n 1, 1) := by decide +kernel
theorem dX0_areAllAlike_10 : decode cX0_areAllAlike 10 = .ok (.iload_n 2, 1) := by decide +kernel
theorem dX0_areAllAlike_11 : decode cX0_areAllAlike 11 = .ok (.iconst 0, 1) := by decide +kernel
theorem dX0_areAllAlike_12 : decode cX0_areAllAlike 12 = .ok (.invokevirtual 19, 3) := by decide +kernel
theorem dX0_areAllAlike_15 : decode cX0_areAllAlike 15 = .ok (.ifCond .eq 5, 3) := by decide +kernel
theorem dX0_areAllAlike_18 : decode cX0_areAllAlike 18 = .ok (.iconst 0, 1) := by decide +kernel
theorem dX0_areAllAlike_19 : decode cX0_areAllAlike 19 = .ok (.ireturn, 1) := by decide +kernel
theorem dX0_areAllAlike_20 : decode cX0_areAllAlike 20 = .ok (.iinc 2 1, 3) := by decide +kernel
theorem dX0_areAllAlike_23 : decode cX0_areAllAlike 23 = .ok (.goto (-21), 3) := by decide +kernel
theorem dX0_areAllAlike_26 : decode cX0_areAllAlike 26 = .ok (.iconst 1, 1) := by decide +kernel
theorem dX0_areAllAlike_27 : decode cX0_areAllAlike 27 = .ok (.ireturn, 1) := by decide +kernel
theorem dX0_greatest_0 : decode cX0_greatest 0 = .ok (.iconst 0, 1) := by decide +kernel
theorem dX0_greatest_1 : decode cX0_greatest 1 = .ok (.istore_n 2, 1) := by decide +kernel
theorem dX0_greatest_2 : decode cX0_greatest 2 = .ok (.iconst 1, 1) := by decide +kernel
theorem dX0_greatest_3 : decode cX0_greatest 3 = .ok (.istore_n 3, 1) := by decide +kernel
theorem dX0_greatest_4 : decode cX0_greatest 4 = .ok (.iload_n 3, 1) := by decide +kernel
theorem dX0_greatest_5 : decode cX0_greatest 5 = .ok (.bipush 9, 2) := by decide +kernel
theorem dX0_greatest_7 : decode cX0_greatest 7 = .ok (.if_icmp .ge 21, 3) := by decide +kernel
theorem dX0_greatest_10 : decode cX0_greatest 10 = .ok (.aload_n 0, 1) := by decide +kernel
theorem dX0_greatest_11 : decode cX0_greatest 11 = .ok (.aload_n 1, 1) := by decide +kernel
theorem dX0_greatest_12 : decode cX0_greatest 12 = .ok (.iload_n 3, 1) := by decide +kernel
theorem dX0_greatest_13 : decode cX0_greatest 13 = .ok (.iload_n 2, 1) := by decide +kernel
theorem dX0_greatest_14 : decode cX0_greatest 14 = .ok (.invokevirtual 19, 3) := by decide +kernel
theorem dX0_greatest_17 : decode cX0_greatest 17 = .ok (.ifCond .le 5, 3) := by decide +kernel
theorem dX0_greatest_20 : decode cX0_greatest 20 = .ok (.iload_n 3, 1) := by decide +kernel
theorem dX0_greatest_21 : decode cX0_greatest 21 = .ok (.istore_n 2, 1) := by decide +kernel
theorem dX0_greatest_22 : decode cX0_greatest 22 = .ok (.iinc 3 1, 3) := by decide +kernel
theorem dX0_greatest_25 : decode cX0_greatest 25 = .ok (.goto (-21), 3) := by decide +kernel
theorem dX0_greatest_28 : decode cX0_greatest 28 = .ok (.iload_n 2, 1) := by decide +kernel
theorem dX0_greatest_29 : decode cX0_greatest 29 = .ok (.ireturn, 1) := by decide +kernel
theorem dX0_areaByTruth_0 : decode cX0_areaByTruth 0 = .ok (.aload_n 1, 1) := by decide +kernel
theorem dX0_areaByTruth_1 : decode cX0_areaByTruth 1 = .ok (.iload_n 2, 1) := by decide +kernel
theorem dX0_areaByTruth_2 : decode cX0_areaByTruth 2 = .ok (.invokevirtual 23, 3) := by decide +kernel
theorem dX0_areaByTruth_5 : decode cX0_areaByTruth 5 = .ok (.l2f, 1) := by decide +kernel
theorem dX0_areaByTruth_6 : decode cX0_areaByTruth 6 = .ok (.aload_n 0, 1) := by decide +kernel
theorem dX0_areaByTruth_7 : decode cX0_areaByTruth 7 = .ok (.iload_n 2, 1) := by decide +kernel
theorem dX0_areaByTruth_8 : decode cX0_areaByTruth 8 = .ok (.invokevirtual 15, 3) := by decide +kernel
theorem dX0_areaByTruth_11 : decode cX0_areaByTruth 11 = .ok (.i2f, 1) := by decide +kernel
theorem dX0_areaByTruth_12 : decode cX0_areaByTruth 12 = .ok (.fdiv, 1) := by decide +kernel
theorem dX0_areaByTruth_13 : decode cX0_areaByTruth 13 = .ok (.freturn, 1) := by decide +kernel
theorem dX0_compareBands_0 : decode cX0_compareBands 0 = .ok (.aload_n 1, 1) := by decide +kernel
theorem dX0_compareBands_1 : decode cX0_compareBands 1 = .ok (.iload_n 2, 1) := by decide +kernel
theorem dX0_compareBands_2 : decode cX0_compareBands 2 = .ok (.invokevirtual 23, 3) := by decide +kernel
theorem dX0_compareBands_5 : decode cX0_compareBands 5 = .ok (.aload_n 0, 1) := by decide +kernel
theorem dX0_compareBands_6 : decode cX0_compareBands 6 = .ok (.iload_n 3, 1) := by decide +kernel
theorem dX0_compareBands_7 : decode cX0_compareBands 7 = .ok (.invokevirtual 15, 3) := by decide +kernel
theorem dX0_compareBands_10 : decode cX0_compareBands 10 = .ok (.i2l, 1) := by decide +kernel
theorem dX0_compareBands_11 : decode cX0_compareBands 11 = .ok (.lmul, 1) := by decide +kernel
theorem dX0_compareBands_12 : decode cX0_compareBands 12 = .ok (.aload_n 1, 1) := by decide +kernel
theorem dX0_compareBands_13 : decode cX0_compareBands 13 = .ok (.iload_n 3, 1) := by decide +kernel
theorem dX0_compareBands_14 : decode cX0_compareBands 14 = .ok (.invokevirtual 23, 3) := by decide +kernel
theorem dX0_compareBands_17 : decode cX0_compareBands 17 = .ok (.aload_n 0, 1) := by decide +kernel
theorem dX0_compareBands_18 : decode cX0_compareBands 18 = .ok (.iload_n 2, 1) := by decide +kernel
theorem dX0_compareBands_19 : decode cX0_compareBands 19 = .ok (.invokevirtual 15, 3) := by decide +kernel
theorem dX0_compareBands_22 : decode cX0_compareBands 22 = .ok (.i2l, 1) := by decide +kernel
theorem dX0_compareBands_23 : decode cX0_compareBands 23 = .ok (.lmul, 1) := by decide +kernel
theorem dX0_compareBands_24 : decode cX0_compareBands 24 = .ok (.invokestatic 29, 3) := by decide +kernel
theorem dX0_compareBands_27 : decode cX0_compareBands 27 = .ok (.ireturn, 1) := by decide +kernel
theorem dX0_truthOf_0 : decode cX0_truthOf 0 = .ok (.iload_n 1, 1) := by decide +kernel
theorem dX0_truthOf_1 : decode cX0_truthOf 1 = .ok (.ifCond .lt 18, 3) := by decide +kernel
theorem dX0_truthOf_4 : decode cX0_truthOf 4 = .ok (.iload_n 1, 1) := by decide +kernel
theorem dX0_truthOf_5 : decode cX0_truthOf 5 = .ok (.bipush 9, 2) := by decide +kernel
theorem dX0_truthOf_7 : decode cX0_truthOf 7 = .ok (.if_icmp .ge 12, 3) := by decide +kernel
theorem dX0_truthOf_10 : decode cX0_truthOf 10 = .ok (.aload_n 0, 1) := by decide +kernel
theorem dX0_truthOf_11 : decode cX0_truthOf 11 = .ok (.getfield 9, 3) := by decide +kernel
theorem dX0_truthOf_14 : decode cX0_truthOf 14 = .ok (.iload_n 1, 1) := by decide +kernel
theorem dX0_truthOf_15 : decode cX0_truthOf 15 = .ok (.iaload, 1) := by decide +kernel
theorem dX0_truthOf_16 : decode cX0_truthOf 16 = .ok (.goto 6, 3) := by decide +kernel
theorem dX0_truthOf_19 : decode cX0_truthOf 19 = .ok (.sipush 1000, 3) := by decide +kernel
theorem dX0_truthOf_22 : decode cX0_truthOf 22 = .ok (.ireturn, 1) := by decide +kernel
theorem dX1_init_0 : decode cX1_init 0 = .ok (.aload_n 0, 1) := by decide +kernel
theorem dX1_init_1 : decode cX1_init 1 = .ok (.invokespecial 3, 3) := by decide +kernel
theorem dX1_init_4 : decode cX1_init 4 = .ok (.bipush 36, 2) := by decide +kernel
theorem dX1_init_6 : decode cX1_init 6 = .ok (.istore_n 1, 1) := by decide +kernel
theorem dX1_init_7 : decode cX1_init 7 = .ok (.aload_n 0, 1) := by decide +kernel
theorem dX1_init_8 : decode cX1_init 8 = .ok (.iload_n 1, 1) := by decide +kernel
theorem dX1_init_9 : decode cX1_init 9 = .ok (.newarray .int, 2) := by decide +kernel
theorem dX1_init_11 : decode cX1_init 11 = .ok (.putfield 9, 3) := by decide +kernel
theorem dX1_init_14 : decode cX1_init 14 = .ok (.aload_n 0, 1) := by decide +kernel
theorem dX1_init_15 : decode cX1_init 15 = .ok (.iload_n 1, 1) := by decide +kernel
theorem dX1_init_16 : decode cX1_init 16 = .ok (.newarray .int, 2) := by decide +kernel
theorem dX1_init_18 : decode cX1_init 18 = .ok (.putfield 15, 3) := by decide +kernel
theorem dX1_init_21 : decode cX1_init 21 = .ok (.aload_n 0, 1) := by decide +kernel
theorem dX1_init_22 : decode cX1_init 22 = .ok (.iload_n 1, 1) := by decide +kernel
theorem dX1_init_23 : decode cX1_init 23 = .ok (.newarray .int, 2) := by decide +kernel
theorem dX1_init_25 : decode cX1_init 25 = .ok (.putfield 18, 3) := by decide +kernel
theorem dX1_init_28 : decode cX1_init 28 = .ok (.aload_n 0, 1) := by decide +kernel
theorem dX1_init_29 : decode cX1_init 29 = .ok (.iload_n 1, 1) := by decide +kernel
theorem dX1_init_30 : decode cX1_init 30 = .ok (.newarray .boolean, 2) := by decide +kernel
theorem dX1_init_32 : decode cX1_init 32 = .ok (.putfield 21, 3) := by decide +kernel
theorem dX1_init_35 : decode cX1_init 35 = .ok (.aload_n 0, 1) := by decide +kernel
theorem dX1_init_36 : decode cX1_init 36 = .ok (.iconst 1, 1) := by decide +kernel
theorem dX1_init_37 : decode cX1_init 37 = .ok (.iconst 1, 1) := by decide +kernel
theorem dX1_init_38 : decode cX1_init 38 = .ok (.invokevirtual 25, 3) := by decide +kernel
theorem dX1_init_41 : decode cX1_init 41 = .ok (.return_, 1) := by decide +kernel
theorem dX1_layOut_0 : decode cX1_layOut 0 = .ok (.aload_n 0, 1) := by decide +kernel
theorem dX1_layOut_1 : decode cX1_layOut 1 = .ok (.iload_n 1, 1) := by decide +kernel
theorem dX1_layOut_2 : decode cX1_layOut 2 = .ok (.putfield 29, 3) := by decide +kernel
theorem dX1_layOut_5 : decode cX1_layOut 5 = .ok (.aload_n 0, 1) := by decide +kernel
theorem dX1_layOut_6 : decode cX1_layOut 6 = .ok (.iload_n 2, 1) := by decide +kernel
theorem dX1_layOut_7 : decode cX1_layOut 7 = .ok (.putfield 33, 3) := by decide +kernel
theorem dX1_layOut_10 : decode cX1_layOut 10 = .ok (.aload_n 0, 1) := by decide +kernel
theorem dX1_layOut_11 : decode cX1_layOut 11 = .ok (.invokevirtual 36, 3) := by decide +kernel
theorem dX1_layOut_14 : decode cX1_layOut 14 = .ok (.pop, 1) := by decide +kernel
theorem dX1_layOut_15 : decode cX1_layOut 15 = .ok (.return_, 1) := by decide +kernel
theorem dX1_spread_0 : decode cX1_spread 0 = .ok (.iconst 0, 1) := by decide +kernel
theorem dX1_spread_1 : decode cX1_spread 1 = .ok (.istore_n 1, 1) := by decide +kernel
theorem dX1_spread_2 : decode cX1_spread 2 = .ok (.iload_n 1, 1) := by decide +kernel
theorem dX1_spread_3 : decode cX1_spread 3 = .ok (.aload_n 0, 1) := by decide +kernel
theorem dX1_spread_4 : decode cX1_spread 4 = .ok (.getfield 29, 3) := by decide +kernel
theorem dX1_spread_7 : decode cX1_spread 7 = .ok (.if_icmp .ge 60, 3) := by decide +kernel
theorem dX1_spread_10 : decode cX1_spread 10 = .ok (.iconst 0, 1) := by decide +kernel
theorem dX1_spread_11 : decode cX1_spread 11 = .ok (.istore_n 2, 1) := by decide +kernel
theorem dX1_spread_12 : decode cX1_spread 12 = .ok (.iload_n 2, 1) := by decide +kernel
theorem dX1_spread_13 : decode cX1_spread 13 = .ok (.aload_n 0, 1) := by decide +kernel
theorem dX1_spread_14 : decode cX1_spread 14 = .ok (.getfield 33, 3) := by decide +kernel
theorem dX1_spread_17 : decode cX1_spread 17 = .ok (.if_icmp .ge 44, 3) := by decide +kernel
theorem dX1_spread_20 : decode cX1_spread 20 = .ok (.aload_n 0, 1) := by decide +kernel
theorem dX1_spread_21 : decode cX1_spread 21 = .ok (.iload_n 1, 1) := by decide +kernel
theorem dX1_spread_22 : decode cX1_spread 22 = .ok (.iload_n 2, 1) := by decide +kernel
theorem dX1_spread_23 : decode cX1_spread 23 = .ok (.invokevirtual 40, 3) := by decide +kernel
theorem dX1_spread_26 : decode cX1_spread 26 = .ok (.istore_n 3, 1) := by decide +kernel
theorem dX1_spread_27 : decode cX1_spread 27 = .ok (.aload_n 0, 1) := by decide +kernel
theorem dX1_spread_28 : decode cX1_spread 28 = .ok (.getfield 9, 3) := by decide +kernel
theorem dX1_spread_31 : decode cX1_spread 31 = .ok (.iload_n 3, 1) := by decide +kernel
theorem dX1_spread_32 : decode cX1_spread 32 = .ok (.iload_n 1, 1) := by decide +kernel
theorem dX1_spread_33 : decode cX1_spread 33 = .ok (.iastore, 1) := by decide +kernel
theorem dX1_spread_34 : decode cX1_spread 34 = .ok (.aload_n 0, 1) := by decide +kernel
theorem dX1_spread_35 : decode cX1_spread 35 = .ok (.getfield 15, 3) := by decide +kernel
theorem dX1_spread_38 : decode cX1_spread 38 = .ok (.iload_n 3, 1) := by decide +kernel
theorem dX1_spread_39 : decode cX1_spread 39 = .ok (.iload_n 2, 1) := by decide +kernel
theorem dX1_spread_40 : decode cX1_spread 40 = .ok (.iastore, 1) := by decide +kernel
theorem dX1_spread_41 : decode cX1_spread 41 = .ok (.aload_n 0, 1) := by decide +kernel
theorem dX1_spread_42 : decode cX1_spread 42 = .ok (.getfield 18, 3) := by decide +kernel
theorem dX1_spread_45 : decode cX1_spread 45 = .ok (.iload_n 3, 1) := by decide +kernel
theorem dX1_spread_46 : decode cX1_spread 46 = .ok (.iconst 0, 1) := by decide +kernel
theorem dX1_spread_47 : decode cX1_spread 47 = .ok (.iastore, 1) := by decide +kernel
theorem dX1_spread_48 : decode cX1_spread 48 = .ok (.aload_n 0, 1) := by decide +kernel
theorem dX1_spread_49 : decode cX1_spread 49 = .ok (.getfield 21, 3) := by decide +kernel
theorem dX1_spread_52 : decode cX1_spread 52 = .ok (.iload_n 3, 1) := by decide +kernel
theorem dX1_spread_53 : decode cX1_spread 53 = .ok (.iconst 1, 1) := by decide +kernel
theorem dX1_spread_54 : decode cX1_spread 54 = .ok (.bastore, 1) := by decide +kernel
theorem dX1_spread_55 : decode cX1_spread 55 = .ok (.iinc 2 1, 3) := by decide +kernel
theorem dX1_spread_58 : decode cX1_spread 58 = .ok (.goto (-46), 3) := by decide +kernel
theorem dX1_spread_61 : decode cX1_spread 61 = .ok (.iinc 1 1, 3) := by decide +kernel
theorem dX1_spread_64 : decode cX1_spread 64 = .ok (.goto (-62), 3) := by decide +kernel
theorem dX1_spread_67 : decode cX1_spread 67 = .ok (.aload_n 0, 1) := by decide +kernel
theorem dX1_spread_68 : decode cX1_spread 68 = .ok (.getfield 44, 3) := by decide +kernel
theorem dX1_spread_71 : decode cX1_spread 71 = .ok (.istore_n 1, 1) := by decide +kernel
theorem dX1_spread_72 : decode cX1_spread 72 = .ok (.aload_n 0, 1) := by decide +kernel
theorem dX1_spread_73 : decode cX1_spread 73 = .ok (.iconst 0, 1) := by decide +kernel
theorem dX1_spread_74 : decode cX1_spread 74 = .ok (.putfield 44, 3) := by decide +kernel
theorem dX1_spread_77 : decode cX1_spread 77 = .ok (.iload_n 1, 1) := by decide +kernel
theorem dX1_spread_78 : decode cX1_spread 78 = .ok (.ireturn, 1) := by decide +kernel
theorem dX1_columnOf_0 : decode cX1_columnOf 0 = .ok (.iload_n 1, 1) := by decide +kernel
theorem dX1_columnOf_1 : decode cX1_columnOf 1 = .ok (.sipush (-180), 3) := by decide +kernel
theorem dX1_columnOf_4 : decode cX1_columnOf 4 = .ok (.isub, 1) := by decide +kernel
theorem dX1_columnOf_5 : decode cX1_columnOf 5 = .ok (.aload_n 0, 1) := by decide +kernel
theorem dX1_columnOf_6 : decode cX1_columnOf 6 = .ok (.getfield 29, 3) := by decide +kernel
theorem dX1_columnOf_9 : decode cX1_columnOf 9 = .ok (.imul, 1) := by decide +kernel
theorem dX1_columnOf_10 : decode cX1_columnOf 10 = .ok (.sipush 360, 3) := by decide +kernel
theorem dX1_columnOf_13 : decode cX1_columnOf 13 = .ok (.idiv, 1) := by decide +kernel
theorem dX1_columnOf_14 : decode cX1_columnOf 14 = .ok (.ireturn, 1) := by decide +kernel
theorem dX1_rowOf_0 : decode cX1_rowOf 0 = .ok (.bipush 90, 2) := by decide +kernel
theorem dX1_rowOf_2 : decode cX1_rowOf 2 = .ok (.iload_n 1, 1) := by decide +kernel
theorem dX1_rowOf_3 : decode cX1_rowOf 3 = .ok (.isub, 1) := by decide +kernel
theorem dX1_rowOf_4 : decode cX1_rowOf 4 = .ok (.aload_n 0, 1) := by decide +kernel
theorem dX1_rowOf_5 : decode cX1_rowOf 5 = .ok (.getfield 33, 3) := by decide +kernel
theorem dX1_rowOf_8 : decode cX1_rowOf 8 = .ok (.imul, 1) := by decide +kernel
theorem dX1_rowOf_9 : decode cX1_rowOf 9 = .ok (.sipush 180, 3) := by decide +kernel
theorem dX1_rowOf_12 : decode cX1_rowOf 12 = .ok (.idiv, 1) := by decide +kernel
theorem dX1_rowOf_13 : decode cX1_rowOf 13 = .ok (.aload_n 0, 1) := by decide +kernel
theorem dX1_rowOf_14 : decode cX1_rowOf 14 = .ok (.getfield 33, 3) := by decide +kernel
theorem dX1_rowOf_17 : decode cX1_rowOf 17 = .ok (.iconst 1, 1) := by decide +kernel
theorem dX1_rowOf_18 : decode cX1_rowOf 18 = .ok (.isub, 1) := by decide +kernel
theorem dX1_rowOf_19 : decode cX1_rowOf 19 = .ok (.invokestatic 47, 3) := by decide +kernel
theorem dX1_rowOf_22 : decode cX1_rowOf 22 = .ok (.ireturn, 1) := by decide +kernel
theorem dX1_hasPanel_0 : decode cX1_hasPanel 0 = .ok (.iload_n 1, 1) := by decide +kernel
theorem dX1_hasPanel_1 : decode cX1_hasPanel 1 = .ok (.ifCond .lt 27, 3) := by decide +kernel
theorem dX1_hasPanel_4 : decode cX1_hasPanel 4 = .ok (.iload_n 1, 1) := by decide +kernel
theorem dX1_hasPanel_5 : decode cX1_hasPanel 5 = .ok (.aload_n 0, 1) := by decide +kernel
theorem dX1_hasPanel_6 : decode cX1_hasPanel 6 = .ok (.getfield 29, 3) := by decide +kernel
theorem dX1_hasPanel_9 : decode cX1_hasPanel 9 = .ok (.if_icmp .ge 19, 3) := by decide +kernel
theorem dX1_hasPanel_12 : decode cX1_hasPanel 12 = .ok (.iload_n 2, 1) := by decide +kernel
theorem dX1_hasPanel_13 : decode cX1_hasPanel 13 = .ok (.ifCond .lt 15, 3) := by decide +kernel
theorem dX1_hasPanel_16 : decode cX1_hasPanel 16 = .ok (.iload_n 2, 1) := by decide +kernel
theorem dX1_hasPanel_17 : decode cX1_hasPanel 17 = .ok (.aload_n 0, 1) := by decide +kernel
theorem dX1_hasPanel_18 : decode cX1_hasPanel 18 = .ok (.getfield 33, 3) := by decide +kernel
theorem dX1_hasPanel_21 : decode cX1_hasPanel 21 = .ok (.if_icmp .ge 7, 3) := by decide +kernel
theorem dX1_hasPanel_24 : decode cX1_hasPanel 24 = .ok (.iconst 1, 1) := by decide +kernel
theorem dX1_hasPanel_25 : decode cX1_hasPanel 25 = .ok (.goto 4, 3) := by decide +kernel
theorem dX1_hasPanel_28 : decode cX1_hasPanel 28 = .ok (.iconst 0, 1) := by decide +kernel
theorem dX1_hasPanel_29 : decode cX1_hasPanel 29 = .ok (.ireturn, 1) := by decide +kernel
theorem dX1_columnPlace_0 : decode cX1_columnPlace 0 = .ok (.aload_n 0, 1) := by decide +kernel
theorem dX1_columnPlace_1 : decode cX1_columnPlace 1 = .ok (.iload_n 1, 1) := by decide +kernel
theorem dX1_columnPlace_2 : decode cX1_columnPlace 2 = .ok (.iload_n 2, 1) := by decide +kernel
theorem dX1_columnPlace_3 : decode cX1_columnPlace 3 = .ok (.invokevirtual 52, 3) := by decide +kernel
theorem dX1_columnPlace_6 : decode cX1_columnPlace 6 = .ok (.ifCond .eq 17, 3) := by decide +kernel
theorem dX1_columnPlace_9 : decode cX1_columnPlace 9 = .ok (.aload_n 0, 1) := by decide +kernel
theorem dX1_columnPlace_10 : decode cX1_columnPlace 10 = .ok (.getfield 9, 3) := by decide +kernel
theorem dX1_columnPlace_13 : decode cX1_columnPlace 13 = .ok (.aload_n 0, 1) := by decide +kernel
theorem dX1_columnPlace_14 : decode cX1_columnPlace 14 = .ok (.iload_n 1, 1) := by decide +kernel
theorem dX1_columnPlace_15 : decode cX1_columnPlace 15 = .ok (.iload_n 2, 1) := by decide +kernel
theorem dX1_columnPlace_16 : decode cX1_columnPlace 16 = .ok (.invokevirtual 40, 3) := by decide +kernel
theorem dX1_columnPlace_19 : decode cX1_columnPlace 19 = .ok (.iaload, 1) := by decide +kernel
theorem dX1_columnPlace_20 : decode cX1_columnPlace 20 = .ok (.goto 4, 3) := by decide +kernel
theorem dX1_columnPlace_23 : decode cX1_columnPlace 23 = .ok (.iconst 0, 1) := by decide +kernel
theorem dX1_columnPlace_24 : decode cX1_columnPlace 24 = .ok (.ireturn, 1) := by decide +kernel
theorem dX1_rowPlace_0 : decode cX1_rowPlace 0 = .ok (.aload_n 0, 1) := by decide +kernel
theorem dX1_rowPlace_1 : decode cX1_rowPlace 1 = .ok (.iload_n 1, 1) := by decide +kernel
theorem dX1_rowPlace_2 : decode cX1_rowPlace 2 = .ok (.iload_n 2, 1) := by decide +kernel
theorem dX1_rowPlace_3 : decode cX1_rowPlace 3 = .ok (.invokevirtual 52, 3) := by decide +kernel
theorem dX1_rowPlace_6 : decode cX1_rowPlace 6 = .ok (.ifCond .eq 17, 3) := by decide +kernel
theorem dX1_rowPlace_9 : decode cX1_rowPlace 9 = .ok (.aload_n 0, 1) := by decide +kernel
theorem dX1_rowPlace_10 : decode cX1_rowPlace 10 = .ok (.getfield 15, 3) := by decide +kernel
theorem dX1_rowPlace_13 : decode cX1_rowPlace 13 = .ok (.aload_n 0, 1) := by decide +kernel
theorem dX1_rowPlace_14 : decode cX1_rowPlace 14 = .ok (.iload_n 1, 1) := by decide +kernel
theorem dX1_rowPlace_15 : decode cX1_rowPlace 15 = .ok (.iload_n 2, 1) := by decide +kernel
theorem dX1_rowPlace_16 : decode cX1_rowPlace 16 = .ok (.invokevirtual 40, 3) := by decide +kernel
theorem dX1_rowPlace_19 : decode cX1_rowPlace 19 = .ok (.iaload, 1) := by decide +kernel
theorem dX1_rowPlace_20 : decode cX1_rowPlace 20 = .ok (.goto 4, 3) := by decide +kernel
theorem dX1_rowPlace_23 : decode cX1_rowPlace 23 = .ok (.iconst 0, 1) := by decide +kernel
theorem dX1_rowPlace_24 : decode cX1_rowPlace 24 = .ok (.ireturn, 1) := by decide +kernel
theorem dX1_liesFaceUp_0 : decode cX1_liesFaceUp 0 = .ok (.aload_n 0, 1) := by decide +kernel
theorem dX1_liesFaceUp_1 : decode cX1_liesFaceUp 1 = .ok (.iload_n 1, 1) := by decide +kernel
theorem dX1_liesFaceUp_2 : decode cX1_liesFaceUp 2 = .ok (.iload_n 2, 1) := by decide +kernel
theorem dX1_liesFaceUp_3 : decode cX1_liesFaceUp 3 = .ok (.invokevirtual 52, 3) := by decide +kernel
theorem dX1_liesFaceUp_6 : decode cX1_liesFaceUp 6 = .ok (.ifCond .eq 21, 3) := by decide +kernel
theorem dX1_liesFaceUp_9 : decode cX1_liesFaceUp 9 = .ok (.aload_n 0, 1) := by decide +kernel
theorem dX1_liesFaceUp_10 : decode cX1_liesFaceUp 10 = .ok (.getfield 21, 3) := by decide +kernel
theorem dX1_liesFaceUp_13 : decode cX1_liesFaceUp 13 = .ok (.aload_n 0, 1) := by decide +kernel
theorem dX1_liesFaceUp_14 : decode cX1_liesFaceUp 14 = .ok (.iload_n 1, 1) := by decide +kernel
theorem dX1_liesFaceUp_15 : decode cX1_liesFaceUp 15 = .ok (.iload_n 2, 1) := by decide +kernel
theorem dX1_liesFaceUp_16 : decode cX1_liesFaceUp 16 = .ok (.invokevirtual 40, 3) := by decide +kernel
theorem dX1_liesFaceUp_19 : decode cX1_liesFaceUp 19 = .ok (.baload, 1) := by decide +kernel
theorem dX1_liesFaceUp_20 : decode cX1_liesFaceUp 20 = .ok (.ifCond .eq 7, 3) := by decide +kernel
theorem dX1_liesFaceUp_23 : decode cX1_liesFaceUp 23 = .ok (.iconst 1, 1) := by decide +kernel
theorem dX1_liesFaceUp_24 : decode cX1_liesFaceUp 24 = .ok (.goto 4, 3) := by decide +kernel
theorem dX1_liesFaceUp_27 : decode cX1_liesFaceUp 27 = .ok (.iconst 0, 1) := by decide +kernel
theorem dX1_liesFaceUp_28 : decode cX1_liesFaceUp 28 = .ok (.ireturn, 1) := by decide +kernel
theorem dX1_panelsAbove_0 : decode cX1_panelsAbove 0 = .ok (.aload_n 0, 1) := by decide +kernel
theorem dX1_panelsAbove_1 : decode cX1_panelsAbove 1 = .ok (.iload_n 1, 1) := by decide +kernel
theorem dX1_panelsAbove_2 : decode cX1_panelsAbove 2 = .ok (.iload_n 2, 1) := by decide +kernel
theorem dX1_panelsAbove_3 : decode cX1_panelsAbove 3 = .ok (.invokevirtual 52, 3) := by decide +kernel
theorem dX1_panelsAbove_6 : decode cX1_panelsAbove 6 = .ok (.ifCond .eq 16, 3) := by decide +kernel
theorem dX1_panelsAbove_9 : decode cX1_panelsAbove 9 = .ok (.aload_n 0, 1) := by decide +kernel
theorem dX1_panelsAbove_10 : decode cX1_panelsAbove 10 = .ok (.aload_n 0, 1) := by decide +kernel
theorem dX1_panelsAbove_11 : decode cX1_panelsAbove 11 = .ok (.iload_n 1, 1) := by decide +kernel
theorem dX1_panelsAbove_12 : decode cX1_panelsAbove 12 = .ok (.iload_n 2, 1) := by decide +kernel
theorem dX1_panelsAbove_13 : decode cX1_panelsAbove 13 = .ok (.invokevirtual 40, 3) := by decide +kernel
theorem dX1_panelsAbove_16 : decode cX1_panelsAbove 16 = .ok (.invokevirtual 56, 3) := by decide +kernel
theorem dX1_panelsAbove_19 : decode cX1_panelsAbove 19 = .ok (.goto 4, 3) := by decide +kernel
theorem dX1_panelsAbove_22 : decode cX1_panelsAbove 22 = .ok (.iconst 0, 1) := by decide +kernel
theorem dX1_panelsAbove_23 : decode cX1_panelsAbove 23 = .ok (.ireturn, 1) := by decide +kernel
theorem dX1_turnOverColumns_0 : decode cX1_turnOverColumns 0 = .ok (.aload_n 0, 1) := by decide +kernel
theorem dX1_turnOverColumns_1 : decode cX1_turnOverColumns 1 = .ok (.aload_n 0, 1) := by decide +kernel
theorem dX1_turnOverColumns_2 : decode cX1_turnOverColumns 2 = .ok (.getfield 9, 3) := by decide +kernel
theorem dX1_turnOverColumns_5 : decode cX1_turnOverColumns 5 = .ok (.iload_n 1, 1) := by decide +kernel
theorem dX1_turnOverColumns_6 : decode cX1_turnOverColumns 6 = .ok (.invokevirtual 60, 3) := by decide +kernel
theorem dX1_turnOverColumns_9 : decode cX1_turnOverColumns 9 = .ok (.ireturn, 1) := by decide +kernel
theorem dX1_turnOverRows_0 : decode cX1_turnOverRows 0 = .ok (.aload_n 0, 1) := by decide +kernel
theorem dX1_turnOverRows_1 : decode cX1_turnOverRows 1 = .ok (.aload_n 0, 1) := by decide +kernel
theorem dX1_turnOverRows_2 : decode cX1_turnOverRows 2 = .ok (.getfield 15, 3) := by decide +kernel
theorem dX1_turnOverRows_5 : decode cX1_turnOverRows 5 = .ok (.iload_n 1, 1) := by decide +kernel
theorem dX1_turnOverRows_6 : decode cX1_turnOverRows 6 = .ok (.invokevirtual 60, 3) := by decide +kernel
theorem dX1_turnOverRows_9 : decode cX1_turnOverRows 9 = .ok (.ireturn, 1) := by decide +kernel
theorem dX1_mostPanels_0 : decode cX1_mostPanels 0 = .ok (.iconst 0, 1) := by decide +kernel
theorem dX1_mostPanels_1 : decode cX1_mostPanels 1 = .ok (.istore_n 1, 1) := by decide +kernel
theorem dX1_mostPanels_2 : decode cX1_mostPanels 2 = .ok (.iconst 0, 1) := by decide +kernel
theorem dX1_mostPanels_3 : decode cX1_mostPanels 3 = .ok (.istore_n 2, 1) := by decide +kernel
theorem dX1_mostPanels_4 : decode cX1_mostPanels 4 = .ok (.iload_n 2, 1) := by decide +kernel
theorem dX1_mostPanels_5 : decode cX1_mostPanels 5 = .ok (.aload_n 0, 1) := by decide +kernel
theorem dX1_mostPanels_6 : decode cX1_mostPanels 6 = .ok (.invokevirtual 64, 3) := by decide +kernel
theorem dX1_mostPanels_9 : decode cX1_mostPanels 9 = .ok (.if_icmp .ge 21, 3) := by decide +kernel
theorem dX1_mostPanels_12 : decode cX1_mostPanels 12 = .ok (.iload_n 1, 1) := by decide +kernel
theorem dX1_mostPanels_13 : decode cX1_mostPanels 13 = .ok (.aload_n 0, 1) := by decide +kernel
theorem dX1_mostPanels_14 : decode cX1_mostPanels 14 = .ok (.iload_n 2, 1) := by decide +kernel
theorem dX1_mostPanels_15 : decode cX1_mostPanels 15 = .ok (.invokevirtual 56, 3) := by decide +kernel
theorem dX1_mostPanels_18 : decode cX1_mostPanels 18 = .ok (.iconst 1, 1) := by decide +kernel
theorem dX1_mostPanels_19 : decode cX1_mostPanels 19 = .ok (.iadd, 1) := by decide +kernel
theorem dX1_mostPanels_20 : decode cX1_mostPanels 20 = .ok (.invokestatic 67, 3) := by decide +kernel
theorem dX1_mostPanels_23 : decode cX1_mostPanels 23 = .ok (.istore_n 1, 1) := by decide +kernel
theorem dX1_mostPanels_24 : decode cX1_mostPanels 24 = .ok (.iinc 2 1, 3) := by decide +kernel
theorem dX1_mostPanels_27 : decode cX1_mostPanels 27 = .ok (.goto (-23), 3) := by decide +kernel
theorem dX1_mostPanels_30 : decode cX1_mostPanels 30 = .ok (.iload_n 1, 1) := by decide +kernel
theorem dX1_mostPanels_31 : decode cX1_mostPanels 31 = .ok (.ireturn, 1) := by decide +kernel
theorem dX1_readablePanels_0 : decode cX1_readablePanels 0 = .ok (.iconst 0, 1) := by decide +kernel
theorem dX1_readablePanels_1 : decode cX1_readablePanels 1 = .ok (.istore_n 1, 1) := by decide +kernel
theorem dX1_readablePanels_2 : decode cX1_readablePanels 2 = .ok (.iconst 0, 1) := by decide +kernel
theorem dX1_readablePanels_3 : decode cX1_readablePanels 3 = .ok (.istore_n 2, 1) := by decide +kernel
theorem dX1_readablePanels_4 : decode cX1_readablePanels 4 = .ok (.iload_n 2, 1) := by decide +kernel
theorem dX1_readablePanels_5 : decode cX1_readablePanels 5 = .ok (.aload_n 0, 1) := by decide +kernel
theorem dX1_readablePanels_6 : decode cX1_readablePanels 6 = .ok (.invokevirtual 64, 3) := by decide +kernel
theorem dX1_readablePanels_9 : decode cX1_readablePanels 9 = .ok (.if_icmp .ge 29, 3) := by decide +kernel
theorem dX1_readablePanels_12 : decode cX1_readablePanels 12 = .ok (.aload_n 0, 1) := by decide +kernel
theorem dX1_readablePanels_13 : decode cX1_readablePanels 13 = .ok (.getfield 21, 3) := by decide +kernel
theorem dX1_readablePanels_16 : decode cX1_readablePanels 16 = .ok (.iload_n 2, 1) := by decide +kernel
theorem dX1_readablePanels_17 : decode cX1_readablePanels 17 = .ok (.baload, 1) := by decide +kernel
theorem dX1_readablePanels_18 : decode cX1_readablePanels 18 = .ok (.ifCond .eq 14, 3) := by decide +kernel
theorem dX1_readablePanels_21 : decode cX1_readablePanels 21 = .ok (.aload_n 0, 1) := by decide +kernel
theorem dX1_readablePanels_22 : decode cX1_readablePanels 22 = .ok (.iload_n 2, 1) := by decide +kernel
theorem dX1_readablePanels_23 : decode cX1_readablePanels 23 = .ok (.invokevirtual 56, 3) := by decide +kernel
theorem dX1_readablePanels_26 : decode cX1_readablePanels 26 = .ok (.ifCond .ne 6, 3) := by decide +kernel
theorem dX1_readablePanels_29 : decode cX1_readablePanels 29 = .ok (.iinc 1 1, 3) := by decide +kernel
theorem dX1_readablePanels_32 : decode cX1_readablePanels 32 = .ok (.iinc 2 1, 3) := by decide +kernel
theorem dX1_readablePanels_35 : decode cX1_readablePanels 35 = .ok (.goto (-31), 3) := by decide +kernel
theorem dX1_readablePanels_38 : decode cX1_readablePanels 38 = .ok (.iload_n 1, 1) := by decide +kernel
theorem dX1_readablePanels_39 : decode cX1_readablePanels 39 = .ok (.ireturn, 1) := by decide +kernel
theorem dX1_panels_0 : decode cX1_panels 0 = .ok (.aload_n 0, 1) := by decide +kernel
theorem dX1_panels_1 : decode cX1_panels 1 = .ok (.getfield 29, 3) := by decide +kernel
theorem dX1_panels_4 : decode cX1_panels 4 = .ok (.aload_n 0, 1) := by decide +kernel
theorem dX1_panels_5 : decode cX1_panels 5 = .ok (.getfield 33, 3) := by decide +kernel
theorem dX1_panels_8 : decode cX1_panels 8 = .ok (.imul, 1) := by decide +kernel
theorem dX1_panels_9 : decode cX1_panels 9 = .ok (.ireturn, 1) := by decide +kernel
theorem dX1_number_0 : decode cX1_number 0 = .ok (.iload_n 1, 1) := by decide +kernel
theorem dX1_number_1 : decode cX1_number 1 = .ok (.aload_n 0, 1) := by decide +kernel
theorem dX1_number_2 : decode cX1_number 2 = .ok (.getfield 33, 3) := by decide +kernel
theorem dX1_number_5 : decode cX1_number 5 = .ok (.imul, 1) := by decide +kernel
theorem dX1_number_6 : decode cX1_number 6 = .ok (.iload_n 2, 1) := by decide +kernel
theorem dX1_number_7 : decode cX1_number 7 = .ok (.iadd, 1) := by decide +kernel
theorem dX1_number_8 : decode cX1_number 8 = .ok (.ireturn, 1) := by decide +kernel
theorem dX1_turnOver_0 : decode cX1_turnOver 0 = .ok (.aload_n 0, 1) := by decide +kernel
theorem dX1_turnOver_1 : decode cX1_turnOver 1 = .ok (.aload_n 1, 1) := by decide +kernel
theorem dX1_turnOver_2 : decode cX1_turnOver 2 = .ok (.iload_n 2, 1) := by decide +kernel
theorem dX1_turnOver_3 : decode cX1_turnOver 3 = .ok (.invokevirtual 70, 3) := by decide +kernel
theorem dX1_turnOver_6 : decode cX1_turnOver 6 = .ok (.istore_n 3, 1) := by decide +kernel
theorem dX1_turnOver_7 : decode cX1_turnOver 7 = .ok (.iload_n 3, 1) := by decide +kernel
theorem dX1_turnOver_8 : decode cX1_turnOver 8 = .ok (.ifCond .eq 11, 3) := by decide +kernel
theorem dX1_turnOver_11 : decode cX1_turnOver 11 = .ok (.iload_n 3, 1) := by decide +kernel
theorem dX1_turnOver_12 : decode cX1_turnOver 12 = .ok (.aload_n 0, 1) := by decide +kernel
theorem dX1_turnOver_13 : decode cX1_turnOver 13 = .ok (.invokevirtual 64, 3) := by decide +kernel
theorem dX1_turnOver_16 : decode cX1_turnOver 16 = .ok (.if_icmp .ne 5, 3) := by decide +kernel
theorem dX1_turnOver_19 : decode cX1_turnOver 19 = .ok (.iconst 0, 1) := by decide +kernel
theorem dX1_turnOver_20 : decode cX1_turnOver 20 = .ok (.ireturn, 1) := by decide +kernel
theorem dX1_turnOver_21 : decode cX1_turnOver 21 = .ok (.aload_n 0, 1) := by decide +kernel
theorem dX1_turnOver_22 : decode cX1_turnOver 22 = .ok (.invokevirtual 73, 3) := by decide +kernel
theorem dX1_turnOver_25 : decode cX1_turnOver 25 = .ok (.istore 4, 2) := by decide +kernel
theorem dX1_turnOver_27 : decode cX1_turnOver 27 = .ok (.iconst 0, 1) := by decide +kernel
theorem dX1_turnOver_28 : decode cX1_turnOver 28 = .ok (.istore 5, 2) := by decide +kernel
theorem dX1_turnOver_30 : decode cX1_turnOver 30 = .ok (.iload 5, 2) := by decide +kernel
theorem dX1_turnOver_32 : decode cX1_turnOver 32 = .ok (.aload_n 0, 1) := by decide +kernel
theorem dX1_turnOver_33 : decode cX1_turnOver 33 = .ok (.invokevirtual 64, 3) := by decide +kernel
theorem dX1_turnOver_36 : decode cX1_turnOver 36 = .ok (.if_icmp .ge 74, 3) := by decide +kernel
theorem dX1_turnOver_39 : decode cX1_turnOver 39 = .ok (.aload_n 1, 1) := by decide +kernel
theorem dX1_turnOver_40 : decode cX1_turnOver 40 = .ok (.iload 5, 2) := by decide +kernel
theorem dX1_turnOver_42 : decode cX1_turnOver 42 = .ok (.iaload, 1) := by decide +kernel
theorem dX1_turnOver_43 : decode cX1_turnOver 43 = .ok (.iload_n 2, 1) := by decide +kernel
theorem dX1_turnOver_44 : decode cX1_turnOver 44 = .ok (.if_icmp .ge 60, 3) := by decide +kernel
theorem dX1_turnOver_47 : decode cX1_turnOver 47 = .ok (.aload_n 1, 1) := by decide +kernel
theorem dX1_turnOver_48 : decode cX1_turnOver 48 = .ok (.iload 5, 2) := by decide +kernel
theorem dX1_turnOver_50 : decode cX1_turnOver 50 = .ok (.iconst 2, 1) := by decide +kernel
theorem dX1_turnOver_51 : decode cX1_turnOver 51 = .ok (.iload_n 2, 1) := by decide +kernel
theorem dX1_turnOver_52 : decode cX1_turnOver 52 = .ok (.imul, 1) := by decide +kernel
theorem dX1_turnOver_53 : decode cX1_turnOver 53 = .ok (.iconst 1, 1) := by decide +kernel
theorem dX1_turnOver_54 : decode cX1_turnOver 54 = .ok (.isub, 1) := by decide +kernel
theorem dX1_turnOver_55 : decode cX1_turnOver 55 = .ok (.aload_n 1, 1) := by decide +kernel
theorem dX1_turnOver_56 : decode cX1_turnOver 56 = .ok (.iload 5, 2) := by decide +kernel
theorem dX1_turnOver_58 : decode cX1_turnOver 58 = .ok (.iaload, 1) := by decide +kernel
theorem dX1_turnOver_59 : decode cX1_turnOver 59 = .ok (.isub, 1) := by decide +kernel
theorem dX1_turnOver_60 : decode cX1_turnOver 60 = .ok (.iastore, 1) := by decide +kernel
theorem dX1_turnOver_61 : decode cX1_turnOver 61 = .ok (.aload_n 0, 1) := by decide +kernel
theorem dX1_turnOver_62 : decode cX1_turnOver 62 = .ok (.getfield 18, 3) := by decide +kernel
theorem dX1_turnOver_65 : decode cX1_turnOver 65 = .ok (.iload 5, 2) := by decide +kernel
theorem dX1_turnOver_67 : decode cX1_turnOver 67 = .ok (.iconst 2, 1) := by decide +kernel
theorem dX1_turnOver_68 : decode cX1_turnOver 68 = .ok (.iload 4, 2) := by decide +kernel
theorem dX1_turnOver_70 : decode cX1_turnOver 70 = .ok (.imul, 1) := by decide +kernel
theorem dX1_turnOver_71 : decode cX1_turnOver 71 = .ok (.iconst 1, 1) := by decide +kernel
theorem dX1_turnOver_72 : decode cX1_turnOver 72 = .ok (.iadd, 1) := by decide +kernel
theorem dX1_turnOver_73 : decode cX1_turnOver 73 = .ok (.aload_n 0, 1) := by decide +kernel
theorem dX1_turnOver_74 : decode cX1_turnOver 74 = .ok (.getfield 18, 3) := by decide +kernel
theorem dX1_turnOver_77 : decode cX1_turnOver 77 = .ok (.iload 5, 2) := by decide +kernel
theorem dX1_turnOver_79 : decode cX1_turnOver 79 = .ok (.iaload, 1) := by decide +kernel
theorem dX1_turnOver_80 : decode cX1_turnOver 80 = .ok (.isub, 1) := by decide +kernel
theorem dX1_turnOver_81 : decode cX1_turnOver 81 = .ok (.iastore, 1) := by decide +kernel
theorem dX1_turnOver_82 : decode cX1_turnOver 82 = .ok (.aload_n 0, 1) := by decide +kernel
theorem dX1_turnOver_83 : decode cX1_turnOver 83 = .ok (.getfield 21, 3) := by decide +kernel
theorem dX1_turnOver_86 : decode cX1_turnOver 86 = .ok (.iload 5, 2) := by decide +kernel
theorem dX1_turnOver_88 : decode cX1_turnOver 88 = .ok (.aload_n 0, 1) := by decide +kernel
theorem dX1_turnOver_89 : decode cX1_turnOver 89 = .ok (.getfield 21, 3) := by decide +kernel
theorem dX1_turnOver_92 : decode cX1_turnOver 92 = .ok (.iload 5, 2) := by decide +kernel
theorem dX1_turnOver_94 : decode cX1_turnOver 94 = .ok (.baload, 1) := by decide +kernel
theorem dX1_turnOver_95 : decode cX1_turnOver 95 = .ok (.ifCond .ne 7, 3) := by decide +kernel
theorem dX1_turnOver_98 : decode cX1_turnOver 98 = .ok (.iconst 1, 1) := by decide +kernel
theorem dX1_turnOver_99 : decode cX1_turnOver 99 = .ok (.goto 4, 3) := by decide +kernel
theorem dX1_turnOver_102 : decode cX1_turnOver 102 = .ok (.iconst 0, 1) := by decide +kernel
theorem dX1_turnOver_103 : decode cX1_turnOver 103 = .ok (.bastore, 1) := by decide +kernel
theorem dX1_turnOver_104 : decode cX1_turnOver 104 = .ok (.iinc 5 1, 3) := by decide +kernel
theorem dX1_turnOver_107 : decode cX1_turnOver 107 = .ok (.goto (-77), 3) := by decide +kernel
theorem dX1_turnOver_110 : decode cX1_turnOver 110 = .ok (.aload_n 0, 1) := by decide +kernel
theorem dX1_turnOver_111 : decode cX1_turnOver 111 = .ok (.dup, 1) := by decide +kernel
theorem dX1_turnOver_112 : decode cX1_turnOver 112 = .ok (.getfield 44, 3) := by decide +kernel
theorem dX1_turnOver_115 : decode cX1_turnOver 115 = .ok (.iconst 1, 1) := by decide +kernel
theorem dX1_turnOver_116 : decode cX1_turnOver 116 = .ok (.iadd, 1) := by decide +kernel
theorem dX1_turnOver_117 : decode cX1_turnOver 117 = .ok (.putfield 44, 3) := by decide +kernel
theorem dX1_turnOver_120 : decode cX1_turnOver 120 = .ok (.iload_n 3, 1) := by decide +kernel
theorem dX1_turnOver_121 : decode cX1_turnOver 121 = .ok (.ireturn, 1) := by decide +kernel
theorem dX1_placesBelow_0 : decode cX1_placesBelow 0 = .ok (.iconst 0, 1) := by decide +kernel
theorem dX1_placesBelow_1 : decode cX1_placesBelow 1 = .ok (.istore_n 3, 1) := by decide +kernel
theorem dX1_placesBelow_2 : decode cX1_placesBelow 2 = .ok (.iconst 0, 1) := by decide +kernel
theorem dX1_placesBelow_3 : decode cX1_placesBelow 3 = .ok (.istore 4, 2) := by decide +kernel
theorem dX1_placesBelow_5 : decode cX1_placesBelow 5 = .ok (.iload 4, 2) := by decide +kernel
theorem dX1_placesBelow_7 : decode cX1_placesBelow 7 = .ok (.aload_n 0, 1) := by decide +kernel
theorem dX1_placesBelow_8 : decode cX1_placesBelow 8 = .ok (.invokevirtual 64, 3) := by decide +kernel
theorem dX1_placesBelow_11 : decode cX1_placesBelow 11 = .ok (.if_icmp .ge 20, 3) := by decide +kernel
theorem dX1_placesBelow_14 : decode cX1_placesBelow 14 = .ok (.aload_n 1, 1) := by decide +kernel
theorem dX1_placesBelow_15 : decode cX1_placesBelow 15 = .ok (.iload 4, 2) := by decide +kernel
theorem dX1_placesBelow_17 : decode cX1_placesBelow 17 = .ok (.iaload, 1) := by decide +kernel
theorem dX1_placesBelow_18 : decode cX1_placesBelow 18 = .ok (.iload_n 2, 1) := by decide +kernel
theorem dX1_placesBelow_19 : decode cX1_placesBelow 19 = .ok (.if_icmp .ge 6, 3) := by decide +kernel
theorem dX1_placesBelow_22 : decode cX1_placesBelow 22 = .ok (.iinc 3 1, 3) := by decide +kernel
theorem dX1_placesBelow_25 : decode cX1_placesBelow 25 = .ok (.iinc 4 1, 3) := by decide +kernel
theorem dX1_placesBelow_28 : decode cX1_placesBelow 28 = .ok (.goto (-23), 3) := by decide +kernel
theorem dX1_placesBelow_31 : decode cX1_placesBelow 31 = .ok (.iload_n 3, 1) := by decide +kernel
theorem dX1_placesBelow_32 : decode cX1_placesBelow 32 = .ok (.ireturn, 1) := by decide +kernel
theorem dX1_highestLayer_0 : decode cX1_highestLayer 0 = .ok (.iconst 0, 1) := by decide +kernel
theorem dX1_highestLayer_1 : decode cX1_highestLayer 1 = .ok (.istore_n 1, 1) := by decide +kernel
theorem dX1_highestLayer_2 : decode cX1_highestLayer 2 = .ok (.iconst 0, 1) := by decide +kernel
theorem dX1_highestLayer_3 : decode cX1_highestLayer 3 = .ok (.istore_n 2, 1) := by decide +kernel
theorem dX1_highestLayer_4 : decode cX1_highestLayer 4 = .ok (.iload_n 2, 1) := by decide +kernel
theorem dX1_highestLayer_5 : decode cX1_highestLayer 5 = .ok (.aload_n 0, 1) := by decide +kernel
theorem dX1_highestLayer_6 : decode cX1_highestLayer 6 = .ok (.invokevirtual 64, 3) := by decide +kernel
theorem dX1_highestLayer_9 : decode cX1_highestLayer 9 = .ok (.if_icmp .ge 20, 3) := by decide +kernel
theorem dX1_highestLayer_12 : decode cX1_highestLayer 12 = .ok (.iload_n 1, 1) := by decide +kernel
theorem dX1_highestLayer_13 : decode cX1_highestLayer 13 = .ok (.aload_n 0, 1) := by decide +kernel
theorem dX1_highestLayer_14 : decode cX1_highestLayer 14 = .ok (.getfield 18, 3) := by decide +kernel
theorem dX1_highestLayer_17 : decode cX1_highestLayer 17 = .ok (.iload_n 2, 1) := by decide +kernel
theorem dX1_highestLayer_18 : decode cX1_highestLayer 18 = .ok (.iaload, 1) := by decide +kernel
theorem dX1_highestLayer_19 : decode cX1_highestLayer 19 = .ok (.invokestatic 67, 3) := by decide +kernel
theorem dX1_highestLayer_22 : decode cX1_highestLayer 22 = .ok (.istore_n 1, 1) := by decide +kernel
theorem dX1_highestLayer_23 : decode cX1_highestLayer 23 = .ok (.iinc 2 1, 3) := by decide +kernel
theorem dX1_highestLayer_26 : decode cX1_highestLayer 26 = .ok (.goto (-22), 3) := by decide +kernel
theorem dX1_highestLayer_29 : decode cX1_highestLayer 29 = .ok (.iload_n 1, 1) := by decide +kernel
theorem dX1_highestLayer_30 : decode cX1_highestLayer 30 = .ok (.ireturn, 1) := by decide +kernel
theorem dX1_higherThan_0 : decode cX1_higherThan 0 = .ok (.iconst 0, 1) := by decide +kernel
theorem dX1_higherThan_1 : decode cX1_higherThan 1 = .ok (.istore_n 2, 1) := by decide +kernel
theorem dX1_higherThan_2 : decode cX1_higherThan 2 = .ok (.iconst 0, 1) := by decide +kernel
theorem dX1_higherThan_3 : decode cX1_higherThan 3 = .ok (.istore_n 3, 1) := by decide +kernel
theorem dX1_higherThan_4 : decode cX1_higherThan 4 = .ok (.iload_n 3, 1) := by decide +kernel
theorem dX1_higherThan_5 : decode cX1_higherThan 5 = .ok (.aload_n 0, 1) := by decide +kernel
theorem dX1_higherThan_6 : decode cX1_higherThan 6 = .ok (.invokevirtual 64, 3) := by decide +kernel
theorem dX1_higherThan_9 : decode cX1_higherThan 9 = .ok (.if_icmp .ge 57, 3) := by decide +kernel
theorem dX1_higherThan_12 : decode cX1_higherThan 12 = .ok (.aload_n 0, 1) := by decide +kernel
theorem dX1_higherThan_13 : decode cX1_higherThan 13 = .ok (.getfield 9, 3) := by decide +kernel
theorem dX1_higherThan_16 : decode cX1_higherThan 16 = .ok (.iload_n 3, 1) := by decide +kernel
theorem dX1_higherThan_17 : decode cX1_higherThan 17 = .ok (.iaload, 1) := by decide +kernel
theorem dX1_higherThan_18 : decode cX1_higherThan 18 = .ok (.aload_n 0, 1) := by decide +kernel
theorem dX1_higherThan_19 : decode cX1_higherThan 19 = .ok (.getfield 9, 3) := by decide +kernel
theorem dX1_higherThan_22 : decode cX1_higherThan 22 = .ok (.iload_n 1, 1) := by decide +kernel
theorem dX1_higherThan_23 : decode cX1_higherThan 23 = .ok (.iaload, 1) := by decide +kernel
theorem dX1_higherThan_24 : decode cX1_higherThan 24 = .ok (.if_icmp .ne 36, 3) := by decide +kernel
theorem dX1_higherThan_27 : decode cX1_higherThan 27 = .ok (.aload_n 0, 1) := by decide +kernel
theorem dX1_higherThan_28 : decode cX1_higherThan 28 = .ok (.getfield 15, 3) := by decide +kernel
theorem dX1_higherThan_31 : decode cX1_higherThan 31 = .ok (.iload_n 3, 1) := by decide +kernel
theorem dX1_higherThan_32 : decode cX1_higherThan 32 = .ok (.iaload, 1) := by decide +kernel
theorem dX1_higherThan_33 : decode cX1_higherThan 33 = .ok (.aload_n 0, 1) := by decide +kernel
theorem dX1_higherThan_34 : decode cX1_higherThan 34 = .ok (.getfield 15, 3) := by decide +kernel
theorem dX1_higherThan_37 : decode cX1_higherThan 37 = .ok (.iload_n 1, 1) := by decide +kernel
theorem dX1_higherThan_38 : decode cX1_higherThan 38 = .ok (.iaload, 1) := by decide +kernel
theorem dX1_higherThan_39 : decode cX1_higherThan 39 = .ok (.if_icmp .ne 21, 3) := by decide +kernel
theorem dX1_higherThan_42 : decode cX1_higherThan 42 = .ok (.aload_n 0, 1) := by decide +kernel
theorem dX1_higherThan_43 : decode cX1_higherThan 43 = .ok (.getfield 18, 3) := by decide +kernel
theorem dX1_higherThan_46 : decode cX1_higherThan 46 = .ok (.iload_n 3, 1) := by decide +kernel
theorem dX1_higherThan_47 : decode cX1_higherThan 47 = .ok (.iaload, 1) := by decide +kernel
theorem dX1_higherThan_48 : decode cX1_higherThan 48 = .ok (.aload_n 0, 1) := by decide +kernel
theorem dX1_higherThan_49 : decode cX1_higherThan 49 = .ok (.getfield 18, 3) := by decide +kernel
theorem dX1_higherThan_52 : decode cX1_higherThan 52 = .ok (.iload_n 1, 1) := by decide +kernel
theorem dX1_higherThan_53 : decode cX1_higherThan 53 = .ok (.iaload, 1) := by decide +kernel
theorem dX1_higherThan_54 : decode cX1_higherThan 54 = .ok (.if_icmp .le 6, 3) := by decide +kernel
theorem dX1_higherThan_57 : decode cX1_higherThan 57 = .ok (.iinc 2 1, 3) := by decide +kernel
theorem dX1_higherThan_60 : decode cX1_higherThan 60 = .ok (.iinc 3 1, 3) := by decide +kernel
theorem dX1_higherThan_63 : decode cX1_higherThan 63 = .ok (.goto (-59), 3) := by decide +kernel
theorem dX1_higherThan_66 : decode cX1_higherThan 66 = .ok (.iload_n 2, 1) := by decide +kernel
theorem dX1_higherThan_67 : decode cX1_higherThan 67 = .ok (.ireturn, 1) := by decide +kernel
theorem dX2_init_0 : decode cX2_init 0 = .ok (.aload_n 0, 1) := by decide +kernel
theorem dX2_init_1 : decode cX2_init 1 = .ok (.invokespecial 3, 3) := by decide +kernel
theorem dX2_init_4 : decode cX2_init 4 = .ok (.aload_n 0, 1) := by decide +kernel
theorem dX2_init_5 : decode cX2_init 5 = .ok (.bipush 10, 2) := by decide +kernel
theorem dX2_init_7 : decode cX2_init 7 = .ok (.newarray .int, 2) := by decide +kernel
theorem dX2_init_9 : decode cX2_init 9 = .ok (.putfield 9, 3) := by decide +kernel
theorem dX2_init_12 : decode cX2_init 12 = .ok (.aload_n 0, 1) := by decide +kernel
theorem dX2_init_13 : decode cX2_init 13 = .ok (.bipush 10, 2) := by decide +kernel
theorem dX2_init_15 : decode cX2_init 15 = .ok (.newarray .int, 2) := by decide +kernel
theorem dX2_init_17 : decode cX2_init 17 = .ok (.putfield 15, 3) := by decide +kernel
theorem dX2_init_20 : decode cX2_init 20 = .ok (.iconst 0, 1) := by decide +kernel
theorem dX2_init_21 : decode cX2_init 21 = .ok (.istore_n 1, 1) := by decide +kernel
theorem dX2_init_22 : decode cX2_init 22 = .ok (.iload_n 1, 1) := by decide +kernel
theorem dX2_init_23 : decode cX2_init 23 = .ok (.bipush 10, 2) := by decide +kernel
theorem dX2_init_25 : decode cX2_init 25 = .ok (.if_icmp .ge 34, 3) := by decide +kernel
theorem dX2_init_28 : decode cX2_init 28 = .ok (.aload_n 0, 1) := by decide +kernel
theorem dX2_init_29 : decode cX2_init 29 = .ok (.getfield 9, 3) := by decide +kernel
theorem dX2_init_32 : decode cX2_init 32 = .ok (.iload_n 1, 1) := by decide +kernel
theorem dX2_init_33 : decode cX2_init 33 = .ok (.sipush 1000, 3) := by decide +kernel
theorem dX2_init_36 : decode cX2_init 36 = .ok (.bipush 100, 2) := by decide +kernel
theorem dX2_init_38 : decode cX2_init 38 = .ok (.iload_n 1, 1) := by decide +kernel
theorem dX2_init_39 : decode cX2_init 39 = .ok (.imul, 1) := by decide +kernel
theorem dX2_init_40 : decode cX2_init 40 = .ok (.isub, 1) := by decide +kernel
theorem dX2_init_41 : decode cX2_init 41 = .ok (.iastore, 1) := by decide +kernel
theorem dX2_init_42 : decode cX2_init 42 = .ok (.aload_n 0, 1) := by decide +kernel
theorem dX2_init_43 : decode cX2_init 43 = .ok (.getfield 15, 3) := by decide +kernel
theorem dX2_init_46 : decode cX2_init 46 = .ok (.iload_n 1, 1) := by decide +kernel
theorem dX2_init_47 : decode cX2_init 47 = .ok (.sipush 1000, 3) := by decide +kernel
theorem dX2_init_50 : decode cX2_init 50 = .ok (.iload_n 1, 1) := by decide +kernel
theorem dX2_init_51 : decode cX2_init 51 = .ok (.imul, 1) := by decide +kernel
theorem dX2_init_52 : decode cX2_init 52 = .ok (.iastore, 1) := by decide +kernel
theorem dX2_init_53 : decode cX2_init 53 = .ok (.iinc 1 1, 3) := by decide +kernel
theorem dX2_init_56 : decode cX2_init 56 = .ok (.goto (-34), 3) := by decide +kernel
theorem dX2_init_59 : decode cX2_init 59 = .ok (.return_, 1) := by decide +kernel
theorem dX2_wouldRise_0 : decode cX2_wouldRise 0 = .ok (.iload_n 1, 1) := by decide +kernel
theorem dX2_wouldRise_1 : decode cX2_wouldRise 1 = .ok (.ifCond .ne 13, 3) := by decide +kernel
theorem dX2_wouldRise_4 : decode cX2_wouldRise 4 = .ok (.iload_n 2, 1) := by decide +kernel
theorem dX2_wouldRise_5 : decode cX2_wouldRise 5 = .ok (.ifCond .ne 7, 3) := by decide +kernel
theorem dX2_wouldRise_8 : decode cX2_wouldRise 8 = .ok (.iconst 1, 1) := by decide +kernel
theorem dX2_wouldRise_9 : decode cX2_wouldRise 9 = .ok (.goto 4, 3) := by decide +kernel
theorem dX2_wouldRise_12 : decode cX2_wouldRise 12 = .ok (.iconst 0, 1) := by decide +kernel
theorem dX2_wouldRise_13 : decode cX2_wouldRise 13 = .ok (.ireturn, 1) := by decide +kernel
theorem dX2_wouldRise_14 : decode cX2_wouldRise 14 = .ok (.iload_n 2, 1) := by decide +kernel
theorem dX2_wouldRise_15 : decode cX2_wouldRise 15 = .ok (.aload_n 0, 1) := by decide +kernel
theorem dX2_wouldRise_16 : decode cX2_wouldRise 16 = .ok (.getfield 15, 3) := by decide +kernel
theorem dX2_wouldRise_19 : decode cX2_wouldRise 19 = .ok (.iload_n 1, 1) := by decide +kernel
theorem dX2_wouldRise_20 : decode cX2_wouldRise 20 = .ok (.iconst 1, 1) := by decide +kernel
theorem dX2_wouldRise_21 : decode cX2_wouldRise 21 = .ok (.isub, 1) := by decide +kernel
theorem dX2_wouldRise_22 : decode cX2_wouldRise 22 = .ok (.invokestatic 18, 3) := by decide +kernel
theorem dX2_wouldRise_25 : decode cX2_wouldRise 25 = .ok (.if_icmp .le 27, 3) := by decide +kernel
theorem dX2_wouldRise_28 : decode cX2_wouldRise 28 = .ok (.iload_n 1, 1) := by decide +kernel
theorem dX2_wouldRise_29 : decode cX2_wouldRise 29 = .ok (.bipush 9, 2) := by decide +kernel
theorem dX2_wouldRise_31 : decode cX2_wouldRise 31 = .ok (.if_icmp .eq 17, 3) := by decide +kernel
theorem dX2_wouldRise_34 : decode cX2_wouldRise 34 = .ok (.iload_n 2, 1) := by decide +kernel
theorem dX2_wouldRise_35 : decode cX2_wouldRise 35 = .ok (.aload_n 0, 1) := by decide +kernel
theorem dX2_wouldRise_36 : decode cX2_wouldRise 36 = .ok (.getfield 15, 3) := by decide +kernel
theorem dX2_wouldRise_39 : decode cX2_wouldRise 39 = .ok (.iload_n 1, 1) := by decide +kernel
theorem dX2_wouldRise_40 : decode cX2_wouldRise 40 = .ok (.iconst 1, 1) := by decide +kernel
theorem dX2_wouldRise_41 : decode cX2_wouldRise 41 = .ok (.iadd, 1) := by decide +kernel
theorem dX2_wouldRise_42 : decode cX2_wouldRise 42 = .ok (.invokestatic 18, 3) := by decide +kernel
theorem dX2_wouldRise_45 : decode cX2_wouldRise 45 = .ok (.if_icmp .ge 7, 3) := by decide +kernel
theorem dX2_wouldRise_48 : decode cX2_wouldRise 48 = .ok (.iconst 1, 1) := by decide +kernel
theorem dX2_wouldRise_49 : decode cX2_wouldRise 49 = .ok (.goto 4, 3) := by decide +kernel
theorem dX2_wouldRise_52 : decode cX2_wouldRise 52 = .ok (.iconst 0, 1) := by decide +kernel
theorem dX2_wouldRise_53 : decode cX2_wouldRise 53 = .ok (.ireturn, 1) := by decide +kernel
theorem dX2_setRow_0 : decode cX2_setRow 0 = .ok (.iload_n 1, 1) := by decide +kernel
theorem dX2_setRow_1 : decode cX2_setRow 1 = .ok (.ifCond .lt 23, 3) := by decide +kernel
theorem dX2_setRow_4 : decode cX2_setRow 4 = .ok (.iload_n 1, 1) := by decide +kernel
theorem dX2_setRow_5 : decode cX2_setRow 5 = .ok (.bipush 10, 2) := by decide +kernel
theorem dX2_setRow_7 : decode cX2_setRow 7 = .ok (.if_icmp .ge 17, 3) := by decide +kernel
theorem dX2_setRow_10 : decode cX2_setRow 10 = .ok (.aload_n 0, 1) := by decide +kernel
theorem dX2_setRow_11 : decode cX2_setRow 11 = .ok (.getfield 9, 3) := by decide +kernel
theorem dX2_setRow_14 : decode cX2_setRow 14 = .ok (.iload_n 1, 1) := by decide +kernel
theorem dX2_setRow_15 : decode cX2_setRow 15 = .ok (.iload_n 2, 1) := by decide +kernel
theorem dX2_setRow_16 : decode cX2_setRow 16 = .ok (.iastore, 1) := by decide +kernel
theorem dX2_setRow_17 : decode cX2_setRow 17 = .ok (.aload_n 0, 1) := by decide +kernel
theorem dX2_setRow_18 : decode cX2_setRow 18 = .ok (.getfield 15, 3) := by decide +kernel
theorem dX2_setRow_21 : decode cX2_setRow 21 = .ok (.iload_n 1, 1) := by decide +kernel
theorem dX2_setRow_22 : decode cX2_setRow 22 = .ok (.iload_n 3, 1) := by decide +kernel
theorem dX2_setRow_23 : decode cX2_setRow 23 = .ok (.iastore, 1) := by decide +kernel
theorem dX2_setRow_24 : decode cX2_setRow 24 = .ok (.return_, 1) := by decide +kernel
theorem dX2_tenWidths_0 : decode cX2_tenWidths 0 = .ok (.aload_n 0, 1) := by decide +kernel
theorem dX2_tenWidths_1 : decode cX2_tenWidths 1 = .ok (.getfield 9, 3) := by decide +kernel
theorem dX2_tenWidths_4 : decode cX2_tenWidths 4 = .ok (.iload_n 1, 1) := by decide +kernel
theorem dX2_tenWidths_5 : decode cX2_tenWidths 5 = .ok (.invokestatic 22, 3) := by decide +kernel
theorem dX2_tenWidths_8 : decode cX2_tenWidths 8 = .ok (.invokestatic 28, 3) := by decide +kernel
theorem dX2_tenWidths_11 : decode cX2_tenWidths 11 = .ok (.ireturn, 1) := by decide +kernel
theorem dX2_tenHeights_0 : decode cX2_tenHeights 0 = .ok (.aload_n 0, 1) := by decide +kernel
theorem dX2_tenHeights_1 : decode cX2_tenHeights 1 = .ok (.getfield 15, 3) := by decide +kernel
theorem dX2_tenHeights_4 : decode cX2_tenHeights 4 = .ok (.iload_n 1, 1) := by decide +kernel
theorem dX2_tenHeights_5 : decode cX2_tenHeights 5 = .ok (.invokestatic 22, 3) := by decide +kernel
theorem dX2_tenHeights_8 : decode cX2_tenHeights 8 = .ok (.invokestatic 28, 3) := by decide +kernel
theorem dX2_tenHeights_11 : decode cX2_tenHeights 11 = .ok (.istore_n 2, 1) := by decide +kernel
theorem dX2_tenHeights_12 : decode cX2_tenHeights 12 = .ok (.iload_n 1, 1) := by decide +kernel
theorem dX2_tenHeights_13 : decode cX2_tenHeights 13 = .ok (.ifCond .ge 8, 3) := by decide +kernel
theorem dX2_tenHeights_16 : decode cX2_tenHeights 16 = .ok (.iload_n 2, 1) := by decide +kernel
theorem dX2_tenHeights_17 : decode cX2_tenHeights 17 = .ok (.ineg, 1) := by decide +kernel
theorem dX2_tenHeights_18 : decode cX2_tenHeights 18 = .ok (.goto 4, 3) := by decide +kernel
theorem dX2_tenHeights_21 : decode cX2_tenHeights 21 = .ok (.iload_n 2, 1) := by decide +kernel
theorem dX2_tenHeights_22 : decode cX2_tenHeights 22 = .ok (.ireturn, 1) := by decide +kernel
theorem dX2_greatestNotAbove_0 : decode cX2_greatestNotAbove 0 = .ok (.bipush 90, 2) := by decide +kernel
theorem dX2_greatestNotAbove_2 : decode cX2_greatestNotAbove 2 = .ok (.istore_n 2, 1) := by decide +kernel
theorem dX2_greatestNotAbove_3 : decode cX2_greatestNotAbove 3 = .ok (.iload_n 2, 1) := by decide +kernel
theorem dX2_greatestNotAbove_4 : decode cX2_greatestNotAbove 4 = .ok (.bipush (-90), 2) := by decide +kernel
theorem dX2_greatestNotAbove_6 : decode cX2_greatestNotAbove 6 = .ok (.if_icmp .lt 18, 3) := by decide +kernel
theorem dX2_greatestNotAbove_9 : decode cX2_greatestNotAbove 9 = .ok (.aload_n 0, 1) := by decide +kernel
theorem dX2_greatestNotAbove_10 : decode cX2_greatestNotAbove 10 = .ok (.iload_n 2, 1) := by decide +kernel
theorem dX2_greatestNotAbove_11 : decode cX2_greatestNotAbove 11 = .ok (.invokevirtual 31, 3) := by decide +kernel
theorem dX2_greatestNotAbove_14 : decode cX2_greatestNotAbove 14 = .ok (.iload_n 1, 1) := by decide +kernel
theorem dX2_greatestNotAbove_15 : decode cX2_greatestNotAbove 15 = .ok (.if_icmp .le 9, 3) := by decide +kernel
theorem dX2_greatestNotAbove_18 : decode cX2_greatestNotAbove 18 = .ok (.iinc 2 (-1), 3) := by decide +kernel
theorem dX2_greatestNotAbove_21 : decode cX2_greatestNotAbove 21 = .ok (.goto (-18), 3) := by decide +kernel
theorem dX2_greatestNotAbove_24 : decode cX2_greatestNotAbove 24 = .ok (.iload_n 2, 1) := by decide +kernel
theorem dX2_greatestNotAbove_25 : decode cX2_greatestNotAbove 25 = .ok (.ireturn, 1) := by decide +kernel
theorem dX2_fieldArea_0 : decode cX2_fieldArea 0 = .ok (.lconst 0, 1) := by decide +kernel
theorem dX2_fieldArea_1 : decode cX2_fieldArea 1 = .ok (.lstore 4, 2) := by decide +kernel
theorem dX2_fieldArea_3 : decode cX2_fieldArea 3 = .ok (.iload_n 1, 1) := by decide +kernel
theorem dX2_fieldArea_4 : decode cX2_fieldArea 4 = .ok (.istore 6, 2) := by decide +kernel
theorem dX2_fieldArea_6 : decode cX2_fieldArea 6 = .ok (.iload 6, 2) := by decide +kernel
theorem dX2_fieldArea_8 : decode cX2_fieldArea 8 = .ok (.iload_n 2, 1) := by decide +kernel
theorem dX2_fieldArea_9 : decode cX2_fieldArea 9 = .ok (.if_icmp .ge 23, 3) := by decide +kernel
theorem dX2_fieldArea_12 : decode cX2_fieldArea 12 = .ok (.lload 4, 2) := by decide +kernel
theorem dX2_fieldArea_14 : decode cX2_fieldArea 14 = .ok (.iload_n 3, 1) := by decide +kernel
theorem dX2_fieldArea_15 : decode cX2_fieldArea 15 = .ok (.i2l, 1) := by decide +kernel
theorem dX2_fieldArea_16 : decode cX2_fieldArea 16 = .ok (.aload_n 0, 1) := by decide +kernel
theorem dX2_fieldArea_17 : decode cX2_fieldArea 17 = .ok (.iload 6, 2) := by decide +kernel
theorem dX2_fieldArea_19 : decode cX2_fieldArea 19 = .ok (.invokevirtual 34, 3) := by decide +kernel
theorem dX2_fieldArea_22 : decode cX2_fieldArea 22 = .ok (.lmul, 1) := by decide +kernel
theorem dX2_fieldArea_23 : decode cX2_fieldArea 23 = .ok (.ladd, 1) := by decide +kernel
theorem dX2_fieldArea_24 : decode cX2_fieldArea 24 = .ok (.lstore 4, 2) := by decide +kernel
theorem dX2_fieldArea_26 : decode cX2_fieldArea 26 = .ok (.iinc 6 1, 3) := by decide +kernel
theorem dX2_fieldArea_29 : decode cX2_fieldArea 29 = .ok (.goto (-23), 3) := by decide +kernel
theorem dX2_fieldArea_32 : decode cX2_fieldArea 32 = .ok (.lload 4, 2) := by decide +kernel
theorem dX2_fieldArea_34 : decode cX2_fieldArea 34 = .ok (.lreturn, 1) := by decide +kernel
theorem dX2_cellArea_0 : decode cX2_cellArea 0 = .ok (.aload_n 0, 1) := by decide +kernel
theorem dX2_cellArea_1 : decode cX2_cellArea 1 = .ok (.iload_n 1, 1) := by decide +kernel
theorem dX2_cellArea_2 : decode cX2_cellArea 2 = .ok (.invokevirtual 38, 3) := by decide +kernel
theorem dX2_cellArea_5 : decode cX2_cellArea 5 = .ok (.aload_n 0, 1) := by decide +kernel
theorem dX2_cellArea_6 : decode cX2_cellArea 6 = .ok (.iload_n 1, 1) := by decide +kernel
theorem dX2_cellArea_7 : decode cX2_cellArea 7 = .ok (.iconst 1, 1) := by decide +kernel
theorem dX2_cellArea_8 : decode cX2_cellArea 8 = .ok (.iadd, 1) := by decide +kernel
theorem dX2_cellArea_9 : decode cX2_cellArea 9 = .ok (.invokevirtual 38, 3) := by decide +kernel
theorem dX2_cellArea_12 : decode cX2_cellArea 12 = .ok (.iadd, 1) := by decide +kernel
theorem dX2_cellArea_13 : decode cX2_cellArea 13 = .ok (.i2l, 1) := by decide +kernel
theorem dX2_cellArea_14 : decode cX2_cellArea 14 = .ok (.lstore_n 2, 1) := by decide +kernel
theorem dX2_cellArea_15 : decode cX2_cellArea 15 = .ok (.lload_n 2, 1) := by decide +kernel
theorem dX2_cellArea_16 : decode cX2_cellArea 16 = .ok (.aload_n 0, 1) := by decide +kernel
theorem dX2_cellArea_17 : decode cX2_cellArea 17 = .ok (.iload_n 1, 1) := by decide +kernel
theorem dX2_cellArea_18 : decode cX2_cellArea 18 = .ok (.iconst 1, 1) := by decide +kernel
theorem dX2_cellArea_19 : decode cX2_cellArea 19 = .ok (.iadd, 1) := by decide +kernel
theorem dX2_cellArea_20 : decode cX2_cellArea 20 = .ok (.invokevirtual 31, 3) := by decide +kernel
theorem dX2_cellArea_23 : decode cX2_cellArea 23 = .ok (.aload_n 0, 1) := by decide +kernel
theorem dX2_cellArea_24 : decode cX2_cellArea 24 = .ok (.iload_n 1, 1) := by decide +kernel
theorem dX2_cellArea_25 : decode cX2_cellArea 25 = .ok (.invokevirtual 31, 3) := by decide +kernel
theorem dX2_cellArea_28 : decode cX2_cellArea 28 = .ok (.isub, 1) := by decide +kernel
theorem dX2_cellArea_29 : decode cX2_cellArea 29 = .ok (.i2l, 1) := by decide +kernel
theorem dX2_cellArea_30 : decode cX2_cellArea 30 = .ok (.lmul, 1) := by decide +kernel
theorem dX2_cellArea_31 : decode cX2_cellArea 31 = .ok (.lreturn, 1) := by decide +kernel
theorem dX2_bandArea_0 : decode cX2_bandArea 0 = .ok (.aload_n 0, 1) := by decide +kernel
theorem dX2_bandArea_1 : decode cX2_bandArea 1 = .ok (.getfield 9, 3) := by decide +kernel
theorem dX2_bandArea_4 : decode cX2_bandArea 4 = .ok (.iload_n 1, 1) := by decide +kernel
theorem dX2_bandArea_5 : decode cX2_bandArea 5 = .ok (.invokestatic 18, 3) := by decide +kernel
theorem dX2_bandArea_8 : decode cX2_bandArea 8 = .ok (.aload_n 0, 1) := by decide +kernel
theorem dX2_bandArea_9 : decode cX2_bandArea 9 = .ok (.getfield 9, 3) := by decide +kernel
theorem dX2_bandArea_12 : decode cX2_bandArea 12 = .ok (.iload_n 1, 1) := by decide +kernel
theorem dX2_bandArea_13 : decode cX2_bandArea 13 = .ok (.iconst 1, 1) := by decide +kernel
theorem dX2_bandArea_14 : decode cX2_bandArea 14 = .ok (.iadd, 1) := by decide +kernel
theorem dX2_bandArea_15 : decode cX2_bandArea 15 = .ok (.invokestatic 18, 3) := by decide +kernel
theorem dX2_bandArea_18 : decode cX2_bandArea 18 = .ok (.iadd, 1) := by decide +kernel
theorem dX2_bandArea_19 : decode cX2_bandArea 19 = .ok (.i2l, 1) := by decide +kernel
theorem dX2_bandArea_20 : decode cX2_bandArea 20 = .ok (.lstore_n 2, 1) := by decide +kernel
theorem dX2_bandArea_21 : decode cX2_bandArea 21 = .ok (.aload_n 0, 1) := by decide +kernel
theorem dX2_bandArea_22 : decode cX2_bandArea 22 = .ok (.getfield 15, 3) := by decide +kernel
theorem dX2_bandArea_25 : decode cX2_bandArea 25 = .ok (.iload_n 1, 1) := by decide +kernel
theorem dX2_bandArea_26 : decode cX2_bandArea 26 = .ok (.iconst 1, 1) := by decide +kernel
theorem dX2_bandArea_27 : decode cX2_bandArea 27 = .ok (.iadd, 1) := by decide +kernel
theorem dX2_bandArea_28 : decode cX2_bandArea 28 = .ok (.invokestatic 18, 3) := by decide +kernel
theorem dX2_bandArea_31 : decode cX2_bandArea 31 = .ok (.aload_n 0, 1) := by decide +kernel
theorem dX2_bandArea_32 : decode cX2_bandArea 32 = .ok (.getfield 15, 3) := by decide +kernel
theorem dX2_bandArea_35 : decode cX2_bandArea 35 = .ok (.iload_n 1, 1) := by decide +kernel
theorem dX2_bandArea_36 : decode cX2_bandArea 36 = .ok (.invokestatic 18, 3) := by decide +kernel
theorem dX2_bandArea_39 : decode cX2_bandArea 39 = .ok (.isub, 1) := by decide +kernel
theorem dX2_bandArea_40 : decode cX2_bandArea 40 = .ok (.i2l, 1) := by decide +kernel
theorem dX2_bandArea_41 : decode cX2_bandArea 41 = .ok (.lstore 4, 2) := by decide +kernel
theorem dX2_bandArea_43 : decode cX2_bandArea 43 = .ok (.ldc2_w 41, 3) := by decide +kernel
theorem dX2_bandArea_46 : decode cX2_bandArea 46 = .ok (.lload_n 2, 1) := by decide +kernel
theorem dX2_bandArea_47 : decode cX2_bandArea 47 = .ok (.lmul, 1) := by decide +kernel
theorem dX2_bandArea_48 : decode cX2_bandArea 48 = .ok (.lload 4, 2) := by decide +kernel
theorem dX2_bandArea_50 : decode cX2_bandArea 50 = .ok (.lmul, 1) := by decide +kernel
theorem dX2_bandArea_51 : decode cX2_bandArea 51 = .ok (.lreturn, 1) := by decide +kernel
theorem dX2_tenTimesAt_0 : decode cX2_tenTimesAt 0 = .ok (.iload_n 1, 1) := by decide +kernel
theorem dX2_tenTimesAt_1 : decode cX2_tenTimesAt 1 = .ok (.bipush 10, 2) := by decide +kernel
theorem dX2_tenTimesAt_3 : decode cX2_tenTimesAt 3 = .ok (.idiv, 1) := by decide +kernel
theorem dX2_tenTimesAt_4 : decode cX2_tenTimesAt 4 = .ok (.istore_n 2, 1) := by decide +kernel
theorem dX2_tenTimesAt_5 : decode cX2_tenTimesAt 5 = .ok (.iload_n 1, 1) := by decide +kernel
theorem dX2_tenTimesAt_6 : decode cX2_tenTimesAt 6 = .ok (.bipush 10, 2) := by decide +kernel
theorem dX2_tenTimesAt_8 : decode cX2_tenTimesAt 8 = .ok (.irem, 1) := by decide +kernel
theorem dX2_tenTimesAt_9 : decode cX2_tenTimesAt 9 = .ok (.istore_n 3, 1) := by decide +kernel
theorem dX2_tenTimesAt_10 : decode cX2_tenTimesAt 10 = .ok (.bipush 10, 2) := by decide +kernel
theorem dX2_tenTimesAt_12 : decode cX2_tenTimesAt 12 = .ok (.iload_n 3, 1) := by decide +kernel
theorem dX2_tenTimesAt_13 : decode cX2_tenTimesAt 13 = .ok (.isub, 1) := by decide +kernel
theorem dX2_tenTimesAt_14 : decode cX2_tenTimesAt 14 = .ok (.aload_n 0, 1) := by decide +kernel
theorem dX2_tenTimesAt_15 : decode cX2_tenTimesAt 15 = .ok (.iload_n 2, 1) := by decide +kernel
theorem dX2_tenTimesAt_16 : decode cX2_tenTimesAt 16 = .ok (.invokestatic 18, 3) := by decide +kernel
theorem dX2_tenTimesAt_19 : decode cX2_tenTimesAt 19 = .ok (.imul, 1) := by decide +kernel
theorem dX2_tenTimesAt_20 : decode cX2_tenTimesAt 20 = .ok (.iload_n 3, 1) := by decide +kernel
theorem dX2_tenTimesAt_21 : decode cX2_tenTimesAt 21 = .ok (.aload_n 0, 1) := by decide +kernel
theorem dX2_tenTimesAt_22 : decode cX2_tenTimesAt 22 = .ok (.iload_n 2, 1) := by decide +kernel
theorem dX2_tenTimesAt_23 : decode cX2_tenTimesAt 23 = .ok (.iconst 1, 1) := by decide +kernel
theorem dX2_tenTimesAt_24 : decode cX2_tenTimesAt 24 = .ok (.iadd, 1) := by decide +kernel
theorem dX2_tenTimesAt_25 : decode cX2_tenTimesAt 25 = .ok (.invokestatic 18, 3) := by decide +kernel
theorem dX2_tenTimesAt_28 : decode cX2_tenTimesAt 28 = .ok (.imul, 1) := by decide +kernel
theorem dX2_tenTimesAt_29 : decode cX2_tenTimesAt 29 = .ok (.iadd, 1) := by decide +kernel
theorem dX2_tenTimesAt_30 : decode cX2_tenTimesAt 30 = .ok (.ireturn, 1) := by decide +kernel
theorem dX2_valueAt_0 : decode cX2_valueAt 0 = .ok (.iload_n 1, 1) := by decide +kernel
theorem dX2_valueAt_1 : decode cX2_valueAt 1 = .ok (.ifCond .lt 15, 3) := by decide +kernel
theorem dX2_valueAt_4 : decode cX2_valueAt 4 = .ok (.iload_n 1, 1) := by decide +kernel
theorem dX2_valueAt_5 : decode cX2_valueAt 5 = .ok (.aload_n 0, 1) := by decide +kernel
theorem dX2_valueAt_6 : decode cX2_valueAt 6 = .ok (.arraylength, 1) := by decide +kernel
theorem dX2_valueAt_7 : decode cX2_valueAt 7 = .ok (.if_icmp .ge 9, 3) := by decide +kernel
theorem dX2_valueAt_10 : decode cX2_valueAt 10 = .ok (.aload_n 0, 1) := by decide +kernel
theorem dX2_valueAt_11 : decode cX2_valueAt 11 = .ok (.iload_n 1, 1) := by decide +kernel
theorem dX2_valueAt_12 : decode cX2_valueAt 12 = .ok (.iaload, 1) := by decide +kernel
theorem dX2_valueAt_13 : decode cX2_valueAt 13 = .ok (.goto 4, 3) := by decide +kernel
end
section
theorem dX2_valueAt_16 : decode cX2_valueAt 16 = .ok (.iconst 0, 1) := by decide +kernel
theorem dX2_valueAt_17 : decode cX2_valueAt 17 = .ok (.ireturn, 1) := by decide +kernel
theorem dX3_init_0 : decode cX3_init 0 = .ok (.aload_n 0, 1) := by decide +kernel
theorem dX3_init_1 : decode cX3_init 1 = .ok (.invokespecial 3, 3) := by decide +kernel
theorem dX3_init_4 : decode cX3_init 4 = .ok (.aload_n 0, 1) := by decide +kernel
theorem dX3_init_5 : decode cX3_init 5 = .ok (.bipush 15, 2) := by decide +kernel
theorem dX3_init_7 : decode cX3_init 7 = .ok (.putfield 9, 3) := by decide +kernel
theorem dX3_init_10 : decode cX3_init 10 = .ok (.return_, 1) := by decide +kernel
theorem dX3_replaceBreadth_0 : decode cX3_replaceBreadth 0 = .ok (.aload_n 0, 1) := by decide +kernel
theorem dX3_replaceBreadth_1 : decode cX3_replaceBreadth 1 = .ok (.getfield 9, 3) := by decide +kernel
theorem dX3_replaceBreadth_4 : decode cX3_replaceBreadth 4 = .ok (.istore_n 2, 1) := by decide +kernel
theorem dX3_replaceBreadth_5 : decode cX3_replaceBreadth 5 = .ok (.aload_n 0, 1) := by decide +kernel
theorem dX3_replaceBreadth_6 : decode cX3_replaceBreadth 6 = .ok (.iload_n 1, 1) := by decide +kernel
theorem dX3_replaceBreadth_7 : decode cX3_replaceBreadth 7 = .ok (.putfield 9, 3) := by decide +kernel
theorem dX3_replaceBreadth_10 : decode cX3_replaceBreadth 10 = .ok (.iload_n 2, 1) := by decide +kernel
theorem dX3_replaceBreadth_11 : decode cX3_replaceBreadth 11 = .ok (.ireturn, 1) := by decide +kernel
theorem dX3_zonesBefore_0 : decode cX3_zonesBefore 0 = .ok (.aload_n 0, 1) := by decide +kernel
theorem dX3_zonesBefore_1 : decode cX3_zonesBefore 1 = .ok (.getfield 9, 3) := by decide +kernel
theorem dX3_zonesBefore_4 : decode cX3_zonesBefore 4 = .ok (.iconst 1, 1) := by decide +kernel
theorem dX3_zonesBefore_5 : decode cX3_zonesBefore 5 = .ok (.if_icmp .ge 7, 3) := by decide +kernel
theorem dX3_zonesBefore_8 : decode cX3_zonesBefore 8 = .ok (.iconst 0, 1) := by decide +kernel
theorem dX3_zonesBefore_9 : decode cX3_zonesBefore 9 = .ok (.goto 13, 3) := by decide +kernel
theorem dX3_zonesBefore_12 : decode cX3_zonesBefore 12 = .ok (.iload_n 1, 1) := by decide +kernel
theorem dX3_zonesBefore_13 : decode cX3_zonesBefore 13 = .ok (.sipush (-180), 3) := by decide +kernel
theorem dX3_zonesBefore_16 : decode cX3_zonesBefore 16 = .ok (.isub, 1) := by decide +kernel
theorem dX3_zonesBefore_17 : decode cX3_zonesBefore 17 = .ok (.aload_n 0, 1) := by decide +kernel
theorem dX3_zonesBefore_18 : decode cX3_zonesBefore 18 = .ok (.getfield 9, 3) := by decide +kernel
theorem dX3_zonesBefore_21 : decode cX3_zonesBefore 21 = .ok (.idiv, 1) := by decide +kernel
theorem dX3_zonesBefore_22 : decode cX3_zonesBefore 22 = .ok (.ireturn, 1) := by decide +kernel
theorem dX3_seamsEastOf_0 : decode cX3_seamsEastOf 0 = .ok (.aload_n 0, 1) := by decide +kernel
theorem dX3_seamsEastOf_1 : decode cX3_seamsEastOf 1 = .ok (.iload_n 1, 1) := by decide +kernel
theorem dX3_seamsEastOf_2 : decode cX3_seamsEastOf 2 = .ok (.iload_n 2, 1) := by decide +kernel
theorem dX3_seamsEastOf_3 : decode cX3_seamsEastOf 3 = .ok (.iadd, 1) := by decide +kernel
theorem dX3_seamsEastOf_4 : decode cX3_seamsEastOf 4 = .ok (.invokevirtual 15, 3) := by decide +kernel
theorem dX3_seamsEastOf_7 : decode cX3_seamsEastOf 7 = .ok (.aload_n 0, 1) := by decide +kernel
theorem dX3_seamsEastOf_8 : decode cX3_seamsEastOf 8 = .ok (.iload_n 1, 1) := by decide +kernel
theorem dX3_seamsEastOf_9 : decode cX3_seamsEastOf 9 = .ok (.invokevirtual 15, 3) := by decide +kernel
theorem dX3_seamsEastOf_12 : decode cX3_seamsEastOf 12 = .ok (.isub, 1) := by decide +kernel
theorem dX3_seamsEastOf_13 : decode cX3_seamsEastOf 13 = .ok (.ireturn, 1) := by decide +kernel
theorem dX4_init_0 : decode cX4_init 0 = .ok (.aload_n 0, 1) := by decide +kernel
theorem dX4_init_1 : decode cX4_init 1 = .ok (.invokespecial 1, 3) := by decide +kernel
theorem dX4_init_4 : decode cX4_init 4 = .ok (.aload_n 0, 1) := by decide +kernel
theorem dX4_init_5 : decode cX4_init 5 = .ok (.new 7, 3) := by decide +kernel
theorem dX4_init_8 : decode cX4_init 8 = .ok (.dup, 1) := by decide +kernel
theorem dX4_init_9 : decode cX4_init 9 = .ok (.invokespecial 9, 3) := by decide +kernel
theorem dX4_init_12 : decode cX4_init 12 = .ok (.putfield 10, 3) := by decide +kernel
theorem dX4_init_15 : decode cX4_init 15 = .ok (.aload_n 0, 1) := by decide +kernel
theorem dX4_init_16 : decode cX4_init 16 = .ok (.new 16, 3) := by decide +kernel
theorem dX4_init_19 : decode cX4_init 19 = .ok (.dup, 1) := by decide +kernel
theorem dX4_init_20 : decode cX4_init 20 = .ok (.invokespecial 18, 3) := by decide +kernel
theorem dX4_init_23 : decode cX4_init 23 = .ok (.putfield 19, 3) := by decide +kernel
theorem dX4_init_26 : decode cX4_init 26 = .ok (.aload_n 0, 1) := by decide +kernel
theorem dX4_init_27 : decode cX4_init 27 = .ok (.new 23, 3) := by decide +kernel
theorem dX4_init_30 : decode cX4_init 30 = .ok (.dup, 1) := by decide +kernel
theorem dX4_init_31 : decode cX4_init 31 = .ok (.invokespecial 25, 3) := by decide +kernel
theorem dX4_init_34 : decode cX4_init 34 = .ok (.putfield 26, 3) := by decide +kernel
theorem dX4_init_37 : decode cX4_init 37 = .ok (.aload_n 0, 1) := by decide +kernel
theorem dX4_init_38 : decode cX4_init 38 = .ok (.new 30, 3) := by decide +kernel
theorem dX4_init_41 : decode cX4_init 41 = .ok (.dup, 1) := by decide +kernel
theorem dX4_init_42 : decode cX4_init 42 = .ok (.invokespecial 32, 3) := by decide +kernel
theorem dX4_init_45 : decode cX4_init 45 = .ok (.putfield 33, 3) := by decide +kernel
theorem dX4_init_48 : decode cX4_init 48 = .ok (.return_, 1) := by decide +kernel
theorem dX4_table_0 : decode cX4_table 0 = .ok (.iload_n 1, 1) := by decide +kernel
theorem dX4_table_1 : decode cX4_table 1 = .ok (.ifCond .lt 9, 3) := by decide +kernel
theorem dX4_table_4 : decode cX4_table 4 = .ok (.iload_n 1, 1) := by decide +kernel
theorem dX4_table_5 : decode cX4_table 5 = .ok (.bipush 10, 2) := by decide +kernel
theorem dX4_table_7 : decode cX4_table 7 = .ok (.if_icmp .lt 13, 3) := by decide +kernel
theorem dX4_table_10 : decode cX4_table 10 = .ok (.new 37, 3) := by decide +kernel
theorem dX4_table_13 : decode cX4_table 13 = .ok (.dup, 1) := by decide +kernel
theorem dX4_table_14 : decode cX4_table 14 = .ok (.ldc 39, 2) := by decide +kernel
theorem dX4_table_16 : decode cX4_table 16 = .ok (.invokespecial 41, 3) := by decide +kernel
theorem dX4_table_19 : decode cX4_table 19 = .ok (.athrow, 1) := by decide +kernel
theorem dX4_table_20 : decode cX4_table 20 = .ok (.iload_n 2, 1) := by decide +kernel
theorem dX4_table_21 : decode cX4_table 21 = .ok (.ifCond .lt 21, 3) := by decide +kernel
theorem dX4_table_24 : decode cX4_table 24 = .ok (.iload_n 2, 1) := by decide +kernel
theorem dX4_table_25 : decode cX4_table 25 = .ok (.sipush 1000, 3) := by decide +kernel
theorem dX4_table_28 : decode cX4_table 28 = .ok (.if_icmp .gt 14, 3) := by decide +kernel
theorem dX4_table_31 : decode cX4_table 31 = .ok (.iload_n 3, 1) := by decide +kernel
theorem dX4_table_32 : decode cX4_table 32 = .ok (.ifCond .lt 10, 3) := by decide +kernel
theorem dX4_table_35 : decode cX4_table 35 = .ok (.iload_n 3, 1) := by decide +kernel
theorem dX4_table_36 : decode cX4_table 36 = .ok (.sipush 9999, 3) := by decide +kernel
theorem dX4_table_39 : decode cX4_table 39 = .ok (.if_icmp .le 13, 3) := by decide +kernel
theorem dX4_table_42 : decode cX4_table 42 = .ok (.new 44, 3) := by decide +kernel
theorem dX4_table_45 : decode cX4_table 45 = .ok (.dup, 1) := by decide +kernel
theorem dX4_table_46 : decode cX4_table 46 = .ok (.ldc 46, 2) := by decide +kernel
theorem dX4_table_48 : decode cX4_table 48 = .ok (.invokespecial 48, 3) := by decide +kernel
theorem dX4_table_51 : decode cX4_table 51 = .ok (.athrow, 1) := by decide +kernel
theorem dX4_table_52 : decode cX4_table 52 = .ok (.aload_n 0, 1) := by decide +kernel
theorem dX4_table_53 : decode cX4_table 53 = .ok (.getfield 10, 3) := by decide +kernel
theorem dX4_table_56 : decode cX4_table 56 = .ok (.iload_n 1, 1) := by decide +kernel
theorem dX4_table_57 : decode cX4_table 57 = .ok (.iload_n 3, 1) := by decide +kernel
theorem dX4_table_58 : decode cX4_table 58 = .ok (.invokevirtual 49, 3) := by decide +kernel
theorem dX4_table_61 : decode cX4_table 61 = .ok (.ifCond .ne 13, 3) := by decide +kernel
theorem dX4_table_64 : decode cX4_table 64 = .ok (.new 53, 3) := by decide +kernel
theorem dX4_table_67 : decode cX4_table 67 = .ok (.dup, 1) := by decide +kernel
theorem dX4_table_68 : decode cX4_table 68 = .ok (.ldc 55, 2) := by decide +kernel
theorem dX4_table_70 : decode cX4_table 70 = .ok (.invokespecial 57, 3) := by decide +kernel
theorem dX4_table_73 : decode cX4_table 73 = .ok (.athrow, 1) := by decide +kernel
theorem dX4_table_74 : decode cX4_table 74 = .ok (.aload_n 0, 1) := by decide +kernel
theorem dX4_table_75 : decode cX4_table 75 = .ok (.getfield 10, 3) := by decide +kernel
theorem dX4_table_78 : decode cX4_table 78 = .ok (.iload_n 1, 1) := by decide +kernel
theorem dX4_table_79 : decode cX4_table 79 = .ok (.iload_n 2, 1) := by decide +kernel
theorem dX4_table_80 : decode cX4_table 80 = .ok (.iload_n 3, 1) := by decide +kernel
theorem dX4_table_81 : decode cX4_table 81 = .ok (.invokevirtual 58, 3) := by decide +kernel
theorem dX4_table_84 : decode cX4_table 84 = .ok (.return_, 1) := by decide +kernel
theorem dX4_x_0 : decode cX4_x 0 = .ok (.iload_n 1, 1) := by decide +kernel
theorem dX4_x_1 : decode cX4_x 1 = .ok (.invokestatic 62, 3) := by decide +kernel
theorem dX4_x_4 : decode cX4_x 4 = .ok (.iload_n 2, 1) := by decide +kernel
theorem dX4_x_5 : decode cX4_x 5 = .ok (.invokestatic 66, 3) := by decide +kernel
theorem dX4_x_8 : decode cX4_x 8 = .ok (.iload_n 2, 1) := by decide +kernel
theorem dX4_x_9 : decode cX4_x 9 = .ok (.aload_n 0, 1) := by decide +kernel
theorem dX4_x_10 : decode cX4_x 10 = .ok (.getfield 10, 3) := by decide +kernel
theorem dX4_x_13 : decode cX4_x 13 = .ok (.iload_n 1, 1) := by decide +kernel
theorem dX4_x_14 : decode cX4_x 14 = .ok (.invokevirtual 69, 3) := by decide +kernel
theorem dX4_x_17 : decode cX4_x 17 = .ok (.imul, 1) := by decide +kernel
theorem dX4_x_18 : decode cX4_x 18 = .ok (.ireturn, 1) := by decide +kernel
theorem dX4_y_0 : decode cX4_y 0 = .ok (.iload_n 1, 1) := by decide +kernel
theorem dX4_y_1 : decode cX4_y 1 = .ok (.invokestatic 62, 3) := by decide +kernel
theorem dX4_y_4 : decode cX4_y 4 = .ok (.aload_n 0, 1) := by decide +kernel
theorem dX4_y_5 : decode cX4_y 5 = .ok (.getfield 10, 3) := by decide +kernel
theorem dX4_y_8 : decode cX4_y 8 = .ok (.iload_n 1, 1) := by decide +kernel
theorem dX4_y_9 : decode cX4_y 9 = .ok (.invokevirtual 73, 3) := by decide +kernel
theorem dX4_y_12 : decode cX4_y 12 = .ok (.ireturn, 1) := by decide +kernel
theorem dX4_latitudeAt_0 : decode cX4_latitudeAt 0 = .ok (.iload_n 1, 1) := by decide +kernel
theorem dX4_latitudeAt_1 : decode cX4_latitudeAt 1 = .ok (.ldc 76, 2) := by decide +kernel
theorem dX4_latitudeAt_3 : decode cX4_latitudeAt 3 = .ok (.if_icmp .lt 9, 3) := by decide +kernel
theorem dX4_latitudeAt_6 : decode cX4_latitudeAt 6 = .ok (.iload_n 1, 1) := by decide +kernel
theorem dX4_latitudeAt_7 : decode cX4_latitudeAt 7 = .ok (.ldc 77, 2) := by decide +kernel
theorem dX4_latitudeAt_9 : decode cX4_latitudeAt 9 = .ok (.if_icmp .le 13, 3) := by decide +kernel
theorem dX4_latitudeAt_12 : decode cX4_latitudeAt 12 = .ok (.new 44, 3) := by decide +kernel
theorem dX4_latitudeAt_15 : decode cX4_latitudeAt 15 = .ok (.dup, 1) := by decide +kernel
theorem dX4_latitudeAt_16 : decode cX4_latitudeAt 16 = .ok (.ldc 78, 2) := by decide +kernel
theorem dX4_latitudeAt_18 : decode cX4_latitudeAt 18 = .ok (.invokespecial 48, 3) := by decide +kernel
theorem dX4_latitudeAt_21 : decode cX4_latitudeAt 21 = .ok (.athrow, 1) := by decide +kernel
theorem dX4_latitudeAt_22 : decode cX4_latitudeAt 22 = .ok (.aload_n 0, 1) := by decide +kernel
theorem dX4_latitudeAt_23 : decode cX4_latitudeAt 23 = .ok (.getfield 10, 3) := by decide +kernel
theorem dX4_latitudeAt_26 : decode cX4_latitudeAt 26 = .ok (.iload_n 1, 1) := by decide +kernel
theorem dX4_latitudeAt_27 : decode cX4_latitudeAt 27 = .ok (.invokevirtual 80, 3) := by decide +kernel
theorem dX4_latitudeAt_30 : decode cX4_latitudeAt 30 = .ok (.istore_n 2, 1) := by decide +kernel
theorem dX4_latitudeAt_31 : decode cX4_latitudeAt 31 = .ok (.iload_n 2, 1) := by decide +kernel
theorem dX4_latitudeAt_32 : decode cX4_latitudeAt 32 = .ok (.bipush (-90), 2) := by decide +kernel
theorem dX4_latitudeAt_34 : decode cX4_latitudeAt 34 = .ok (.if_icmp .ge 13, 3) := by decide +kernel
theorem dX4_latitudeAt_37 : decode cX4_latitudeAt 37 = .ok (.new 53, 3) := by decide +kernel
theorem dX4_latitudeAt_40 : decode cX4_latitudeAt 40 = .ok (.dup, 1) := by decide +kernel
theorem dX4_latitudeAt_41 : decode cX4_latitudeAt 41 = .ok (.ldc 83, 2) := by decide +kernel
theorem dX4_latitudeAt_43 : decode cX4_latitudeAt 43 = .ok (.invokespecial 57, 3) := by decide +kernel
theorem dX4_latitudeAt_46 : decode cX4_latitudeAt 46 = .ok (.athrow, 1) := by decide +kernel
theorem dX4_latitudeAt_47 : decode cX4_latitudeAt 47 = .ok (.iload_n 2, 1) := by decide +kernel
theorem dX4_latitudeAt_48 : decode cX4_latitudeAt 48 = .ok (.ireturn, 1) := by decide +kernel
theorem dX4_area_0 : decode cX4_area 0 = .ok (.iload_n 1, 1) := by decide +kernel
theorem dX4_area_1 : decode cX4_area 1 = .ok (.bipush (-90), 2) := by decide +kernel
theorem dX4_area_3 : decode cX4_area 3 = .ok (.if_icmp .lt 14, 3) := by decide +kernel
theorem dX4_area_6 : decode cX4_area 6 = .ok (.iload_n 1, 1) := by decide +kernel
theorem dX4_area_7 : decode cX4_area 7 = .ok (.iload_n 2, 1) := by decide +kernel
theorem dX4_area_8 : decode cX4_area 8 = .ok (.if_icmp .gt 9, 3) := by decide +kernel
theorem dX4_area_11 : decode cX4_area 11 = .ok (.iload_n 2, 1) := by decide +kernel
theorem dX4_area_12 : decode cX4_area 12 = .ok (.bipush 90, 2) := by decide +kernel
theorem dX4_area_14 : decode cX4_area 14 = .ok (.if_icmp .le 13, 3) := by decide +kernel
theorem dX4_area_17 : decode cX4_area 17 = .ok (.new 44, 3) := by decide +kernel
theorem dX4_area_20 : decode cX4_area 20 = .ok (.dup, 1) := by decide +kernel
theorem dX4_area_21 : decode cX4_area 21 = .ok (.ldc 85, 2) := by decide +kernel
theorem dX4_area_23 : decode cX4_area 23 = .ok (.invokespecial 48, 3) := by decide +kernel
theorem dX4_area_26 : decode cX4_area 26 = .ok (.athrow, 1) := by decide +kernel
theorem dX4_area_27 : decode cX4_area 27 = .ok (.iload_n 3, 1) := by decide +kernel
theorem dX4_area_28 : decode cX4_area 28 = .ok (.sipush (-180), 3) := by decide +kernel
theorem dX4_area_31 : decode cX4_area 31 = .ok (.if_icmp .lt 17, 3) := by decide +kernel
theorem dX4_area_34 : decode cX4_area 34 = .ok (.iload_n 3, 1) := by decide +kernel
theorem dX4_area_35 : decode cX4_area 35 = .ok (.iload 4, 2) := by decide +kernel
theorem dX4_area_37 : decode cX4_area 37 = .ok (.if_icmp .gt 11, 3) := by decide +kernel
theorem dX4_area_40 : decode cX4_area 40 = .ok (.iload 4, 2) := by decide +kernel
theorem dX4_area_42 : decode cX4_area 42 = .ok (.sipush 180, 3) := by decide +kernel
theorem dX4_area_45 : decode cX4_area 45 = .ok (.if_icmp .le 13, 3) := by decide +kernel
theorem dX4_area_48 : decode cX4_area 48 = .ok (.new 44, 3) := by decide +kernel
theorem dX4_area_51 : decode cX4_area 51 = .ok (.dup, 1) := by decide +kernel
theorem dX4_area_52 : decode cX4_area 52 = .ok (.ldc 87, 2) := by decide +kernel
theorem dX4_area_54 : decode cX4_area 54 = .ok (.invokespecial 48, 3) := by decide +kernel
theorem dX4_area_57 : decode cX4_area 57 = .ok (.athrow, 1) := by decide +kernel
theorem dX4_area_58 : decode cX4_area 58 = .ok (.aload_n 0, 1) := by decide +kernel
theorem dX4_area_59 : decode cX4_area 59 = .ok (.getfield 10, 3) := by decide +kernel
theorem dX4_area_62 : decode cX4_area 62 = .ok (.iload_n 1, 1) := by decide +kernel
theorem dX4_area_63 : decode cX4_area 63 = .ok (.iload_n 2, 1) := by decide +kernel
theorem dX4_area_64 : decode cX4_area 64 = .ok (.iload 4, 2) := by decide +kernel
theorem dX4_area_66 : decode cX4_area 66 = .ok (.iload_n 3, 1) := by decide +kernel
theorem dX4_area_67 : decode cX4_area 67 = .ok (.isub, 1) := by decide +kernel
theorem dX4_area_68 : decode cX4_area 68 = .ok (.invokevirtual 89, 3) := by decide +kernel
theorem dX4_area_71 : decode cX4_area 71 = .ok (.lreturn, 1) := by decide +kernel
theorem dX4_areaByCells_0 : decode cX4_areaByCells 0 = .ok (.aload_n 0, 1) := by decide +kernel
theorem dX4_areaByCells_1 : decode cX4_areaByCells 1 = .ok (.iload_n 1, 1) := by decide +kernel
theorem dX4_areaByCells_2 : decode cX4_areaByCells 2 = .ok (.iload_n 2, 1) := by decide +kernel
theorem dX4_areaByCells_3 : decode cX4_areaByCells 3 = .ok (.iload_n 3, 1) := by decide +kernel
theorem dX4_areaByCells_4 : decode cX4_areaByCells 4 = .ok (.iload 4, 2) := by decide +kernel
theorem dX4_areaByCells_6 : decode cX4_areaByCells 6 = .ok (.invokevirtual 93, 3) := by decide +kernel
theorem dX4_areaByCells_9 : decode cX4_areaByCells 9 = .ok (.lreturn, 1) := by decide +kernel
theorem dX4_truth_0 : decode cX4_truth 0 = .ok (.iload_n 1, 1) := by decide +kernel
theorem dX4_truth_1 : decode cX4_truth 1 = .ok (.invokestatic 97, 3) := by decide +kernel
theorem dX4_truth_4 : decode cX4_truth 4 = .ok (.iload_n 2, 1) := by decide +kernel
theorem dX4_truth_5 : decode cX4_truth 5 = .ok (.iconst 1, 1) := by decide +kernel
theorem dX4_truth_6 : decode cX4_truth 6 = .ok (.if_icmp .lt 9, 3) := by decide +kernel
theorem dX4_truth_9 : decode cX4_truth 9 = .ok (.iload_n 2, 1) := by decide +kernel
theorem dX4_truth_10 : decode cX4_truth 10 = .ok (.ldc 100, 2) := by decide +kernel
theorem dX4_truth_12 : decode cX4_truth 12 = .ok (.if_icmp .le 13, 3) := by decide +kernel
theorem dX4_truth_15 : decode cX4_truth 15 = .ok (.new 44, 3) := by decide +kernel
theorem dX4_truth_18 : decode cX4_truth 18 = .ok (.dup, 1) := by decide +kernel
theorem dX4_truth_19 : decode cX4_truth 19 = .ok (.ldc 101, 2) := by decide +kernel
theorem dX4_truth_21 : decode cX4_truth 21 = .ok (.invokespecial 48, 3) := by decide +kernel
theorem dX4_truth_24 : decode cX4_truth 24 = .ok (.athrow, 1) := by decide +kernel
theorem dX4_truth_25 : decode cX4_truth 25 = .ok (.aload_n 0, 1) := by decide +kernel
theorem dX4_truth_26 : decode cX4_truth 26 = .ok (.getfield 19, 3) := by decide +kernel
theorem dX4_truth_29 : decode cX4_truth 29 = .ok (.iload_n 1, 1) := by decide +kernel
theorem dX4_truth_30 : decode cX4_truth 30 = .ok (.iload_n 2, 1) := by decide +kernel
theorem dX4_truth_31 : decode cX4_truth 31 = .ok (.invokevirtual 103, 3) := by decide +kernel
theorem dX4_truth_34 : decode cX4_truth 34 = .ok (.ireturn, 1) := by decide +kernel
theorem dX4_keepsAreas_0 : decode cX4_keepsAreas 0 = .ok (.aload_n 0, 1) := by decide +kernel
theorem dX4_keepsAreas_1 : decode cX4_keepsAreas 1 = .ok (.getfield 19, 3) := by decide +kernel
theorem dX4_keepsAreas_4 : decode cX4_keepsAreas 4 = .ok (.aload_n 0, 1) := by decide +kernel
theorem dX4_keepsAreas_5 : decode cX4_keepsAreas 5 = .ok (.getfield 10, 3) := by decide +kernel
theorem dX4_keepsAreas_8 : decode cX4_keepsAreas 8 = .ok (.invokevirtual 107, 3) := by decide +kernel
theorem dX4_keepsAreas_11 : decode cX4_keepsAreas 11 = .ok (.ireturn, 1) := by decide +kernel
theorem dX4_widest_0 : decode cX4_widest 0 = .ok (.aload_n 0, 1) := by decide +kernel
theorem dX4_widest_1 : decode cX4_widest 1 = .ok (.getfield 19, 3) := by decide +kernel
theorem dX4_widest_4 : decode cX4_widest 4 = .ok (.aload_n 0, 1) := by decide +kernel
theorem dX4_widest_5 : decode cX4_widest 5 = .ok (.getfield 10, 3) := by decide +kernel
theorem dX4_widest_8 : decode cX4_widest 8 = .ok (.invokevirtual 111, 3) := by decide +kernel
theorem dX4_widest_11 : decode cX4_widest 11 = .ok (.ireturn, 1) := by decide +kernel
theorem dX4_stretch_0 : decode cX4_stretch 0 = .ok (.iload_n 1, 1) := by decide +kernel
theorem dX4_stretch_1 : decode cX4_stretch 1 = .ok (.invokestatic 97, 3) := by decide +kernel
theorem dX4_stretch_4 : decode cX4_stretch 4 = .ok (.aload_n 0, 1) := by decide +kernel
theorem dX4_stretch_5 : decode cX4_stretch 5 = .ok (.getfield 19, 3) := by decide +kernel
theorem dX4_stretch_8 : decode cX4_stretch 8 = .ok (.aload_n 0, 1) := by decide +kernel
theorem dX4_stretch_9 : decode cX4_stretch 9 = .ok (.getfield 10, 3) := by decide +kernel
theorem dX4_stretch_12 : decode cX4_stretch 12 = .ok (.iload_n 1, 1) := by decide +kernel
theorem dX4_stretch_13 : decode cX4_stretch 13 = .ok (.invokevirtual 115, 3) := by decide +kernel
theorem dX4_stretch_16 : decode cX4_stretch 16 = .ok (.freturn, 1) := by decide +kernel
theorem dX4_apart_0 : decode cX4_apart 0 = .ok (.iload_n 1, 1) := by decide +kernel
theorem dX4_apart_1 : decode cX4_apart 1 = .ok (.invokestatic 66, 3) := by decide +kernel
theorem dX4_apart_4 : decode cX4_apart 4 = .ok (.iload_n 2, 1) := by decide +kernel
theorem dX4_apart_5 : decode cX4_apart 5 = .ok (.invokestatic 66, 3) := by decide +kernel
theorem dX4_apart_8 : decode cX4_apart 8 = .ok (.iload_n 1, 1) := by decide +kernel
theorem dX4_apart_9 : decode cX4_apart 9 = .ok (.iload_n 2, 1) := by decide +kernel
theorem dX4_apart_10 : decode cX4_apart 10 = .ok (.invokestatic 119, 3) := by decide +kernel
theorem dX4_apart_13 : decode cX4_apart 13 = .ok (.ireturn, 1) := by decide +kernel
theorem dX4_ringWay_0 : decode cX4_ringWay 0 = .ok (.iload_n 1, 1) := by decide +kernel
theorem dX4_ringWay_1 : decode cX4_ringWay 1 = .ok (.invokestatic 62, 3) := by decide +kernel
theorem dX4_ringWay_4 : decode cX4_ringWay 4 = .ok (.iload_n 2, 1) := by decide +kernel
theorem dX4_ringWay_5 : decode cX4_ringWay 5 = .ok (.invokestatic 66, 3) := by decide +kernel
theorem dX4_ringWay_8 : decode cX4_ringWay 8 = .ok (.iload_n 3, 1) := by decide +kernel
theorem dX4_ringWay_9 : decode cX4_ringWay 9 = .ok (.invokestatic 66, 3) := by decide +kernel
theorem dX4_ringWay_12 : decode cX4_ringWay 12 = .ok (.iload_n 2, 1) := by decide +kernel
theorem dX4_ringWay_13 : decode cX4_ringWay 13 = .ok (.iload_n 3, 1) := by decide +kernel
theorem dX4_ringWay_14 : decode cX4_ringWay 14 = .ok (.invokestatic 119, 3) := by decide +kernel
theorem dX4_ringWay_17 : decode cX4_ringWay 17 = .ok (.aload_n 0, 1) := by decide +kernel
theorem dX4_ringWay_18 : decode cX4_ringWay 18 = .ok (.getfield 10, 3) := by decide +kernel
theorem dX4_ringWay_21 : decode cX4_ringWay 21 = .ok (.iload_n 1, 1) := by decide +kernel
theorem dX4_ringWay_22 : decode cX4_ringWay 22 = .ok (.invokevirtual 69, 3) := by decide +kernel
theorem dX4_ringWay_25 : decode cX4_ringWay 25 = .ok (.imul, 1) := by decide +kernel
theorem dX4_ringWay_26 : decode cX4_ringWay 26 = .ok (.ireturn, 1) := by decide +kernel
theorem dX4_zones_0 : decode cX4_zones 0 = .ok (.iload_n 1, 1) := by decide +kernel
theorem dX4_zones_1 : decode cX4_zones 1 = .ok (.iconst 1, 1) := by decide +kernel
theorem dX4_zones_2 : decode cX4_zones 2 = .ok (.if_icmp .lt 18, 3) := by decide +kernel
theorem dX4_zones_5 : decode cX4_zones 5 = .ok (.iload_n 1, 1) := by decide +kernel
theorem dX4_zones_6 : decode cX4_zones 6 = .ok (.sipush 360, 3) := by decide +kernel
theorem dX4_zones_9 : decode cX4_zones 9 = .ok (.if_icmp .gt 11, 3) := by decide +kernel
theorem dX4_zones_12 : decode cX4_zones 12 = .ok (.sipush 360, 3) := by decide +kernel
theorem dX4_zones_15 : decode cX4_zones 15 = .ok (.iload_n 1, 1) := by decide +kernel
theorem dX4_zones_16 : decode cX4_zones 16 = .ok (.irem, 1) := by decide +kernel
theorem dX4_zones_17 : decode cX4_zones 17 = .ok (.ifCond .eq 13, 3) := by decide +kernel
theorem dX4_zones_20 : decode cX4_zones 20 = .ok (.new 44, 3) := by decide +kernel
theorem dX4_zones_23 : decode cX4_zones 23 = .ok (.dup, 1) := by decide +kernel
theorem dX4_zones_24 : decode cX4_zones 24 = .ok (.ldc 122, 2) := by decide +kernel
theorem dX4_zones_26 : decode cX4_zones 26 = .ok (.invokespecial 48, 3) := by decide +kernel
theorem dX4_zones_29 : decode cX4_zones 29 = .ok (.athrow, 1) := by decide +kernel
theorem dX4_zones_30 : decode cX4_zones 30 = .ok (.aload_n 0, 1) := by decide +kernel
theorem dX4_zones_31 : decode cX4_zones 31 = .ok (.getfield 26, 3) := by decide +kernel
theorem dX4_zones_34 : decode cX4_zones 34 = .ok (.iload_n 1, 1) := by decide +kernel
theorem dX4_zones_35 : decode cX4_zones 35 = .ok (.invokevirtual 124, 3) := by decide +kernel
theorem dX4_zones_38 : decode cX4_zones 38 = .ok (.ireturn, 1) := by decide +kernel
theorem dX4_zone_0 : decode cX4_zone 0 = .ok (.iload_n 1, 1) := by decide +kernel
theorem dX4_zone_1 : decode cX4_zone 1 = .ok (.invokestatic 66, 3) := by decide +kernel
theorem dX4_zone_4 : decode cX4_zone 4 = .ok (.aload_n 0, 1) := by decide +kernel
theorem dX4_zone_5 : decode cX4_zone 5 = .ok (.getfield 26, 3) := by decide +kernel
theorem dX4_zone_8 : decode cX4_zone 8 = .ok (.iload_n 1, 1) := by decide +kernel
theorem dX4_zone_9 : decode cX4_zone 9 = .ok (.invokevirtual 127, 3) := by decide +kernel
theorem dX4_zone_12 : decode cX4_zone 12 = .ok (.ireturn, 1) := by decide +kernel
theorem dX4_seams_0 : decode cX4_seams 0 = .ok (.iload_n 1, 1) := by decide +kernel
theorem dX4_seams_1 : decode cX4_seams 1 = .ok (.invokestatic 66, 3) := by decide +kernel
theorem dX4_seams_4 : decode cX4_seams 4 = .ok (.iload_n 2, 1) := by decide +kernel
theorem dX4_seams_5 : decode cX4_seams 5 = .ok (.invokestatic 66, 3) := by decide +kernel
theorem dX4_seams_8 : decode cX4_seams 8 = .ok (.iload_n 1, 1) := by decide +kernel
theorem dX4_seams_9 : decode cX4_seams 9 = .ok (.iload_n 2, 1) := by decide +kernel
theorem dX4_seams_10 : decode cX4_seams 10 = .ok (.invokestatic 130, 3) := by decide +kernel
theorem dX4_seams_13 : decode cX4_seams 13 = .ok (.ifCond .eq 7, 3) := by decide +kernel
theorem dX4_seams_16 : decode cX4_seams 16 = .ok (.iload_n 1, 1) := by decide +kernel
theorem dX4_seams_17 : decode cX4_seams 17 = .ok (.goto 4, 3) := by decide +kernel
theorem dX4_seams_20 : decode cX4_seams 20 = .ok (.iload_n 2, 1) := by decide +kernel
theorem dX4_seams_21 : decode cX4_seams 21 = .ok (.istore_n 3, 1) := by decide +kernel
theorem dX4_seams_22 : decode cX4_seams 22 = .ok (.aload_n 0, 1) := by decide +kernel
theorem dX4_seams_23 : decode cX4_seams 23 = .ok (.getfield 26, 3) := by decide +kernel
theorem dX4_seams_26 : decode cX4_seams 26 = .ok (.iload_n 3, 1) := by decide +kernel
theorem dX4_seams_27 : decode cX4_seams 27 = .ok (.iload_n 1, 1) := by decide +kernel
theorem dX4_seams_28 : decode cX4_seams 28 = .ok (.iload_n 2, 1) := by decide +kernel
theorem dX4_seams_29 : decode cX4_seams 29 = .ok (.invokestatic 119, 3) := by decide +kernel
theorem dX4_seams_32 : decode cX4_seams 32 = .ok (.invokevirtual 133, 3) := by decide +kernel
theorem dX4_seams_35 : decode cX4_seams 35 = .ok (.ireturn, 1) := by decide +kernel
theorem dX4_dateLine_0 : decode cX4_dateLine 0 = .ok (.iload_n 1, 1) := by decide +kernel
theorem dX4_dateLine_1 : decode cX4_dateLine 1 = .ok (.invokestatic 66, 3) := by decide +kernel
theorem dX4_dateLine_4 : decode cX4_dateLine 4 = .ok (.iload_n 2, 1) := by decide +kernel
theorem dX4_dateLine_5 : decode cX4_dateLine 5 = .ok (.invokestatic 66, 3) := by decide +kernel
theorem dX4_dateLine_8 : decode cX4_dateLine 8 = .ok (.iload_n 1, 1) := by decide +kernel
theorem dX4_dateLine_9 : decode cX4_dateLine 9 = .ok (.iload_n 2, 1) := by decide +kernel
theorem dX4_dateLine_10 : decode cX4_dateLine 10 = .ok (.invokestatic 130, 3) := by decide +kernel
theorem dX4_dateLine_13 : decode cX4_dateLine 13 = .ok (.ifCond .eq 14, 3) := by decide +kernel
theorem dX4_dateLine_16 : decode cX4_dateLine 16 = .ok (.iload_n 2, 1) := by decide +kernel
theorem dX4_dateLine_17 : decode cX4_dateLine 17 = .ok (.iload_n 1, 1) := by decide +kernel
theorem dX4_dateLine_18 : decode cX4_dateLine 18 = .ok (.if_icmp .ge 7, 3) := by decide +kernel
theorem dX4_dateLine_21 : decode cX4_dateLine 21 = .ok (.iconst 1, 1) := by decide +kernel
theorem dX4_dateLine_22 : decode cX4_dateLine 22 = .ok (.goto 4, 3) := by decide +kernel
theorem dX4_dateLine_25 : decode cX4_dateLine 25 = .ok (.iconst 0, 1) := by decide +kernel
theorem dX4_dateLine_26 : decode cX4_dateLine 26 = .ok (.ireturn, 1) := by decide +kernel
theorem dX4_dateLine_27 : decode cX4_dateLine 27 = .ok (.iload_n 2, 1) := by decide +kernel
theorem dX4_dateLine_28 : decode cX4_dateLine 28 = .ok (.iload_n 1, 1) := by decide +kernel
theorem dX4_dateLine_29 : decode cX4_dateLine 29 = .ok (.if_icmp .le 7, 3) := by decide +kernel
theorem dX4_dateLine_32 : decode cX4_dateLine 32 = .ok (.iconst (-1), 1) := by decide +kernel
theorem dX4_dateLine_33 : decode cX4_dateLine 33 = .ok (.goto 4, 3) := by decide +kernel
theorem dX4_dateLine_36 : decode cX4_dateLine 36 = .ok (.iconst 0, 1) := by decide +kernel
theorem dX4_dateLine_37 : decode cX4_dateLine 37 = .ok (.ireturn, 1) := by decide +kernel
theorem dX4_sheet_0 : decode cX4_sheet 0 = .ok (.iload_n 1, 1) := by decide +kernel
theorem dX4_sheet_1 : decode cX4_sheet 1 = .ok (.iconst 1, 1) := by decide +kernel
theorem dX4_sheet_2 : decode cX4_sheet 2 = .ok (.if_icmp .lt 20, 3) := by decide +kernel
theorem dX4_sheet_5 : decode cX4_sheet 5 = .ok (.iload_n 1, 1) := by decide +kernel
theorem dX4_sheet_6 : decode cX4_sheet 6 = .ok (.bipush 6, 2) := by decide +kernel
theorem dX4_sheet_8 : decode cX4_sheet 8 = .ok (.if_icmp .gt 14, 3) := by decide +kernel
theorem dX4_sheet_11 : decode cX4_sheet 11 = .ok (.iload_n 2, 1) := by decide +kernel
theorem dX4_sheet_12 : decode cX4_sheet 12 = .ok (.iconst 1, 1) := by decide +kernel
theorem dX4_sheet_13 : decode cX4_sheet 13 = .ok (.if_icmp .lt 9, 3) := by decide +kernel
theorem dX4_sheet_16 : decode cX4_sheet 16 = .ok (.iload_n 2, 1) := by decide +kernel
theorem dX4_sheet_17 : decode cX4_sheet 17 = .ok (.bipush 6, 2) := by decide +kernel
theorem dX4_sheet_19 : decode cX4_sheet 19 = .ok (.if_icmp .le 13, 3) := by decide +kernel
theorem dX4_sheet_22 : decode cX4_sheet 22 = .ok (.new 44, 3) := by decide +kernel
theorem dX4_sheet_25 : decode cX4_sheet 25 = .ok (.dup, 1) := by decide +kernel
theorem dX4_sheet_26 : decode cX4_sheet 26 = .ok (.ldc 136, 2) := by decide +kernel
theorem dX4_sheet_28 : decode cX4_sheet 28 = .ok (.invokespecial 48, 3) := by decide +kernel
theorem dX4_sheet_31 : decode cX4_sheet 31 = .ok (.athrow, 1) := by decide +kernel
theorem dX4_sheet_32 : decode cX4_sheet 32 = .ok (.aload_n 0, 1) := by decide +kernel
theorem dX4_sheet_33 : decode cX4_sheet 33 = .ok (.getfield 33, 3) := by decide +kernel
theorem dX4_sheet_36 : decode cX4_sheet 36 = .ok (.iload_n 1, 1) := by decide +kernel
theorem dX4_sheet_37 : decode cX4_sheet 37 = .ok (.iload_n 2, 1) := by decide +kernel
theorem dX4_sheet_38 : decode cX4_sheet 38 = .ok (.invokevirtual 138, 3) := by decide +kernel
theorem dX4_sheet_41 : decode cX4_sheet 41 = .ok (.return_, 1) := by decide +kernel
theorem dX4_foldColumns_0 : decode cX4_foldColumns 0 = .ok (.aload_n 0, 1) := by decide +kernel
theorem dX4_foldColumns_1 : decode cX4_foldColumns 1 = .ok (.getfield 33, 3) := by decide +kernel
theorem dX4_foldColumns_4 : decode cX4_foldColumns 4 = .ok (.iload_n 1, 1) := by decide +kernel
theorem dX4_foldColumns_5 : decode cX4_foldColumns 5 = .ok (.invokevirtual 142, 3) := by decide +kernel
theorem dX4_foldColumns_8 : decode cX4_foldColumns 8 = .ok (.invokestatic 145, 3) := by decide +kernel
theorem dX4_foldColumns_11 : decode cX4_foldColumns 11 = .ok (.ireturn, 1) := by decide +kernel
theorem dX4_foldRows_0 : decode cX4_foldRows 0 = .ok (.aload_n 0, 1) := by decide +kernel
theorem dX4_foldRows_1 : decode cX4_foldRows 1 = .ok (.getfield 33, 3) := by decide +kernel
theorem dX4_foldRows_4 : decode cX4_foldRows 4 = .ok (.iload_n 1, 1) := by decide +kernel
theorem dX4_foldRows_5 : decode cX4_foldRows 5 = .ok (.invokevirtual 148, 3) := by decide +kernel
theorem dX4_foldRows_8 : decode cX4_foldRows 8 = .ok (.invokestatic 145, 3) := by decide +kernel
theorem dX4_foldRows_11 : decode cX4_foldRows 11 = .ok (.ireturn, 1) := by decide +kernel
theorem dX4_unfold_0 : decode cX4_unfold 0 = .ok (.aload_n 0, 1) := by decide +kernel
theorem dX4_unfold_1 : decode cX4_unfold 1 = .ok (.getfield 33, 3) := by decide +kernel
theorem dX4_unfold_4 : decode cX4_unfold 4 = .ok (.invokevirtual 151, 3) := by decide +kernel
theorem dX4_unfold_7 : decode cX4_unfold 7 = .ok (.ireturn, 1) := by decide +kernel
theorem dX4_panel_0 : decode cX4_panel 0 = .ok (.iload_n 1, 1) := by decide +kernel
theorem dX4_panel_1 : decode cX4_panel 1 = .ok (.invokestatic 62, 3) := by decide +kernel
theorem dX4_panel_4 : decode cX4_panel 4 = .ok (.iload_n 2, 1) := by decide +kernel
theorem dX4_panel_5 : decode cX4_panel 5 = .ok (.invokestatic 66, 3) := by decide +kernel
theorem dX4_panel_8 : decode cX4_panel 8 = .ok (.bipush 10, 2) := by decide +kernel
theorem dX4_panel_10 : decode cX4_panel 10 = .ok (.aload_n 0, 1) := by decide +kernel
theorem dX4_panel_11 : decode cX4_panel 11 = .ok (.getfield 33, 3) := by decide +kernel
theorem dX4_panel_14 : decode cX4_panel 14 = .ok (.iload_n 2, 1) := by decide +kernel
theorem dX4_panel_15 : decode cX4_panel 15 = .ok (.invokevirtual 155, 3) := by decide +kernel
theorem dX4_panel_18 : decode cX4_panel 18 = .ok (.imul, 1) := by decide +kernel
theorem dX4_panel_19 : decode cX4_panel 19 = .ok (.aload_n 0, 1) := by decide +kernel
theorem dX4_panel_20 : decode cX4_panel 20 = .ok (.getfield 33, 3) := by decide +kernel
theorem dX4_panel_23 : decode cX4_panel 23 = .ok (.iload_n 1, 1) := by decide +kernel
theorem dX4_panel_24 : decode cX4_panel 24 = .ok (.invokevirtual 158, 3) := by decide +kernel
theorem dX4_panel_27 : decode cX4_panel 27 = .ok (.iadd, 1) := by decide +kernel
theorem dX4_panel_28 : decode cX4_panel 28 = .ok (.ireturn, 1) := by decide +kernel
theorem dX4_placeX_0 : decode cX4_placeX 0 = .ok (.aload_n 0, 1) := by decide +kernel
theorem dX4_placeX_1 : decode cX4_placeX 1 = .ok (.iload_n 1, 1) := by decide +kernel
theorem dX4_placeX_2 : decode cX4_placeX 2 = .ok (.iload_n 2, 1) := by decide +kernel
theorem dX4_placeX_3 : decode cX4_placeX 3 = .ok (.invokevirtual 161, 3) := by decide +kernel
theorem dX4_placeX_6 : decode cX4_placeX 6 = .ok (.aload_n 0, 1) := by decide +kernel
theorem dX4_placeX_7 : decode cX4_placeX 7 = .ok (.getfield 33, 3) := by decide +kernel
theorem dX4_placeX_10 : decode cX4_placeX 10 = .ok (.iload_n 1, 1) := by decide +kernel
theorem dX4_placeX_11 : decode cX4_placeX 11 = .ok (.iload_n 2, 1) := by decide +kernel
theorem dX4_placeX_12 : decode cX4_placeX 12 = .ok (.invokevirtual 164, 3) := by decide +kernel
theorem dX4_placeX_15 : decode cX4_placeX 15 = .ok (.ireturn, 1) := by decide +kernel
theorem dX4_placeY_0 : decode cX4_placeY 0 = .ok (.aload_n 0, 1) := by decide +kernel
theorem dX4_placeY_1 : decode cX4_placeY 1 = .ok (.iload_n 1, 1) := by decide +kernel
theorem dX4_placeY_2 : decode cX4_placeY 2 = .ok (.iload_n 2, 1) := by decide +kernel
theorem dX4_placeY_3 : decode cX4_placeY 3 = .ok (.invokevirtual 161, 3) := by decide +kernel
theorem dX4_placeY_6 : decode cX4_placeY 6 = .ok (.aload_n 0, 1) := by decide +kernel
theorem dX4_placeY_7 : decode cX4_placeY 7 = .ok (.getfield 33, 3) := by decide +kernel
theorem dX4_placeY_10 : decode cX4_placeY 10 = .ok (.iload_n 1, 1) := by decide +kernel
theorem dX4_placeY_11 : decode cX4_placeY 11 = .ok (.iload_n 2, 1) := by decide +kernel
theorem dX4_placeY_12 : decode cX4_placeY 12 = .ok (.invokevirtual 167, 3) := by decide +kernel
theorem dX4_placeY_15 : decode cX4_placeY 15 = .ok (.ireturn, 1) := by decide +kernel
theorem dX4_above_0 : decode cX4_above 0 = .ok (.aload_n 0, 1) := by decide +kernel
theorem dX4_above_1 : decode cX4_above 1 = .ok (.iload_n 1, 1) := by decide +kernel
theorem dX4_above_2 : decode cX4_above 2 = .ok (.iload_n 2, 1) := by decide +kernel
theorem dX4_above_3 : decode cX4_above 3 = .ok (.invokevirtual 161, 3) := by decide +kernel
theorem dX4_above_6 : decode cX4_above 6 = .ok (.aload_n 0, 1) := by decide +kernel
theorem dX4_above_7 : decode cX4_above 7 = .ok (.getfield 33, 3) := by decide +kernel
theorem dX4_above_10 : decode cX4_above 10 = .ok (.iload_n 1, 1) := by decide +kernel
theorem dX4_above_11 : decode cX4_above 11 = .ok (.iload_n 2, 1) := by decide +kernel
theorem dX4_above_12 : decode cX4_above 12 = .ok (.invokevirtual 170, 3) := by decide +kernel
theorem dX4_above_15 : decode cX4_above 15 = .ok (.ireturn, 1) := by decide +kernel
theorem dX4_isUp_0 : decode cX4_isUp 0 = .ok (.aload_n 0, 1) := by decide +kernel
theorem dX4_isUp_1 : decode cX4_isUp 1 = .ok (.iload_n 1, 1) := by decide +kernel
theorem dX4_isUp_2 : decode cX4_isUp 2 = .ok (.iload_n 2, 1) := by decide +kernel
theorem dX4_isUp_3 : decode cX4_isUp 3 = .ok (.invokevirtual 161, 3) := by decide +kernel
theorem dX4_isUp_6 : decode cX4_isUp 6 = .ok (.aload_n 0, 1) := by decide +kernel
theorem dX4_isUp_7 : decode cX4_isUp 7 = .ok (.getfield 33, 3) := by decide +kernel
theorem dX4_isUp_10 : decode cX4_isUp 10 = .ok (.iload_n 1, 1) := by decide +kernel
theorem dX4_isUp_11 : decode cX4_isUp 11 = .ok (.iload_n 2, 1) := by decide +kernel
theorem dX4_isUp_12 : decode cX4_isUp 12 = .ok (.invokevirtual 173, 3) := by decide +kernel
theorem dX4_isUp_15 : decode cX4_isUp 15 = .ok (.ireturn, 1) := by decide +kernel
theorem dX4_thickness_0 : decode cX4_thickness 0 = .ok (.aload_n 0, 1) := by decide +kernel
theorem dX4_thickness_1 : decode cX4_thickness 1 = .ok (.getfield 33, 3) := by decide +kernel
theorem dX4_thickness_4 : decode cX4_thickness 4 = .ok (.invokevirtual 176, 3) := by decide +kernel
theorem dX4_thickness_7 : decode cX4_thickness 7 = .ok (.ireturn, 1) := by decide +kernel
theorem dX4_readable_0 : decode cX4_readable 0 = .ok (.aload_n 0, 1) := by decide +kernel
theorem dX4_readable_1 : decode cX4_readable 1 = .ok (.getfield 33, 3) := by decide +kernel
theorem dX4_readable_4 : decode cX4_readable 4 = .ok (.invokevirtual 179, 3) := by decide +kernel
theorem dX4_readable_7 : decode cX4_readable 7 = .ok (.ireturn, 1) := by decide +kernel
theorem dX4_requireLatitude_0 : decode cX4_requireLatitude 0 = .ok (.iload_n 0, 1) := by decide +kernel
theorem dX4_requireLatitude_1 : decode cX4_requireLatitude 1 = .ok (.bipush (-90), 2) := by decide +kernel
theorem dX4_requireLatitude_3 : decode cX4_requireLatitude 3 = .ok (.if_icmp .lt 9, 3) := by decide +kernel
theorem dX4_requireLatitude_6 : decode cX4_requireLatitude 6 = .ok (.iload_n 0, 1) := by decide +kernel
theorem dX4_requireLatitude_7 : decode cX4_requireLatitude 7 = .ok (.bipush 90, 2) := by decide +kernel
theorem dX4_requireLatitude_9 : decode cX4_requireLatitude 9 = .ok (.if_icmp .le 13, 3) := by decide +kernel
theorem dX4_requireLatitude_12 : decode cX4_requireLatitude 12 = .ok (.new 44, 3) := by decide +kernel
theorem dX4_requireLatitude_15 : decode cX4_requireLatitude 15 = .ok (.dup, 1) := by decide +kernel
theorem dX4_requireLatitude_16 : decode cX4_requireLatitude 16 = .ok (.ldc 182, 2) := by decide +kernel
theorem dX4_requireLatitude_18 : decode cX4_requireLatitude 18 = .ok (.invokespecial 48, 3) := by decide +kernel
theorem dX4_requireLatitude_21 : decode cX4_requireLatitude 21 = .ok (.athrow, 1) := by decide +kernel
theorem dX4_requireLatitude_22 : decode cX4_requireLatitude 22 = .ok (.return_, 1) := by decide +kernel
theorem dX4_requireLongitude_0 : decode cX4_requireLongitude 0 = .ok (.iload_n 0, 1) := by decide +kernel
theorem dX4_requireLongitude_1 : decode cX4_requireLongitude 1 = .ok (.sipush (-180), 3) := by decide +kernel
theorem dX4_requireLongitude_4 : decode cX4_requireLongitude 4 = .ok (.if_icmp .lt 10, 3) := by decide +kernel
theorem dX4_requireLongitude_7 : decode cX4_requireLongitude 7 = .ok (.iload_n 0, 1) := by decide +kernel
theorem dX4_requireLongitude_8 : decode cX4_requireLongitude 8 = .ok (.sipush 179, 3) := by decide +kernel
theorem dX4_requireLongitude_11 : decode cX4_requireLongitude 11 = .ok (.if_icmp .le 13, 3) := by decide +kernel
theorem dX4_requireLongitude_14 : decode cX4_requireLongitude 14 = .ok (.new 44, 3) := by decide +kernel
theorem dX4_requireLongitude_17 : decode cX4_requireLongitude 17 = .ok (.dup, 1) := by decide +kernel
theorem dX4_requireLongitude_18 : decode cX4_requireLongitude 18 = .ok (.ldc 184, 2) := by decide +kernel
theorem dX4_requireLongitude_20 : decode cX4_requireLongitude 20 = .ok (.invokespecial 48, 3) := by decide +kernel
theorem dX4_requireLongitude_23 : decode cX4_requireLongitude 23 = .ok (.athrow, 1) := by decide +kernel
theorem dX4_requireLongitude_24 : decode cX4_requireLongitude 24 = .ok (.return_, 1) := by decide +kernel
theorem dX4_requireBand_0 : decode cX4_requireBand 0 = .ok (.iload_n 0, 1) := by decide +kernel
theorem dX4_requireBand_1 : decode cX4_requireBand 1 = .ok (.ifCond .lt 9, 3) := by decide +kernel
theorem dX4_requireBand_4 : decode cX4_requireBand 4 = .ok (.iload_n 0, 1) := by decide +kernel
theorem dX4_requireBand_5 : decode cX4_requireBand 5 = .ok (.bipush 9, 2) := by decide +kernel
theorem dX4_requireBand_7 : decode cX4_requireBand 7 = .ok (.if_icmp .lt 13, 3) := by decide +kernel
theorem dX4_requireBand_10 : decode cX4_requireBand 10 = .ok (.new 37, 3) := by decide +kernel
theorem dX4_requireBand_13 : decode cX4_requireBand 13 = .ok (.dup, 1) := by decide +kernel
theorem dX4_requireBand_14 : decode cX4_requireBand 14 = .ok (.ldc 186, 2) := by decide +kernel
theorem dX4_requireBand_16 : decode cX4_requireBand 16 = .ok (.invokespecial 41, 3) := by decide +kernel
theorem dX4_requireBand_19 : decode cX4_requireBand 19 = .ok (.athrow, 1) := by decide +kernel
theorem dX4_requireBand_20 : decode cX4_requireBand 20 = .ok (.return_, 1) := by decide +kernel
theorem dX4_requirePanel_0 : decode cX4_requirePanel 0 = .ok (.aload_n 0, 1) := by decide +kernel
theorem dX4_requirePanel_1 : decode cX4_requirePanel 1 = .ok (.getfield 33, 3) := by decide +kernel
theorem dX4_requirePanel_4 : decode cX4_requirePanel 4 = .ok (.iload_n 1, 1) := by decide +kernel
theorem dX4_requirePanel_5 : decode cX4_requirePanel 5 = .ok (.iload_n 2, 1) := by decide +kernel
theorem dX4_requirePanel_6 : decode cX4_requirePanel 6 = .ok (.invokevirtual 188, 3) := by decide +kernel
theorem dX4_requirePanel_9 : decode cX4_requirePanel 9 = .ok (.ifCond .ne 13, 3) := by decide +kernel
theorem dX4_requirePanel_12 : decode cX4_requirePanel 12 = .ok (.new 37, 3) := by decide +kernel
theorem dX4_requirePanel_15 : decode cX4_requirePanel 15 = .ok (.dup, 1) := by decide +kernel
theorem dX4_requirePanel_16 : decode cX4_requirePanel 16 = .ok (.ldc 191, 2) := by decide +kernel
theorem dX4_requirePanel_18 : decode cX4_requirePanel 18 = .ok (.invokespecial 41, 3) := by decide +kernel
theorem dX4_requirePanel_21 : decode cX4_requirePanel 21 = .ok (.athrow, 1) := by decide +kernel
theorem dX4_requirePanel_22 : decode cX4_requirePanel 22 = .ok (.return_, 1) := by decide +kernel
theorem dX4_someTurned_0 : decode cX4_someTurned 0 = .ok (.iload_n 0, 1) := by decide +kernel
theorem dX4_someTurned_1 : decode cX4_someTurned 1 = .ok (.ifCond .ne 13, 3) := by decide +kernel
theorem dX4_someTurned_4 : decode cX4_someTurned 4 = .ok (.new 53, 3) := by decide +kernel
theorem dX4_someTurned_7 : decode cX4_someTurned 7 = .ok (.dup, 1) := by decide +kernel
theorem dX4_someTurned_8 : decode cX4_someTurned 8 = .ok (.ldc 193, 2) := by decide +kernel
theorem dX4_someTurned_10 : decode cX4_someTurned 10 = .ok (.invokespecial 57, 3) := by decide +kernel
theorem dX4_someTurned_13 : decode cX4_someTurned 13 = .ok (.athrow, 1) := by decide +kernel
theorem dX4_someTurned_14 : decode cX4_someTurned 14 = .ok (.iload_n 0, 1) := by decide +kernel
theorem dX4_someTurned_15 : decode cX4_someTurned 15 = .ok (.ireturn, 1) := by decide +kernel
theorem dX4_degreesEast_0 : decode cX4_degreesEast 0 = .ok (.iload_n 1, 1) := by decide +kernel
theorem dX4_degreesEast_1 : decode cX4_degreesEast 1 = .ok (.iload_n 0, 1) := by decide +kernel
theorem dX4_degreesEast_2 : decode cX4_degreesEast 2 = .ok (.isub, 1) := by decide +kernel
theorem dX4_degreesEast_3 : decode cX4_degreesEast 3 = .ok (.istore_n 2, 1) := by decide +kernel
theorem dX4_degreesEast_4 : decode cX4_degreesEast 4 = .ok (.iload_n 2, 1) := by decide +kernel
theorem dX4_degreesEast_5 : decode cX4_degreesEast 5 = .ok (.ifCond .ge 11, 3) := by decide +kernel
theorem dX4_degreesEast_8 : decode cX4_degreesEast 8 = .ok (.iload_n 2, 1) := by decide +kernel
theorem dX4_degreesEast_9 : decode cX4_degreesEast 9 = .ok (.sipush 360, 3) := by decide +kernel
theorem dX4_degreesEast_12 : decode cX4_degreesEast 12 = .ok (.iadd, 1) := by decide +kernel
theorem dX4_degreesEast_13 : decode cX4_degreesEast 13 = .ok (.goto 4, 3) := by decide +kernel
theorem dX4_degreesEast_16 : decode cX4_degreesEast 16 = .ok (.iload_n 2, 1) := by decide +kernel
theorem dX4_degreesEast_17 : decode cX4_degreesEast 17 = .ok (.ireturn, 1) := by decide +kernel
theorem dX4_goesEast_0 : decode cX4_goesEast 0 = .ok (.iload_n 0, 1) := by decide +kernel
theorem dX4_goesEast_1 : decode cX4_goesEast 1 = .ok (.iload_n 1, 1) := by decide +kernel
theorem dX4_goesEast_2 : decode cX4_goesEast 2 = .ok (.invokestatic 195, 3) := by decide +kernel
theorem dX4_goesEast_5 : decode cX4_goesEast 5 = .ok (.sipush 180, 3) := by decide +kernel
theorem dX4_goesEast_8 : decode cX4_goesEast 8 = .ok (.if_icmp .gt 7, 3) := by decide +kernel
theorem dX4_goesEast_11 : decode cX4_goesEast 11 = .ok (.iconst 1, 1) := by decide +kernel
theorem dX4_goesEast_12 : decode cX4_goesEast 12 = .ok (.goto 4, 3) := by decide +kernel
theorem dX4_goesEast_15 : decode cX4_goesEast 15 = .ok (.iconst 0, 1) := by decide +kernel
theorem dX4_goesEast_16 : decode cX4_goesEast 16 = .ok (.ireturn, 1) := by decide +kernel
theorem dX4_shorterWay_0 : decode cX4_shorterWay 0 = .ok (.iload_n 0, 1) := by decide +kernel
theorem dX4_shorterWay_1 : decode cX4_shorterWay 1 = .ok (.iload_n 1, 1) := by decide +kernel
theorem dX4_shorterWay_2 : decode cX4_shorterWay 2 = .ok (.invokestatic 195, 3) := by decide +kernel
theorem dX4_shorterWay_5 : decode cX4_shorterWay 5 = .ok (.istore_n 2, 1) := by decide +kernel
theorem dX4_shorterWay_6 : decode cX4_shorterWay 6 = .ok (.iload_n 2, 1) := by decide +kernel
theorem dX4_shorterWay_7 : decode cX4_shorterWay 7 = .ok (.sipush 360, 3) := by decide +kernel
theorem dX4_shorterWay_10 : decode cX4_shorterWay 10 = .ok (.iload_n 2, 1) := by decide +kernel
theorem dX4_shorterWay_11 : decode cX4_shorterWay 11 = .ok (.isub, 1) := by decide +kernel
theorem dX4_shorterWay_12 : decode cX4_shorterWay 12 = .ok (.invokestatic 198, 3) := by decide +kernel
theorem dX4_shorterWay_15 : decode cX4_shorterWay 15 = .ok (.ireturn, 1) := by decide +kernel
theorem dX5_init_0 : decode cX5_init 0 = .ok (.aload_n 0, 1) := by decide +kernel
theorem dX5_init_1 : decode cX5_init 1 = .ok (.invokespecial 1, 3) := by decide +kernel
theorem dX5_init_4 : decode cX5_init 4 = .ok (.aload_n 0, 1) := by decide +kernel
theorem dX5_init_5 : decode cX5_init 5 = .ok (.bipush 10, 2) := by decide +kernel
theorem dX5_init_7 : decode cX5_init 7 = .ok (.newarray .int, 2) := by decide +kernel
theorem dX5_init_9 : decode cX5_init 9 = .ok (.putfield 7, 3) := by decide +kernel
theorem dX5_init_12 : decode cX5_init 12 = .ok (.aload_n 0, 1) := by decide +kernel
theorem dX5_init_13 : decode cX5_init 13 = .ok (.bipush 10, 2) := by decide +kernel
theorem dX5_init_15 : decode cX5_init 15 = .ok (.newarray .int, 2) := by decide +kernel
theorem dX5_init_17 : decode cX5_init 17 = .ok (.putfield 13, 3) := by decide +kernel
theorem dX5_init_20 : decode cX5_init 20 = .ok (.aload_n 0, 1) := by decide +kernel
theorem dX5_init_21 : decode cX5_init 21 = .ok (.bipush 9, 2) := by decide +kernel
theorem dX5_init_23 : decode cX5_init 23 = .ok (.newarray .int, 2) := by decide +kernel
theorem dX5_init_25 : decode cX5_init 25 = .ok (.putfield 16, 3) := by decide +kernel
theorem dX5_init_28 : decode cX5_init 28 = .ok (.aload_n 0, 1) := by decide +kernel
theorem dX5_init_29 : decode cX5_init 29 = .ok (.bipush 15, 2) := by decide +kernel
theorem dX5_init_31 : decode cX5_init 31 = .ok (.putfield 19, 3) := by decide +kernel
theorem dX5_init_34 : decode cX5_init 34 = .ok (.aload_n 0, 1) := by decide +kernel
theorem dX5_init_35 : decode cX5_init 35 = .ok (.bipush 36, 2) := by decide +kernel
theorem dX5_init_37 : decode cX5_init 37 = .ok (.newarray .int, 2) := by decide +kernel
theorem dX5_init_39 : decode cX5_init 39 = .ok (.putfield 23, 3) := by decide +kernel
theorem dX5_init_42 : decode cX5_init 42 = .ok (.aload_n 0, 1) := by decide +kernel
theorem dX5_init_43 : decode cX5_init 43 = .ok (.bipush 36, 2) := by decide +kernel
theorem dX5_init_45 : decode cX5_init 45 = .ok (.newarray .int, 2) := by decide +kernel
theorem dX5_init_47 : decode cX5_init 47 = .ok (.putfield 26, 3) := by decide +kernel
theorem dX5_init_50 : decode cX5_init 50 = .ok (.aload_n 0, 1) := by decide +kernel
theorem dX5_init_51 : decode cX5_init 51 = .ok (.bipush 36, 2) := by decide +kernel
theorem dX5_init_53 : decode cX5_init 53 = .ok (.newarray .int, 2) := by decide +kernel
theorem dX5_init_55 : decode cX5_init 55 = .ok (.putfield 29, 3) := by decide +kernel
theorem dX5_init_58 : decode cX5_init 58 = .ok (.aload_n 0, 1) := by decide +kernel
theorem dX5_init_59 : decode cX5_init 59 = .ok (.bipush 36, 2) := by decide +kernel
theorem dX5_init_61 : decode cX5_init 61 = .ok (.newarray .boolean, 2) := by decide +kernel
theorem dX5_init_63 : decode cX5_init 63 = .ok (.putfield 32, 3) := by decide +kernel
theorem dX5_init_66 : decode cX5_init 66 = .ok (.iconst 0, 1) := by decide +kernel
theorem dX5_init_67 : decode cX5_init 67 = .ok (.istore_n 1, 1) := by decide +kernel
theorem dX5_init_68 : decode cX5_init 68 = .ok (.iload_n 1, 1) := by decide +kernel
theorem dX5_init_69 : decode cX5_init 69 = .ok (.bipush 10, 2) := by decide +kernel
theorem dX5_init_71 : decode cX5_init 71 = .ok (.if_icmp .ge 34, 3) := by decide +kernel
theorem dX5_init_74 : decode cX5_init 74 = .ok (.aload_n 0, 1) := by decide +kernel
theorem dX5_init_75 : decode cX5_init 75 = .ok (.getfield 7, 3) := by decide +kernel
theorem dX5_init_78 : decode cX5_init 78 = .ok (.iload_n 1, 1) := by decide +kernel
theorem dX5_init_79 : decode cX5_init 79 = .ok (.sipush 1000, 3) := by decide +kernel
theorem dX5_init_82 : decode cX5_init 82 = .ok (.bipush 100, 2) := by decide +kernel
theorem dX5_init_84 : decode cX5_init 84 = .ok (.iload_n 1, 1) := by decide +kernel
theorem dX5_init_85 : decode cX5_init 85 = .ok (.imul, 1) := by decide +kernel
theorem dX5_init_86 : decode cX5_init 86 = .ok (.isub, 1) := by decide +kernel
theorem dX5_init_87 : decode cX5_init 87 = .ok (.iastore, 1) := by decide +kernel
theorem dX5_init_88 : decode cX5_init 88 = .ok (.aload_n 0, 1) := by decide +kernel
theorem dX5_init_89 : decode cX5_init 89 = .ok (.getfield 13, 3) := by decide +kernel
theorem dX5_init_92 : decode cX5_init 92 = .ok (.iload_n 1, 1) := by decide +kernel
theorem dX5_init_93 : decode cX5_init 93 = .ok (.sipush 1000, 3) := by decide +kernel
theorem dX5_init_96 : decode cX5_init 96 = .ok (.iload_n 1, 1) := by decide +kernel
theorem dX5_init_97 : decode cX5_init 97 = .ok (.imul, 1) := by decide +kernel
theorem dX5_init_98 : decode cX5_init 98 = .ok (.iastore, 1) := by decide +kernel
theorem dX5_init_99 : decode cX5_init 99 = .ok (.iinc 1 1, 3) := by decide +kernel
theorem dX5_init_102 : decode cX5_init 102 = .ok (.goto (-34), 3) := by decide +kernel
theorem dX5_init_105 : decode cX5_init 105 = .ok (.iconst 0, 1) := by decide +kernel
theorem dX5_init_106 : decode cX5_init 106 = .ok (.istore_n 1, 1) := by decide +kernel
theorem dX5_init_107 : decode cX5_init 107 = .ok (.iload_n 1, 1) := by decide +kernel
theorem dX5_init_108 : decode cX5_init 108 = .ok (.bipush 9, 2) := by decide +kernel
theorem dX5_init_110 : decode cX5_init 110 = .ok (.if_icmp .ge 18, 3) := by decide +kernel
theorem dX5_init_113 : decode cX5_init 113 = .ok (.aload_n 0, 1) := by decide +kernel
theorem dX5_init_114 : decode cX5_init 114 = .ok (.getfield 16, 3) := by decide +kernel
theorem dX5_init_117 : decode cX5_init 117 = .ok (.iload_n 1, 1) := by decide +kernel
theorem dX5_init_118 : decode cX5_init 118 = .ok (.sipush 1000, 3) := by decide +kernel
theorem dX5_init_121 : decode cX5_init 121 = .ok (.iastore, 1) := by decide +kernel
theorem dX5_init_122 : decode cX5_init 122 = .ok (.iinc 1 1, 3) := by decide +kernel
theorem dX5_init_125 : decode cX5_init 125 = .ok (.goto (-18), 3) := by decide +kernel
theorem dX5_init_128 : decode cX5_init 128 = .ok (.aload_n 0, 1) := by decide +kernel
theorem dX5_init_129 : decode cX5_init 129 = .ok (.iconst 1, 1) := by decide +kernel
theorem dX5_init_130 : decode cX5_init 130 = .ok (.putfield 36, 3) := by decide +kernel
theorem dX5_init_133 : decode cX5_init 133 = .ok (.aload_n 0, 1) := by decide +kernel
theorem dX5_init_134 : decode cX5_init 134 = .ok (.iconst 1, 1) := by decide +kernel
theorem dX5_init_135 : decode cX5_init 135 = .ok (.putfield 39, 3) := by decide +kernel
theorem dX5_init_138 : decode cX5_init 138 = .ok (.aload_n 0, 1) := by decide +kernel
theorem dX5_init_139 : decode cX5_init 139 = .ok (.invokevirtual 42, 3) := by decide +kernel
theorem dX5_init_142 : decode cX5_init 142 = .ok (.return_, 1) := by decide +kernel
theorem dX5_thrown_0 : decode cX5_thrown 0 = .ok (.aload_n 0, 1) := by decide +kernel
theorem dX5_thrown_1 : decode cX5_thrown 1 = .ok (.getfield 45, 3) := by decide +kernel
theorem dX5_thrown_4 : decode cX5_thrown 4 = .ok (.ireturn, 1) := by decide +kernel
theorem dX5_may_0 : decode cX5_may 0 = .ok (.aload_n 0, 1) := by decide +kernel
theorem dX5_may_1 : decode cX5_may 1 = .ok (.iload_n 1, 1) := by decide +kernel
theorem dX5_may_2 : decode cX5_may 2 = .ok (.ifCond .eq 7, 3) := by decide +kernel
theorem dX5_may_5 : decode cX5_may 5 = .ok (.iconst 0, 1) := by decide +kernel
theorem dX5_may_6 : decode cX5_may 6 = .ok (.goto 4, 3) := by decide +kernel
theorem dX5_may_9 : decode cX5_may 9 = .ok (.iconst 1, 1) := by decide +kernel
theorem dX5_may_10 : decode cX5_may 10 = .ok (.putfield 45, 3) := by decide +kernel
theorem dX5_may_13 : decode cX5_may 13 = .ok (.iload_n 1, 1) := by decide +kernel
theorem dX5_may_14 : decode cX5_may 14 = .ok (.ireturn, 1) := by decide +kernel
theorem dX5_mayBoth_0 : decode cX5_mayBoth 0 = .ok (.aload_n 0, 1) := by decide +kernel
theorem dX5_mayBoth_1 : decode cX5_mayBoth 1 = .ok (.iload_n 1, 1) := by decide +kernel
theorem dX5_mayBoth_2 : decode cX5_mayBoth 2 = .ok (.ifCond .ne 7, 3) := by decide +kernel
theorem dX5_mayBoth_5 : decode cX5_mayBoth 5 = .ok (.iconst 1, 1) := by decide +kernel
theorem dX5_mayBoth_6 : decode cX5_mayBoth 6 = .ok (.goto 12, 3) := by decide +kernel
theorem dX5_mayBoth_9 : decode cX5_mayBoth 9 = .ok (.iload_n 2, 1) := by decide +kernel
theorem dX5_mayBoth_10 : decode cX5_mayBoth 10 = .ok (.ifCond .ne 7, 3) := by decide +kernel
theorem dX5_mayBoth_13 : decode cX5_mayBoth 13 = .ok (.iconst 2, 1) := by decide +kernel
theorem dX5_mayBoth_14 : decode cX5_mayBoth 14 = .ok (.goto 4, 3) := by decide +kernel
theorem dX5_mayBoth_17 : decode cX5_mayBoth 17 = .ok (.iconst 0, 1) := by decide +kernel
theorem dX5_mayBoth_18 : decode cX5_mayBoth 18 = .ok (.putfield 45, 3) := by decide +kernel
theorem dX5_mayBoth_21 : decode cX5_mayBoth 21 = .ok (.aload_n 0, 1) := by decide +kernel
theorem dX5_mayBoth_22 : decode cX5_mayBoth 22 = .ok (.getfield 45, 3) := by decide +kernel
theorem dX5_mayBoth_25 : decode cX5_mayBoth 25 = .ok (.ifCond .ne 7, 3) := by decide +kernel
theorem dX5_mayBoth_28 : decode cX5_mayBoth 28 = .ok (.iconst 1, 1) := by decide +kernel
theorem dX5_mayBoth_29 : decode cX5_mayBoth 29 = .ok (.goto 4, 3) := by decide +kernel
theorem dX5_mayBoth_32 : decode cX5_mayBoth 32 = .ok (.iconst 0, 1) := by decide +kernel
theorem dX5_mayBoth_33 : decode cX5_mayBoth 33 = .ok (.ireturn, 1) := by decide +kernel
theorem dX5_mayAll_0 : decode cX5_mayAll 0 = .ok (.aload_n 0, 1) := by decide +kernel
theorem dX5_mayAll_1 : decode cX5_mayAll 1 = .ok (.iload_n 1, 1) := by decide +kernel
theorem dX5_mayAll_2 : decode cX5_mayAll 2 = .ok (.ifCond .ne 7, 3) := by decide +kernel
theorem dX5_mayAll_5 : decode cX5_mayAll 5 = .ok (.iconst 1, 1) := by decide +kernel
theorem dX5_mayAll_6 : decode cX5_mayAll 6 = .ok (.goto 20, 3) := by decide +kernel
theorem dX5_mayAll_9 : decode cX5_mayAll 9 = .ok (.iload_n 2, 1) := by decide +kernel
theorem dX5_mayAll_10 : decode cX5_mayAll 10 = .ok (.ifCond .ne 7, 3) := by decide +kernel
theorem dX5_mayAll_13 : decode cX5_mayAll 13 = .ok (.iconst 2, 1) := by decide +kernel
theorem dX5_mayAll_14 : decode cX5_mayAll 14 = .ok (.goto 12, 3) := by decide +kernel
theorem dX5_mayAll_17 : decode cX5_mayAll 17 = .ok (.iload_n 3, 1) := by decide +kernel
theorem dX5_mayAll_18 : decode cX5_mayAll 18 = .ok (.ifCond .ne 7, 3) := by decide +kernel
theorem dX5_mayAll_21 : decode cX5_mayAll 21 = .ok (.iconst 3, 1) := by decide +kernel
theorem dX5_mayAll_22 : decode cX5_mayAll 22 = .ok (.goto 4, 3) := by decide +kernel
theorem dX5_mayAll_25 : decode cX5_mayAll 25 = .ok (.iconst 0, 1) := by decide +kernel
theorem dX5_mayAll_26 : decode cX5_mayAll 26 = .ok (.putfield 45, 3) := by decide +kernel
theorem dX5_mayAll_29 : decode cX5_mayAll 29 = .ok (.aload_n 0, 1) := by decide +kernel
theorem dX5_mayAll_30 : decode cX5_mayAll 30 = .ok (.getfield 45, 3) := by decide +kernel
theorem dX5_mayAll_33 : decode cX5_mayAll 33 = .ok (.ifCond .ne 7, 3) := by decide +kernel
theorem dX5_mayAll_36 : decode cX5_mayAll 36 = .ok (.iconst 1, 1) := by decide +kernel
theorem dX5_mayAll_37 : decode cX5_mayAll 37 = .ok (.goto 4, 3) := by decide +kernel
theorem dX5_mayAll_40 : decode cX5_mayAll 40 = .ok (.iconst 0, 1) := by decide +kernel
theorem dX5_mayAll_41 : decode cX5_mayAll 41 = .ok (.ireturn, 1) := by decide +kernel
theorem dX5_isLatitude_0 : decode cX5_isLatitude 0 = .ok (.iload_n 0, 1) := by decide +kernel
theorem dX5_isLatitude_1 : decode cX5_isLatitude 1 = .ok (.bipush (-90), 2) := by decide +kernel
theorem dX5_isLatitude_3 : decode cX5_isLatitude 3 = .ok (.if_icmp .lt 13, 3) := by decide +kernel
theorem dX5_isLatitude_6 : decode cX5_isLatitude 6 = .ok (.iload_n 0, 1) := by decide +kernel
theorem dX5_isLatitude_7 : decode cX5_isLatitude 7 = .ok (.bipush 90, 2) := by decide +kernel
theorem dX5_isLatitude_9 : decode cX5_isLatitude 9 = .ok (.if_icmp .gt 7, 3) := by decide +kernel
theorem dX5_isLatitude_12 : decode cX5_isLatitude 12 = .ok (.iconst 1, 1) := by decide +kernel
theorem dX5_isLatitude_13 : decode cX5_isLatitude 13 = .ok (.goto 4, 3) := by decide +kernel
theorem dX5_isLatitude_16 : decode cX5_isLatitude 16 = .ok (.iconst 0, 1) := by decide +kernel
theorem dX5_isLatitude_17 : decode cX5_isLatitude 17 = .ok (.ireturn, 1) := by decide +kernel
theorem dX5_isLongitude_0 : decode cX5_isLongitude 0 = .ok (.iload_n 0, 1) := by decide +kernel
theorem dX5_isLongitude_1 : decode cX5_isLongitude 1 = .ok (.sipush (-180), 3) := by decide +kernel
theorem dX5_isLongitude_4 : decode cX5_isLongitude 4 = .ok (.if_icmp .lt 14, 3) := by decide +kernel
theorem dX5_isLongitude_7 : decode cX5_isLongitude 7 = .ok (.iload_n 0, 1) := by decide +kernel
theorem dX5_isLongitude_8 : decode cX5_isLongitude 8 = .ok (.sipush 179, 3) := by decide +kernel
theorem dX5_isLongitude_11 : decode cX5_isLongitude 11 = .ok (.if_icmp .gt 7, 3) := by decide +kernel
theorem dX5_isLongitude_14 : decode cX5_isLongitude 14 = .ok (.iconst 1, 1) := by decide +kernel
theorem dX5_isLongitude_15 : decode cX5_isLongitude 15 = .ok (.goto 4, 3) := by decide +kernel
theorem dX5_isLongitude_18 : decode cX5_isLongitude 18 = .ok (.iconst 0, 1) := by decide +kernel
theorem dX5_isLongitude_19 : decode cX5_isLongitude 19 = .ok (.ireturn, 1) := by decide +kernel
theorem dX5_table_0 : decode cX5_table 0 = .ok (.iload_n 1, 1) := by decide +kernel
theorem dX5_table_1 : decode cX5_table 1 = .ok (.ifCond .lt 13, 3) := by decide +kernel
theorem dX5_table_4 : decode cX5_table 4 = .ok (.iload_n 1, 1) := by decide +kernel
theorem dX5_table_5 : decode cX5_table 5 = .ok (.bipush 9, 2) := by decide +kernel
theorem dX5_table_7 : decode cX5_table 7 = .ok (.if_icmp .gt 7, 3) := by decide +kernel
theorem dX5_table_10 : decode cX5_table 10 = .ok (.iconst 1, 1) := by decide +kernel
theorem dX5_table_11 : decode cX5_table 11 = .ok (.goto 4, 3) := by decide +kernel
theorem dX5_table_14 : decode cX5_table 14 = .ok (.iconst 0, 1) := by decide +kernel
theorem dX5_table_15 : decode cX5_table 15 = .ok (.istore 4, 2) := by decide +kernel
theorem dX5_table_17 : decode cX5_table 17 = .ok (.iload_n 2, 1) := by decide +kernel
theorem dX5_table_18 : decode cX5_table 18 = .ok (.ifCond .lt 25, 3) := by decide +kernel
theorem dX5_table_21 : decode cX5_table 21 = .ok (.iload_n 2, 1) := by decide +kernel
theorem dX5_table_22 : decode cX5_table 22 = .ok (.sipush 1000, 3) := by decide +kernel
theorem dX5_table_25 : decode cX5_table 25 = .ok (.if_icmp .gt 18, 3) := by decide +kernel
theorem dX5_table_28 : decode cX5_table 28 = .ok (.iload_n 3, 1) := by decide +kernel
theorem dX5_table_29 : decode cX5_table 29 = .ok (.ifCond .lt 14, 3) := by decide +kernel
theorem dX5_table_32 : decode cX5_table 32 = .ok (.iload_n 3, 1) := by decide +kernel
theorem dX5_table_33 : decode cX5_table 33 = .ok (.sipush 9999, 3) := by decide +kernel
theorem dX5_table_36 : decode cX5_table 36 = .ok (.if_icmp .gt 7, 3) := by decide +kernel
theorem dX5_table_39 : decode cX5_table 39 = .ok (.iconst 1, 1) := by decide +kernel
theorem dX5_table_40 : decode cX5_table 40 = .ok (.goto 4, 3) := by decide +kernel
theorem dX5_table_43 : decode cX5_table 43 = .ok (.iconst 0, 1) := by decide +kernel
theorem dX5_table_44 : decode cX5_table 44 = .ok (.istore 5, 2) := by decide +kernel
theorem dX5_table_46 : decode cX5_table 46 = .ok (.iload 4, 2) := by decide +kernel
theorem dX5_table_48 : decode cX5_table 48 = .ok (.ifCond .eq 48, 3) := by decide +kernel
theorem dX5_table_51 : decode cX5_table 51 = .ok (.iload_n 1, 1) := by decide +kernel
theorem dX5_table_52 : decode cX5_table 52 = .ok (.ifCond .le 18, 3) := by decide +kernel
theorem dX5_table_55 : decode cX5_table 55 = .ok (.iload_n 3, 1) := by decide +kernel
theorem dX5_table_56 : decode cX5_table 56 = .ok (.aload_n 0, 1) := by decide +kernel
theorem dX5_table_57 : decode cX5_table 57 = .ok (.getfield 13, 3) := by decide +kernel
theorem dX5_table_60 : decode cX5_table 60 = .ok (.iload_n 1, 1) := by decide +kernel
theorem dX5_table_61 : decode cX5_table 61 = .ok (.iconst 1, 1) := by decide +kernel
theorem dX5_table_62 : decode cX5_table 62 = .ok (.isub, 1) := by decide +kernel
theorem dX5_table_63 : decode cX5_table 63 = .ok (.iaload, 1) := by decide +kernel
theorem dX5_table_64 : decode cX5_table 64 = .ok (.if_icmp .le 32, 3) := by decide +kernel
theorem dX5_table_67 : decode cX5_table 67 = .ok (.goto 7, 3) := by decide +kernel
theorem dX5_table_70 : decode cX5_table 70 = .ok (.iload_n 3, 1) := by decide +kernel
theorem dX5_table_71 : decode cX5_table 71 = .ok (.ifCond .ne 25, 3) := by decide +kernel
theorem dX5_table_74 : decode cX5_table 74 = .ok (.iload_n 1, 1) := by decide +kernel
theorem dX5_table_75 : decode cX5_table 75 = .ok (.bipush 9, 2) := by decide +kernel
theorem dX5_table_77 : decode cX5_table 77 = .ok (.if_icmp .eq 15, 3) := by decide +kernel
theorem dX5_table_80 : decode cX5_table 80 = .ok (.iload_n 3, 1) := by decide +kernel
theorem dX5_table_81 : decode cX5_table 81 = .ok (.aload_n 0, 1) := by decide +kernel
theorem dX5_table_82 : decode cX5_table 82 = .ok (.getfield 13, 3) := by decide +kernel
theorem dX5_table_85 : decode cX5_table 85 = .ok (.iload_n 1, 1) := by decide +kernel
theorem dX5_table_86 : decode cX5_table 86 = .ok (.iconst 1, 1) := by decide +kernel
theorem dX5_table_87 : decode cX5_table 87 = .ok (.iadd, 1) := by decide +kernel
theorem dX5_table_88 : decode cX5_table 88 = .ok (.iaload, 1) := by decide +kernel
theorem dX5_table_89 : decode cX5_table 89 = .ok (.if_icmp .ge 7, 3) := by decide +kernel
theorem dX5_table_92 : decode cX5_table 92 = .ok (.iconst 1, 1) := by decide +kernel
theorem dX5_table_93 : decode cX5_table 93 = .ok (.goto 4, 3) := by decide +kernel
theorem dX5_table_96 : decode cX5_table 96 = .ok (.iconst 0, 1) := by decide +kernel
theorem dX5_table_97 : decode cX5_table 97 = .ok (.istore 6, 2) := by decide +kernel
theorem dX5_table_99 : decode cX5_table 99 = .ok (.aload_n 0, 1) := by decide +kernel
theorem dX5_table_100 : decode cX5_table 100 = .ok (.iload 4, 2) := by decide +kernel
theorem dX5_table_102 : decode cX5_table 102 = .ok (.iload 5, 2) := by decide +kernel
theorem dX5_table_104 : decode cX5_table 104 = .ok (.iload 6, 2) := by decide +kernel
theorem dX5_table_106 : decode cX5_table 106 = .ok (.invokevirtual 48, 3) := by decide +kernel
theorem dX5_table_109 : decode cX5_table 109 = .ok (.ifCond .eq 17, 3) := by decide +kernel
theorem dX5_table_112 : decode cX5_table 112 = .ok (.aload_n 0, 1) := by decide +kernel
theorem dX5_table_113 : decode cX5_table 113 = .ok (.getfield 7, 3) := by decide +kernel
theorem dX5_table_116 : decode cX5_table 116 = .ok (.iload_n 1, 1) := by decide +kernel
theorem dX5_table_117 : decode cX5_table 117 = .ok (.iload_n 2, 1) := by decide +kernel
theorem dX5_table_118 : decode cX5_table 118 = .ok (.iastore, 1) := by decide +kernel
theorem dX5_table_119 : decode cX5_table 119 = .ok (.aload_n 0, 1) := by decide +kernel
theorem dX5_table_120 : decode cX5_table 120 = .ok (.getfield 13, 3) := by decide +kernel
theorem dX5_table_123 : decode cX5_table 123 = .ok (.iload_n 1, 1) := by decide +kernel
theorem dX5_table_124 : decode cX5_table 124 = .ok (.iload_n 3, 1) := by decide +kernel
theorem dX5_table_125 : decode cX5_table 125 = .ok (.iastore, 1) := by decide +kernel
theorem dX5_table_126 : decode cX5_table 126 = .ok (.return_, 1) := by decide +kernel
theorem dX5_wide_0 : decode cX5_wide 0 = .ok (.iload_n 1, 1) := by decide +kernel
theorem dX5_wide_1 : decode cX5_wide 1 = .ok (.ifCond .ge 8, 3) := by decide +kernel
theorem dX5_wide_4 : decode cX5_wide 4 = .ok (.iload_n 1, 1) := by decide +kernel
theorem dX5_wide_5 : decode cX5_wide 5 = .ok (.ineg, 1) := by decide +kernel
end
section
theorem dX5_wide_6 : decode cX5_wide 6 = .ok (.goto 4, 3) := by decide +kernel
theorem dX5_wide_9 : decode cX5_wide 9 = .ok (.iload_n 1, 1) := by decide +kernel
theorem dX5_wide_10 : decode cX5_wide 10 = .ok (.istore_n 2, 1) := by decide +kernel
theorem dX5_wide_11 : decode cX5_wide 11 = .ok (.iload_n 2, 1) := by decide +kernel
theorem dX5_wide_12 : decode cX5_wide 12 = .ok (.bipush 10, 2) := by decide +kernel
theorem dX5_wide_14 : decode cX5_wide 14 = .ok (.idiv, 1) := by decide +kernel
theorem dX5_wide_15 : decode cX5_wide 15 = .ok (.istore_n 3, 1) := by decide +kernel
theorem dX5_wide_16 : decode cX5_wide 16 = .ok (.iload_n 2, 1) := by decide +kernel
theorem dX5_wide_17 : decode cX5_wide 17 = .ok (.bipush 10, 2) := by decide +kernel
theorem dX5_wide_19 : decode cX5_wide 19 = .ok (.irem, 1) := by decide +kernel
theorem dX5_wide_20 : decode cX5_wide 20 = .ok (.istore 4, 2) := by decide +kernel
theorem dX5_wide_22 : decode cX5_wide 22 = .ok (.bipush 10, 2) := by decide +kernel
theorem dX5_wide_24 : decode cX5_wide 24 = .ok (.iload 4, 2) := by decide +kernel
theorem dX5_wide_26 : decode cX5_wide 26 = .ok (.isub, 1) := by decide +kernel
theorem dX5_wide_27 : decode cX5_wide 27 = .ok (.aload_n 0, 1) := by decide +kernel
theorem dX5_wide_28 : decode cX5_wide 28 = .ok (.getfield 7, 3) := by decide +kernel
theorem dX5_wide_31 : decode cX5_wide 31 = .ok (.iload_n 3, 1) := by decide +kernel
theorem dX5_wide_32 : decode cX5_wide 32 = .ok (.iaload, 1) := by decide +kernel
theorem dX5_wide_33 : decode cX5_wide 33 = .ok (.imul, 1) := by decide +kernel
theorem dX5_wide_34 : decode cX5_wide 34 = .ok (.iload 4, 2) := by decide +kernel
theorem dX5_wide_36 : decode cX5_wide 36 = .ok (.ifCond .le 17, 3) := by decide +kernel
theorem dX5_wide_39 : decode cX5_wide 39 = .ok (.iload 4, 2) := by decide +kernel
theorem dX5_wide_41 : decode cX5_wide 41 = .ok (.aload_n 0, 1) := by decide +kernel
theorem dX5_wide_42 : decode cX5_wide 42 = .ok (.getfield 7, 3) := by decide +kernel
theorem dX5_wide_45 : decode cX5_wide 45 = .ok (.iload_n 3, 1) := by decide +kernel
theorem dX5_wide_46 : decode cX5_wide 46 = .ok (.iconst 1, 1) := by decide +kernel
theorem dX5_wide_47 : decode cX5_wide 47 = .ok (.iadd, 1) := by decide +kernel
theorem dX5_wide_48 : decode cX5_wide 48 = .ok (.iaload, 1) := by decide +kernel
theorem dX5_wide_49 : decode cX5_wide 49 = .ok (.imul, 1) := by decide +kernel
theorem dX5_wide_50 : decode cX5_wide 50 = .ok (.goto 4, 3) := by decide +kernel
theorem dX5_wide_53 : decode cX5_wide 53 = .ok (.iconst 0, 1) := by decide +kernel
theorem dX5_wide_54 : decode cX5_wide 54 = .ok (.iadd, 1) := by decide +kernel
theorem dX5_wide_55 : decode cX5_wide 55 = .ok (.ireturn, 1) := by decide +kernel
theorem dX5_high_0 : decode cX5_high 0 = .ok (.iload_n 1, 1) := by decide +kernel
theorem dX5_high_1 : decode cX5_high 1 = .ok (.ifCond .ge 8, 3) := by decide +kernel
theorem dX5_high_4 : decode cX5_high 4 = .ok (.iload_n 1, 1) := by decide +kernel
theorem dX5_high_5 : decode cX5_high 5 = .ok (.ineg, 1) := by decide +kernel
theorem dX5_high_6 : decode cX5_high 6 = .ok (.goto 4, 3) := by decide +kernel
theorem dX5_high_9 : decode cX5_high 9 = .ok (.iload_n 1, 1) := by decide +kernel
theorem dX5_high_10 : decode cX5_high 10 = .ok (.istore_n 2, 1) := by decide +kernel
theorem dX5_high_11 : decode cX5_high 11 = .ok (.iload_n 2, 1) := by decide +kernel
theorem dX5_high_12 : decode cX5_high 12 = .ok (.bipush 10, 2) := by decide +kernel
theorem dX5_high_14 : decode cX5_high 14 = .ok (.idiv, 1) := by decide +kernel
theorem dX5_high_15 : decode cX5_high 15 = .ok (.istore_n 3, 1) := by decide +kernel
theorem dX5_high_16 : decode cX5_high 16 = .ok (.iload_n 2, 1) := by decide +kernel
theorem dX5_high_17 : decode cX5_high 17 = .ok (.bipush 10, 2) := by decide +kernel
theorem dX5_high_19 : decode cX5_high 19 = .ok (.irem, 1) := by decide +kernel
theorem dX5_high_20 : decode cX5_high 20 = .ok (.istore 4, 2) := by decide +kernel
theorem dX5_high_22 : decode cX5_high 22 = .ok (.bipush 10, 2) := by decide +kernel
theorem dX5_high_24 : decode cX5_high 24 = .ok (.iload 4, 2) := by decide +kernel
theorem dX5_high_26 : decode cX5_high 26 = .ok (.isub, 1) := by decide +kernel
theorem dX5_high_27 : decode cX5_high 27 = .ok (.aload_n 0, 1) := by decide +kernel
theorem dX5_high_28 : decode cX5_high 28 = .ok (.getfield 13, 3) := by decide +kernel
theorem dX5_high_31 : decode cX5_high 31 = .ok (.iload_n 3, 1) := by decide +kernel
theorem dX5_high_32 : decode cX5_high 32 = .ok (.iaload, 1) := by decide +kernel
theorem dX5_high_33 : decode cX5_high 33 = .ok (.imul, 1) := by decide +kernel
theorem dX5_high_34 : decode cX5_high 34 = .ok (.iload 4, 2) := by decide +kernel
theorem dX5_high_36 : decode cX5_high 36 = .ok (.ifCond .le 17, 3) := by decide +kernel
theorem dX5_high_39 : decode cX5_high 39 = .ok (.iload 4, 2) := by decide +kernel
theorem dX5_high_41 : decode cX5_high 41 = .ok (.aload_n 0, 1) := by decide +kernel
theorem dX5_high_42 : decode cX5_high 42 = .ok (.getfield 13, 3) := by decide +kernel
theorem dX5_high_45 : decode cX5_high 45 = .ok (.iload_n 3, 1) := by decide +kernel
theorem dX5_high_46 : decode cX5_high 46 = .ok (.iconst 1, 1) := by decide +kernel
theorem dX5_high_47 : decode cX5_high 47 = .ok (.iadd, 1) := by decide +kernel
theorem dX5_high_48 : decode cX5_high 48 = .ok (.iaload, 1) := by decide +kernel
theorem dX5_high_49 : decode cX5_high 49 = .ok (.imul, 1) := by decide +kernel
theorem dX5_high_50 : decode cX5_high 50 = .ok (.goto 4, 3) := by decide +kernel
theorem dX5_high_53 : decode cX5_high 53 = .ok (.iconst 0, 1) := by decide +kernel
theorem dX5_high_54 : decode cX5_high 54 = .ok (.iadd, 1) := by decide +kernel
theorem dX5_high_55 : decode cX5_high 55 = .ok (.istore 5, 2) := by decide +kernel
theorem dX5_high_57 : decode cX5_high 57 = .ok (.iload_n 1, 1) := by decide +kernel
theorem dX5_high_58 : decode cX5_high 58 = .ok (.ifCond .ge 9, 3) := by decide +kernel
theorem dX5_high_61 : decode cX5_high 61 = .ok (.iload 5, 2) := by decide +kernel
theorem dX5_high_63 : decode cX5_high 63 = .ok (.ineg, 1) := by decide +kernel
theorem dX5_high_64 : decode cX5_high 64 = .ok (.goto 5, 3) := by decide +kernel
theorem dX5_high_67 : decode cX5_high 67 = .ok (.iload 5, 2) := by decide +kernel
theorem dX5_high_69 : decode cX5_high 69 = .ok (.ireturn, 1) := by decide +kernel
theorem dX5_x_0 : decode cX5_x 0 = .ok (.aload_n 0, 1) := by decide +kernel
theorem dX5_x_1 : decode cX5_x 1 = .ok (.iload_n 1, 1) := by decide +kernel
theorem dX5_x_2 : decode cX5_x 2 = .ok (.invokestatic 52, 3) := by decide +kernel
theorem dX5_x_5 : decode cX5_x 5 = .ok (.ifCond .eq 14, 3) := by decide +kernel
theorem dX5_x_8 : decode cX5_x 8 = .ok (.iload_n 2, 1) := by decide +kernel
theorem dX5_x_9 : decode cX5_x 9 = .ok (.invokestatic 56, 3) := by decide +kernel
theorem dX5_x_12 : decode cX5_x 12 = .ok (.ifCond .eq 7, 3) := by decide +kernel
theorem dX5_x_15 : decode cX5_x 15 = .ok (.iconst 1, 1) := by decide +kernel
theorem dX5_x_16 : decode cX5_x 16 = .ok (.goto 4, 3) := by decide +kernel
theorem dX5_x_19 : decode cX5_x 19 = .ok (.iconst 0, 1) := by decide +kernel
theorem dX5_x_20 : decode cX5_x 20 = .ok (.invokevirtual 59, 3) := by decide +kernel
theorem dX5_x_23 : decode cX5_x 23 = .ok (.ifCond .eq 13, 3) := by decide +kernel
theorem dX5_x_26 : decode cX5_x 26 = .ok (.iload_n 2, 1) := by decide +kernel
theorem dX5_x_27 : decode cX5_x 27 = .ok (.aload_n 0, 1) := by decide +kernel
theorem dX5_x_28 : decode cX5_x 28 = .ok (.iload_n 1, 1) := by decide +kernel
theorem dX5_x_29 : decode cX5_x 29 = .ok (.invokevirtual 63, 3) := by decide +kernel
theorem dX5_x_32 : decode cX5_x 32 = .ok (.imul, 1) := by decide +kernel
theorem dX5_x_33 : decode cX5_x 33 = .ok (.goto 4, 3) := by decide +kernel
theorem dX5_x_36 : decode cX5_x 36 = .ok (.iconst 0, 1) := by decide +kernel
theorem dX5_x_37 : decode cX5_x 37 = .ok (.ireturn, 1) := by decide +kernel
theorem dX5_y_0 : decode cX5_y 0 = .ok (.aload_n 0, 1) := by decide +kernel
theorem dX5_y_1 : decode cX5_y 1 = .ok (.iload_n 1, 1) := by decide +kernel
theorem dX5_y_2 : decode cX5_y 2 = .ok (.invokestatic 52, 3) := by decide +kernel
theorem dX5_y_5 : decode cX5_y 5 = .ok (.invokevirtual 59, 3) := by decide +kernel
theorem dX5_y_8 : decode cX5_y 8 = .ok (.ifCond .eq 11, 3) := by decide +kernel
theorem dX5_y_11 : decode cX5_y 11 = .ok (.aload_n 0, 1) := by decide +kernel
theorem dX5_y_12 : decode cX5_y 12 = .ok (.iload_n 1, 1) := by decide +kernel
theorem dX5_y_13 : decode cX5_y 13 = .ok (.invokevirtual 67, 3) := by decide +kernel
theorem dX5_y_16 : decode cX5_y 16 = .ok (.goto 4, 3) := by decide +kernel
theorem dX5_y_19 : decode cX5_y 19 = .ok (.iconst 0, 1) := by decide +kernel
theorem dX5_y_20 : decode cX5_y 20 = .ok (.ireturn, 1) := by decide +kernel
theorem dX5_latitudeAt_0 : decode cX5_latitudeAt 0 = .ok (.aload_n 0, 1) := by decide +kernel
theorem dX5_latitudeAt_1 : decode cX5_latitudeAt 1 = .ok (.iload_n 1, 1) := by decide +kernel
theorem dX5_latitudeAt_2 : decode cX5_latitudeAt 2 = .ok (.ldc 70, 2) := by decide +kernel
theorem dX5_latitudeAt_4 : decode cX5_latitudeAt 4 = .ok (.if_icmp .lt 13, 3) := by decide +kernel
theorem dX5_latitudeAt_7 : decode cX5_latitudeAt 7 = .ok (.iload_n 1, 1) := by decide +kernel
theorem dX5_latitudeAt_8 : decode cX5_latitudeAt 8 = .ok (.ldc 71, 2) := by decide +kernel
theorem dX5_latitudeAt_10 : decode cX5_latitudeAt 10 = .ok (.if_icmp .gt 7, 3) := by decide +kernel
theorem dX5_latitudeAt_13 : decode cX5_latitudeAt 13 = .ok (.iconst 1, 1) := by decide +kernel
theorem dX5_latitudeAt_14 : decode cX5_latitudeAt 14 = .ok (.goto 4, 3) := by decide +kernel
theorem dX5_latitudeAt_17 : decode cX5_latitudeAt 17 = .ok (.iconst 0, 1) := by decide +kernel
theorem dX5_latitudeAt_18 : decode cX5_latitudeAt 18 = .ok (.aload_n 0, 1) := by decide +kernel
theorem dX5_latitudeAt_19 : decode cX5_latitudeAt 19 = .ok (.bipush (-90), 2) := by decide +kernel
theorem dX5_latitudeAt_21 : decode cX5_latitudeAt 21 = .ok (.invokevirtual 67, 3) := by decide +kernel
theorem dX5_latitudeAt_24 : decode cX5_latitudeAt 24 = .ok (.iload_n 1, 1) := by decide +kernel
theorem dX5_latitudeAt_25 : decode cX5_latitudeAt 25 = .ok (.if_icmp .gt 7, 3) := by decide +kernel
theorem dX5_latitudeAt_28 : decode cX5_latitudeAt 28 = .ok (.iconst 1, 1) := by decide +kernel
theorem dX5_latitudeAt_29 : decode cX5_latitudeAt 29 = .ok (.goto 4, 3) := by decide +kernel
theorem dX5_latitudeAt_32 : decode cX5_latitudeAt 32 = .ok (.iconst 0, 1) := by decide +kernel
theorem dX5_latitudeAt_33 : decode cX5_latitudeAt 33 = .ok (.invokevirtual 72, 3) := by decide +kernel
theorem dX5_latitudeAt_36 : decode cX5_latitudeAt 36 = .ok (.ifCond .ne 5, 3) := by decide +kernel
theorem dX5_latitudeAt_39 : decode cX5_latitudeAt 39 = .ok (.iconst 0, 1) := by decide +kernel
theorem dX5_latitudeAt_40 : decode cX5_latitudeAt 40 = .ok (.ireturn, 1) := by decide +kernel
theorem dX5_latitudeAt_41 : decode cX5_latitudeAt 41 = .ok (.bipush 90, 2) := by decide +kernel
theorem dX5_latitudeAt_43 : decode cX5_latitudeAt 43 = .ok (.istore_n 2, 1) := by decide +kernel
theorem dX5_latitudeAt_44 : decode cX5_latitudeAt 44 = .ok (.aload_n 0, 1) := by decide +kernel
theorem dX5_latitudeAt_45 : decode cX5_latitudeAt 45 = .ok (.iload_n 2, 1) := by decide +kernel
theorem dX5_latitudeAt_46 : decode cX5_latitudeAt 46 = .ok (.invokevirtual 67, 3) := by decide +kernel
theorem dX5_latitudeAt_49 : decode cX5_latitudeAt 49 = .ok (.iload_n 1, 1) := by decide +kernel
theorem dX5_latitudeAt_50 : decode cX5_latitudeAt 50 = .ok (.if_icmp .le 9, 3) := by decide +kernel
theorem dX5_latitudeAt_53 : decode cX5_latitudeAt 53 = .ok (.iinc 2 (-1), 3) := by decide +kernel
theorem dX5_latitudeAt_56 : decode cX5_latitudeAt 56 = .ok (.goto (-12), 3) := by decide +kernel
theorem dX5_latitudeAt_59 : decode cX5_latitudeAt 59 = .ok (.iload_n 2, 1) := by decide +kernel
theorem dX5_latitudeAt_60 : decode cX5_latitudeAt 60 = .ok (.ireturn, 1) := by decide +kernel
theorem dX5_areaOf_0 : decode cX5_areaOf 0 = .ok (.lconst 0, 1) := by decide +kernel
theorem dX5_areaOf_1 : decode cX5_areaOf 1 = .ok (.lstore 4, 2) := by decide +kernel
theorem dX5_areaOf_3 : decode cX5_areaOf 3 = .ok (.iload_n 1, 1) := by decide +kernel
theorem dX5_areaOf_4 : decode cX5_areaOf 4 = .ok (.istore 6, 2) := by decide +kernel
theorem dX5_areaOf_6 : decode cX5_areaOf 6 = .ok (.iload 6, 2) := by decide +kernel
theorem dX5_areaOf_8 : decode cX5_areaOf 8 = .ok (.iload_n 2, 1) := by decide +kernel
theorem dX5_areaOf_9 : decode cX5_areaOf 9 = .ok (.if_icmp .ge 50, 3) := by decide +kernel
theorem dX5_areaOf_12 : decode cX5_areaOf 12 = .ok (.lload 4, 2) := by decide +kernel
theorem dX5_areaOf_14 : decode cX5_areaOf 14 = .ok (.iload_n 3, 1) := by decide +kernel
theorem dX5_areaOf_15 : decode cX5_areaOf 15 = .ok (.i2l, 1) := by decide +kernel
theorem dX5_areaOf_16 : decode cX5_areaOf 16 = .ok (.aload_n 0, 1) := by decide +kernel
theorem dX5_areaOf_17 : decode cX5_areaOf 17 = .ok (.iload 6, 2) := by decide +kernel
theorem dX5_areaOf_19 : decode cX5_areaOf 19 = .ok (.invokevirtual 63, 3) := by decide +kernel
theorem dX5_areaOf_22 : decode cX5_areaOf 22 = .ok (.aload_n 0, 1) := by decide +kernel
theorem dX5_areaOf_23 : decode cX5_areaOf 23 = .ok (.iload 6, 2) := by decide +kernel
theorem dX5_areaOf_25 : decode cX5_areaOf 25 = .ok (.iconst 1, 1) := by decide +kernel
theorem dX5_areaOf_26 : decode cX5_areaOf 26 = .ok (.iadd, 1) := by decide +kernel
theorem dX5_areaOf_27 : decode cX5_areaOf 27 = .ok (.invokevirtual 63, 3) := by decide +kernel
theorem dX5_areaOf_30 : decode cX5_areaOf 30 = .ok (.iadd, 1) := by decide +kernel
theorem dX5_areaOf_31 : decode cX5_areaOf 31 = .ok (.i2l, 1) := by decide +kernel
theorem dX5_areaOf_32 : decode cX5_areaOf 32 = .ok (.lmul, 1) := by decide +kernel
theorem dX5_areaOf_33 : decode cX5_areaOf 33 = .ok (.aload_n 0, 1) := by decide +kernel
theorem dX5_areaOf_34 : decode cX5_areaOf 34 = .ok (.iload 6, 2) := by decide +kernel
theorem dX5_areaOf_36 : decode cX5_areaOf 36 = .ok (.iconst 1, 1) := by decide +kernel
theorem dX5_areaOf_37 : decode cX5_areaOf 37 = .ok (.iadd, 1) := by decide +kernel
theorem dX5_areaOf_38 : decode cX5_areaOf 38 = .ok (.invokevirtual 67, 3) := by decide +kernel
theorem dX5_areaOf_41 : decode cX5_areaOf 41 = .ok (.aload_n 0, 1) := by decide +kernel
theorem dX5_areaOf_42 : decode cX5_areaOf 42 = .ok (.iload 6, 2) := by decide +kernel
theorem dX5_areaOf_44 : decode cX5_areaOf 44 = .ok (.invokevirtual 67, 3) := by decide +kernel
theorem dX5_areaOf_47 : decode cX5_areaOf 47 = .ok (.isub, 1) := by decide +kernel
theorem dX5_areaOf_48 : decode cX5_areaOf 48 = .ok (.i2l, 1) := by decide +kernel
theorem dX5_areaOf_49 : decode cX5_areaOf 49 = .ok (.lmul, 1) := by decide +kernel
theorem dX5_areaOf_50 : decode cX5_areaOf 50 = .ok (.ladd, 1) := by decide +kernel
theorem dX5_areaOf_51 : decode cX5_areaOf 51 = .ok (.lstore 4, 2) := by decide +kernel
theorem dX5_areaOf_53 : decode cX5_areaOf 53 = .ok (.iinc 6 1, 3) := by decide +kernel
theorem dX5_areaOf_56 : decode cX5_areaOf 56 = .ok (.goto (-50), 3) := by decide +kernel
theorem dX5_areaOf_59 : decode cX5_areaOf 59 = .ok (.lload 4, 2) := by decide +kernel
theorem dX5_areaOf_61 : decode cX5_areaOf 61 = .ok (.lreturn, 1) := by decide +kernel
theorem dX5_area_0 : decode cX5_area 0 = .ok (.iload_n 1, 1) := by decide +kernel
theorem dX5_area_1 : decode cX5_area 1 = .ok (.invokestatic 52, 3) := by decide +kernel
theorem dX5_area_4 : decode cX5_area 4 = .ok (.ifCond .eq 40, 3) := by decide +kernel
theorem dX5_area_7 : decode cX5_area 7 = .ok (.iload_n 2, 1) := by decide +kernel
theorem dX5_area_8 : decode cX5_area 8 = .ok (.invokestatic 52, 3) := by decide +kernel
theorem dX5_area_11 : decode cX5_area 11 = .ok (.ifCond .eq 33, 3) := by decide +kernel
theorem dX5_area_14 : decode cX5_area 14 = .ok (.iload_n 1, 1) := by decide +kernel
theorem dX5_area_15 : decode cX5_area 15 = .ok (.iload_n 2, 1) := by decide +kernel
theorem dX5_area_16 : decode cX5_area 16 = .ok (.if_icmp .gt 28, 3) := by decide +kernel
theorem dX5_area_19 : decode cX5_area 19 = .ok (.iload_n 3, 1) := by decide +kernel
theorem dX5_area_20 : decode cX5_area 20 = .ok (.sipush (-180), 3) := by decide +kernel
theorem dX5_area_23 : decode cX5_area 23 = .ok (.if_icmp .lt 21, 3) := by decide +kernel
theorem dX5_area_26 : decode cX5_area 26 = .ok (.iload 4, 2) := by decide +kernel
theorem dX5_area_28 : decode cX5_area 28 = .ok (.sipush 180, 3) := by decide +kernel
theorem dX5_area_31 : decode cX5_area 31 = .ok (.if_icmp .gt 13, 3) := by decide +kernel
theorem dX5_area_34 : decode cX5_area 34 = .ok (.iload_n 3, 1) := by decide +kernel
theorem dX5_area_35 : decode cX5_area 35 = .ok (.iload 4, 2) := by decide +kernel
theorem dX5_area_37 : decode cX5_area 37 = .ok (.if_icmp .gt 7, 3) := by decide +kernel
theorem dX5_area_40 : decode cX5_area 40 = .ok (.iconst 1, 1) := by decide +kernel
theorem dX5_area_41 : decode cX5_area 41 = .ok (.goto 4, 3) := by decide +kernel
theorem dX5_area_44 : decode cX5_area 44 = .ok (.iconst 0, 1) := by decide +kernel
theorem dX5_area_45 : decode cX5_area 45 = .ok (.istore 5, 2) := by decide +kernel
theorem dX5_area_47 : decode cX5_area 47 = .ok (.aload_n 0, 1) := by decide +kernel
theorem dX5_area_48 : decode cX5_area 48 = .ok (.iload 5, 2) := by decide +kernel
theorem dX5_area_50 : decode cX5_area 50 = .ok (.invokevirtual 59, 3) := by decide +kernel
theorem dX5_area_53 : decode cX5_area 53 = .ok (.ifCond .eq 16, 3) := by decide +kernel
theorem dX5_area_56 : decode cX5_area 56 = .ok (.aload_n 0, 1) := by decide +kernel
theorem dX5_area_57 : decode cX5_area 57 = .ok (.iload_n 1, 1) := by decide +kernel
theorem dX5_area_58 : decode cX5_area 58 = .ok (.iload_n 2, 1) := by decide +kernel
theorem dX5_area_59 : decode cX5_area 59 = .ok (.iload 4, 2) := by decide +kernel
theorem dX5_area_61 : decode cX5_area 61 = .ok (.iload_n 3, 1) := by decide +kernel
theorem dX5_area_62 : decode cX5_area 62 = .ok (.isub, 1) := by decide +kernel
theorem dX5_area_63 : decode cX5_area 63 = .ok (.invokevirtual 76, 3) := by decide +kernel
theorem dX5_area_66 : decode cX5_area 66 = .ok (.goto 4, 3) := by decide +kernel
theorem dX5_area_69 : decode cX5_area 69 = .ok (.lconst 0, 1) := by decide +kernel
theorem dX5_area_70 : decode cX5_area 70 = .ok (.lreturn, 1) := by decide +kernel
theorem dX5_areaByCells_0 : decode cX5_areaByCells 0 = .ok (.aload_n 0, 1) := by decide +kernel
theorem dX5_areaByCells_1 : decode cX5_areaByCells 1 = .ok (.iload_n 1, 1) := by decide +kernel
theorem dX5_areaByCells_2 : decode cX5_areaByCells 2 = .ok (.iload_n 2, 1) := by decide +kernel
theorem dX5_areaByCells_3 : decode cX5_areaByCells 3 = .ok (.iload_n 3, 1) := by decide +kernel
theorem dX5_areaByCells_4 : decode cX5_areaByCells 4 = .ok (.iload 4, 2) := by decide +kernel
theorem dX5_areaByCells_6 : decode cX5_areaByCells 6 = .ok (.invokevirtual 80, 3) := by decide +kernel
theorem dX5_areaByCells_9 : decode cX5_areaByCells 9 = .ok (.lreturn, 1) := by decide +kernel
theorem dX5_bandOf_0 : decode cX5_bandOf 0 = .ok (.aload_n 0, 1) := by decide +kernel
theorem dX5_bandOf_1 : decode cX5_bandOf 1 = .ok (.bipush 10, 2) := by decide +kernel
theorem dX5_bandOf_3 : decode cX5_bandOf 3 = .ok (.iload_n 1, 1) := by decide +kernel
theorem dX5_bandOf_4 : decode cX5_bandOf 4 = .ok (.imul, 1) := by decide +kernel
theorem dX5_bandOf_5 : decode cX5_bandOf 5 = .ok (.bipush 10, 2) := by decide +kernel
theorem dX5_bandOf_7 : decode cX5_bandOf 7 = .ok (.iload_n 1, 1) := by decide +kernel
theorem dX5_bandOf_8 : decode cX5_bandOf 8 = .ok (.imul, 1) := by decide +kernel
theorem dX5_bandOf_9 : decode cX5_bandOf 9 = .ok (.bipush 10, 2) := by decide +kernel
theorem dX5_bandOf_11 : decode cX5_bandOf 11 = .ok (.iadd, 1) := by decide +kernel
theorem dX5_bandOf_12 : decode cX5_bandOf 12 = .ok (.sipush 360, 3) := by decide +kernel
theorem dX5_bandOf_15 : decode cX5_bandOf 15 = .ok (.invokevirtual 76, 3) := by decide +kernel
theorem dX5_bandOf_18 : decode cX5_bandOf 18 = .ok (.lreturn, 1) := by decide +kernel
theorem dX5_isBand_0 : decode cX5_isBand 0 = .ok (.iload_n 0, 1) := by decide +kernel
theorem dX5_isBand_1 : decode cX5_isBand 1 = .ok (.ifCond .lt 13, 3) := by decide +kernel
theorem dX5_isBand_4 : decode cX5_isBand 4 = .ok (.iload_n 0, 1) := by decide +kernel
theorem dX5_isBand_5 : decode cX5_isBand 5 = .ok (.bipush 8, 2) := by decide +kernel
theorem dX5_isBand_7 : decode cX5_isBand 7 = .ok (.if_icmp .gt 7, 3) := by decide +kernel
theorem dX5_isBand_10 : decode cX5_isBand 10 = .ok (.iconst 1, 1) := by decide +kernel
theorem dX5_isBand_11 : decode cX5_isBand 11 = .ok (.goto 4, 3) := by decide +kernel
theorem dX5_isBand_14 : decode cX5_isBand 14 = .ok (.iconst 0, 1) := by decide +kernel
theorem dX5_isBand_15 : decode cX5_isBand 15 = .ok (.ireturn, 1) := by decide +kernel
theorem dX5_truth_0 : decode cX5_truth 0 = .ok (.aload_n 0, 1) := by decide +kernel
theorem dX5_truth_1 : decode cX5_truth 1 = .ok (.iload_n 1, 1) := by decide +kernel
theorem dX5_truth_2 : decode cX5_truth 2 = .ok (.invokestatic 84, 3) := by decide +kernel
theorem dX5_truth_5 : decode cX5_truth 5 = .ok (.iload_n 2, 1) := by decide +kernel
theorem dX5_truth_6 : decode cX5_truth 6 = .ok (.iconst 1, 1) := by decide +kernel
theorem dX5_truth_7 : decode cX5_truth 7 = .ok (.if_icmp .lt 13, 3) := by decide +kernel
theorem dX5_truth_10 : decode cX5_truth 10 = .ok (.iload_n 2, 1) := by decide +kernel
theorem dX5_truth_11 : decode cX5_truth 11 = .ok (.ldc 87, 2) := by decide +kernel
theorem dX5_truth_13 : decode cX5_truth 13 = .ok (.if_icmp .gt 7, 3) := by decide +kernel
theorem dX5_truth_16 : decode cX5_truth 16 = .ok (.iconst 1, 1) := by decide +kernel
theorem dX5_truth_17 : decode cX5_truth 17 = .ok (.goto 4, 3) := by decide +kernel
theorem dX5_truth_20 : decode cX5_truth 20 = .ok (.iconst 0, 1) := by decide +kernel
theorem dX5_truth_21 : decode cX5_truth 21 = .ok (.invokevirtual 72, 3) := by decide +kernel
theorem dX5_truth_24 : decode cX5_truth 24 = .ok (.ifCond .ne 5, 3) := by decide +kernel
theorem dX5_truth_27 : decode cX5_truth 27 = .ok (.iconst 0, 1) := by decide +kernel
theorem dX5_truth_28 : decode cX5_truth 28 = .ok (.ireturn, 1) := by decide +kernel
theorem dX5_truth_29 : decode cX5_truth 29 = .ok (.aload_n 0, 1) := by decide +kernel
theorem dX5_truth_30 : decode cX5_truth 30 = .ok (.getfield 16, 3) := by decide +kernel
theorem dX5_truth_33 : decode cX5_truth 33 = .ok (.iload_n 1, 1) := by decide +kernel
theorem dX5_truth_34 : decode cX5_truth 34 = .ok (.iaload, 1) := by decide +kernel
theorem dX5_truth_35 : decode cX5_truth 35 = .ok (.istore_n 3, 1) := by decide +kernel
theorem dX5_truth_36 : decode cX5_truth 36 = .ok (.aload_n 0, 1) := by decide +kernel
theorem dX5_truth_37 : decode cX5_truth 37 = .ok (.getfield 16, 3) := by decide +kernel
theorem dX5_truth_40 : decode cX5_truth 40 = .ok (.iload_n 1, 1) := by decide +kernel
theorem dX5_truth_41 : decode cX5_truth 41 = .ok (.iload_n 2, 1) := by decide +kernel
theorem dX5_truth_42 : decode cX5_truth 42 = .ok (.iastore, 1) := by decide +kernel
theorem dX5_truth_43 : decode cX5_truth 43 = .ok (.iload_n 3, 1) := by decide +kernel
theorem dX5_truth_44 : decode cX5_truth 44 = .ok (.ireturn, 1) := by decide +kernel
theorem dX5_keepsAreas_0 : decode cX5_keepsAreas 0 = .ok (.aload_n 0, 1) := by decide +kernel
theorem dX5_keepsAreas_1 : decode cX5_keepsAreas 1 = .ok (.iconst 0, 1) := by decide +kernel
theorem dX5_keepsAreas_2 : decode cX5_keepsAreas 2 = .ok (.putfield 45, 3) := by decide +kernel
theorem dX5_keepsAreas_5 : decode cX5_keepsAreas 5 = .ok (.iconst 1, 1) := by decide +kernel
theorem dX5_keepsAreas_6 : decode cX5_keepsAreas 6 = .ok (.istore_n 1, 1) := by decide +kernel
theorem dX5_keepsAreas_7 : decode cX5_keepsAreas 7 = .ok (.iload_n 1, 1) := by decide +kernel
theorem dX5_keepsAreas_8 : decode cX5_keepsAreas 8 = .ok (.bipush 9, 2) := by decide +kernel
theorem dX5_keepsAreas_10 : decode cX5_keepsAreas 10 = .ok (.if_icmp .ge 54, 3) := by decide +kernel
theorem dX5_keepsAreas_13 : decode cX5_keepsAreas 13 = .ok (.iconst 0, 1) := by decide +kernel
theorem dX5_keepsAreas_14 : decode cX5_keepsAreas 14 = .ok (.istore_n 2, 1) := by decide +kernel
theorem dX5_keepsAreas_15 : decode cX5_keepsAreas 15 = .ok (.iload_n 2, 1) := by decide +kernel
theorem dX5_keepsAreas_16 : decode cX5_keepsAreas 16 = .ok (.iload_n 1, 1) := by decide +kernel
theorem dX5_keepsAreas_17 : decode cX5_keepsAreas 17 = .ok (.if_icmp .ge 41, 3) := by decide +kernel
theorem dX5_keepsAreas_20 : decode cX5_keepsAreas 20 = .ok (.aload_n 0, 1) := by decide +kernel
theorem dX5_keepsAreas_21 : decode cX5_keepsAreas 21 = .ok (.iload_n 1, 1) := by decide +kernel
theorem dX5_keepsAreas_22 : decode cX5_keepsAreas 22 = .ok (.invokevirtual 88, 3) := by decide +kernel
theorem dX5_keepsAreas_25 : decode cX5_keepsAreas 25 = .ok (.aload_n 0, 1) := by decide +kernel
theorem dX5_keepsAreas_26 : decode cX5_keepsAreas 26 = .ok (.getfield 16, 3) := by decide +kernel
theorem dX5_keepsAreas_29 : decode cX5_keepsAreas 29 = .ok (.iload_n 2, 1) := by decide +kernel
theorem dX5_keepsAreas_30 : decode cX5_keepsAreas 30 = .ok (.iaload, 1) := by decide +kernel
theorem dX5_keepsAreas_31 : decode cX5_keepsAreas 31 = .ok (.i2l, 1) := by decide +kernel
theorem dX5_keepsAreas_32 : decode cX5_keepsAreas 32 = .ok (.lmul, 1) := by decide +kernel
theorem dX5_keepsAreas_33 : decode cX5_keepsAreas 33 = .ok (.aload_n 0, 1) := by decide +kernel
theorem dX5_keepsAreas_34 : decode cX5_keepsAreas 34 = .ok (.iload_n 2, 1) := by decide +kernel
theorem dX5_keepsAreas_35 : decode cX5_keepsAreas 35 = .ok (.invokevirtual 88, 3) := by decide +kernel
theorem dX5_keepsAreas_38 : decode cX5_keepsAreas 38 = .ok (.aload_n 0, 1) := by decide +kernel
theorem dX5_keepsAreas_39 : decode cX5_keepsAreas 39 = .ok (.getfield 16, 3) := by decide +kernel
theorem dX5_keepsAreas_42 : decode cX5_keepsAreas 42 = .ok (.iload_n 1, 1) := by decide +kernel
theorem dX5_keepsAreas_43 : decode cX5_keepsAreas 43 = .ok (.iaload, 1) := by decide +kernel
theorem dX5_keepsAreas_44 : decode cX5_keepsAreas 44 = .ok (.i2l, 1) := by decide +kernel
theorem dX5_keepsAreas_45 : decode cX5_keepsAreas 45 = .ok (.lmul, 1) := by decide +kernel
theorem dX5_keepsAreas_46 : decode cX5_keepsAreas 46 = .ok (.lcmp, 1) := by decide +kernel
theorem dX5_keepsAreas_47 : decode cX5_keepsAreas 47 = .ok (.ifCond .eq 5, 3) := by decide +kernel
theorem dX5_keepsAreas_50 : decode cX5_keepsAreas 50 = .ok (.iconst 0, 1) := by decide +kernel
theorem dX5_keepsAreas_51 : decode cX5_keepsAreas 51 = .ok (.ireturn, 1) := by decide +kernel
theorem dX5_keepsAreas_52 : decode cX5_keepsAreas 52 = .ok (.iinc 2 1, 3) := by decide +kernel
theorem dX5_keepsAreas_55 : decode cX5_keepsAreas 55 = .ok (.goto (-40), 3) := by decide +kernel
theorem dX5_keepsAreas_58 : decode cX5_keepsAreas 58 = .ok (.iinc 1 1, 3) := by decide +kernel
theorem dX5_keepsAreas_61 : decode cX5_keepsAreas 61 = .ok (.goto (-54), 3) := by decide +kernel
theorem dX5_keepsAreas_64 : decode cX5_keepsAreas 64 = .ok (.iconst 1, 1) := by decide +kernel
theorem dX5_keepsAreas_65 : decode cX5_keepsAreas 65 = .ok (.ireturn, 1) := by decide +kernel
theorem dX5_widest_0 : decode cX5_widest 0 = .ok (.aload_n 0, 1) := by decide +kernel
theorem dX5_widest_1 : decode cX5_widest 1 = .ok (.iconst 0, 1) := by decide +kernel
theorem dX5_widest_2 : decode cX5_widest 2 = .ok (.putfield 45, 3) := by decide +kernel
theorem dX5_widest_5 : decode cX5_widest 5 = .ok (.iconst 0, 1) := by decide +kernel
theorem dX5_widest_6 : decode cX5_widest 6 = .ok (.istore_n 1, 1) := by decide +kernel
theorem dX5_widest_7 : decode cX5_widest 7 = .ok (.iconst 1, 1) := by decide +kernel
theorem dX5_widest_8 : decode cX5_widest 8 = .ok (.istore_n 2, 1) := by decide +kernel
theorem dX5_widest_9 : decode cX5_widest 9 = .ok (.iload_n 2, 1) := by decide +kernel
theorem dX5_widest_10 : decode cX5_widest 10 = .ok (.bipush 9, 2) := by decide +kernel
theorem dX5_widest_12 : decode cX5_widest 12 = .ok (.if_icmp .ge 45, 3) := by decide +kernel
theorem dX5_widest_15 : decode cX5_widest 15 = .ok (.aload_n 0, 1) := by decide +kernel
theorem dX5_widest_16 : decode cX5_widest 16 = .ok (.iload_n 2, 1) := by decide +kernel
theorem dX5_widest_17 : decode cX5_widest 17 = .ok (.invokevirtual 88, 3) := by decide +kernel
theorem dX5_widest_20 : decode cX5_widest 20 = .ok (.aload_n 0, 1) := by decide +kernel
theorem dX5_widest_21 : decode cX5_widest 21 = .ok (.getfield 16, 3) := by decide +kernel
theorem dX5_widest_24 : decode cX5_widest 24 = .ok (.iload_n 1, 1) := by decide +kernel
theorem dX5_widest_25 : decode cX5_widest 25 = .ok (.iaload, 1) := by decide +kernel
theorem dX5_widest_26 : decode cX5_widest 26 = .ok (.i2l, 1) := by decide +kernel
theorem dX5_widest_27 : decode cX5_widest 27 = .ok (.lmul, 1) := by decide +kernel
theorem dX5_widest_28 : decode cX5_widest 28 = .ok (.aload_n 0, 1) := by decide +kernel
theorem dX5_widest_29 : decode cX5_widest 29 = .ok (.iload_n 1, 1) := by decide +kernel
theorem dX5_widest_30 : decode cX5_widest 30 = .ok (.invokevirtual 88, 3) := by decide +kernel
theorem dX5_widest_33 : decode cX5_widest 33 = .ok (.aload_n 0, 1) := by decide +kernel
theorem dX5_widest_34 : decode cX5_widest 34 = .ok (.getfield 16, 3) := by decide +kernel
theorem dX5_widest_37 : decode cX5_widest 37 = .ok (.iload_n 2, 1) := by decide +kernel
theorem dX5_widest_38 : decode cX5_widest 38 = .ok (.iaload, 1) := by decide +kernel
theorem dX5_widest_39 : decode cX5_widest 39 = .ok (.i2l, 1) := by decide +kernel
theorem dX5_widest_40 : decode cX5_widest 40 = .ok (.lmul, 1) := by decide +kernel
theorem dX5_widest_41 : decode cX5_widest 41 = .ok (.lcmp, 1) := by decide +kernel
theorem dX5_widest_42 : decode cX5_widest 42 = .ok (.ifCond .le 7, 3) := by decide +kernel
theorem dX5_widest_45 : decode cX5_widest 45 = .ok (.iload_n 2, 1) := by decide +kernel
theorem dX5_widest_46 : decode cX5_widest 46 = .ok (.goto 4, 3) := by decide +kernel
theorem dX5_widest_49 : decode cX5_widest 49 = .ok (.iload_n 1, 1) := by decide +kernel
theorem dX5_widest_50 : decode cX5_widest 50 = .ok (.istore_n 1, 1) := by decide +kernel
theorem dX5_widest_51 : decode cX5_widest 51 = .ok (.iinc 2 1, 3) := by decide +kernel
theorem dX5_widest_54 : decode cX5_widest 54 = .ok (.goto (-45), 3) := by decide +kernel
theorem dX5_widest_57 : decode cX5_widest 57 = .ok (.iload_n 1, 1) := by decide +kernel
theorem dX5_widest_58 : decode cX5_widest 58 = .ok (.ireturn, 1) := by decide +kernel
theorem dX5_stretch_0 : decode cX5_stretch 0 = .ok (.aload_n 0, 1) := by decide +kernel
theorem dX5_stretch_1 : decode cX5_stretch 1 = .ok (.iload_n 1, 1) := by decide +kernel
theorem dX5_stretch_2 : decode cX5_stretch 2 = .ok (.invokestatic 84, 3) := by decide +kernel
theorem dX5_stretch_5 : decode cX5_stretch 5 = .ok (.invokevirtual 59, 3) := by decide +kernel
theorem dX5_stretch_8 : decode cX5_stretch 8 = .ok (.ifCond .eq 20, 3) := by decide +kernel
theorem dX5_stretch_11 : decode cX5_stretch 11 = .ok (.aload_n 0, 1) := by decide +kernel
theorem dX5_stretch_12 : decode cX5_stretch 12 = .ok (.iload_n 1, 1) := by decide +kernel
theorem dX5_stretch_13 : decode cX5_stretch 13 = .ok (.invokevirtual 88, 3) := by decide +kernel
theorem dX5_stretch_16 : decode cX5_stretch 16 = .ok (.l2f, 1) := by decide +kernel
theorem dX5_stretch_17 : decode cX5_stretch 17 = .ok (.aload_n 0, 1) := by decide +kernel
theorem dX5_stretch_18 : decode cX5_stretch 18 = .ok (.getfield 16, 3) := by decide +kernel
theorem dX5_stretch_21 : decode cX5_stretch 21 = .ok (.iload_n 1, 1) := by decide +kernel
theorem dX5_stretch_22 : decode cX5_stretch 22 = .ok (.iaload, 1) := by decide +kernel
theorem dX5_stretch_23 : decode cX5_stretch 23 = .ok (.i2f, 1) := by decide +kernel
theorem dX5_stretch_24 : decode cX5_stretch 24 = .ok (.fdiv, 1) := by decide +kernel
theorem dX5_stretch_25 : decode cX5_stretch 25 = .ok (.goto 4, 3) := by decide +kernel
theorem dX5_stretch_28 : decode cX5_stretch 28 = .ok (.fconst 0, 1) := by decide +kernel
theorem dX5_stretch_29 : decode cX5_stretch 29 = .ok (.freturn, 1) := by decide +kernel
theorem dX5_east_0 : decode cX5_east 0 = .ok (.iload_n 1, 1) := by decide +kernel
theorem dX5_east_1 : decode cX5_east 1 = .ok (.iload_n 0, 1) := by decide +kernel
theorem dX5_east_2 : decode cX5_east 2 = .ok (.if_icmp .ge 13, 3) := by decide +kernel
theorem dX5_east_5 : decode cX5_east 5 = .ok (.iload_n 1, 1) := by decide +kernel
theorem dX5_east_6 : decode cX5_east 6 = .ok (.iload_n 0, 1) := by decide +kernel
theorem dX5_east_7 : decode cX5_east 7 = .ok (.isub, 1) := by decide +kernel
theorem dX5_east_8 : decode cX5_east 8 = .ok (.sipush 360, 3) := by decide +kernel
theorem dX5_east_11 : decode cX5_east 11 = .ok (.iadd, 1) := by decide +kernel
theorem dX5_east_12 : decode cX5_east 12 = .ok (.goto 6, 3) := by decide +kernel
theorem dX5_east_15 : decode cX5_east 15 = .ok (.iload_n 1, 1) := by decide +kernel
theorem dX5_east_16 : decode cX5_east 16 = .ok (.iload_n 0, 1) := by decide +kernel
theorem dX5_east_17 : decode cX5_east 17 = .ok (.isub, 1) := by decide +kernel
theorem dX5_east_18 : decode cX5_east 18 = .ok (.ireturn, 1) := by decide +kernel
theorem dX5_shorter_0 : decode cX5_shorter 0 = .ok (.iload_n 0, 1) := by decide +kernel
theorem dX5_shorter_1 : decode cX5_shorter 1 = .ok (.iload_n 1, 1) := by decide +kernel
theorem dX5_shorter_2 : decode cX5_shorter 2 = .ok (.invokestatic 92, 3) := by decide +kernel
theorem dX5_shorter_5 : decode cX5_shorter 5 = .ok (.istore_n 2, 1) := by decide +kernel
theorem dX5_shorter_6 : decode cX5_shorter 6 = .ok (.iload_n 2, 1) := by decide +kernel
theorem dX5_shorter_7 : decode cX5_shorter 7 = .ok (.sipush 180, 3) := by decide +kernel
theorem dX5_shorter_10 : decode cX5_shorter 10 = .ok (.if_icmp .gt 7, 3) := by decide +kernel
theorem dX5_shorter_13 : decode cX5_shorter 13 = .ok (.iload_n 2, 1) := by decide +kernel
theorem dX5_shorter_14 : decode cX5_shorter 14 = .ok (.goto 8, 3) := by decide +kernel
theorem dX5_shorter_17 : decode cX5_shorter 17 = .ok (.sipush 360, 3) := by decide +kernel
theorem dX5_shorter_20 : decode cX5_shorter 20 = .ok (.iload_n 2, 1) := by decide +kernel
theorem dX5_shorter_21 : decode cX5_shorter 21 = .ok (.isub, 1) := by decide +kernel
theorem dX5_shorter_22 : decode cX5_shorter 22 = .ok (.ireturn, 1) := by decide +kernel
theorem dX5_apart_0 : decode cX5_apart 0 = .ok (.aload_n 0, 1) := by decide +kernel
theorem dX5_apart_1 : decode cX5_apart 1 = .ok (.iload_n 1, 1) := by decide +kernel
theorem dX5_apart_2 : decode cX5_apart 2 = .ok (.invokestatic 56, 3) := by decide +kernel
theorem dX5_apart_5 : decode cX5_apart 5 = .ok (.ifCond .eq 14, 3) := by decide +kernel
theorem dX5_apart_8 : decode cX5_apart 8 = .ok (.iload_n 2, 1) := by decide +kernel
theorem dX5_apart_9 : decode cX5_apart 9 = .ok (.invokestatic 56, 3) := by decide +kernel
theorem dX5_apart_12 : decode cX5_apart 12 = .ok (.ifCond .eq 7, 3) := by decide +kernel
theorem dX5_apart_15 : decode cX5_apart 15 = .ok (.iconst 1, 1) := by decide +kernel
theorem dX5_apart_16 : decode cX5_apart 16 = .ok (.goto 4, 3) := by decide +kernel
theorem dX5_apart_19 : decode cX5_apart 19 = .ok (.iconst 0, 1) := by decide +kernel
theorem dX5_apart_20 : decode cX5_apart 20 = .ok (.invokevirtual 59, 3) := by decide +kernel
theorem dX5_apart_23 : decode cX5_apart 23 = .ok (.ifCond .eq 11, 3) := by decide +kernel
theorem dX5_apart_26 : decode cX5_apart 26 = .ok (.iload_n 1, 1) := by decide +kernel
theorem dX5_apart_27 : decode cX5_apart 27 = .ok (.iload_n 2, 1) := by decide +kernel
theorem dX5_apart_28 : decode cX5_apart 28 = .ok (.invokestatic 96, 3) := by decide +kernel
theorem dX5_apart_31 : decode cX5_apart 31 = .ok (.goto 4, 3) := by decide +kernel
theorem dX5_apart_34 : decode cX5_apart 34 = .ok (.iconst 0, 1) := by decide +kernel
theorem dX5_apart_35 : decode cX5_apart 35 = .ok (.ireturn, 1) := by decide +kernel
theorem dX5_ringWay_0 : decode cX5_ringWay 0 = .ok (.aload_n 0, 1) := by decide +kernel
theorem dX5_ringWay_1 : decode cX5_ringWay 1 = .ok (.iload_n 1, 1) := by decide +kernel
theorem dX5_ringWay_2 : decode cX5_ringWay 2 = .ok (.invokestatic 52, 3) := by decide +kernel
theorem dX5_ringWay_5 : decode cX5_ringWay 5 = .ok (.ifCond .eq 21, 3) := by decide +kernel
theorem dX5_ringWay_8 : decode cX5_ringWay 8 = .ok (.iload_n 2, 1) := by decide +kernel
theorem dX5_ringWay_9 : decode cX5_ringWay 9 = .ok (.invokestatic 56, 3) := by decide +kernel
theorem dX5_ringWay_12 : decode cX5_ringWay 12 = .ok (.ifCond .eq 14, 3) := by decide +kernel
theorem dX5_ringWay_15 : decode cX5_ringWay 15 = .ok (.iload_n 3, 1) := by decide +kernel
theorem dX5_ringWay_16 : decode cX5_ringWay 16 = .ok (.invokestatic 56, 3) := by decide +kernel
theorem dX5_ringWay_19 : decode cX5_ringWay 19 = .ok (.ifCond .eq 7, 3) := by decide +kernel
theorem dX5_ringWay_22 : decode cX5_ringWay 22 = .ok (.iconst 1, 1) := by decide +kernel
theorem dX5_ringWay_23 : decode cX5_ringWay 23 = .ok (.goto 4, 3) := by decide +kernel
theorem dX5_ringWay_26 : decode cX5_ringWay 26 = .ok (.iconst 0, 1) := by decide +kernel
theorem dX5_ringWay_27 : decode cX5_ringWay 27 = .ok (.invokevirtual 59, 3) := by decide +kernel
theorem dX5_ringWay_30 : decode cX5_ringWay 30 = .ok (.ifCond .eq 17, 3) := by decide +kernel
theorem dX5_ringWay_33 : decode cX5_ringWay 33 = .ok (.iload_n 2, 1) := by decide +kernel
theorem dX5_ringWay_34 : decode cX5_ringWay 34 = .ok (.iload_n 3, 1) := by decide +kernel
theorem dX5_ringWay_35 : decode cX5_ringWay 35 = .ok (.invokestatic 96, 3) := by decide +kernel
theorem dX5_ringWay_38 : decode cX5_ringWay 38 = .ok (.aload_n 0, 1) := by decide +kernel
theorem dX5_ringWay_39 : decode cX5_ringWay 39 = .ok (.iload_n 1, 1) := by decide +kernel
theorem dX5_ringWay_40 : decode cX5_ringWay 40 = .ok (.invokevirtual 63, 3) := by decide +kernel
theorem dX5_ringWay_43 : decode cX5_ringWay 43 = .ok (.imul, 1) := by decide +kernel
theorem dX5_ringWay_44 : decode cX5_ringWay 44 = .ok (.goto 4, 3) := by decide +kernel
theorem dX5_ringWay_47 : decode cX5_ringWay 47 = .ok (.iconst 0, 1) := by decide +kernel
theorem dX5_ringWay_48 : decode cX5_ringWay 48 = .ok (.ireturn, 1) := by decide +kernel
theorem dX5_zones_0 : decode cX5_zones 0 = .ok (.aload_n 0, 1) := by decide +kernel
theorem dX5_zones_1 : decode cX5_zones 1 = .ok (.iload_n 1, 1) := by decide +kernel
theorem dX5_zones_2 : decode cX5_zones 2 = .ok (.iconst 1, 1) := by decide +kernel
theorem dX5_zones_3 : decode cX5_zones 3 = .ok (.if_icmp .lt 22, 3) := by decide +kernel
theorem dX5_zones_6 : decode cX5_zones 6 = .ok (.iload_n 1, 1) := by decide +kernel
theorem dX5_zones_7 : decode cX5_zones 7 = .ok (.sipush 360, 3) := by decide +kernel
theorem dX5_zones_10 : decode cX5_zones 10 = .ok (.if_icmp .gt 15, 3) := by decide +kernel
theorem dX5_zones_13 : decode cX5_zones 13 = .ok (.sipush 360, 3) := by decide +kernel
theorem dX5_zones_16 : decode cX5_zones 16 = .ok (.iload_n 1, 1) := by decide +kernel
theorem dX5_zones_17 : decode cX5_zones 17 = .ok (.irem, 1) := by decide +kernel
theorem dX5_zones_18 : decode cX5_zones 18 = .ok (.ifCond .ne 7, 3) := by decide +kernel
theorem dX5_zones_21 : decode cX5_zones 21 = .ok (.iconst 1, 1) := by decide +kernel
theorem dX5_zones_22 : decode cX5_zones 22 = .ok (.goto 4, 3) := by decide +kernel
theorem dX5_zones_25 : decode cX5_zones 25 = .ok (.iconst 0, 1) := by decide +kernel
theorem dX5_zones_26 : decode cX5_zones 26 = .ok (.invokevirtual 59, 3) := by decide +kernel
theorem dX5_zones_29 : decode cX5_zones 29 = .ok (.ifCond .ne 5, 3) := by decide +kernel
theorem dX5_zones_32 : decode cX5_zones 32 = .ok (.iconst 0, 1) := by decide +kernel
theorem dX5_zones_33 : decode cX5_zones 33 = .ok (.ireturn, 1) := by decide +kernel
theorem dX5_zones_34 : decode cX5_zones 34 = .ok (.aload_n 0, 1) := by decide +kernel
theorem dX5_zones_35 : decode cX5_zones 35 = .ok (.getfield 19, 3) := by decide +kernel
theorem dX5_zones_38 : decode cX5_zones 38 = .ok (.istore_n 2, 1) := by decide +kernel
theorem dX5_zones_39 : decode cX5_zones 39 = .ok (.aload_n 0, 1) := by decide +kernel
theorem dX5_zones_40 : decode cX5_zones 40 = .ok (.iload_n 1, 1) := by decide +kernel
theorem dX5_zones_41 : decode cX5_zones 41 = .ok (.putfield 19, 3) := by decide +kernel
theorem dX5_zones_44 : decode cX5_zones 44 = .ok (.iload_n 2, 1) := by decide +kernel
theorem dX5_zones_45 : decode cX5_zones 45 = .ok (.ireturn, 1) := by decide +kernel
theorem dX5_zoneOf_0 : decode cX5_zoneOf 0 = .ok (.iload_n 1, 1) := by decide +kernel
theorem dX5_zoneOf_1 : decode cX5_zoneOf 1 = .ok (.sipush 180, 3) := by decide +kernel
theorem dX5_zoneOf_4 : decode cX5_zoneOf 4 = .ok (.iadd, 1) := by decide +kernel
theorem dX5_zoneOf_5 : decode cX5_zoneOf 5 = .ok (.aload_n 0, 1) := by decide +kernel
theorem dX5_zoneOf_6 : decode cX5_zoneOf 6 = .ok (.getfield 19, 3) := by decide +kernel
theorem dX5_zoneOf_9 : decode cX5_zoneOf 9 = .ok (.idiv, 1) := by decide +kernel
theorem dX5_zoneOf_10 : decode cX5_zoneOf 10 = .ok (.ireturn, 1) := by decide +kernel
theorem dX5_zone_0 : decode cX5_zone 0 = .ok (.aload_n 0, 1) := by decide +kernel
theorem dX5_zone_1 : decode cX5_zone 1 = .ok (.iload_n 1, 1) := by decide +kernel
theorem dX5_zone_2 : decode cX5_zone 2 = .ok (.invokestatic 56, 3) := by decide +kernel
theorem dX5_zone_5 : decode cX5_zone 5 = .ok (.invokevirtual 59, 3) := by decide +kernel
theorem dX5_zone_8 : decode cX5_zone 8 = .ok (.ifCond .eq 11, 3) := by decide +kernel
theorem dX5_zone_11 : decode cX5_zone 11 = .ok (.aload_n 0, 1) := by decide +kernel
theorem dX5_zone_12 : decode cX5_zone 12 = .ok (.iload_n 1, 1) := by decide +kernel
theorem dX5_zone_13 : decode cX5_zone 13 = .ok (.invokevirtual 99, 3) := by decide +kernel
theorem dX5_zone_16 : decode cX5_zone 16 = .ok (.goto 4, 3) := by decide +kernel
theorem dX5_zone_19 : decode cX5_zone 19 = .ok (.iconst 0, 1) := by decide +kernel
theorem dX5_zone_20 : decode cX5_zone 20 = .ok (.ireturn, 1) := by decide +kernel
theorem dX5_crossed_0 : decode cX5_crossed 0 = .ok (.iload_n 1, 1) := by decide +kernel
theorem dX5_crossed_1 : decode cX5_crossed 1 = .ok (.iload_n 2, 1) := by decide +kernel
theorem dX5_crossed_2 : decode cX5_crossed 2 = .ok (.invokestatic 92, 3) := by decide +kernel
theorem dX5_crossed_5 : decode cX5_crossed 5 = .ok (.sipush 180, 3) := by decide +kernel
theorem dX5_crossed_8 : decode cX5_crossed 8 = .ok (.if_icmp .gt 7, 3) := by decide +kernel
theorem dX5_crossed_11 : decode cX5_crossed 11 = .ok (.iconst 1, 1) := by decide +kernel
theorem dX5_crossed_12 : decode cX5_crossed 12 = .ok (.goto 4, 3) := by decide +kernel
theorem dX5_crossed_15 : decode cX5_crossed 15 = .ok (.iconst (-1), 1) := by decide +kernel
theorem dX5_crossed_16 : decode cX5_crossed 16 = .ok (.istore 4, 2) := by decide +kernel
theorem dX5_crossed_18 : decode cX5_crossed 18 = .ok (.iload_n 1, 1) := by decide +kernel
theorem dX5_crossed_19 : decode cX5_crossed 19 = .ok (.istore 5, 2) := by decide +kernel
theorem dX5_crossed_21 : decode cX5_crossed 21 = .ok (.iconst 0, 1) := by decide +kernel
theorem dX5_crossed_22 : decode cX5_crossed 22 = .ok (.istore 6, 2) := by decide +kernel
theorem dX5_crossed_24 : decode cX5_crossed 24 = .ok (.iconst 0, 1) := by decide +kernel
theorem dX5_crossed_25 : decode cX5_crossed 25 = .ok (.istore 7, 2) := by decide +kernel
theorem dX5_crossed_27 : decode cX5_crossed 27 = .ok (.iload 5, 2) := by decide +kernel
theorem dX5_crossed_29 : decode cX5_crossed 29 = .ok (.iload_n 2, 1) := by decide +kernel
theorem dX5_crossed_30 : decode cX5_crossed 30 = .ok (.if_icmp .eq 118, 3) := by decide +kernel
theorem dX5_crossed_33 : decode cX5_crossed 33 = .ok (.iload 5, 2) := by decide +kernel
theorem dX5_crossed_35 : decode cX5_crossed 35 = .ok (.iload 4, 2) := by decide +kernel
theorem dX5_crossed_37 : decode cX5_crossed 37 = .ok (.iadd, 1) := by decide +kernel
theorem dX5_crossed_38 : decode cX5_crossed 38 = .ok (.istore 8, 2) := by decide +kernel
theorem dX5_crossed_40 : decode cX5_crossed 40 = .ok (.iload 8, 2) := by decide +kernel
theorem dX5_crossed_42 : decode cX5_crossed 42 = .ok (.sipush 179, 3) := by decide +kernel
theorem dX5_crossed_45 : decode cX5_crossed 45 = .ok (.if_icmp .gt 11, 3) := by decide +kernel
theorem dX5_crossed_48 : decode cX5_crossed 48 = .ok (.iload 8, 2) := by decide +kernel
theorem dX5_crossed_50 : decode cX5_crossed 50 = .ok (.sipush (-180), 3) := by decide +kernel
theorem dX5_crossed_53 : decode cX5_crossed 53 = .ok (.if_icmp .ge 7, 3) := by decide +kernel
theorem dX5_crossed_56 : decode cX5_crossed 56 = .ok (.iconst 1, 1) := by decide +kernel
theorem dX5_crossed_57 : decode cX5_crossed 57 = .ok (.goto 4, 3) := by decide +kernel
theorem dX5_crossed_60 : decode cX5_crossed 60 = .ok (.iconst 0, 1) := by decide +kernel
theorem dX5_crossed_61 : decode cX5_crossed 61 = .ok (.istore 9, 2) := by decide +kernel
theorem dX5_crossed_63 : decode cX5_crossed 63 = .ok (.iload 8, 2) := by decide +kernel
theorem dX5_crossed_65 : decode cX5_crossed 65 = .ok (.sipush 179, 3) := by decide +kernel
theorem dX5_crossed_68 : decode cX5_crossed 68 = .ok (.if_icmp .le 9, 3) := by decide +kernel
theorem dX5_crossed_71 : decode cX5_crossed 71 = .ok (.sipush (-180), 3) := by decide +kernel
theorem dX5_crossed_74 : decode cX5_crossed 74 = .ok (.goto 19, 3) := by decide +kernel
theorem dX5_crossed_77 : decode cX5_crossed 77 = .ok (.iload 8, 2) := by decide +kernel
theorem dX5_crossed_79 : decode cX5_crossed 79 = .ok (.sipush (-180), 3) := by decide +kernel
theorem dX5_crossed_82 : decode cX5_crossed 82 = .ok (.if_icmp .ge 9, 3) := by decide +kernel
theorem dX5_crossed_85 : decode cX5_crossed 85 = .ok (.sipush 179, 3) := by decide +kernel
theorem dX5_crossed_88 : decode cX5_crossed 88 = .ok (.goto 5, 3) := by decide +kernel
theorem dX5_crossed_91 : decode cX5_crossed 91 = .ok (.iload 8, 2) := by decide +kernel
theorem dX5_crossed_93 : decode cX5_crossed 93 = .ok (.istore 8, 2) := by decide +kernel
theorem dX5_crossed_95 : decode cX5_crossed 95 = .ok (.iload 7, 2) := by decide +kernel
theorem dX5_crossed_97 : decode cX5_crossed 97 = .ok (.iload 9, 2) := by decide +kernel
theorem dX5_crossed_99 : decode cX5_crossed 99 = .ok (.ifCond .eq 8, 3) := by decide +kernel
theorem dX5_crossed_102 : decode cX5_crossed 102 = .ok (.iload 4, 2) := by decide +kernel
theorem dX5_crossed_104 : decode cX5_crossed 104 = .ok (.goto 4, 3) := by decide +kernel
theorem dX5_crossed_107 : decode cX5_crossed 107 = .ok (.iconst 0, 1) := by decide +kernel
theorem dX5_crossed_108 : decode cX5_crossed 108 = .ok (.iadd, 1) := by decide +kernel
theorem dX5_crossed_109 : decode cX5_crossed 109 = .ok (.istore 7, 2) := by decide +kernel
theorem dX5_crossed_111 : decode cX5_crossed 111 = .ok (.iload 6, 2) := by decide +kernel
theorem dX5_crossed_113 : decode cX5_crossed 113 = .ok (.iload 9, 2) := by decide +kernel
theorem dX5_crossed_115 : decode cX5_crossed 115 = .ok (.ifCond .ne 18, 3) := by decide +kernel
theorem dX5_crossed_118 : decode cX5_crossed 118 = .ok (.aload_n 0, 1) := by decide +kernel
theorem dX5_crossed_119 : decode cX5_crossed 119 = .ok (.iload 5, 2) := by decide +kernel
theorem dX5_crossed_121 : decode cX5_crossed 121 = .ok (.invokevirtual 99, 3) := by decide +kernel
theorem dX5_crossed_124 : decode cX5_crossed 124 = .ok (.aload_n 0, 1) := by decide +kernel
theorem dX5_crossed_125 : decode cX5_crossed 125 = .ok (.iload 8, 2) := by decide +kernel
theorem dX5_crossed_127 : decode cX5_crossed 127 = .ok (.invokevirtual 99, 3) := by decide +kernel
theorem dX5_crossed_130 : decode cX5_crossed 130 = .ok (.if_icmp .eq 7, 3) := by decide +kernel
theorem dX5_crossed_133 : decode cX5_crossed 133 = .ok (.iconst 1, 1) := by decide +kernel
theorem dX5_crossed_134 : decode cX5_crossed 134 = .ok (.goto 4, 3) := by decide +kernel
theorem dX5_crossed_137 : decode cX5_crossed 137 = .ok (.iconst 0, 1) := by decide +kernel
theorem dX5_crossed_138 : decode cX5_crossed 138 = .ok (.iadd, 1) := by decide +kernel
theorem dX5_crossed_139 : decode cX5_crossed 139 = .ok (.istore 6, 2) := by decide +kernel
theorem dX5_crossed_141 : decode cX5_crossed 141 = .ok (.iload 8, 2) := by decide +kernel
theorem dX5_crossed_143 : decode cX5_crossed 143 = .ok (.istore 5, 2) := by decide +kernel
theorem dX5_crossed_145 : decode cX5_crossed 145 = .ok (.goto (-118), 3) := by decide +kernel
theorem dX5_crossed_148 : decode cX5_crossed 148 = .ok (.iload_n 3, 1) := by decide +kernel
theorem dX5_crossed_149 : decode cX5_crossed 149 = .ok (.ifCond .eq 8, 3) := by decide +kernel
theorem dX5_crossed_152 : decode cX5_crossed 152 = .ok (.iload 7, 2) := by decide +kernel
theorem dX5_crossed_154 : decode cX5_crossed 154 = .ok (.goto 5, 3) := by decide +kernel
theorem dX5_crossed_157 : decode cX5_crossed 157 = .ok (.iload 6, 2) := by decide +kernel
theorem dX5_crossed_159 : decode cX5_crossed 159 = .ok (.ireturn, 1) := by decide +kernel
theorem dX5_seams_0 : decode cX5_seams 0 = .ok (.aload_n 0, 1) := by decide +kernel
theorem dX5_seams_1 : decode cX5_seams 1 = .ok (.iload_n 1, 1) := by decide +kernel
theorem dX5_seams_2 : decode cX5_seams 2 = .ok (.invokestatic 56, 3) := by decide +kernel
theorem dX5_seams_5 : decode cX5_seams 5 = .ok (.ifCond .eq 14, 3) := by decide +kernel
theorem dX5_seams_8 : decode cX5_seams 8 = .ok (.iload_n 2, 1) := by decide +kernel
theorem dX5_seams_9 : decode cX5_seams 9 = .ok (.invokestatic 56, 3) := by decide +kernel
theorem dX5_seams_12 : decode cX5_seams 12 = .ok (.ifCond .eq 7, 3) := by decide +kernel
theorem dX5_seams_15 : decode cX5_seams 15 = .ok (.iconst 1, 1) := by decide +kernel
theorem dX5_seams_16 : decode cX5_seams 16 = .ok (.goto 4, 3) := by decide +kernel
theorem dX5_seams_19 : decode cX5_seams 19 = .ok (.iconst 0, 1) := by decide +kernel
theorem dX5_seams_20 : decode cX5_seams 20 = .ok (.invokevirtual 59, 3) := by decide +kernel
theorem dX5_seams_23 : decode cX5_seams 23 = .ok (.ifCond .eq 13, 3) := by decide +kernel
theorem dX5_seams_26 : decode cX5_seams 26 = .ok (.aload_n 0, 1) := by decide +kernel
theorem dX5_seams_27 : decode cX5_seams 27 = .ok (.iload_n 1, 1) := by decide +kernel
theorem dX5_seams_28 : decode cX5_seams 28 = .ok (.iload_n 2, 1) := by decide +kernel
theorem dX5_seams_29 : decode cX5_seams 29 = .ok (.iconst 0, 1) := by decide +kernel
theorem dX5_seams_30 : decode cX5_seams 30 = .ok (.invokevirtual 102, 3) := by decide +kernel
theorem dX5_seams_33 : decode cX5_seams 33 = .ok (.goto 4, 3) := by decide +kernel
theorem dX5_seams_36 : decode cX5_seams 36 = .ok (.iconst 0, 1) := by decide +kernel
theorem dX5_seams_37 : decode cX5_seams 37 = .ok (.ireturn, 1) := by decide +kernel
theorem dX5_dateLine_0 : decode cX5_dateLine 0 = .ok (.aload_n 0, 1) := by decide +kernel
theorem dX5_dateLine_1 : decode cX5_dateLine 1 = .ok (.iload_n 1, 1) := by decide +kernel
theorem dX5_dateLine_2 : decode cX5_dateLine 2 = .ok (.invokestatic 56, 3) := by decide +kernel
theorem dX5_dateLine_5 : decode cX5_dateLine 5 = .ok (.ifCond .eq 14, 3) := by decide +kernel
theorem dX5_dateLine_8 : decode cX5_dateLine 8 = .ok (.iload_n 2, 1) := by decide +kernel
theorem dX5_dateLine_9 : decode cX5_dateLine 9 = .ok (.invokestatic 56, 3) := by decide +kernel
theorem dX5_dateLine_12 : decode cX5_dateLine 12 = .ok (.ifCond .eq 7, 3) := by decide +kernel
theorem dX5_dateLine_15 : decode cX5_dateLine 15 = .ok (.iconst 1, 1) := by decide +kernel
theorem dX5_dateLine_16 : decode cX5_dateLine 16 = .ok (.goto 4, 3) := by decide +kernel
theorem dX5_dateLine_19 : decode cX5_dateLine 19 = .ok (.iconst 0, 1) := by decide +kernel
theorem dX5_dateLine_20 : decode cX5_dateLine 20 = .ok (.invokevirtual 59, 3) := by decide +kernel
theorem dX5_dateLine_23 : decode cX5_dateLine 23 = .ok (.ifCond .eq 13, 3) := by decide +kernel
theorem dX5_dateLine_26 : decode cX5_dateLine 26 = .ok (.aload_n 0, 1) := by decide +kernel
theorem dX5_dateLine_27 : decode cX5_dateLine 27 = .ok (.iload_n 1, 1) := by decide +kernel
theorem dX5_dateLine_28 : decode cX5_dateLine 28 = .ok (.iload_n 2, 1) := by decide +kernel
theorem dX5_dateLine_29 : decode cX5_dateLine 29 = .ok (.iconst 1, 1) := by decide +kernel
theorem dX5_dateLine_30 : decode cX5_dateLine 30 = .ok (.invokevirtual 102, 3) := by decide +kernel
theorem dX5_dateLine_33 : decode cX5_dateLine 33 = .ok (.goto 4, 3) := by decide +kernel
theorem dX5_dateLine_36 : decode cX5_dateLine 36 = .ok (.iconst 0, 1) := by decide +kernel
theorem dX5_dateLine_37 : decode cX5_dateLine 37 = .ok (.ireturn, 1) := by decide +kernel
theorem dX5_lay_0 : decode cX5_lay 0 = .ok (.aload_n 0, 1) := by decide +kernel
theorem dX5_lay_1 : decode cX5_lay 1 = .ok (.iconst 0, 1) := by decide +kernel
theorem dX5_lay_2 : decode cX5_lay 2 = .ok (.putfield 106, 3) := by decide +kernel
theorem dX5_lay_5 : decode cX5_lay 5 = .ok (.iconst 0, 1) := by decide +kernel
theorem dX5_lay_6 : decode cX5_lay 6 = .ok (.istore_n 1, 1) := by decide +kernel
theorem dX5_lay_7 : decode cX5_lay 7 = .ok (.iload_n 1, 1) := by decide +kernel
theorem dX5_lay_8 : decode cX5_lay 8 = .ok (.bipush 36, 2) := by decide +kernel
theorem dX5_lay_10 : decode cX5_lay 10 = .ok (.if_icmp .ge 43, 3) := by decide +kernel
theorem dX5_lay_13 : decode cX5_lay 13 = .ok (.aload_n 0, 1) := by decide +kernel
theorem dX5_lay_14 : decode cX5_lay 14 = .ok (.getfield 23, 3) := by decide +kernel
theorem dX5_lay_17 : decode cX5_lay 17 = .ok (.iload_n 1, 1) := by decide +kernel
theorem dX5_lay_18 : decode cX5_lay 18 = .ok (.iload_n 1, 1) := by decide +kernel
theorem dX5_lay_19 : decode cX5_lay 19 = .ok (.bipush 6, 2) := by decide +kernel
theorem dX5_lay_21 : decode cX5_lay 21 = .ok (.idiv, 1) := by decide +kernel
theorem dX5_lay_22 : decode cX5_lay 22 = .ok (.iastore, 1) := by decide +kernel
theorem dX5_lay_23 : decode cX5_lay 23 = .ok (.aload_n 0, 1) := by decide +kernel
theorem dX5_lay_24 : decode cX5_lay 24 = .ok (.getfield 26, 3) := by decide +kernel
theorem dX5_lay_27 : decode cX5_lay 27 = .ok (.iload_n 1, 1) := by decide +kernel
theorem dX5_lay_28 : decode cX5_lay 28 = .ok (.iload_n 1, 1) := by decide +kernel
theorem dX5_lay_29 : decode cX5_lay 29 = .ok (.bipush 6, 2) := by decide +kernel
theorem dX5_lay_31 : decode cX5_lay 31 = .ok (.irem, 1) := by decide +kernel
theorem dX5_lay_32 : decode cX5_lay 32 = .ok (.iastore, 1) := by decide +kernel
theorem dX5_lay_33 : decode cX5_lay 33 = .ok (.aload_n 0, 1) := by decide +kernel
theorem dX5_lay_34 : decode cX5_lay 34 = .ok (.getfield 29, 3) := by decide +kernel
theorem dX5_lay_37 : decode cX5_lay 37 = .ok (.iload_n 1, 1) := by decide +kernel
theorem dX5_lay_38 : decode cX5_lay 38 = .ok (.iconst 0, 1) := by decide +kernel
theorem dX5_lay_39 : decode cX5_lay 39 = .ok (.iastore, 1) := by decide +kernel
theorem dX5_lay_40 : decode cX5_lay 40 = .ok (.aload_n 0, 1) := by decide +kernel
theorem dX5_lay_41 : decode cX5_lay 41 = .ok (.getfield 32, 3) := by decide +kernel
theorem dX5_lay_44 : decode cX5_lay 44 = .ok (.iload_n 1, 1) := by decide +kernel
theorem dX5_lay_45 : decode cX5_lay 45 = .ok (.iconst 1, 1) := by decide +kernel
theorem dX5_lay_46 : decode cX5_lay 46 = .ok (.bastore, 1) := by decide +kernel
theorem dX5_lay_47 : decode cX5_lay 47 = .ok (.iinc 1 1, 3) := by decide +kernel
theorem dX5_lay_50 : decode cX5_lay 50 = .ok (.goto (-43), 3) := by decide +kernel
theorem dX5_lay_53 : decode cX5_lay 53 = .ok (.return_, 1) := by decide +kernel
theorem dX5_isPanel_0 : decode cX5_isPanel 0 = .ok (.iload_n 1, 1) := by decide +kernel
theorem dX5_isPanel_1 : decode cX5_isPanel 1 = .ok (.bipush 6, 2) := by decide +kernel
theorem dX5_isPanel_3 : decode cX5_isPanel 3 = .ok (.idiv, 1) := by decide +kernel
theorem dX5_isPanel_4 : decode cX5_isPanel 4 = .ok (.aload_n 0, 1) := by decide +kernel
theorem dX5_isPanel_5 : decode cX5_isPanel 5 = .ok (.getfield 36, 3) := by decide +kernel
theorem dX5_isPanel_8 : decode cX5_isPanel 8 = .ok (.if_icmp .ge 18, 3) := by decide +kernel
theorem dX5_isPanel_11 : decode cX5_isPanel 11 = .ok (.iload_n 1, 1) := by decide +kernel
theorem dX5_isPanel_12 : decode cX5_isPanel 12 = .ok (.bipush 6, 2) := by decide +kernel
theorem dX5_isPanel_14 : decode cX5_isPanel 14 = .ok (.irem, 1) := by decide +kernel
theorem dX5_isPanel_15 : decode cX5_isPanel 15 = .ok (.aload_n 0, 1) := by decide +kernel
theorem dX5_isPanel_16 : decode cX5_isPanel 16 = .ok (.getfield 39, 3) := by decide +kernel
theorem dX5_isPanel_19 : decode cX5_isPanel 19 = .ok (.if_icmp .ge 7, 3) := by decide +kernel
theorem dX5_isPanel_22 : decode cX5_isPanel 22 = .ok (.iconst 1, 1) := by decide +kernel
theorem dX5_isPanel_23 : decode cX5_isPanel 23 = .ok (.goto 4, 3) := by decide +kernel
theorem dX5_isPanel_26 : decode cX5_isPanel 26 = .ok (.iconst 0, 1) := by decide +kernel
theorem dX5_isPanel_27 : decode cX5_isPanel 27 = .ok (.ireturn, 1) := by decide +kernel
theorem dX5_sheet_0 : decode cX5_sheet 0 = .ok (.aload_n 0, 1) := by decide +kernel
theorem dX5_sheet_1 : decode cX5_sheet 1 = .ok (.iload_n 1, 1) := by decide +kernel
theorem dX5_sheet_2 : decode cX5_sheet 2 = .ok (.iconst 1, 1) := by decide +kernel
theorem dX5_sheet_3 : decode cX5_sheet 3 = .ok (.if_icmp .lt 24, 3) := by decide +kernel
theorem dX5_sheet_6 : decode cX5_sheet 6 = .ok (.iload_n 1, 1) := by decide +kernel
theorem dX5_sheet_7 : decode cX5_sheet 7 = .ok (.bipush 6, 2) := by decide +kernel
theorem dX5_sheet_9 : decode cX5_sheet 9 = .ok (.if_icmp .gt 18, 3) := by decide +kernel
theorem dX5_sheet_12 : decode cX5_sheet 12 = .ok (.iload_n 2, 1) := by decide +kernel
theorem dX5_sheet_13 : decode cX5_sheet 13 = .ok (.iconst 1, 1) := by decide +kernel
theorem dX5_sheet_14 : decode cX5_sheet 14 = .ok (.if_icmp .lt 13, 3) := by decide +kernel
theorem dX5_sheet_17 : decode cX5_sheet 17 = .ok (.iload_n 2, 1) := by decide +kernel
theorem dX5_sheet_18 : decode cX5_sheet 18 = .ok (.bipush 6, 2) := by decide +kernel
theorem dX5_sheet_20 : decode cX5_sheet 20 = .ok (.if_icmp .gt 7, 3) := by decide +kernel
theorem dX5_sheet_23 : decode cX5_sheet 23 = .ok (.iconst 1, 1) := by decide +kernel
theorem dX5_sheet_24 : decode cX5_sheet 24 = .ok (.goto 4, 3) := by decide +kernel
theorem dX5_sheet_27 : decode cX5_sheet 27 = .ok (.iconst 0, 1) := by decide +kernel
theorem dX5_sheet_28 : decode cX5_sheet 28 = .ok (.invokevirtual 59, 3) := by decide +kernel
theorem dX5_sheet_31 : decode cX5_sheet 31 = .ok (.ifCond .eq 17, 3) := by decide +kernel
theorem dX5_sheet_34 : decode cX5_sheet 34 = .ok (.aload_n 0, 1) := by decide +kernel
theorem dX5_sheet_35 : decode cX5_sheet 35 = .ok (.iload_n 1, 1) := by decide +kernel
theorem dX5_sheet_36 : decode cX5_sheet 36 = .ok (.putfield 36, 3) := by decide +kernel
theorem dX5_sheet_39 : decode cX5_sheet 39 = .ok (.aload_n 0, 1) := by decide +kernel
theorem dX5_sheet_40 : decode cX5_sheet 40 = .ok (.iload_n 2, 1) := by decide +kernel
theorem dX5_sheet_41 : decode cX5_sheet 41 = .ok (.putfield 39, 3) := by decide +kernel
theorem dX5_sheet_44 : decode cX5_sheet 44 = .ok (.aload_n 0, 1) := by decide +kernel
theorem dX5_sheet_45 : decode cX5_sheet 45 = .ok (.invokevirtual 42, 3) := by decide +kernel
theorem dX5_sheet_48 : decode cX5_sheet 48 = .ok (.return_, 1) := by decide +kernel
theorem dX5_ahead_0 : decode cX5_ahead 0 = .ok (.iconst 0, 1) := by decide +kernel
theorem dX5_ahead_1 : decode cX5_ahead 1 = .ok (.istore_n 3, 1) := by decide +kernel
theorem dX5_ahead_2 : decode cX5_ahead 2 = .ok (.iconst 0, 1) := by decide +kernel
theorem dX5_ahead_3 : decode cX5_ahead 3 = .ok (.istore 4, 2) := by decide +kernel
theorem dX5_ahead_5 : decode cX5_ahead 5 = .ok (.iload 4, 2) := by decide +kernel
theorem dX5_ahead_7 : decode cX5_ahead 7 = .ok (.bipush 36, 2) := by decide +kernel
theorem dX5_ahead_9 : decode cX5_ahead 9 = .ok (.if_icmp .ge 51, 3) := by decide +kernel
theorem dX5_ahead_12 : decode cX5_ahead 12 = .ok (.iload_n 3, 1) := by decide +kernel
theorem dX5_ahead_13 : decode cX5_ahead 13 = .ok (.aload_n 0, 1) := by decide +kernel
theorem dX5_ahead_14 : decode cX5_ahead 14 = .ok (.iload 4, 2) := by decide +kernel
theorem dX5_ahead_16 : decode cX5_ahead 16 = .ok (.invokevirtual 109, 3) := by decide +kernel
theorem dX5_ahead_19 : decode cX5_ahead 19 = .ok (.ifCond .eq 32, 3) := by decide +kernel
theorem dX5_ahead_22 : decode cX5_ahead 22 = .ok (.iload_n 2, 1) := by decide +kernel
theorem dX5_ahead_23 : decode cX5_ahead 23 = .ok (.ifCond .eq 13, 3) := by decide +kernel
theorem dX5_ahead_26 : decode cX5_ahead 26 = .ok (.aload_n 0, 1) := by decide +kernel
theorem dX5_ahead_27 : decode cX5_ahead 27 = .ok (.getfield 23, 3) := by decide +kernel
theorem dX5_ahead_30 : decode cX5_ahead 30 = .ok (.iload 4, 2) := by decide +kernel
theorem dX5_ahead_32 : decode cX5_ahead 32 = .ok (.iaload, 1) := by decide +kernel
theorem dX5_ahead_33 : decode cX5_ahead 33 = .ok (.goto 10, 3) := by decide +kernel
theorem dX5_ahead_36 : decode cX5_ahead 36 = .ok (.aload_n 0, 1) := by decide +kernel
theorem dX5_ahead_37 : decode cX5_ahead 37 = .ok (.getfield 26, 3) := by decide +kernel
theorem dX5_ahead_40 : decode cX5_ahead 40 = .ok (.iload 4, 2) := by decide +kernel
theorem dX5_ahead_42 : decode cX5_ahead 42 = .ok (.iaload, 1) := by decide +kernel
theorem dX5_ahead_43 : decode cX5_ahead 43 = .ok (.iload_n 1, 1) := by decide +kernel
theorem dX5_ahead_44 : decode cX5_ahead 44 = .ok (.if_icmp .ge 7, 3) := by decide +kernel
theorem dX5_ahead_47 : decode cX5_ahead 47 = .ok (.iconst 1, 1) := by decide +kernel
theorem dX5_ahead_48 : decode cX5_ahead 48 = .ok (.goto 4, 3) := by decide +kernel
theorem dX5_ahead_51 : decode cX5_ahead 51 = .ok (.iconst 0, 1) := by decide +kernel
theorem dX5_ahead_52 : decode cX5_ahead 52 = .ok (.iadd, 1) := by decide +kernel
theorem dX5_ahead_53 : decode cX5_ahead 53 = .ok (.istore_n 3, 1) := by decide +kernel
theorem dX5_ahead_54 : decode cX5_ahead 54 = .ok (.iinc 4 1, 3) := by decide +kernel
theorem dX5_ahead_57 : decode cX5_ahead 57 = .ok (.goto (-52), 3) := by decide +kernel
theorem dX5_ahead_60 : decode cX5_ahead 60 = .ok (.iload_n 3, 1) := by decide +kernel
theorem dX5_ahead_61 : decode cX5_ahead 61 = .ok (.ireturn, 1) := by decide +kernel
theorem dX5_fold_0 : decode cX5_fold 0 = .ok (.aload_n 0, 1) := by decide +kernel
theorem dX5_fold_1 : decode cX5_fold 1 = .ok (.iload_n 1, 1) := by decide +kernel
theorem dX5_fold_2 : decode cX5_fold 2 = .ok (.iload_n 2, 1) := by decide +kernel
theorem dX5_fold_3 : decode cX5_fold 3 = .ok (.invokevirtual 112, 3) := by decide +kernel
theorem dX5_fold_6 : decode cX5_fold 6 = .ok (.istore_n 3, 1) := by decide +kernel
theorem dX5_fold_7 : decode cX5_fold 7 = .ok (.aload_n 0, 1) := by decide +kernel
theorem dX5_fold_8 : decode cX5_fold 8 = .ok (.iload_n 3, 1) := by decide +kernel
theorem dX5_fold_9 : decode cX5_fold 9 = .ok (.ifCond .le 20, 3) := by decide +kernel
theorem dX5_fold_12 : decode cX5_fold 12 = .ok (.iload_n 3, 1) := by decide +kernel
theorem dX5_fold_13 : decode cX5_fold 13 = .ok (.aload_n 0, 1) := by decide +kernel
theorem dX5_fold_14 : decode cX5_fold 14 = .ok (.getfield 36, 3) := by decide +kernel
theorem dX5_fold_17 : decode cX5_fold 17 = .ok (.aload_n 0, 1) := by decide +kernel
theorem dX5_fold_18 : decode cX5_fold 18 = .ok (.getfield 39, 3) := by decide +kernel
theorem dX5_fold_21 : decode cX5_fold 21 = .ok (.imul, 1) := by decide +kernel
theorem dX5_fold_22 : decode cX5_fold 22 = .ok (.if_icmp .ge 7, 3) := by decide +kernel
theorem dX5_fold_25 : decode cX5_fold 25 = .ok (.iconst 1, 1) := by decide +kernel
theorem dX5_fold_26 : decode cX5_fold 26 = .ok (.goto 4, 3) := by decide +kernel
theorem dX5_fold_29 : decode cX5_fold 29 = .ok (.iconst 0, 1) := by decide +kernel
theorem dX5_fold_30 : decode cX5_fold 30 = .ok (.invokevirtual 59, 3) := by decide +kernel
theorem dX5_fold_33 : decode cX5_fold 33 = .ok (.ifCond .ne 5, 3) := by decide +kernel
theorem dX5_fold_36 : decode cX5_fold 36 = .ok (.iconst 0, 1) := by decide +kernel
theorem dX5_fold_37 : decode cX5_fold 37 = .ok (.ireturn, 1) := by decide +kernel
theorem dX5_fold_38 : decode cX5_fold 38 = .ok (.iconst 0, 1) := by decide +kernel
theorem dX5_fold_39 : decode cX5_fold 39 = .ok (.istore 4, 2) := by decide +kernel
theorem dX5_fold_41 : decode cX5_fold 41 = .ok (.iconst 0, 1) := by decide +kernel
theorem dX5_fold_42 : decode cX5_fold 42 = .ok (.istore 5, 2) := by decide +kernel
theorem dX5_fold_44 : decode cX5_fold 44 = .ok (.iload 5, 2) := by decide +kernel
theorem dX5_fold_46 : decode cX5_fold 46 = .ok (.bipush 36, 2) := by decide +kernel
theorem dX5_fold_48 : decode cX5_fold 48 = .ok (.if_icmp .ge 44, 3) := by decide +kernel
end
section
theorem dX5_fold_51 : decode cX5_fold 51 = .ok (.aload_n 0, 1) := by decide +kernel
theorem dX5_fold_52 : decode cX5_fold 52 = .ok (.iload 5, 2) := by decide +kernel
theorem dX5_fold_54 : decode cX5_fold 54 = .ok (.invokevirtual 109, 3) := by decide +kernel
theorem dX5_fold_57 : decode cX5_fold 57 = .ok (.ifCond .eq 25, 3) := by decide +kernel
theorem dX5_fold_60 : decode cX5_fold 60 = .ok (.aload_n 0, 1) := by decide +kernel
theorem dX5_fold_61 : decode cX5_fold 61 = .ok (.getfield 29, 3) := by decide +kernel
theorem dX5_fold_64 : decode cX5_fold 64 = .ok (.iload 5, 2) := by decide +kernel
theorem dX5_fold_66 : decode cX5_fold 66 = .ok (.iaload, 1) := by decide +kernel
theorem dX5_fold_67 : decode cX5_fold 67 = .ok (.iload 4, 2) := by decide +kernel
theorem dX5_fold_69 : decode cX5_fold 69 = .ok (.if_icmp .le 13, 3) := by decide +kernel
theorem dX5_fold_72 : decode cX5_fold 72 = .ok (.aload_n 0, 1) := by decide +kernel
theorem dX5_fold_73 : decode cX5_fold 73 = .ok (.getfield 29, 3) := by decide +kernel
theorem dX5_fold_76 : decode cX5_fold 76 = .ok (.iload 5, 2) := by decide +kernel
theorem dX5_fold_78 : decode cX5_fold 78 = .ok (.iaload, 1) := by decide +kernel
theorem dX5_fold_79 : decode cX5_fold 79 = .ok (.goto 5, 3) := by decide +kernel
theorem dX5_fold_82 : decode cX5_fold 82 = .ok (.iload 4, 2) := by decide +kernel
theorem dX5_fold_84 : decode cX5_fold 84 = .ok (.istore 4, 2) := by decide +kernel
theorem dX5_fold_86 : decode cX5_fold 86 = .ok (.iinc 5 1, 3) := by decide +kernel
theorem dX5_fold_89 : decode cX5_fold 89 = .ok (.goto (-45), 3) := by decide +kernel
theorem dX5_fold_92 : decode cX5_fold 92 = .ok (.iconst 0, 1) := by decide +kernel
theorem dX5_fold_93 : decode cX5_fold 93 = .ok (.istore 5, 2) := by decide +kernel
theorem dX5_fold_95 : decode cX5_fold 95 = .ok (.iload 5, 2) := by decide +kernel
theorem dX5_fold_97 : decode cX5_fold 97 = .ok (.bipush 36, 2) := by decide +kernel
theorem dX5_fold_99 : decode cX5_fold 99 = .ok (.if_icmp .ge 154, 3) := by decide +kernel
theorem dX5_fold_102 : decode cX5_fold 102 = .ok (.aload_n 0, 1) := by decide +kernel
theorem dX5_fold_103 : decode cX5_fold 103 = .ok (.iload 5, 2) := by decide +kernel
theorem dX5_fold_105 : decode cX5_fold 105 = .ok (.invokevirtual 109, 3) := by decide +kernel
theorem dX5_fold_108 : decode cX5_fold 108 = .ok (.ifCond .eq 139, 3) := by decide +kernel
theorem dX5_fold_111 : decode cX5_fold 111 = .ok (.iload_n 2, 1) := by decide +kernel
theorem dX5_fold_112 : decode cX5_fold 112 = .ok (.ifCond .eq 13, 3) := by decide +kernel
theorem dX5_fold_115 : decode cX5_fold 115 = .ok (.aload_n 0, 1) := by decide +kernel
theorem dX5_fold_116 : decode cX5_fold 116 = .ok (.getfield 23, 3) := by decide +kernel
theorem dX5_fold_119 : decode cX5_fold 119 = .ok (.iload 5, 2) := by decide +kernel
theorem dX5_fold_121 : decode cX5_fold 121 = .ok (.iaload, 1) := by decide +kernel
theorem dX5_fold_122 : decode cX5_fold 122 = .ok (.goto 10, 3) := by decide +kernel
theorem dX5_fold_125 : decode cX5_fold 125 = .ok (.aload_n 0, 1) := by decide +kernel
theorem dX5_fold_126 : decode cX5_fold 126 = .ok (.getfield 26, 3) := by decide +kernel
theorem dX5_fold_129 : decode cX5_fold 129 = .ok (.iload 5, 2) := by decide +kernel
theorem dX5_fold_131 : decode cX5_fold 131 = .ok (.iaload, 1) := by decide +kernel
theorem dX5_fold_132 : decode cX5_fold 132 = .ok (.iload_n 1, 1) := by decide +kernel
theorem dX5_fold_133 : decode cX5_fold 133 = .ok (.if_icmp .ge 114, 3) := by decide +kernel
theorem dX5_fold_136 : decode cX5_fold 136 = .ok (.aload_n 0, 1) := by decide +kernel
theorem dX5_fold_137 : decode cX5_fold 137 = .ok (.getfield 23, 3) := by decide +kernel
theorem dX5_fold_140 : decode cX5_fold 140 = .ok (.iload 5, 2) := by decide +kernel
theorem dX5_fold_142 : decode cX5_fold 142 = .ok (.iload_n 2, 1) := by decide +kernel
theorem dX5_fold_143 : decode cX5_fold 143 = .ok (.ifCond .eq 19, 3) := by decide +kernel
theorem dX5_fold_146 : decode cX5_fold 146 = .ok (.iconst 2, 1) := by decide +kernel
theorem dX5_fold_147 : decode cX5_fold 147 = .ok (.iload_n 1, 1) := by decide +kernel
theorem dX5_fold_148 : decode cX5_fold 148 = .ok (.imul, 1) := by decide +kernel
theorem dX5_fold_149 : decode cX5_fold 149 = .ok (.iconst 1, 1) := by decide +kernel
theorem dX5_fold_150 : decode cX5_fold 150 = .ok (.isub, 1) := by decide +kernel
theorem dX5_fold_151 : decode cX5_fold 151 = .ok (.aload_n 0, 1) := by decide +kernel
theorem dX5_fold_152 : decode cX5_fold 152 = .ok (.getfield 23, 3) := by decide +kernel
theorem dX5_fold_155 : decode cX5_fold 155 = .ok (.iload 5, 2) := by decide +kernel
theorem dX5_fold_157 : decode cX5_fold 157 = .ok (.iaload, 1) := by decide +kernel
theorem dX5_fold_158 : decode cX5_fold 158 = .ok (.isub, 1) := by decide +kernel
theorem dX5_fold_159 : decode cX5_fold 159 = .ok (.goto 10, 3) := by decide +kernel
theorem dX5_fold_162 : decode cX5_fold 162 = .ok (.aload_n 0, 1) := by decide +kernel
theorem dX5_fold_163 : decode cX5_fold 163 = .ok (.getfield 23, 3) := by decide +kernel
theorem dX5_fold_166 : decode cX5_fold 166 = .ok (.iload 5, 2) := by decide +kernel
theorem dX5_fold_168 : decode cX5_fold 168 = .ok (.iaload, 1) := by decide +kernel
theorem dX5_fold_169 : decode cX5_fold 169 = .ok (.iastore, 1) := by decide +kernel
theorem dX5_fold_170 : decode cX5_fold 170 = .ok (.aload_n 0, 1) := by decide +kernel
theorem dX5_fold_171 : decode cX5_fold 171 = .ok (.getfield 26, 3) := by decide +kernel
theorem dX5_fold_174 : decode cX5_fold 174 = .ok (.iload 5, 2) := by decide +kernel
theorem dX5_fold_176 : decode cX5_fold 176 = .ok (.iload_n 2, 1) := by decide +kernel
theorem dX5_fold_177 : decode cX5_fold 177 = .ok (.ifCond .eq 13, 3) := by decide +kernel
theorem dX5_fold_180 : decode cX5_fold 180 = .ok (.aload_n 0, 1) := by decide +kernel
theorem dX5_fold_181 : decode cX5_fold 181 = .ok (.getfield 26, 3) := by decide +kernel
theorem dX5_fold_184 : decode cX5_fold 184 = .ok (.iload 5, 2) := by decide +kernel
theorem dX5_fold_186 : decode cX5_fold 186 = .ok (.iaload, 1) := by decide +kernel
theorem dX5_fold_187 : decode cX5_fold 187 = .ok (.goto 16, 3) := by decide +kernel
theorem dX5_fold_190 : decode cX5_fold 190 = .ok (.iconst 2, 1) := by decide +kernel
theorem dX5_fold_191 : decode cX5_fold 191 = .ok (.iload_n 1, 1) := by decide +kernel
theorem dX5_fold_192 : decode cX5_fold 192 = .ok (.imul, 1) := by decide +kernel
theorem dX5_fold_193 : decode cX5_fold 193 = .ok (.iconst 1, 1) := by decide +kernel
theorem dX5_fold_194 : decode cX5_fold 194 = .ok (.isub, 1) := by decide +kernel
theorem dX5_fold_195 : decode cX5_fold 195 = .ok (.aload_n 0, 1) := by decide +kernel
theorem dX5_fold_196 : decode cX5_fold 196 = .ok (.getfield 26, 3) := by decide +kernel
theorem dX5_fold_199 : decode cX5_fold 199 = .ok (.iload 5, 2) := by decide +kernel
theorem dX5_fold_201 : decode cX5_fold 201 = .ok (.iaload, 1) := by decide +kernel
theorem dX5_fold_202 : decode cX5_fold 202 = .ok (.isub, 1) := by decide +kernel
theorem dX5_fold_203 : decode cX5_fold 203 = .ok (.iastore, 1) := by decide +kernel
theorem dX5_fold_204 : decode cX5_fold 204 = .ok (.aload_n 0, 1) := by decide +kernel
theorem dX5_fold_205 : decode cX5_fold 205 = .ok (.getfield 29, 3) := by decide +kernel
theorem dX5_fold_208 : decode cX5_fold 208 = .ok (.iload 5, 2) := by decide +kernel
theorem dX5_fold_210 : decode cX5_fold 210 = .ok (.iconst 2, 1) := by decide +kernel
theorem dX5_fold_211 : decode cX5_fold 211 = .ok (.iload 4, 2) := by decide +kernel
theorem dX5_fold_213 : decode cX5_fold 213 = .ok (.imul, 1) := by decide +kernel
theorem dX5_fold_214 : decode cX5_fold 214 = .ok (.iconst 1, 1) := by decide +kernel
theorem dX5_fold_215 : decode cX5_fold 215 = .ok (.iadd, 1) := by decide +kernel
theorem dX5_fold_216 : decode cX5_fold 216 = .ok (.aload_n 0, 1) := by decide +kernel
theorem dX5_fold_217 : decode cX5_fold 217 = .ok (.getfield 29, 3) := by decide +kernel
theorem dX5_fold_220 : decode cX5_fold 220 = .ok (.iload 5, 2) := by decide +kernel
theorem dX5_fold_222 : decode cX5_fold 222 = .ok (.iaload, 1) := by decide +kernel
theorem dX5_fold_223 : decode cX5_fold 223 = .ok (.isub, 1) := by decide +kernel
theorem dX5_fold_224 : decode cX5_fold 224 = .ok (.iastore, 1) := by decide +kernel
theorem dX5_fold_225 : decode cX5_fold 225 = .ok (.aload_n 0, 1) := by decide +kernel
theorem dX5_fold_226 : decode cX5_fold 226 = .ok (.getfield 32, 3) := by decide +kernel
theorem dX5_fold_229 : decode cX5_fold 229 = .ok (.iload 5, 2) := by decide +kernel
theorem dX5_fold_231 : decode cX5_fold 231 = .ok (.aload_n 0, 1) := by decide +kernel
theorem dX5_fold_232 : decode cX5_fold 232 = .ok (.getfield 32, 3) := by decide +kernel
theorem dX5_fold_235 : decode cX5_fold 235 = .ok (.iload 5, 2) := by decide +kernel
theorem dX5_fold_237 : decode cX5_fold 237 = .ok (.baload, 1) := by decide +kernel
theorem dX5_fold_238 : decode cX5_fold 238 = .ok (.ifCond .ne 7, 3) := by decide +kernel
theorem dX5_fold_241 : decode cX5_fold 241 = .ok (.iconst 1, 1) := by decide +kernel
theorem dX5_fold_242 : decode cX5_fold 242 = .ok (.goto 4, 3) := by decide +kernel
theorem dX5_fold_245 : decode cX5_fold 245 = .ok (.iconst 0, 1) := by decide +kernel
theorem dX5_fold_246 : decode cX5_fold 246 = .ok (.bastore, 1) := by decide +kernel
theorem dX5_fold_247 : decode cX5_fold 247 = .ok (.iinc 5 1, 3) := by decide +kernel
theorem dX5_fold_250 : decode cX5_fold 250 = .ok (.goto (-155), 3) := by decide +kernel
theorem dX5_fold_253 : decode cX5_fold 253 = .ok (.aload_n 0, 1) := by decide +kernel
theorem dX5_fold_254 : decode cX5_fold 254 = .ok (.dup, 1) := by decide +kernel
theorem dX5_fold_255 : decode cX5_fold 255 = .ok (.getfield 106, 3) := by decide +kernel
theorem dX5_fold_258 : decode cX5_fold 258 = .ok (.iconst 1, 1) := by decide +kernel
theorem dX5_fold_259 : decode cX5_fold 259 = .ok (.iadd, 1) := by decide +kernel
theorem dX5_fold_260 : decode cX5_fold 260 = .ok (.putfield 106, 3) := by decide +kernel
theorem dX5_fold_263 : decode cX5_fold 263 = .ok (.iload_n 3, 1) := by decide +kernel
theorem dX5_fold_264 : decode cX5_fold 264 = .ok (.ireturn, 1) := by decide +kernel
theorem dX5_foldColumns_0 : decode cX5_foldColumns 0 = .ok (.aload_n 0, 1) := by decide +kernel
theorem dX5_foldColumns_1 : decode cX5_foldColumns 1 = .ok (.iload_n 1, 1) := by decide +kernel
theorem dX5_foldColumns_2 : decode cX5_foldColumns 2 = .ok (.iconst 1, 1) := by decide +kernel
theorem dX5_foldColumns_3 : decode cX5_foldColumns 3 = .ok (.invokevirtual 116, 3) := by decide +kernel
theorem dX5_foldColumns_6 : decode cX5_foldColumns 6 = .ok (.ireturn, 1) := by decide +kernel
theorem dX5_foldRows_0 : decode cX5_foldRows 0 = .ok (.aload_n 0, 1) := by decide +kernel
theorem dX5_foldRows_1 : decode cX5_foldRows 1 = .ok (.iload_n 1, 1) := by decide +kernel
theorem dX5_foldRows_2 : decode cX5_foldRows 2 = .ok (.iconst 0, 1) := by decide +kernel
theorem dX5_foldRows_3 : decode cX5_foldRows 3 = .ok (.invokevirtual 116, 3) := by decide +kernel
theorem dX5_foldRows_6 : decode cX5_foldRows 6 = .ok (.ireturn, 1) := by decide +kernel
theorem dX5_unfold_0 : decode cX5_unfold 0 = .ok (.aload_n 0, 1) := by decide +kernel
theorem dX5_unfold_1 : decode cX5_unfold 1 = .ok (.iconst 0, 1) := by decide +kernel
theorem dX5_unfold_2 : decode cX5_unfold 2 = .ok (.putfield 45, 3) := by decide +kernel
theorem dX5_unfold_5 : decode cX5_unfold 5 = .ok (.aload_n 0, 1) := by decide +kernel
theorem dX5_unfold_6 : decode cX5_unfold 6 = .ok (.getfield 106, 3) := by decide +kernel
theorem dX5_unfold_9 : decode cX5_unfold 9 = .ok (.istore_n 1, 1) := by decide +kernel
theorem dX5_unfold_10 : decode cX5_unfold 10 = .ok (.aload_n 0, 1) := by decide +kernel
theorem dX5_unfold_11 : decode cX5_unfold 11 = .ok (.invokevirtual 42, 3) := by decide +kernel
theorem dX5_unfold_14 : decode cX5_unfold 14 = .ok (.iload_n 1, 1) := by decide +kernel
theorem dX5_unfold_15 : decode cX5_unfold 15 = .ok (.ireturn, 1) := by decide +kernel
theorem dX5_panel_0 : decode cX5_panel 0 = .ok (.aload_n 0, 1) := by decide +kernel
theorem dX5_panel_1 : decode cX5_panel 1 = .ok (.iload_n 1, 1) := by decide +kernel
theorem dX5_panel_2 : decode cX5_panel 2 = .ok (.invokestatic 52, 3) := by decide +kernel
theorem dX5_panel_5 : decode cX5_panel 5 = .ok (.ifCond .eq 14, 3) := by decide +kernel
theorem dX5_panel_8 : decode cX5_panel 8 = .ok (.iload_n 2, 1) := by decide +kernel
theorem dX5_panel_9 : decode cX5_panel 9 = .ok (.invokestatic 56, 3) := by decide +kernel
theorem dX5_panel_12 : decode cX5_panel 12 = .ok (.ifCond .eq 7, 3) := by decide +kernel
theorem dX5_panel_15 : decode cX5_panel 15 = .ok (.iconst 1, 1) := by decide +kernel
theorem dX5_panel_16 : decode cX5_panel 16 = .ok (.goto 4, 3) := by decide +kernel
theorem dX5_panel_19 : decode cX5_panel 19 = .ok (.iconst 0, 1) := by decide +kernel
theorem dX5_panel_20 : decode cX5_panel 20 = .ok (.invokevirtual 59, 3) := by decide +kernel
theorem dX5_panel_23 : decode cX5_panel 23 = .ok (.ifCond .ne 5, 3) := by decide +kernel
theorem dX5_panel_26 : decode cX5_panel 26 = .ok (.iconst 0, 1) := by decide +kernel
theorem dX5_panel_27 : decode cX5_panel 27 = .ok (.ireturn, 1) := by decide +kernel
theorem dX5_panel_28 : decode cX5_panel 28 = .ok (.bipush 90, 2) := by decide +kernel
theorem dX5_panel_30 : decode cX5_panel 30 = .ok (.iload_n 1, 1) := by decide +kernel
theorem dX5_panel_31 : decode cX5_panel 31 = .ok (.isub, 1) := by decide +kernel
theorem dX5_panel_32 : decode cX5_panel 32 = .ok (.aload_n 0, 1) := by decide +kernel
theorem dX5_panel_33 : decode cX5_panel 33 = .ok (.getfield 39, 3) := by decide +kernel
theorem dX5_panel_36 : decode cX5_panel 36 = .ok (.imul, 1) := by decide +kernel
theorem dX5_panel_37 : decode cX5_panel 37 = .ok (.sipush 180, 3) := by decide +kernel
theorem dX5_panel_40 : decode cX5_panel 40 = .ok (.idiv, 1) := by decide +kernel
theorem dX5_panel_41 : decode cX5_panel 41 = .ok (.istore_n 3, 1) := by decide +kernel
theorem dX5_panel_42 : decode cX5_panel 42 = .ok (.bipush 10, 2) := by decide +kernel
theorem dX5_panel_44 : decode cX5_panel 44 = .ok (.iload_n 2, 1) := by decide +kernel
theorem dX5_panel_45 : decode cX5_panel 45 = .ok (.sipush 180, 3) := by decide +kernel
theorem dX5_panel_48 : decode cX5_panel 48 = .ok (.iadd, 1) := by decide +kernel
theorem dX5_panel_49 : decode cX5_panel 49 = .ok (.aload_n 0, 1) := by decide +kernel
theorem dX5_panel_50 : decode cX5_panel 50 = .ok (.getfield 36, 3) := by decide +kernel
theorem dX5_panel_53 : decode cX5_panel 53 = .ok (.imul, 1) := by decide +kernel
theorem dX5_panel_54 : decode cX5_panel 54 = .ok (.sipush 360, 3) := by decide +kernel
theorem dX5_panel_57 : decode cX5_panel 57 = .ok (.idiv, 1) := by decide +kernel
theorem dX5_panel_58 : decode cX5_panel 58 = .ok (.imul, 1) := by decide +kernel
theorem dX5_panel_59 : decode cX5_panel 59 = .ok (.iload_n 3, 1) := by decide +kernel
theorem dX5_panel_60 : decode cX5_panel 60 = .ok (.aload_n 0, 1) := by decide +kernel
theorem dX5_panel_61 : decode cX5_panel 61 = .ok (.getfield 39, 3) := by decide +kernel
theorem dX5_panel_64 : decode cX5_panel 64 = .ok (.if_icmp .ge 7, 3) := by decide +kernel
theorem dX5_panel_67 : decode cX5_panel 67 = .ok (.iload_n 3, 1) := by decide +kernel
theorem dX5_panel_68 : decode cX5_panel 68 = .ok (.goto 9, 3) := by decide +kernel
theorem dX5_panel_71 : decode cX5_panel 71 = .ok (.aload_n 0, 1) := by decide +kernel
theorem dX5_panel_72 : decode cX5_panel 72 = .ok (.getfield 39, 3) := by decide +kernel
theorem dX5_panel_75 : decode cX5_panel 75 = .ok (.iconst 1, 1) := by decide +kernel
theorem dX5_panel_76 : decode cX5_panel 76 = .ok (.isub, 1) := by decide +kernel
theorem dX5_panel_77 : decode cX5_panel 77 = .ok (.iadd, 1) := by decide +kernel
theorem dX5_panel_78 : decode cX5_panel 78 = .ok (.ireturn, 1) := by decide +kernel
theorem dX5_has_0 : decode cX5_has 0 = .ok (.aload_n 0, 1) := by decide +kernel
theorem dX5_has_1 : decode cX5_has 1 = .ok (.iload_n 1, 1) := by decide +kernel
theorem dX5_has_2 : decode cX5_has 2 = .ok (.ifCond .lt 27, 3) := by decide +kernel
theorem dX5_has_5 : decode cX5_has 5 = .ok (.iload_n 1, 1) := by decide +kernel
theorem dX5_has_6 : decode cX5_has 6 = .ok (.aload_n 0, 1) := by decide +kernel
theorem dX5_has_7 : decode cX5_has 7 = .ok (.getfield 36, 3) := by decide +kernel
theorem dX5_has_10 : decode cX5_has 10 = .ok (.if_icmp .ge 19, 3) := by decide +kernel
theorem dX5_has_13 : decode cX5_has 13 = .ok (.iload_n 2, 1) := by decide +kernel
theorem dX5_has_14 : decode cX5_has 14 = .ok (.ifCond .lt 15, 3) := by decide +kernel
theorem dX5_has_17 : decode cX5_has 17 = .ok (.iload_n 2, 1) := by decide +kernel
theorem dX5_has_18 : decode cX5_has 18 = .ok (.aload_n 0, 1) := by decide +kernel
theorem dX5_has_19 : decode cX5_has 19 = .ok (.getfield 39, 3) := by decide +kernel
theorem dX5_has_22 : decode cX5_has 22 = .ok (.if_icmp .ge 7, 3) := by decide +kernel
theorem dX5_has_25 : decode cX5_has 25 = .ok (.iconst 1, 1) := by decide +kernel
theorem dX5_has_26 : decode cX5_has 26 = .ok (.goto 4, 3) := by decide +kernel
theorem dX5_has_29 : decode cX5_has 29 = .ok (.iconst 0, 1) := by decide +kernel
theorem dX5_has_30 : decode cX5_has 30 = .ok (.invokevirtual 59, 3) := by decide +kernel
theorem dX5_has_33 : decode cX5_has 33 = .ok (.ireturn, 1) := by decide +kernel
theorem dX5_placeX_0 : decode cX5_placeX 0 = .ok (.aload_n 0, 1) := by decide +kernel
theorem dX5_placeX_1 : decode cX5_placeX 1 = .ok (.iload_n 1, 1) := by decide +kernel
theorem dX5_placeX_2 : decode cX5_placeX 2 = .ok (.iload_n 2, 1) := by decide +kernel
theorem dX5_placeX_3 : decode cX5_placeX 3 = .ok (.invokevirtual 119, 3) := by decide +kernel
theorem dX5_placeX_6 : decode cX5_placeX 6 = .ok (.ifCond .eq 17, 3) := by decide +kernel
theorem dX5_placeX_9 : decode cX5_placeX 9 = .ok (.aload_n 0, 1) := by decide +kernel
theorem dX5_placeX_10 : decode cX5_placeX 10 = .ok (.getfield 23, 3) := by decide +kernel
theorem dX5_placeX_13 : decode cX5_placeX 13 = .ok (.bipush 6, 2) := by decide +kernel
theorem dX5_placeX_15 : decode cX5_placeX 15 = .ok (.iload_n 1, 1) := by decide +kernel
theorem dX5_placeX_16 : decode cX5_placeX 16 = .ok (.imul, 1) := by decide +kernel
theorem dX5_placeX_17 : decode cX5_placeX 17 = .ok (.iload_n 2, 1) := by decide +kernel
theorem dX5_placeX_18 : decode cX5_placeX 18 = .ok (.iadd, 1) := by decide +kernel
theorem dX5_placeX_19 : decode cX5_placeX 19 = .ok (.iaload, 1) := by decide +kernel
theorem dX5_placeX_20 : decode cX5_placeX 20 = .ok (.goto 4, 3) := by decide +kernel
theorem dX5_placeX_23 : decode cX5_placeX 23 = .ok (.iconst 0, 1) := by decide +kernel
theorem dX5_placeX_24 : decode cX5_placeX 24 = .ok (.ireturn, 1) := by decide +kernel
theorem dX5_placeY_0 : decode cX5_placeY 0 = .ok (.aload_n 0, 1) := by decide +kernel
theorem dX5_placeY_1 : decode cX5_placeY 1 = .ok (.iload_n 1, 1) := by decide +kernel
theorem dX5_placeY_2 : decode cX5_placeY 2 = .ok (.iload_n 2, 1) := by decide +kernel
theorem dX5_placeY_3 : decode cX5_placeY 3 = .ok (.invokevirtual 119, 3) := by decide +kernel
theorem dX5_placeY_6 : decode cX5_placeY 6 = .ok (.ifCond .eq 17, 3) := by decide +kernel
theorem dX5_placeY_9 : decode cX5_placeY 9 = .ok (.aload_n 0, 1) := by decide +kernel
theorem dX5_placeY_10 : decode cX5_placeY 10 = .ok (.getfield 26, 3) := by decide +kernel
theorem dX5_placeY_13 : decode cX5_placeY 13 = .ok (.bipush 6, 2) := by decide +kernel
theorem dX5_placeY_15 : decode cX5_placeY 15 = .ok (.iload_n 1, 1) := by decide +kernel
theorem dX5_placeY_16 : decode cX5_placeY 16 = .ok (.imul, 1) := by decide +kernel
theorem dX5_placeY_17 : decode cX5_placeY 17 = .ok (.iload_n 2, 1) := by decide +kernel
theorem dX5_placeY_18 : decode cX5_placeY 18 = .ok (.iadd, 1) := by decide +kernel
theorem dX5_placeY_19 : decode cX5_placeY 19 = .ok (.iaload, 1) := by decide +kernel
theorem dX5_placeY_20 : decode cX5_placeY 20 = .ok (.goto 4, 3) := by decide +kernel
theorem dX5_placeY_23 : decode cX5_placeY 23 = .ok (.iconst 0, 1) := by decide +kernel
theorem dX5_placeY_24 : decode cX5_placeY 24 = .ok (.ireturn, 1) := by decide +kernel
theorem dX5_stacked_0 : decode cX5_stacked 0 = .ok (.iconst 0, 1) := by decide +kernel
theorem dX5_stacked_1 : decode cX5_stacked 1 = .ok (.istore_n 3, 1) := by decide +kernel
theorem dX5_stacked_2 : decode cX5_stacked 2 = .ok (.iconst 0, 1) := by decide +kernel
theorem dX5_stacked_3 : decode cX5_stacked 3 = .ok (.istore 4, 2) := by decide +kernel
theorem dX5_stacked_5 : decode cX5_stacked 5 = .ok (.iload 4, 2) := by decide +kernel
theorem dX5_stacked_7 : decode cX5_stacked 7 = .ok (.bipush 36, 2) := by decide +kernel
theorem dX5_stacked_9 : decode cX5_stacked 9 = .ok (.if_icmp .ge 90, 3) := by decide +kernel
theorem dX5_stacked_12 : decode cX5_stacked 12 = .ok (.aload_n 0, 1) := by decide +kernel
theorem dX5_stacked_13 : decode cX5_stacked 13 = .ok (.iload 4, 2) := by decide +kernel
theorem dX5_stacked_15 : decode cX5_stacked 15 = .ok (.invokevirtual 109, 3) := by decide +kernel
theorem dX5_stacked_18 : decode cX5_stacked 18 = .ok (.ifCond .eq 39, 3) := by decide +kernel
theorem dX5_stacked_21 : decode cX5_stacked 21 = .ok (.aload_n 0, 1) := by decide +kernel
theorem dX5_stacked_22 : decode cX5_stacked 22 = .ok (.getfield 23, 3) := by decide +kernel
theorem dX5_stacked_25 : decode cX5_stacked 25 = .ok (.iload 4, 2) := by decide +kernel
theorem dX5_stacked_27 : decode cX5_stacked 27 = .ok (.iaload, 1) := by decide +kernel
theorem dX5_stacked_28 : decode cX5_stacked 28 = .ok (.aload_n 0, 1) := by decide +kernel
theorem dX5_stacked_29 : decode cX5_stacked 29 = .ok (.getfield 23, 3) := by decide +kernel
theorem dX5_stacked_32 : decode cX5_stacked 32 = .ok (.iload_n 1, 1) := by decide +kernel
theorem dX5_stacked_33 : decode cX5_stacked 33 = .ok (.iaload, 1) := by decide +kernel
theorem dX5_stacked_34 : decode cX5_stacked 34 = .ok (.if_icmp .ne 23, 3) := by decide +kernel
theorem dX5_stacked_37 : decode cX5_stacked 37 = .ok (.aload_n 0, 1) := by decide +kernel
theorem dX5_stacked_38 : decode cX5_stacked 38 = .ok (.getfield 26, 3) := by decide +kernel
theorem dX5_stacked_41 : decode cX5_stacked 41 = .ok (.iload 4, 2) := by decide +kernel
theorem dX5_stacked_43 : decode cX5_stacked 43 = .ok (.iaload, 1) := by decide +kernel
theorem dX5_stacked_44 : decode cX5_stacked 44 = .ok (.aload_n 0, 1) := by decide +kernel
theorem dX5_stacked_45 : decode cX5_stacked 45 = .ok (.getfield 26, 3) := by decide +kernel
theorem dX5_stacked_48 : decode cX5_stacked 48 = .ok (.iload_n 1, 1) := by decide +kernel
theorem dX5_stacked_49 : decode cX5_stacked 49 = .ok (.iaload, 1) := by decide +kernel
theorem dX5_stacked_50 : decode cX5_stacked 50 = .ok (.if_icmp .ne 7, 3) := by decide +kernel
theorem dX5_stacked_53 : decode cX5_stacked 53 = .ok (.iconst 1, 1) := by decide +kernel
theorem dX5_stacked_54 : decode cX5_stacked 54 = .ok (.goto 4, 3) := by decide +kernel
theorem dX5_stacked_57 : decode cX5_stacked 57 = .ok (.iconst 0, 1) := by decide +kernel
theorem dX5_stacked_58 : decode cX5_stacked 58 = .ok (.istore 5, 2) := by decide +kernel
theorem dX5_stacked_60 : decode cX5_stacked 60 = .ok (.iload_n 3, 1) := by decide +kernel
theorem dX5_stacked_61 : decode cX5_stacked 61 = .ok (.iload 5, 2) := by decide +kernel
theorem dX5_stacked_63 : decode cX5_stacked 63 = .ok (.ifCond .eq 27, 3) := by decide +kernel
theorem dX5_stacked_66 : decode cX5_stacked 66 = .ok (.iload_n 2, 1) := by decide +kernel
theorem dX5_stacked_67 : decode cX5_stacked 67 = .ok (.ifCond .ne 19, 3) := by decide +kernel
theorem dX5_stacked_70 : decode cX5_stacked 70 = .ok (.aload_n 0, 1) := by decide +kernel
theorem dX5_stacked_71 : decode cX5_stacked 71 = .ok (.getfield 29, 3) := by decide +kernel
theorem dX5_stacked_74 : decode cX5_stacked 74 = .ok (.iload 4, 2) := by decide +kernel
theorem dX5_stacked_76 : decode cX5_stacked 76 = .ok (.iaload, 1) := by decide +kernel
theorem dX5_stacked_77 : decode cX5_stacked 77 = .ok (.aload_n 0, 1) := by decide +kernel
theorem dX5_stacked_78 : decode cX5_stacked 78 = .ok (.getfield 29, 3) := by decide +kernel
theorem dX5_stacked_81 : decode cX5_stacked 81 = .ok (.iload_n 1, 1) := by decide +kernel
theorem dX5_stacked_82 : decode cX5_stacked 82 = .ok (.iaload, 1) := by decide +kernel
theorem dX5_stacked_83 : decode cX5_stacked 83 = .ok (.if_icmp .le 7, 3) := by decide +kernel
theorem dX5_stacked_86 : decode cX5_stacked 86 = .ok (.iconst 1, 1) := by decide +kernel
theorem dX5_stacked_87 : decode cX5_stacked 87 = .ok (.goto 4, 3) := by decide +kernel
theorem dX5_stacked_90 : decode cX5_stacked 90 = .ok (.iconst 0, 1) := by decide +kernel
theorem dX5_stacked_91 : decode cX5_stacked 91 = .ok (.iadd, 1) := by decide +kernel
theorem dX5_stacked_92 : decode cX5_stacked 92 = .ok (.istore_n 3, 1) := by decide +kernel
theorem dX5_stacked_93 : decode cX5_stacked 93 = .ok (.iinc 4 1, 3) := by decide +kernel
theorem dX5_stacked_96 : decode cX5_stacked 96 = .ok (.goto (-91), 3) := by decide +kernel
theorem dX5_stacked_99 : decode cX5_stacked 99 = .ok (.iload_n 3, 1) := by decide +kernel
theorem dX5_stacked_100 : decode cX5_stacked 100 = .ok (.ireturn, 1) := by decide +kernel
theorem dX5_above_0 : decode cX5_above 0 = .ok (.aload_n 0, 1) := by decide +kernel
theorem dX5_above_1 : decode cX5_above 1 = .ok (.iload_n 1, 1) := by decide +kernel
theorem dX5_above_2 : decode cX5_above 2 = .ok (.iload_n 2, 1) := by decide +kernel
theorem dX5_above_3 : decode cX5_above 3 = .ok (.invokevirtual 119, 3) := by decide +kernel
theorem dX5_above_6 : decode cX5_above 6 = .ok (.ifCond .eq 17, 3) := by decide +kernel
theorem dX5_above_9 : decode cX5_above 9 = .ok (.aload_n 0, 1) := by decide +kernel
theorem dX5_above_10 : decode cX5_above 10 = .ok (.bipush 6, 2) := by decide +kernel
theorem dX5_above_12 : decode cX5_above 12 = .ok (.iload_n 1, 1) := by decide +kernel
theorem dX5_above_13 : decode cX5_above 13 = .ok (.imul, 1) := by decide +kernel
theorem dX5_above_14 : decode cX5_above 14 = .ok (.iload_n 2, 1) := by decide +kernel
theorem dX5_above_15 : decode cX5_above 15 = .ok (.iadd, 1) := by decide +kernel
theorem dX5_above_16 : decode cX5_above 16 = .ok (.iconst 0, 1) := by decide +kernel
theorem dX5_above_17 : decode cX5_above 17 = .ok (.invokevirtual 123, 3) := by decide +kernel
theorem dX5_above_20 : decode cX5_above 20 = .ok (.goto 4, 3) := by decide +kernel
theorem dX5_above_23 : decode cX5_above 23 = .ok (.iconst 0, 1) := by decide +kernel
theorem dX5_above_24 : decode cX5_above 24 = .ok (.ireturn, 1) := by decide +kernel
theorem dX5_isUp_0 : decode cX5_isUp 0 = .ok (.aload_n 0, 1) := by decide +kernel
theorem dX5_isUp_1 : decode cX5_isUp 1 = .ok (.iload_n 1, 1) := by decide +kernel
theorem dX5_isUp_2 : decode cX5_isUp 2 = .ok (.iload_n 2, 1) := by decide +kernel
theorem dX5_isUp_3 : decode cX5_isUp 3 = .ok (.invokevirtual 119, 3) := by decide +kernel
theorem dX5_isUp_6 : decode cX5_isUp 6 = .ok (.ifCond .eq 21, 3) := by decide +kernel
theorem dX5_isUp_9 : decode cX5_isUp 9 = .ok (.aload_n 0, 1) := by decide +kernel
theorem dX5_isUp_10 : decode cX5_isUp 10 = .ok (.getfield 32, 3) := by decide +kernel
theorem dX5_isUp_13 : decode cX5_isUp 13 = .ok (.bipush 6, 2) := by decide +kernel
theorem dX5_isUp_15 : decode cX5_isUp 15 = .ok (.iload_n 1, 1) := by decide +kernel
theorem dX5_isUp_16 : decode cX5_isUp 16 = .ok (.imul, 1) := by decide +kernel
theorem dX5_isUp_17 : decode cX5_isUp 17 = .ok (.iload_n 2, 1) := by decide +kernel
theorem dX5_isUp_18 : decode cX5_isUp 18 = .ok (.iadd, 1) := by decide +kernel
theorem dX5_isUp_19 : decode cX5_isUp 19 = .ok (.baload, 1) := by decide +kernel
theorem dX5_isUp_20 : decode cX5_isUp 20 = .ok (.ifCond .eq 7, 3) := by decide +kernel
theorem dX5_isUp_23 : decode cX5_isUp 23 = .ok (.iconst 1, 1) := by decide +kernel
theorem dX5_isUp_24 : decode cX5_isUp 24 = .ok (.goto 4, 3) := by decide +kernel
theorem dX5_isUp_27 : decode cX5_isUp 27 = .ok (.iconst 0, 1) := by decide +kernel
theorem dX5_isUp_28 : decode cX5_isUp 28 = .ok (.ireturn, 1) := by decide +kernel
theorem dX5_thickness_0 : decode cX5_thickness 0 = .ok (.aload_n 0, 1) := by decide +kernel
theorem dX5_thickness_1 : decode cX5_thickness 1 = .ok (.iconst 0, 1) := by decide +kernel
theorem dX5_thickness_2 : decode cX5_thickness 2 = .ok (.putfield 45, 3) := by decide +kernel
theorem dX5_thickness_5 : decode cX5_thickness 5 = .ok (.iconst 0, 1) := by decide +kernel
theorem dX5_thickness_6 : decode cX5_thickness 6 = .ok (.istore_n 1, 1) := by decide +kernel
theorem dX5_thickness_7 : decode cX5_thickness 7 = .ok (.iconst 0, 1) := by decide +kernel
theorem dX5_thickness_8 : decode cX5_thickness 8 = .ok (.istore_n 2, 1) := by decide +kernel
theorem dX5_thickness_9 : decode cX5_thickness 9 = .ok (.iload_n 2, 1) := by decide +kernel
theorem dX5_thickness_10 : decode cX5_thickness 10 = .ok (.bipush 36, 2) := by decide +kernel
theorem dX5_thickness_12 : decode cX5_thickness 12 = .ok (.if_icmp .ge 39, 3) := by decide +kernel
theorem dX5_thickness_15 : decode cX5_thickness 15 = .ok (.aload_n 0, 1) := by decide +kernel
theorem dX5_thickness_16 : decode cX5_thickness 16 = .ok (.iload_n 2, 1) := by decide +kernel
theorem dX5_thickness_17 : decode cX5_thickness 17 = .ok (.invokevirtual 109, 3) := by decide +kernel
theorem dX5_thickness_20 : decode cX5_thickness 20 = .ok (.ifCond .eq 12, 3) := by decide +kernel
theorem dX5_thickness_23 : decode cX5_thickness 23 = .ok (.aload_n 0, 1) := by decide +kernel
theorem dX5_thickness_24 : decode cX5_thickness 24 = .ok (.iload_n 2, 1) := by decide +kernel
theorem dX5_thickness_25 : decode cX5_thickness 25 = .ok (.iconst 1, 1) := by decide +kernel
theorem dX5_thickness_26 : decode cX5_thickness 26 = .ok (.invokevirtual 123, 3) := by decide +kernel
theorem dX5_thickness_29 : decode cX5_thickness 29 = .ok (.goto 4, 3) := by decide +kernel
theorem dX5_thickness_32 : decode cX5_thickness 32 = .ok (.iconst 0, 1) := by decide +kernel
theorem dX5_thickness_33 : decode cX5_thickness 33 = .ok (.istore_n 3, 1) := by decide +kernel
theorem dX5_thickness_34 : decode cX5_thickness 34 = .ok (.iload_n 3, 1) := by decide +kernel
theorem dX5_thickness_35 : decode cX5_thickness 35 = .ok (.iload_n 1, 1) := by decide +kernel
theorem dX5_thickness_36 : decode cX5_thickness 36 = .ok (.if_icmp .le 7, 3) := by decide +kernel
theorem dX5_thickness_39 : decode cX5_thickness 39 = .ok (.iload_n 3, 1) := by decide +kernel
theorem dX5_thickness_40 : decode cX5_thickness 40 = .ok (.goto 4, 3) := by decide +kernel
theorem dX5_thickness_43 : decode cX5_thickness 43 = .ok (.iload_n 1, 1) := by decide +kernel
theorem dX5_thickness_44 : decode cX5_thickness 44 = .ok (.istore_n 1, 1) := by decide +kernel
theorem dX5_thickness_45 : decode cX5_thickness 45 = .ok (.iinc 2 1, 3) := by decide +kernel
theorem dX5_thickness_48 : decode cX5_thickness 48 = .ok (.goto (-39), 3) := by decide +kernel
theorem dX5_thickness_51 : decode cX5_thickness 51 = .ok (.iload_n 1, 1) := by decide +kernel
theorem dX5_thickness_52 : decode cX5_thickness 52 = .ok (.ireturn, 1) := by decide +kernel
theorem dX5_readable_0 : decode cX5_readable 0 = .ok (.aload_n 0, 1) := by decide +kernel
theorem dX5_readable_1 : decode cX5_readable 1 = .ok (.iconst 0, 1) := by decide +kernel
theorem dX5_readable_2 : decode cX5_readable 2 = .ok (.putfield 45, 3) := by decide +kernel
theorem dX5_readable_5 : decode cX5_readable 5 = .ok (.iconst 0, 1) := by decide +kernel
theorem dX5_readable_6 : decode cX5_readable 6 = .ok (.istore_n 1, 1) := by decide +kernel
theorem dX5_readable_7 : decode cX5_readable 7 = .ok (.iconst 0, 1) := by decide +kernel
theorem dX5_readable_8 : decode cX5_readable 8 = .ok (.istore_n 2, 1) := by decide +kernel
theorem dX5_readable_9 : decode cX5_readable 9 = .ok (.iload_n 2, 1) := by decide +kernel
theorem dX5_readable_10 : decode cX5_readable 10 = .ok (.bipush 36, 2) := by decide +kernel
theorem dX5_readable_12 : decode cX5_readable 12 = .ok (.if_icmp .ge 43, 3) := by decide +kernel
theorem dX5_readable_15 : decode cX5_readable 15 = .ok (.iload_n 1, 1) := by decide +kernel
theorem dX5_readable_16 : decode cX5_readable 16 = .ok (.aload_n 0, 1) := by decide +kernel
theorem dX5_readable_17 : decode cX5_readable 17 = .ok (.iload_n 2, 1) := by decide +kernel
theorem dX5_readable_18 : decode cX5_readable 18 = .ok (.invokevirtual 109, 3) := by decide +kernel
theorem dX5_readable_21 : decode cX5_readable 21 = .ok (.ifCond .eq 25, 3) := by decide +kernel
theorem dX5_readable_24 : decode cX5_readable 24 = .ok (.aload_n 0, 1) := by decide +kernel
theorem dX5_readable_25 : decode cX5_readable 25 = .ok (.getfield 32, 3) := by decide +kernel
theorem dX5_readable_28 : decode cX5_readable 28 = .ok (.iload_n 2, 1) := by decide +kernel
theorem dX5_readable_29 : decode cX5_readable 29 = .ok (.baload, 1) := by decide +kernel
theorem dX5_readable_30 : decode cX5_readable 30 = .ok (.ifCond .eq 16, 3) := by decide +kernel
theorem dX5_readable_33 : decode cX5_readable 33 = .ok (.aload_n 0, 1) := by decide +kernel
theorem dX5_readable_34 : decode cX5_readable 34 = .ok (.iload_n 2, 1) := by decide +kernel
theorem dX5_readable_35 : decode cX5_readable 35 = .ok (.iconst 0, 1) := by decide +kernel
theorem dX5_readable_36 : decode cX5_readable 36 = .ok (.invokevirtual 123, 3) := by decide +kernel
theorem dX5_readable_39 : decode cX5_readable 39 = .ok (.ifCond .ne 7, 3) := by decide +kernel
theorem dX5_readable_42 : decode cX5_readable 42 = .ok (.iconst 1, 1) := by decide +kernel
theorem dX5_readable_43 : decode cX5_readable 43 = .ok (.goto 4, 3) := by decide +kernel
theorem dX5_readable_46 : decode cX5_readable 46 = .ok (.iconst 0, 1) := by decide +kernel
theorem dX5_readable_47 : decode cX5_readable 47 = .ok (.iadd, 1) := by decide +kernel
theorem dX5_readable_48 : decode cX5_readable 48 = .ok (.istore_n 1, 1) := by decide +kernel
theorem dX5_readable_49 : decode cX5_readable 49 = .ok (.iinc 2 1, 3) := by decide +kernel
theorem dX5_readable_52 : decode cX5_readable 52 = .ok (.goto (-43), 3) := by decide +kernel
theorem dX5_readable_55 : decode cX5_readable 55 = .ok (.iload_n 1, 1) := by decide +kernel
theorem dX5_readable_56 : decode cX5_readable 56 = .ok (.ireturn, 1) := by decide +kernel
theorem dJ13_compare_74951_0 : decode cJ13_compare_74951 0 = .ok (.lload_n 0, 1) := by decide +kernel
theorem dJ13_compare_74951_1 : decode cJ13_compare_74951 1 = .ok (.lload_n 2, 1) := by decide +kernel
theorem dJ13_compare_74951_2 : decode cJ13_compare_74951 2 = .ok (.lcmp, 1) := by decide +kernel
theorem dJ13_compare_74951_3 : decode cJ13_compare_74951 3 = .ok (.ifCond .ge 7, 3) := by decide +kernel
theorem dJ13_compare_74951_6 : decode cJ13_compare_74951 6 = .ok (.iconst (-1), 1) := by decide +kernel
theorem dJ13_compare_74951_7 : decode cJ13_compare_74951 7 = .ok (.goto 14, 3) := by decide +kernel
theorem dJ13_compare_74951_10 : decode cJ13_compare_74951 10 = .ok (.lload_n 0, 1) := by decide +kernel
theorem dJ13_compare_74951_11 : decode cJ13_compare_74951 11 = .ok (.lload_n 2, 1) := by decide +kernel
theorem dJ13_compare_74951_12 : decode cJ13_compare_74951 12 = .ok (.lcmp, 1) := by decide +kernel
theorem dJ13_compare_74951_13 : decode cJ13_compare_74951 13 = .ok (.ifCond .ne 7, 3) := by decide +kernel
theorem dJ13_compare_74951_16 : decode cJ13_compare_74951 16 = .ok (.iconst 0, 1) := by decide +kernel
theorem dJ13_compare_74951_17 : decode cJ13_compare_74951 17 = .ok (.goto 4, 3) := by decide +kernel
theorem dJ13_compare_74951_20 : decode cJ13_compare_74951 20 = .ok (.iconst 1, 1) := by decide +kernel
theorem dJ13_compare_74951_21 : decode cJ13_compare_74951 21 = .ok (.ireturn, 1) := by decide +kernel
theorem dJ9_abs_0f7a4_0 : decode cJ9_abs_0f7a4 0 = .ok (.iload_n 0, 1) := by decide +kernel
theorem dJ9_abs_0f7a4_1 : decode cJ9_abs_0f7a4 1 = .ok (.ifCond .ge 8, 3) := by decide +kernel
theorem dJ9_abs_0f7a4_4 : decode cJ9_abs_0f7a4 4 = .ok (.iload_n 0, 1) := by decide +kernel
theorem dJ9_abs_0f7a4_5 : decode cJ9_abs_0f7a4 5 = .ok (.ineg, 1) := by decide +kernel
theorem dJ9_abs_0f7a4_6 : decode cJ9_abs_0f7a4 6 = .ok (.goto 4, 3) := by decide +kernel
theorem dJ9_abs_0f7a4_9 : decode cJ9_abs_0f7a4 9 = .ok (.iload_n 0, 1) := by decide +kernel
theorem dJ9_abs_0f7a4_10 : decode cJ9_abs_0f7a4 10 = .ok (.ireturn, 1) := by decide +kernel
theorem dJ9_max_7cf53_0 : decode cJ9_max_7cf53 0 = .ok (.iload_n 0, 1) := by decide +kernel
theorem dJ9_max_7cf53_1 : decode cJ9_max_7cf53 1 = .ok (.iload_n 1, 1) := by decide +kernel
theorem dJ9_max_7cf53_2 : decode cJ9_max_7cf53 2 = .ok (.if_icmp .lt 7, 3) := by decide +kernel
theorem dJ9_max_7cf53_5 : decode cJ9_max_7cf53 5 = .ok (.iload_n 0, 1) := by decide +kernel
theorem dJ9_max_7cf53_6 : decode cJ9_max_7cf53 6 = .ok (.goto 4, 3) := by decide +kernel
theorem dJ9_max_7cf53_9 : decode cJ9_max_7cf53 9 = .ok (.iload_n 1, 1) := by decide +kernel
theorem dJ9_max_7cf53_10 : decode cJ9_max_7cf53 10 = .ok (.ireturn, 1) := by decide +kernel
theorem dJ9_min_7cf53_0 : decode cJ9_min_7cf53 0 = .ok (.iload_n 0, 1) := by decide +kernel
theorem dJ9_min_7cf53_1 : decode cJ9_min_7cf53 1 = .ok (.iload_n 1, 1) := by decide +kernel
theorem dJ9_min_7cf53_2 : decode cJ9_min_7cf53 2 = .ok (.if_icmp .gt 7, 3) := by decide +kernel
theorem dJ9_min_7cf53_5 : decode cJ9_min_7cf53 5 = .ok (.iload_n 0, 1) := by decide +kernel
theorem dJ9_min_7cf53_6 : decode cJ9_min_7cf53 6 = .ok (.goto 4, 3) := by decide +kernel
theorem dJ9_min_7cf53_9 : decode cJ9_min_7cf53 9 = .ok (.iload_n 1, 1) := by decide +kernel
theorem dJ9_min_7cf53_10 : decode cJ9_min_7cf53 10 = .ok (.ireturn, 1) := by decide +kernel
theorem dL_table_0 : decode cL_table 0 = .ok (.aload_n 0, 1) := by decide +kernel
theorem dL_table_1 : decode cL_table 1 = .ok (.iload_n 1, 1) := by decide +kernel
theorem dL_table_2 : decode cL_table 2 = .ok (.iload_n 2, 1) := by decide +kernel
theorem dL_table_3 : decode cL_table 3 = .ok (.iload_n 3, 1) := by decide +kernel
theorem dL_table_4 : decode cL_table 4 = .ok (.invokevirtual 7, 3) := by decide +kernel
theorem dL_table_7 : decode cL_table 7 = .ok (.goto 15, 3) := by decide +kernel
theorem dL_table_10 : decode cL_table 10 = .ok (.astore 4, 2) := by decide +kernel
theorem dL_table_12 : decode cL_table 12 = .ok (.iconst 1, 1) := by decide +kernel
theorem dL_table_13 : decode cL_table 13 = .ok (.ireturn, 1) := by decide +kernel
theorem dL_table_14 : decode cL_table 14 = .ok (.astore 4, 2) := by decide +kernel
theorem dL_table_16 : decode cL_table 16 = .ok (.iconst 2, 1) := by decide +kernel
theorem dL_table_17 : decode cL_table 17 = .ok (.ireturn, 1) := by decide +kernel
theorem dL_table_18 : decode cL_table 18 = .ok (.astore 4, 2) := by decide +kernel
theorem dL_table_20 : decode cL_table 20 = .ok (.iconst 3, 1) := by decide +kernel
theorem dL_table_21 : decode cL_table 21 = .ok (.ireturn, 1) := by decide +kernel
theorem dL_table_22 : decode cL_table 22 = .ok (.iconst 0, 1) := by decide +kernel
theorem dL_table_23 : decode cL_table 23 = .ok (.ireturn, 1) := by decide +kernel
theorem dL_x_0 : decode cL_x 0 = .ok (.aload_n 3, 1) := by decide +kernel
theorem dL_x_1 : decode cL_x 1 = .ok (.iconst 0, 1) := by decide +kernel
theorem dL_x_2 : decode cL_x 2 = .ok (.aload_n 0, 1) := by decide +kernel
theorem dL_x_3 : decode cL_x 3 = .ok (.iload_n 1, 1) := by decide +kernel
theorem dL_x_4 : decode cL_x 4 = .ok (.iload_n 2, 1) := by decide +kernel
theorem dL_x_5 : decode cL_x 5 = .ok (.invokevirtual 19, 3) := by decide +kernel
theorem dL_x_8 : decode cL_x 8 = .ok (.i2l, 1) := by decide +kernel
theorem dL_x_9 : decode cL_x 9 = .ok (.lastore, 1) := by decide +kernel
theorem dL_x_10 : decode cL_x 10 = .ok (.goto 7, 3) := by decide +kernel
theorem dL_x_13 : decode cL_x 13 = .ok (.astore 4, 2) := by decide +kernel
theorem dL_x_15 : decode cL_x 15 = .ok (.iconst 1, 1) := by decide +kernel
theorem dL_x_16 : decode cL_x 16 = .ok (.ireturn, 1) := by decide +kernel
theorem dL_x_17 : decode cL_x 17 = .ok (.iconst 0, 1) := by decide +kernel
theorem dL_x_18 : decode cL_x 18 = .ok (.ireturn, 1) := by decide +kernel
theorem dL_y_0 : decode cL_y 0 = .ok (.aload_n 2, 1) := by decide +kernel
theorem dL_y_1 : decode cL_y 1 = .ok (.iconst 0, 1) := by decide +kernel
theorem dL_y_2 : decode cL_y 2 = .ok (.aload_n 0, 1) := by decide +kernel
theorem dL_y_3 : decode cL_y 3 = .ok (.iload_n 1, 1) := by decide +kernel
theorem dL_y_4 : decode cL_y 4 = .ok (.invokevirtual 23, 3) := by decide +kernel
theorem dL_y_7 : decode cL_y 7 = .ok (.i2l, 1) := by decide +kernel
theorem dL_y_8 : decode cL_y 8 = .ok (.lastore, 1) := by decide +kernel
theorem dL_y_9 : decode cL_y 9 = .ok (.goto 6, 3) := by decide +kernel
theorem dL_y_12 : decode cL_y 12 = .ok (.astore_n 3, 1) := by decide +kernel
theorem dL_y_13 : decode cL_y 13 = .ok (.iconst 1, 1) := by decide +kernel
theorem dL_y_14 : decode cL_y 14 = .ok (.ireturn, 1) := by decide +kernel
theorem dL_y_15 : decode cL_y 15 = .ok (.iconst 0, 1) := by decide +kernel
theorem dL_y_16 : decode cL_y 16 = .ok (.ireturn, 1) := by decide +kernel
theorem dL_latitudeAt_0 : decode cL_latitudeAt 0 = .ok (.aload_n 2, 1) := by decide +kernel
theorem dL_latitudeAt_1 : decode cL_latitudeAt 1 = .ok (.iconst 0, 1) := by decide +kernel
theorem dL_latitudeAt_2 : decode cL_latitudeAt 2 = .ok (.aload_n 0, 1) := by decide +kernel
theorem dL_latitudeAt_3 : decode cL_latitudeAt 3 = .ok (.iload_n 1, 1) := by decide +kernel
theorem dL_latitudeAt_4 : decode cL_latitudeAt 4 = .ok (.invokevirtual 27, 3) := by decide +kernel
theorem dL_latitudeAt_7 : decode cL_latitudeAt 7 = .ok (.i2l, 1) := by decide +kernel
theorem dL_latitudeAt_8 : decode cL_latitudeAt 8 = .ok (.lastore, 1) := by decide +kernel
theorem dL_latitudeAt_9 : decode cL_latitudeAt 9 = .ok (.goto 9, 3) := by decide +kernel
theorem dL_latitudeAt_12 : decode cL_latitudeAt 12 = .ok (.astore_n 3, 1) := by decide +kernel
theorem dL_latitudeAt_13 : decode cL_latitudeAt 13 = .ok (.iconst 1, 1) := by decide +kernel
theorem dL_latitudeAt_14 : decode cL_latitudeAt 14 = .ok (.ireturn, 1) := by decide +kernel
theorem dL_latitudeAt_15 : decode cL_latitudeAt 15 = .ok (.astore_n 3, 1) := by decide +kernel
theorem dL_latitudeAt_16 : decode cL_latitudeAt 16 = .ok (.iconst 2, 1) := by decide +kernel
theorem dL_latitudeAt_17 : decode cL_latitudeAt 17 = .ok (.ireturn, 1) := by decide +kernel
theorem dL_latitudeAt_18 : decode cL_latitudeAt 18 = .ok (.iconst 0, 1) := by decide +kernel
theorem dL_latitudeAt_19 : decode cL_latitudeAt 19 = .ok (.ireturn, 1) := by decide +kernel
theorem dL_area_0 : decode cL_area 0 = .ok (.aload 5, 2) := by decide +kernel
theorem dL_area_2 : decode cL_area 2 = .ok (.iconst 0, 1) := by decide +kernel
theorem dL_area_3 : decode cL_area 3 = .ok (.aload_n 0, 1) := by decide +kernel
theorem dL_area_4 : decode cL_area 4 = .ok (.iload_n 1, 1) := by decide +kernel
theorem dL_area_5 : decode cL_area 5 = .ok (.iload_n 2, 1) := by decide +kernel
theorem dL_area_6 : decode cL_area 6 = .ok (.iload_n 3, 1) := by decide +kernel
theorem dL_area_7 : decode cL_area 7 = .ok (.iload 4, 2) := by decide +kernel
theorem dL_area_9 : decode cL_area 9 = .ok (.invokevirtual 30, 3) := by decide +kernel
theorem dL_area_12 : decode cL_area 12 = .ok (.lastore, 1) := by decide +kernel
theorem dL_area_13 : decode cL_area 13 = .ok (.goto 7, 3) := by decide +kernel
theorem dL_area_16 : decode cL_area 16 = .ok (.astore 6, 2) := by decide +kernel
theorem dL_area_18 : decode cL_area 18 = .ok (.iconst 1, 1) := by decide +kernel
theorem dL_area_19 : decode cL_area 19 = .ok (.ireturn, 1) := by decide +kernel
theorem dL_area_20 : decode cL_area 20 = .ok (.iconst 0, 1) := by decide +kernel
theorem dL_area_21 : decode cL_area 21 = .ok (.ireturn, 1) := by decide +kernel
theorem dL_areaByCells_0 : decode cL_areaByCells 0 = .ok (.aload 5, 2) := by decide +kernel
theorem dL_areaByCells_2 : decode cL_areaByCells 2 = .ok (.iconst 0, 1) := by decide +kernel
theorem dL_areaByCells_3 : decode cL_areaByCells 3 = .ok (.aload_n 0, 1) := by decide +kernel
theorem dL_areaByCells_4 : decode cL_areaByCells 4 = .ok (.iload_n 1, 1) := by decide +kernel
theorem dL_areaByCells_5 : decode cL_areaByCells 5 = .ok (.iload_n 2, 1) := by decide +kernel
theorem dL_areaByCells_6 : decode cL_areaByCells 6 = .ok (.iload_n 3, 1) := by decide +kernel
theorem dL_areaByCells_7 : decode cL_areaByCells 7 = .ok (.iload 4, 2) := by decide +kernel
theorem dL_areaByCells_9 : decode cL_areaByCells 9 = .ok (.invokevirtual 34, 3) := by decide +kernel
theorem dL_areaByCells_12 : decode cL_areaByCells 12 = .ok (.lastore, 1) := by decide +kernel
theorem dL_areaByCells_13 : decode cL_areaByCells 13 = .ok (.goto 7, 3) := by decide +kernel
theorem dL_areaByCells_16 : decode cL_areaByCells 16 = .ok (.astore 6, 2) := by decide +kernel
theorem dL_areaByCells_18 : decode cL_areaByCells 18 = .ok (.iconst 1, 1) := by decide +kernel
theorem dL_areaByCells_19 : decode cL_areaByCells 19 = .ok (.ireturn, 1) := by decide +kernel
theorem dL_areaByCells_20 : decode cL_areaByCells 20 = .ok (.iconst 0, 1) := by decide +kernel
theorem dL_areaByCells_21 : decode cL_areaByCells 21 = .ok (.ireturn, 1) := by decide +kernel
theorem dL_truth_0 : decode cL_truth 0 = .ok (.aload_n 3, 1) := by decide +kernel
theorem dL_truth_1 : decode cL_truth 1 = .ok (.iconst 0, 1) := by decide +kernel
theorem dL_truth_2 : decode cL_truth 2 = .ok (.aload_n 0, 1) := by decide +kernel
theorem dL_truth_3 : decode cL_truth 3 = .ok (.iload_n 1, 1) := by decide +kernel
theorem dL_truth_4 : decode cL_truth 4 = .ok (.iload_n 2, 1) := by decide +kernel
theorem dL_truth_5 : decode cL_truth 5 = .ok (.invokevirtual 37, 3) := by decide +kernel
theorem dL_truth_8 : decode cL_truth 8 = .ok (.i2l, 1) := by decide +kernel
theorem dL_truth_9 : decode cL_truth 9 = .ok (.lastore, 1) := by decide +kernel
theorem dL_truth_10 : decode cL_truth 10 = .ok (.goto 11, 3) := by decide +kernel
theorem dL_truth_13 : decode cL_truth 13 = .ok (.astore 4, 2) := by decide +kernel
theorem dL_truth_15 : decode cL_truth 15 = .ok (.iconst 1, 1) := by decide +kernel
theorem dL_truth_16 : decode cL_truth 16 = .ok (.ireturn, 1) := by decide +kernel
theorem dL_truth_17 : decode cL_truth 17 = .ok (.astore 4, 2) := by decide +kernel
theorem dL_truth_19 : decode cL_truth 19 = .ok (.iconst 2, 1) := by decide +kernel
theorem dL_truth_20 : decode cL_truth 20 = .ok (.ireturn, 1) := by decide +kernel
theorem dL_truth_21 : decode cL_truth 21 = .ok (.iconst 0, 1) := by decide +kernel
theorem dL_truth_22 : decode cL_truth 22 = .ok (.ireturn, 1) := by decide +kernel
theorem dL_stretch_0 : decode cL_stretch 0 = .ok (.aload_n 2, 1) := by decide +kernel
theorem dL_stretch_1 : decode cL_stretch 1 = .ok (.iconst 0, 1) := by decide +kernel
theorem dL_stretch_2 : decode cL_stretch 2 = .ok (.aload_n 0, 1) := by decide +kernel
theorem dL_stretch_3 : decode cL_stretch 3 = .ok (.iload_n 1, 1) := by decide +kernel
theorem dL_stretch_4 : decode cL_stretch 4 = .ok (.invokevirtual 40, 3) := by decide +kernel
theorem dL_stretch_7 : decode cL_stretch 7 = .ok (.f2d, 1) := by decide +kernel
theorem dL_stretch_8 : decode cL_stretch 8 = .ok (.dastore, 1) := by decide +kernel
theorem dL_stretch_9 : decode cL_stretch 9 = .ok (.goto 6, 3) := by decide +kernel
theorem dL_stretch_12 : decode cL_stretch 12 = .ok (.astore_n 3, 1) := by decide +kernel
theorem dL_stretch_13 : decode cL_stretch 13 = .ok (.iconst 1, 1) := by decide +kernel
theorem dL_stretch_14 : decode cL_stretch 14 = .ok (.ireturn, 1) := by decide +kernel
theorem dL_stretch_15 : decode cL_stretch 15 = .ok (.iconst 0, 1) := by decide +kernel
theorem dL_stretch_16 : decode cL_stretch 16 = .ok (.ireturn, 1) := by decide +kernel
theorem dL_apart_0 : decode cL_apart 0 = .ok (.aload_n 3, 1) := by decide +kernel
theorem dL_apart_1 : decode cL_apart 1 = .ok (.iconst 0, 1) := by decide +kernel
theorem dL_apart_2 : decode cL_apart 2 = .ok (.aload_n 0, 1) := by decide +kernel
theorem dL_apart_3 : decode cL_apart 3 = .ok (.iload_n 1, 1) := by decide +kernel
theorem dL_apart_4 : decode cL_apart 4 = .ok (.iload_n 2, 1) := by decide +kernel
theorem dL_apart_5 : decode cL_apart 5 = .ok (.invokevirtual 44, 3) := by decide +kernel
theorem dL_apart_8 : decode cL_apart 8 = .ok (.i2l, 1) := by decide +kernel
theorem dL_apart_9 : decode cL_apart 9 = .ok (.lastore, 1) := by decide +kernel
theorem dL_apart_10 : decode cL_apart 10 = .ok (.goto 7, 3) := by decide +kernel
theorem dL_apart_13 : decode cL_apart 13 = .ok (.astore 4, 2) := by decide +kernel
theorem dL_apart_15 : decode cL_apart 15 = .ok (.iconst 1, 1) := by decide +kernel
theorem dL_apart_16 : decode cL_apart 16 = .ok (.ireturn, 1) := by decide +kernel
theorem dL_apart_17 : decode cL_apart 17 = .ok (.iconst 0, 1) := by decide +kernel
theorem dL_apart_18 : decode cL_apart 18 = .ok (.ireturn, 1) := by decide +kernel
theorem dL_ringWay_0 : decode cL_ringWay 0 = .ok (.aload 4, 2) := by decide +kernel
theorem dL_ringWay_2 : decode cL_ringWay 2 = .ok (.iconst 0, 1) := by decide +kernel
theorem dL_ringWay_3 : decode cL_ringWay 3 = .ok (.aload_n 0, 1) := by decide +kernel
theorem dL_ringWay_4 : decode cL_ringWay 4 = .ok (.iload_n 1, 1) := by decide +kernel
theorem dL_ringWay_5 : decode cL_ringWay 5 = .ok (.iload_n 2, 1) := by decide +kernel
theorem dL_ringWay_6 : decode cL_ringWay 6 = .ok (.iload_n 3, 1) := by decide +kernel
theorem dL_ringWay_7 : decode cL_ringWay 7 = .ok (.invokevirtual 47, 3) := by decide +kernel
theorem dL_ringWay_10 : decode cL_ringWay 10 = .ok (.i2l, 1) := by decide +kernel
theorem dL_ringWay_11 : decode cL_ringWay 11 = .ok (.lastore, 1) := by decide +kernel
theorem dL_ringWay_12 : decode cL_ringWay 12 = .ok (.goto 7, 3) := by decide +kernel
theorem dL_ringWay_15 : decode cL_ringWay 15 = .ok (.astore 5, 2) := by decide +kernel
theorem dL_ringWay_17 : decode cL_ringWay 17 = .ok (.iconst 1, 1) := by decide +kernel
theorem dL_ringWay_18 : decode cL_ringWay 18 = .ok (.ireturn, 1) := by decide +kernel
theorem dL_ringWay_19 : decode cL_ringWay 19 = .ok (.iconst 0, 1) := by decide +kernel
theorem dL_ringWay_20 : decode cL_ringWay 20 = .ok (.ireturn, 1) := by decide +kernel
theorem dL_zones_0 : decode cL_zones 0 = .ok (.aload_n 2, 1) := by decide +kernel
theorem dL_zones_1 : decode cL_zones 1 = .ok (.iconst 0, 1) := by decide +kernel
theorem dL_zones_2 : decode cL_zones 2 = .ok (.aload_n 0, 1) := by decide +kernel
theorem dL_zones_3 : decode cL_zones 3 = .ok (.iload_n 1, 1) := by decide +kernel
theorem dL_zones_4 : decode cL_zones 4 = .ok (.invokevirtual 51, 3) := by decide +kernel
theorem dL_zones_7 : decode cL_zones 7 = .ok (.i2l, 1) := by decide +kernel
theorem dL_zones_8 : decode cL_zones 8 = .ok (.lastore, 1) := by decide +kernel
theorem dL_zones_9 : decode cL_zones 9 = .ok (.goto 6, 3) := by decide +kernel
theorem dL_zones_12 : decode cL_zones 12 = .ok (.astore_n 3, 1) := by decide +kernel
theorem dL_zones_13 : decode cL_zones 13 = .ok (.iconst 1, 1) := by decide +kernel
theorem dL_zones_14 : decode cL_zones 14 = .ok (.ireturn, 1) := by decide +kernel
theorem dL_zones_15 : decode cL_zones 15 = .ok (.iconst 0, 1) := by decide +kernel
theorem dL_zones_16 : decode cL_zones 16 = .ok (.ireturn, 1) := by decide +kernel
theorem dL_zone_0 : decode cL_zone 0 = .ok (.aload_n 2, 1) := by decide +kernel
theorem dL_zone_1 : decode cL_zone 1 = .ok (.iconst 0, 1) := by decide +kernel
theorem dL_zone_2 : decode cL_zone 2 = .ok (.aload_n 0, 1) := by decide +kernel
theorem dL_zone_3 : decode cL_zone 3 = .ok (.iload_n 1, 1) := by decide +kernel
theorem dL_zone_4 : decode cL_zone 4 = .ok (.invokevirtual 54, 3) := by decide +kernel
theorem dL_zone_7 : decode cL_zone 7 = .ok (.i2l, 1) := by decide +kernel
theorem dL_zone_8 : decode cL_zone 8 = .ok (.lastore, 1) := by decide +kernel
theorem dL_zone_9 : decode cL_zone 9 = .ok (.goto 6, 3) := by decide +kernel
theorem dL_zone_12 : decode cL_zone 12 = .ok (.astore_n 3, 1) := by decide +kernel
theorem dL_zone_13 : decode cL_zone 13 = .ok (.iconst 1, 1) := by decide +kernel
theorem dL_zone_14 : decode cL_zone 14 = .ok (.ireturn, 1) := by decide +kernel
theorem dL_zone_15 : decode cL_zone 15 = .ok (.iconst 0, 1) := by decide +kernel
theorem dL_zone_16 : decode cL_zone 16 = .ok (.ireturn, 1) := by decide +kernel
theorem dL_seams_0 : decode cL_seams 0 = .ok (.aload_n 3, 1) := by decide +kernel
theorem dL_seams_1 : decode cL_seams 1 = .ok (.iconst 0, 1) := by decide +kernel
theorem dL_seams_2 : decode cL_seams 2 = .ok (.aload_n 0, 1) := by decide +kernel
theorem dL_seams_3 : decode cL_seams 3 = .ok (.iload_n 1, 1) := by decide +kernel
theorem dL_seams_4 : decode cL_seams 4 = .ok (.iload_n 2, 1) := by decide +kernel
theorem dL_seams_5 : decode cL_seams 5 = .ok (.invokevirtual 57, 3) := by decide +kernel
theorem dL_seams_8 : decode cL_seams 8 = .ok (.i2l, 1) := by decide +kernel
theorem dL_seams_9 : decode cL_seams 9 = .ok (.lastore, 1) := by decide +kernel
theorem dL_seams_10 : decode cL_seams 10 = .ok (.goto 7, 3) := by decide +kernel
theorem dL_seams_13 : decode cL_seams 13 = .ok (.astore 4, 2) := by decide +kernel
theorem dL_seams_15 : decode cL_seams 15 = .ok (.iconst 1, 1) := by decide +kernel
theorem dL_seams_16 : decode cL_seams 16 = .ok (.ireturn, 1) := by decide +kernel
theorem dL_seams_17 : decode cL_seams 17 = .ok (.iconst 0, 1) := by decide +kernel
theorem dL_seams_18 : decode cL_seams 18 = .ok (.ireturn, 1) := by decide +kernel
theorem dL_dateLine_0 : decode cL_dateLine 0 = .ok (.aload_n 3, 1) := by decide +kernel
theorem dL_dateLine_1 : decode cL_dateLine 1 = .ok (.iconst 0, 1) := by decide +kernel
theorem dL_dateLine_2 : decode cL_dateLine 2 = .ok (.aload_n 0, 1) := by decide +kernel
theorem dL_dateLine_3 : decode cL_dateLine 3 = .ok (.iload_n 1, 1) := by decide +kernel
theorem dL_dateLine_4 : decode cL_dateLine 4 = .ok (.iload_n 2, 1) := by decide +kernel
theorem dL_dateLine_5 : decode cL_dateLine 5 = .ok (.invokevirtual 60, 3) := by decide +kernel
theorem dL_dateLine_8 : decode cL_dateLine 8 = .ok (.i2l, 1) := by decide +kernel
theorem dL_dateLine_9 : decode cL_dateLine 9 = .ok (.lastore, 1) := by decide +kernel
theorem dL_dateLine_10 : decode cL_dateLine 10 = .ok (.goto 7, 3) := by decide +kernel
theorem dL_dateLine_13 : decode cL_dateLine 13 = .ok (.astore 4, 2) := by decide +kernel
theorem dL_dateLine_15 : decode cL_dateLine 15 = .ok (.iconst 1, 1) := by decide +kernel
theorem dL_dateLine_16 : decode cL_dateLine 16 = .ok (.ireturn, 1) := by decide +kernel
theorem dL_dateLine_17 : decode cL_dateLine 17 = .ok (.iconst 0, 1) := by decide +kernel
theorem dL_dateLine_18 : decode cL_dateLine 18 = .ok (.ireturn, 1) := by decide +kernel
theorem dL_sheet_0 : decode cL_sheet 0 = .ok (.aload_n 0, 1) := by decide +kernel
theorem dL_sheet_1 : decode cL_sheet 1 = .ok (.iload_n 1, 1) := by decide +kernel
theorem dL_sheet_2 : decode cL_sheet 2 = .ok (.iload_n 2, 1) := by decide +kernel
theorem dL_sheet_3 : decode cL_sheet 3 = .ok (.invokevirtual 63, 3) := by decide +kernel
theorem dL_sheet_6 : decode cL_sheet 6 = .ok (.goto 6, 3) := by decide +kernel
theorem dL_sheet_9 : decode cL_sheet 9 = .ok (.astore_n 3, 1) := by decide +kernel
theorem dL_sheet_10 : decode cL_sheet 10 = .ok (.iconst 1, 1) := by decide +kernel
theorem dL_sheet_11 : decode cL_sheet 11 = .ok (.ireturn, 1) := by decide +kernel
theorem dL_sheet_12 : decode cL_sheet 12 = .ok (.iconst 0, 1) := by decide +kernel
theorem dL_sheet_13 : decode cL_sheet 13 = .ok (.ireturn, 1) := by decide +kernel
theorem dL_foldColumns_0 : decode cL_foldColumns 0 = .ok (.aload_n 2, 1) := by decide +kernel
theorem dL_foldColumns_1 : decode cL_foldColumns 1 = .ok (.iconst 0, 1) := by decide +kernel
theorem dL_foldColumns_2 : decode cL_foldColumns 2 = .ok (.aload_n 0, 1) := by decide +kernel
theorem dL_foldColumns_3 : decode cL_foldColumns 3 = .ok (.iload_n 1, 1) := by decide +kernel
theorem dL_foldColumns_4 : decode cL_foldColumns 4 = .ok (.invokevirtual 67, 3) := by decide +kernel
theorem dL_foldColumns_7 : decode cL_foldColumns 7 = .ok (.i2l, 1) := by decide +kernel
theorem dL_foldColumns_8 : decode cL_foldColumns 8 = .ok (.lastore, 1) := by decide +kernel
theorem dL_foldColumns_9 : decode cL_foldColumns 9 = .ok (.goto 6, 3) := by decide +kernel
theorem dL_foldColumns_12 : decode cL_foldColumns 12 = .ok (.astore_n 3, 1) := by decide +kernel
theorem dL_foldColumns_13 : decode cL_foldColumns 13 = .ok (.iconst 1, 1) := by decide +kernel
theorem dL_foldColumns_14 : decode cL_foldColumns 14 = .ok (.ireturn, 1) := by decide +kernel
theorem dL_foldColumns_15 : decode cL_foldColumns 15 = .ok (.iconst 0, 1) := by decide +kernel
theorem dL_foldColumns_16 : decode cL_foldColumns 16 = .ok (.ireturn, 1) := by decide +kernel
theorem dL_foldRows_0 : decode cL_foldRows 0 = .ok (.aload_n 2, 1) := by decide +kernel
theorem dL_foldRows_1 : decode cL_foldRows 1 = .ok (.iconst 0, 1) := by decide +kernel
theorem dL_foldRows_2 : decode cL_foldRows 2 = .ok (.aload_n 0, 1) := by decide +kernel
theorem dL_foldRows_3 : decode cL_foldRows 3 = .ok (.iload_n 1, 1) := by decide +kernel
theorem dL_foldRows_4 : decode cL_foldRows 4 = .ok (.invokevirtual 70, 3) := by decide +kernel
theorem dL_foldRows_7 : decode cL_foldRows 7 = .ok (.i2l, 1) := by decide +kernel
theorem dL_foldRows_8 : decode cL_foldRows 8 = .ok (.lastore, 1) := by decide +kernel
theorem dL_foldRows_9 : decode cL_foldRows 9 = .ok (.goto 6, 3) := by decide +kernel
theorem dL_foldRows_12 : decode cL_foldRows 12 = .ok (.astore_n 3, 1) := by decide +kernel
theorem dL_foldRows_13 : decode cL_foldRows 13 = .ok (.iconst 1, 1) := by decide +kernel
theorem dL_foldRows_14 : decode cL_foldRows 14 = .ok (.ireturn, 1) := by decide +kernel
theorem dL_foldRows_15 : decode cL_foldRows 15 = .ok (.iconst 0, 1) := by decide +kernel
theorem dL_foldRows_16 : decode cL_foldRows 16 = .ok (.ireturn, 1) := by decide +kernel
theorem dL_panel_0 : decode cL_panel 0 = .ok (.aload_n 3, 1) := by decide +kernel
theorem dL_panel_1 : decode cL_panel 1 = .ok (.iconst 0, 1) := by decide +kernel
theorem dL_panel_2 : decode cL_panel 2 = .ok (.aload_n 0, 1) := by decide +kernel
theorem dL_panel_3 : decode cL_panel 3 = .ok (.iload_n 1, 1) := by decide +kernel
theorem dL_panel_4 : decode cL_panel 4 = .ok (.iload_n 2, 1) := by decide +kernel
theorem dL_panel_5 : decode cL_panel 5 = .ok (.invokevirtual 73, 3) := by decide +kernel
theorem dL_panel_8 : decode cL_panel 8 = .ok (.i2l, 1) := by decide +kernel
theorem dL_panel_9 : decode cL_panel 9 = .ok (.lastore, 1) := by decide +kernel
theorem dL_panel_10 : decode cL_panel 10 = .ok (.goto 7, 3) := by decide +kernel
theorem dL_panel_13 : decode cL_panel 13 = .ok (.astore 4, 2) := by decide +kernel
theorem dL_panel_15 : decode cL_panel 15 = .ok (.iconst 1, 1) := by decide +kernel
theorem dL_panel_16 : decode cL_panel 16 = .ok (.ireturn, 1) := by decide +kernel
theorem dL_panel_17 : decode cL_panel 17 = .ok (.iconst 0, 1) := by decide +kernel
theorem dL_panel_18 : decode cL_panel 18 = .ok (.ireturn, 1) := by decide +kernel
theorem dL_placeX_0 : decode cL_placeX 0 = .ok (.aload_n 3, 1) := by decide +kernel
theorem dL_placeX_1 : decode cL_placeX 1 = .ok (.iconst 0, 1) := by decide +kernel
theorem dL_placeX_2 : decode cL_placeX 2 = .ok (.aload_n 0, 1) := by decide +kernel
theorem dL_placeX_3 : decode cL_placeX 3 = .ok (.iload_n 1, 1) := by decide +kernel
theorem dL_placeX_4 : decode cL_placeX 4 = .ok (.iload_n 2, 1) := by decide +kernel
theorem dL_placeX_5 : decode cL_placeX 5 = .ok (.invokevirtual 76, 3) := by decide +kernel
theorem dL_placeX_8 : decode cL_placeX 8 = .ok (.i2l, 1) := by decide +kernel
theorem dL_placeX_9 : decode cL_placeX 9 = .ok (.lastore, 1) := by decide +kernel
theorem dL_placeX_10 : decode cL_placeX 10 = .ok (.goto 7, 3) := by decide +kernel
theorem dL_placeX_13 : decode cL_placeX 13 = .ok (.astore 4, 2) := by decide +kernel
theorem dL_placeX_15 : decode cL_placeX 15 = .ok (.iconst 1, 1) := by decide +kernel
theorem dL_placeX_16 : decode cL_placeX 16 = .ok (.ireturn, 1) := by decide +kernel
theorem dL_placeX_17 : decode cL_placeX 17 = .ok (.iconst 0, 1) := by decide +kernel
theorem dL_placeX_18 : decode cL_placeX 18 = .ok (.ireturn, 1) := by decide +kernel
theorem dL_placeY_0 : decode cL_placeY 0 = .ok (.aload_n 3, 1) := by decide +kernel
theorem dL_placeY_1 : decode cL_placeY 1 = .ok (.iconst 0, 1) := by decide +kernel
theorem dL_placeY_2 : decode cL_placeY 2 = .ok (.aload_n 0, 1) := by decide +kernel
theorem dL_placeY_3 : decode cL_placeY 3 = .ok (.iload_n 1, 1) := by decide +kernel
theorem dL_placeY_4 : decode cL_placeY 4 = .ok (.iload_n 2, 1) := by decide +kernel
theorem dL_placeY_5 : decode cL_placeY 5 = .ok (.invokevirtual 79, 3) := by decide +kernel
theorem dL_placeY_8 : decode cL_placeY 8 = .ok (.i2l, 1) := by decide +kernel
theorem dL_placeY_9 : decode cL_placeY 9 = .ok (.lastore, 1) := by decide +kernel
theorem dL_placeY_10 : decode cL_placeY 10 = .ok (.goto 7, 3) := by decide +kernel
theorem dL_placeY_13 : decode cL_placeY 13 = .ok (.astore 4, 2) := by decide +kernel
theorem dL_placeY_15 : decode cL_placeY 15 = .ok (.iconst 1, 1) := by decide +kernel
theorem dL_placeY_16 : decode cL_placeY 16 = .ok (.ireturn, 1) := by decide +kernel
theorem dL_placeY_17 : decode cL_placeY 17 = .ok (.iconst 0, 1) := by decide +kernel
theorem dL_placeY_18 : decode cL_placeY 18 = .ok (.ireturn, 1) := by decide +kernel
theorem dL_above_0 : decode cL_above 0 = .ok (.aload_n 3, 1) := by decide +kernel
theorem dL_above_1 : decode cL_above 1 = .ok (.iconst 0, 1) := by decide +kernel
theorem dL_above_2 : decode cL_above 2 = .ok (.aload_n 0, 1) := by decide +kernel
theorem dL_above_3 : decode cL_above 3 = .ok (.iload_n 1, 1) := by decide +kernel
theorem dL_above_4 : decode cL_above 4 = .ok (.iload_n 2, 1) := by decide +kernel
theorem dL_above_5 : decode cL_above 5 = .ok (.invokevirtual 82, 3) := by decide +kernel
theorem dL_above_8 : decode cL_above 8 = .ok (.i2l, 1) := by decide +kernel
theorem dL_above_9 : decode cL_above 9 = .ok (.lastore, 1) := by decide +kernel
theorem dL_above_10 : decode cL_above 10 = .ok (.goto 7, 3) := by decide +kernel
theorem dL_above_13 : decode cL_above 13 = .ok (.astore 4, 2) := by decide +kernel
theorem dL_above_15 : decode cL_above 15 = .ok (.iconst 1, 1) := by decide +kernel
theorem dL_above_16 : decode cL_above 16 = .ok (.ireturn, 1) := by decide +kernel
theorem dL_above_17 : decode cL_above 17 = .ok (.iconst 0, 1) := by decide +kernel
theorem dL_above_18 : decode cL_above 18 = .ok (.ireturn, 1) := by decide +kernel
theorem dL_isUp_0 : decode cL_isUp 0 = .ok (.aload_n 3, 1) := by decide +kernel
theorem dL_isUp_1 : decode cL_isUp 1 = .ok (.iconst 0, 1) := by decide +kernel
theorem dL_isUp_2 : decode cL_isUp 2 = .ok (.aload_n 0, 1) := by decide +kernel
theorem dL_isUp_3 : decode cL_isUp 3 = .ok (.iload_n 1, 1) := by decide +kernel
theorem dL_isUp_4 : decode cL_isUp 4 = .ok (.iload_n 2, 1) := by decide +kernel
theorem dL_isUp_5 : decode cL_isUp 5 = .ok (.invokevirtual 85, 3) := by decide +kernel
theorem dL_isUp_8 : decode cL_isUp 8 = .ok (.ifCond .eq 7, 3) := by decide +kernel
theorem dL_isUp_11 : decode cL_isUp 11 = .ok (.lconst 1, 1) := by decide +kernel
theorem dL_isUp_12 : decode cL_isUp 12 = .ok (.goto 4, 3) := by decide +kernel
theorem dL_isUp_15 : decode cL_isUp 15 = .ok (.lconst 0, 1) := by decide +kernel
theorem dL_isUp_16 : decode cL_isUp 16 = .ok (.lastore, 1) := by decide +kernel
theorem dL_isUp_17 : decode cL_isUp 17 = .ok (.goto 7, 3) := by decide +kernel
theorem dL_isUp_20 : decode cL_isUp 20 = .ok (.astore 4, 2) := by decide +kernel
theorem dL_isUp_22 : decode cL_isUp 22 = .ok (.iconst 1, 1) := by decide +kernel
theorem dL_isUp_23 : decode cL_isUp 23 = .ok (.ireturn, 1) := by decide +kernel
theorem dL_isUp_24 : decode cL_isUp 24 = .ok (.iconst 0, 1) := by decide +kernel
theorem dL_isUp_25 : decode cL_isUp 25 = .ok (.ireturn, 1) := by decide +kernel
end
section
/-! what the contracts share: a pure method's world, a writing method's, the throws' environment -/
abbrev zT (cI cZ cJ cD : ClassId) : List (ClassId × FieldType) := [(cI, .int), (cZ, .boolean), (cJ, .long), (cD, .double)]
def zPre (D : va_G) (cI cZ cJ cD : ClassId) (ws : va_W) (U : State) : Prop := va_P D vwCl ws U.heap ∧ va_K D vwCl (zT cI cZ cJ cD) U
def zPreW (D : va_G) (cI cZ cJ cD : ClassId) (ws : va_W) (sz : Nat) (U : State) : Prop := U.heap.size = sz ∧ va_P D vwCl ws U.heap ∧ va_K D vwCl (zT cI cZ cJ cD) U ∧ va_D (fun _ => True) ws
def zPost (D : va_G) (cI cZ cJ cD : ClassId) (A : Nat → Prop) (ws : va_W) (_ : Unit) (t : State) : Prop := va_P D vwCl ws t.heap ∧ va_K D vwCl (zT cI cZ cJ cD) t ∧ va_D A ws
theorem zk {D : va_G} {cl : List vw_C} {ws : va_W} {H H1 : Heap} (hP : va_P D cl ws H) (hk : ∀ q : Nat, q < H.size → ¬ (fun _ : Nat => False) q → H1[q]? = H[q]?) : va_P D cl ws H1 := hP.kept (fun k q hq => hk q.1 ((hP k q hq).lt) (fun h => h))
theorem zkP {D : va_G} {cl : List vw_C} {ws : va_W} {H H1 : Heap} (hP : va_P D cl ws H) (hk : ∀ q : Nat, q < H.size → H1[q]? = H[q]?) : va_P D cl ws H1 := hP.kept (fun k q hq => hk q.1 ((hP k q hq).lt))
theorem zF {A : Nat → Prop} {s t : State} {H : Heap} {locs : List Loc} (hS : va_S A s.heap H locs) (hz : H.size ≤ t.heap.size) (hk : ∀ q : Nat, q < H.size → t.heap[q]? = H[q]?) : va_F A s t := ⟨Nat.le_trans hS.1 hz, fun q h1 h2 => (hk q (Nat.lt_of_lt_of_le h1 hS.1)).trans (hS.2.1 q h1 h2)⟩
theorem zblind {av : List Value} {D : va_G} {cI cZ cJ cD : ClassId} {ws : va_W} : FrameBlind (va_Pc av (zPre D cI cZ cJ cD ws)) := fun a U g mk h => ⟨h.1, h.2.1, va_K.moved (u := U) (U := U.calling g mk a) (Vm.Alike.refl U.vm) h.2.2⟩
theorem zblindW {av : List Value} {D : va_G} {cI cZ cJ cD : ClassId} {ws : va_W} {sz : Nat} : FrameBlind (va_Pc av (zPreW D cI cZ cJ cD ws sz)) := fun a U g mk h => ⟨h.1, h.2.1, h.2.2.1, va_K.moved (u := U) (U := U.calling g mk a) (Vm.Alike.refl U.vm) h.2.2.2.1, h.2.2.2.2⟩
def zE1 : String := "java/lang/IndexOutOfBoundsException"
def zE2 : String := "java/lang/IllegalArgumentException"
def zE3 : String := "java/lang/IllegalStateException"
def zX (E : String) (k : Nat) : Prop := (E = "java/lang/IndexOutOfBoundsException" ∧ k = 1) ∨ (E = "java/lang/IllegalArgumentException" ∧ k = 2) ∨ (E = "java/lang/IllegalStateException" ∧ k = 3)
theorem zX1 {k : Nat} (h : k = 1) : zX "java/lang/IndexOutOfBoundsException" k := Or.inl ⟨rfl, h⟩
theorem zX2 {k : Nat} (h : k = 2) : zX "java/lang/IllegalArgumentException" k := Or.inr (Or.inl ⟨rfl, h⟩)
theorem zX3 {k : Nat} (h : k = 3) : zX "java/lang/IllegalStateException" k := Or.inr (Or.inr ⟨rfl, h⟩)
theorem zX_ne {E : String} {k : Nat} (h : zX E k) : ¬ k = 0 := by
  rcases h with ⟨-, h⟩ | ⟨-, h⟩ | ⟨-, h⟩ <;> omega
/-- the texts of the class's throws, by their entries -/
def zStrs : List (Nat × String) := [(39, "the table has no such row"), (46, "width or height is out of its range"), (55, "the heights would not rise from 0"), (78, "height is out of its range"), (83, "all of the map is above that place"), (85, "south or north is out of its range"), (87, "west or east is out of its range"), (101, "truth is out of its range"), (122, "breadth does not divide 360"), (136, "columns or rows is out of its range"), (182, "there is no such latitude"), (184, "there is no such longitude"), (186, "there is no such band"), (191, "the sheet has no such column or row"), (193, "there are no panels on one side of the line")]
def zCs : List (String × String) := [("java/lang/IndexOutOfBoundsException", "java/lang/IndexOutOfBoundsException"), ("java/lang/IllegalArgumentException", "java/lang/IllegalArgumentException"), ("java/lang/IllegalStateException", "java/lang/IllegalStateException")]
def zNcs : List (String × String) := [("java/lang/IndexOutOfBoundsException", "java/lang/IllegalArgumentException"), ("java/lang/IndexOutOfBoundsException", "java/lang/IllegalStateException"), ("java/lang/IllegalArgumentException", "java/lang/IndexOutOfBoundsException"), ("java/lang/IllegalArgumentException", "java/lang/IllegalStateException"), ("java/lang/IllegalStateException", "java/lang/IndexOutOfBoundsException"), ("java/lang/IllegalStateException", "java/lang/IllegalArgumentException")]
def zDs : List MethodName := [⟨"java/lang/RuntimeException", "<init>", "(Ljava/lang/String;)V"⟩, ⟨"java/lang/Exception", "<init>", "(Ljava/lang/String;)V"⟩, ⟨"java/lang/Throwable", "<init>", "(Ljava/lang/String;)V"⟩]
def zTab (U : State) : Prop := (∀ q ∈ zStrs, ∃ a : Nat, vk_R RX4 q.1 q.2 a U) ∧ (∀ q ∈ zCs, va_Nw (.castable q.1 q.2) U) ∧ (∀ q ∈ zNcs, va_Nc q.1 q.2 U) ∧ (∀ y ∈ zDs, va_Nw (.declares y) U)
theorem zTab.warm {s U : State} (hW : s.WarmedH U.vm) (h : zTab s) : zTab U := ⟨fun q hq => (h.1 q hq).elim (fun a ha => ⟨a, vk_R.warm hW ha⟩), fun q hq => va_Nw.warmC hW (h.2.1 q hq), fun q hq => va_Nc.moved hW.alike (h.2.2.1 q hq), fun y hy => va_Nw.warmD hW (h.2.2.2 y hy)⟩
theorem zTab.same {u U : State} (hv : U.vm = u.vm) (h : zTab u) : zTab U := ⟨fun q hq => (h.1 q hq).elim (fun a ha => ⟨a, vk_R.same hv ha⟩), fun q hq => va_Nw.same rfl hv.symm (h.2.1 q hq), fun q hq => va_Nc.moved (by rw [hv]; exact Vm.Alike.refl _) (h.2.2.1 q hq), fun y hy => va_Nw.same rfl hv.symm (h.2.2.2 y hy)⟩
def zEnv (A : Nat → Prop) (U : State) (H : Heap) : Prop := vx_Zq Bundle.tN "UNASSIGNED_STACK" Bundle.steD A U H ∧ vx_Zq Bundle.tN "SUPPRESSED_SENTINEL" Bundle.listD A U H ∧ zTab U
theorem zEnv.go {A B : Nat → Prop} {s U : State} {H : Heap} {locs : List Loc} (h : zEnv A s s.heap) (hS : va_S A s.heap H locs) (hAB : ∀ q, B q → A q) (hU : U.heap = H) (hW : s.WarmedH U.vm) : zEnv B U U.heap := by
  rw [hU]
  exact ⟨((h.1.kept (fun a h1 h2 => hS.2.1 a h1 h2)).narrow hAB).moved hW.alike, ((h.2.1.kept (fun a h1 h2 => hS.2.1 a h1 h2)).narrow hAB).moved hW.alike, h.2.2.warm hW⟩
theorem zEnv.str {A : Nat → Prop} {U : State} {H : Heap} (h : zEnv A U H) (k : Nat) (tx : String) (hq : (k, tx) ∈ zStrs) : ∃ sa : Nat, vk_R RX4 k tx sa U := h.2.2.1 (k, tx) hq
def zPreE (D : va_G) (cI cZ cJ cD : ClassId) (ws : va_W) (U : State) : Prop := va_P D vwCl ws U.heap ∧ va_K D vwCl (zT cI cZ cJ cD) U ∧ zEnv (fun _ => False) U U.heap
def zPreWE (D : va_G) (cI cZ cJ cD : ClassId) (ws : va_W) (sz : Nat) (U : State) : Prop := U.heap.size = sz ∧ va_P D vwCl ws U.heap ∧ va_K D vwCl (zT cI cZ cJ cD) U ∧ va_D (fun _ => True) ws ∧ zEnv (va_A ws sz) U U.heap
theorem zEnv.calling {A : Nat → Prop} {U V : State} (hv : V.vm = U.vm) (hh : V.heap = U.heap) (h : zEnv A U U.heap) : zEnv A V V.heap := by
  rw [hh]
  have ha : U.vm.Alike V.vm := by rw [hv]; exact Vm.Alike.refl _
  exact ⟨h.1.moved ha, h.2.1.moved ha, h.2.2.same hv⟩
theorem zblindE {av : List Value} {D : va_G} {cI cZ cJ cD : ClassId} {ws : va_W} : FrameBlind (va_Pc av (zPreE D cI cZ cJ cD ws)) := fun a U g mk h => ⟨h.1, h.2.1, va_K.moved (u := U) (U := U.calling g mk a) (Vm.Alike.refl U.vm) h.2.2.1, h.2.2.2.calling rfl rfl⟩
theorem zblindWE {av : List Value} {D : va_G} {cI cZ cJ cD : ClassId} {ws : va_W} {sz : Nat} : FrameBlind (va_Pc av (zPreWE D cI cZ cJ cD ws sz)) := fun a U g mk h => ⟨h.1, h.2.1, h.2.2.1, va_K.moved (u := U) (U := U.calling g mk a) (Vm.Alike.refl U.vm) h.2.2.2.1, h.2.2.2.2.1, h.2.2.2.2.2.calling rfl rfl⟩
def zBad1 : List Cond := [.declares ⟨"java/lang/RuntimeException", "<init>", "(Ljava/lang/String;)V"⟩, .declares ⟨"java/lang/Exception", "<init>", "(Ljava/lang/String;)V"⟩, .declares ⟨"java/lang/Throwable", "<init>", "(Ljava/lang/String;)V"⟩, .castable "java/lang/IndexOutOfBoundsException" "java/lang/IndexOutOfBoundsException"]
def zBad2 : List Cond := [.declares ⟨"java/lang/RuntimeException", "<init>", "(Ljava/lang/String;)V"⟩, .declares ⟨"java/lang/Exception", "<init>", "(Ljava/lang/String;)V"⟩, .declares ⟨"java/lang/Throwable", "<init>", "(Ljava/lang/String;)V"⟩, .castable "java/lang/IllegalArgumentException" "java/lang/IllegalArgumentException"]
def zBad3 : List Cond := [.declares ⟨"java/lang/RuntimeException", "<init>", "(Ljava/lang/String;)V"⟩, .declares ⟨"java/lang/Exception", "<init>", "(Ljava/lang/String;)V"⟩, .declares ⟨"java/lang/Throwable", "<init>", "(Ljava/lang/String;)V"⟩, .castable "java/lang/IllegalStateException" "java/lang/IllegalStateException"]
theorem zEnv.bad1 {A : Nat → Prop} {U : State} {H : Heap} (h : zEnv A U H) (args : Array Value) : ∀ w ∈ zBad1, w.before args U = true := vx_c ((h.2.2.2.2.2 _ (List.mem_of_getElem? (i := 0) rfl)).use rfl) (vx_c ((h.2.2.2.2.2 _ (List.mem_of_getElem? (i := 1) rfl)).use rfl) (vx_c ((h.2.2.2.2.2 _ (List.mem_of_getElem? (i := 2) rfl)).use rfl) (vx_c ((h.2.2.2.1 ("java/lang/IndexOutOfBoundsException", "java/lang/IndexOutOfBoundsException") (List.mem_of_getElem? (i := 0) rfl)).use rfl) vx_n)))
theorem zEnv.bad2 {A : Nat → Prop} {U : State} {H : Heap} (h : zEnv A U H) (args : Array Value) : ∀ w ∈ zBad2, w.before args U = true := vx_c ((h.2.2.2.2.2 _ (List.mem_of_getElem? (i := 0) rfl)).use rfl) (vx_c ((h.2.2.2.2.2 _ (List.mem_of_getElem? (i := 1) rfl)).use rfl) (vx_c ((h.2.2.2.2.2 _ (List.mem_of_getElem? (i := 2) rfl)).use rfl) (vx_c ((h.2.2.2.1 ("java/lang/IllegalArgumentException", "java/lang/IllegalArgumentException") (List.mem_of_getElem? (i := 1) rfl)).use rfl) vx_n)))
theorem zEnv.bad3 {A : Nat → Prop} {U : State} {H : Heap} (h : zEnv A U H) (args : Array Value) : ∀ w ∈ zBad3, w.before args U = true := vx_c ((h.2.2.2.2.2 _ (List.mem_of_getElem? (i := 0) rfl)).use rfl) (vx_c ((h.2.2.2.2.2 _ (List.mem_of_getElem? (i := 1) rfl)).use rfl) (vx_c ((h.2.2.2.2.2 _ (List.mem_of_getElem? (i := 2) rfl)).use rfl) (vx_c ((h.2.2.2.1 ("java/lang/IllegalStateException", "java/lang/IllegalStateException") (List.mem_of_getElem? (i := 2) rfl)).use rfl) vx_n)))
theorem zbadOk1 : ∀ w ∈ (vx_atS RX4 41 "java/lang/IndexOutOfBoundsException" ["java/lang/RuntimeException", "java/lang/Exception"]).filter (fun w => !goodWord w), w ∈ zBad1 := by decide +kernel
theorem zbadOk2 : ∀ w ∈ (vx_atS RX4 48 "java/lang/IllegalArgumentException" ["java/lang/RuntimeException", "java/lang/Exception"]).filter (fun w => !goodWord w), w ∈ zBad2 := by decide +kernel
theorem zbadOk3 : ∀ w ∈ (vx_atS RX4 57 "java/lang/IllegalStateException" ["java/lang/RuntimeException", "java/lang/Exception"]).filter (fun w => !goodWord w), w ∈ zBad3 := by decide +kernel
/-! indexes -/
theorem z_in {x N : Int32} {n : Nat} (hN : N.toInt = (n : Int)) (h0 : ¬ x < 0) (h1 : ¬ N ≤ x) : vp_in x n := vp_in_iff.mpr (by
  rw [Int32.lt_iff_toInt_lt] at h0
  rw [Int32.le_iff_toInt_le] at h1
  have : (0 : Int32).toInt = 0 := rfl
  omega)
theorem z_in2 {x N : Int32} {n : Nat} (hN : N.toInt = (n : Int)) (h0 : ¬ x < 0) (h1 : x < N) : vp_in x n := vp_in_iff.mpr (by
  rw [Int32.lt_iff_toInt_lt] at h0 h1
  have : (0 : Int32).toInt = 0 := rfl
  omega)
theorem z_inc {x : Int32} {k n : Nat} (hk : x.toInt = (k : Int)) (h : k < n) : vp_in x n := vp_in_iff.mpr (by omega)
theorem z_b {v : Int32} (h : v = 0 ∨ v = 1) : narrow .boolean (.int v) = .int v := by
  rcases h with rfl | rfl <;> rfl
end
section
theorem z_nz1 {y : Int32} (h : 1 ≤ y) : ¬ y = 0 := fun e => by rw [e] at h; exact absurd h (by decide)
theorem z_nz2 {y : Int32} (h : ¬ y < 1) : ¬ y = 0 := fun e => by rw [e] at h; exact absurd h (by decide)
theorem z_ff {b : Int32} (h : ¬ b = 0) : ¬ FP.Core.FZero (FP.Core.i2f b) := fun hz => FP.Core.i2f_ne_zero h ((FP.Core.zero_bits232 _).mp hz)
theorem z_n32 {r : UInt32} (h : FP.Core.fIsNaN r = false) : vf_n32 r := by
  unfold vf_n32
  rw [UInt32.le_iff_toNat_le, FP.Core.mask_toNat32]
  have h2 : (0x7f800000 : UInt32).toNat = 2139095040 := by decide
  rw [h2]
  rcases Nat.lt_or_ge 2139095040 (r.toNat % 2 ^ 31) with q | q
  · rw [(FP.Core.isNaN_bits32 r).mpr q] at h
    cases h
  · exact q
theorem z_n64 {r : UInt64} (h : FP.Core.dIsNaN r = false) : vf_n64 r := by
  unfold vf_n64
  rw [UInt64.le_iff_toNat_le, FP.Core.mask_toNat]
  have h2 : (0x7ff0000000000000 : UInt64).toNat = 9218868437227405312 := by decide
  rw [h2]
  rcases Nat.lt_or_ge 9218868437227405312 (r.toNat % 2 ^ 63) with q | q
  · rw [(FP.Core.isNaN_bits r).mpr q] at h
    cases h
  · exact q
theorem z_fnan (a : Int64) (b : Int32) (h : ¬ b = 0) : FP.fIsNaN (FP.fdiv (FP.l2f a) (FP.i2f b)) = false := FP.Core.fdiv_out (FP.Core.l2f_fin a).notNaN (FP.Core.i2f_fin b) (z_ff h)
theorem z_fdiv (a : Int64) (b : Int32) (h : ¬ b = 0) : vf_n32 (FP.fdiv (FP.l2f a) (FP.i2f b)) := z_n32 (z_fnan a b h)
theorem z_f2d (a : Int64) (b : Int32) (h : ¬ b = 0) : vf_n64 (FP.f2d (FP.fdiv (FP.l2f a) (FP.i2f b))) := z_n64 ((FP.f2d_nan _).trans (z_fnan a b h))
theorem z_dcmp (a : Int64) (b : Int32) (h : ¬ b = 0) : FP.Core.val64 (FP.f2d (FP.fdiv (FP.l2f a) (FP.i2f b))) ≠ .nan := by
  intro e
  have h1 : FP.dIsNaN (FP.f2d (FP.fdiv (FP.l2f a) (FP.i2f b))) = false := (FP.f2d_nan _).trans (z_fnan a b h)
  have h2 : FP.Core.dIsNaN (FP.f2d (FP.fdiv (FP.l2f a) (FP.i2f b))) = true := (FP.Core.dIsNaN_iff _).mpr e
  exact absurd (h1.symm.trans h2) (by decide)
end
section
def s_X2_valueAt (f : Nat → Int32) (row : Int32) : Int32 := (if row < 0 then 0 else (if 10 ≤ row then 0 else f row.toNatClampNeg))
abbrev rm_X2_valueAt : Room := { frames := 0, cells := 0, slots := 0, locals := 0 }
abbrev Qc_X2_valueAt (D : va_G) (cI cZ cJ cD : ClassId) (qa : Nat) (f : Nat → Int32) (row : Int32) : Array Value → State → Outcome → State → Prop := va_Qi (fun (r : Int32) (_ : Unit) => r = s_X2_valueAt f row) (fun _ _ => True) (fun _ : Nat => False)
set_option maxHeartbeats 4000000 in
set_option maxRecDepth 100000 in
theorem c_X2_valueAt (l : Launch) (D : va_G) (cI cZ cJ cD : ClassId) (qa : Nat) (f : Nat → Int32) (row : Int32)  : Met l yX2_valueAt wsX2_valueAt rm_X2_valueAt (va_Pc [.ref qa, .int row] (zPre D cI cZ cJ cD [(qa, .inl (cI, 10, .inl f))])) (Qc_X2_valueAt D cI cZ cJ cD qa f row ) 0 0 (fun _ : Nat => False) := by
  refine Met.ofW (cc := cX2_valueAt) (maxL := 2) (ret := (some .int)) (by decide) rfl ?_
  intro p e s m args below meth c s₁ B hml hv
  obtain ⟨rfl, hP, hK⟩ := hv
  have hx := B.exec
  have hb := B.bytes
  have hr := B.returns
  have hts := atoms_spec (ws := wsX2_valueAt) B.pre
  have hown : s.vm.findClass RX2 = some m.cls := findClass_of_methodNamed B.named
  have hlocks := B.notSynchronized
  have hS : va_S (fun _ : Nat => False) s.heap s.heap [] := va_S.rf
  have hl := lv_entry ([.ref qa, .int row]) (n := 2) (Nat.le_of_ble_eq_true rfl)
  rw [lg_entry_eq]
  generalize (lg_sl ([.ref qa, .int row]) ++ List.replicate (2 - (lg_sl ([.ref qa, .int row])).length) Slot.unset).toArray = ls at hl ⊢
  have hl : lv_has ls 2 [(0, .ref qa), (1, .int row)] := hl
  have hP : va_P D vwCl [(qa, .inl (cI, 10, .inl f))] s.heap := hP
  have hP := hP
  refine lv_iload_n hx hb dX2_valueAt_0 rfl (lv_at hl 1 rfl) ?_
  have K6 : ∀ v6_0 : Int32, v6_0 = (if row < 0 then 0 else (if 10 ≤ row then 0 else f row.toNatClampNeg)) → ∀ (H : Heap) (locs : List Loc), va_P D vwCl [(qa, .inl (cI, 10, .inl f))] H → va_S (fun _ : Nat => False) s.heap H locs → ∀ (ls : Array Slot), lv_has ls 2 [(0, .ref qa), (1, .int row)] → W p l e (headSpec wsX2_valueAt rm_X2_valueAt).room s m ([.ref qa, .int row]).toArray below meth c H locs 0 0 (MQ below (Qc_X2_valueAt D cI cZ cJ cD qa f row) ([.ref qa, .int row]).toArray s 0 0 (fun _ : Nat => False)) (F0 m 17 ls [.int v6_0]) := by
    intro v6_0 hv6_0 H locs hP hS ls hl
    subst hv6_0
    have e7 : s_X2_valueAt f row = (if row < 0 then 0 else (if 10 ≤ row then 0 else f row.toNatClampNeg)) := rfl
    exact W.iret (v := (if row < 0 then 0 else (if 10 ≤ row then 0 else f row.toNatClampNeg))) hx hb hr (fun t ht hW => ⟨⟨_, (), rfl, e7.symm, trivial⟩, hS.F ht⟩) hS.2.2 dX2_valueAt_17
  refine lv_if_lt (tgt := 16) hx hb dX2_valueAt_1 (by decide) (fun c8 => ?_) (fun c8 => ?_)
  · refine lv_iconst (v := 0) hx hb dX2_valueAt_16 (by decide) ?_
    exact K6 _ (if_pos c8).symm _ _ hP hS _ (lv_sub hl [0, 1] rfl)
  · refine lv_iload_n hx hb dX2_valueAt_4 rfl (lv_at hl 1 rfl) ?_
    refine lv_aload_n hx hb dX2_valueAt_5 rfl (lv_at hl 0 rfl) ?_
    refine va_alen (v := 10) hx hb hK hP 0 0 rfl rfl rfl dX2_valueAt_6 ?_
    refine lv_icmp_ge (tgt := 16) hx hb dX2_valueAt_7 (by decide) (fun c9 => ?_) (fun c9 => ?_)
    · refine lv_iconst (v := 0) hx hb dX2_valueAt_16 (by decide) ?_
      exact K6 _ ((if_neg c8).trans (if_pos c9)).symm _ _ hP hS _ (lv_sub hl [0, 1] rfl)
    · refine lv_aload_n hx hb dX2_valueAt_10 rfl (lv_at hl 0 rfl) ?_
      refine lv_iload_n hx hb dX2_valueAt_11 rfl (lv_at hl 1 rfl) ?_
      refine va_iald hx hb hK hP 0 0 rfl rfl (z_in rfl c8 c9) dX2_valueAt_12 ?_
      refine lv_goto (tgt := 17) hx hb dX2_valueAt_13 (by decide) ?_
      exact K6 _ ((if_neg c8).trans (if_neg c9)).symm _ _ hP hS _ (lv_sub hl [0, 1] rfl)
def s_X2_tenTimesAt (f : Nat → Int32) (dg : Int32) : Int32 := ((10 - (dg - dg / 10 * 10)) * (s_X2_valueAt f (dg / 10))) + ((dg - dg / 10 * 10) * (s_X2_valueAt f ((dg / 10) + 1)))
abbrev rm_X2_tenTimesAt : Room := { frames := 1, cells := 0, slots := 0, locals := 21 }
abbrev Qc_X2_tenTimesAt (D : va_G) (cI cZ cJ cD : ClassId) (qa : Nat) (f : Nat → Int32) (dg : Int32) : Array Value → State → Outcome → State → Prop := va_Qi (fun (r : Int32) (_ : Unit) => r = s_X2_tenTimesAt f dg) (fun _ _ => True) (fun _ : Nat => False)
set_option maxHeartbeats 4000000 in
set_option maxRecDepth 100000 in
theorem c_X2_tenTimesAt (l : Launch) (D : va_G) (cI cZ cJ cD : ClassId) (qa : Nat) (f : Nat → Int32) (dg : Int32)  : Met l yX2_tenTimesAt wsX2_tenTimesAt rm_X2_tenTimesAt (va_Pc [.ref qa, .int dg] (zPre D cI cZ cJ cD [(qa, .inl (cI, 10, .inl f))])) (Qc_X2_tenTimesAt D cI cZ cJ cD qa f dg ) 0 0 (fun _ : Nat => False) := by
  refine Met.ofW (cc := cX2_tenTimesAt) (maxL := 4) (ret := (some .int)) (by decide) rfl ?_
  intro p e s m args below meth c s₁ B hml hv
  obtain ⟨rfl, hP, hK⟩ := hv
  have hx := B.exec
  have hb := B.bytes
  have hr := B.returns
  have hts := atoms_spec (ws := wsX2_tenTimesAt) B.pre
  have hown : s.vm.findClass RX2 = some m.cls := findClass_of_methodNamed B.named
  have hlocks := B.notSynchronized
  have hS : va_S (fun _ : Nat => False) s.heap s.heap [] := va_S.rf
  have hl := lv_entry ([.ref qa, .int dg]) (n := 4) (Nat.le_of_ble_eq_true rfl)
  rw [lg_entry_eq]
  generalize (lg_sl ([.ref qa, .int dg]) ++ List.replicate (4 - (lg_sl ([.ref qa, .int dg])).length) Slot.unset).toArray = ls at hl ⊢
  have hl : lv_has ls 4 [(0, .ref qa), (1, .int dg)] := hl
  have hP : va_P D vwCl [(qa, .inl (cI, 10, .inl f))] s.heap := hP
  have hP := hP
  refine lv_iload_n hx hb dX2_tenTimesAt_0 rfl (lv_at hl 1 rfl) ?_
  refine lv_bipush (v := 10) hx hb dX2_tenTimesAt_1 (by decide) ?_
  refine lv_idiv hx hb dX2_tenTimesAt_3 (by decide) ?_
  refine lv_istore_n (lv' := [(2, .int (dg / 10)), (0, .ref qa), (1, .int dg)]) hx hb dX2_tenTimesAt_4 rfl hl (by decide) rfl (fun ls hl => ?_)
  refine lv_iload_n hx hb dX2_tenTimesAt_5 rfl (lv_at hl 2 rfl) ?_
  refine lv_bipush (v := 10) hx hb dX2_tenTimesAt_6 (by decide) ?_
  refine lv_irem hx hb dX2_tenTimesAt_8 (by decide) ?_
  refine lv_istore_n (lv' := [(3, .int (dg - dg / 10 * 10)), (2, .int (dg / 10)), (0, .ref qa), (1, .int dg)]) hx hb dX2_tenTimesAt_9 rfl hl (by decide) rfl (fun ls hl => ?_)
  refine lv_bipush (v := 10) hx hb dX2_tenTimesAt_10 (by decide) ?_
  refine lv_iload_n hx hb dX2_tenTimesAt_12 rfl (lv_at hl 0 rfl) ?_
  refine lv_isub hx hb dX2_tenTimesAt_13 ?_
  refine lv_aload_n hx hb dX2_tenTimesAt_14 rfl (lv_at hl 2 rfl) ?_
  refine lv_iload_n hx hb dX2_tenTimesAt_15 rfl (lv_at hl 1 rfl) ?_
  refine va_calli (va_runS (As := [.ref qa, .int (dg / 10)]) (rest := [.int (10 - (dg - dg / 10 * 10))]) ⟨hx, hb, hml, hown, hts⟩ (c_X2_valueAt l D cI cZ cJ cD qa f (dg / 10) ) (va_cwS 2 hts gX2_tenTimesAt_X2_valueAt rfl rfl rfl (by decide +kernel) ⟨Nat.le_of_ble_eq_true rfl, Nat.le_of_ble_eq_true rfl⟩) ⟨zblind, (fun U hU hW => ⟨rfl, by rw [hU]; exact hP.sub (ws' := [(qa, .inl (cI, 10, .inl f))]) [0] rfl, va_K.moved hW.alike hK⟩)⟩ rfl rfl hl.1 rfl (lv_room (Nat.le_of_ble_eq_true rfl)) dX2_tenTimesAt_16 ⟨Nat.le_of_ble_eq_true rfl, Nat.le_of_ble_eq_true rfl⟩) hS (fun q _ h => h.elim) (fun q h => h.elim) (fun r3 u t H locs ht hvm hw hB hz1 hk1 hS => ?_)
  rw [hw]
  have hP := zk hP hk1
  refine lv_imul hx hb dX2_tenTimesAt_19 ?_
  refine lv_iload_n hx hb dX2_tenTimesAt_20 rfl (lv_at hl 0 rfl) ?_
  refine lv_aload_n hx hb dX2_tenTimesAt_21 rfl (lv_at hl 2 rfl) ?_
  refine lv_iload_n hx hb dX2_tenTimesAt_22 rfl (lv_at hl 1 rfl) ?_
  refine lv_iconst (v := 1) hx hb dX2_tenTimesAt_23 (by decide) ?_
  refine lv_iadd hx hb dX2_tenTimesAt_24 ?_
  refine va_calli (va_runS (As := [.ref qa, .int ((dg / 10) + 1)]) (rest := [.int (dg - dg / 10 * 10), .int ((10 - (dg - dg / 10 * 10)) * (s_X2_valueAt f (dg / 10)))]) ⟨hx, hb, hml, hown, hts⟩ (c_X2_valueAt l D cI cZ cJ cD qa f ((dg / 10) + 1) ) (va_cwS 2 hts gX2_tenTimesAt_X2_valueAt rfl rfl rfl (by decide +kernel) ⟨Nat.le_of_ble_eq_true rfl, Nat.le_of_ble_eq_true rfl⟩) ⟨zblind, (fun U hU hW => ⟨rfl, by rw [hU]; exact hP.sub (ws' := [(qa, .inl (cI, 10, .inl f))]) [0] rfl, va_K.moved hW.alike hK⟩)⟩ rfl rfl hl.1 rfl (lv_room (Nat.le_of_ble_eq_true rfl)) dX2_tenTimesAt_25 ⟨Nat.le_of_ble_eq_true rfl, Nat.le_of_ble_eq_true rfl⟩) hS (fun q _ h => h.elim) (fun q h => h.elim) (fun r4 u t H locs ht hvm hw hB hz1 hk1 hS => ?_)
  rw [hw]
  have hP := zk hP hk1
  refine lv_imul hx hb dX2_tenTimesAt_28 ?_
  refine lv_iadd hx hb dX2_tenTimesAt_29 ?_
  have e5 : s_X2_tenTimesAt f dg = ((10 - (dg - dg / 10 * 10)) * (s_X2_valueAt f (dg / 10))) + ((dg - dg / 10 * 10) * (s_X2_valueAt f ((dg / 10) + 1))) := rfl
  exact W.iret (v := (((10 - (dg - dg / 10 * 10)) * (s_X2_valueAt f (dg / 10))) + ((dg - dg / 10 * 10) * (s_X2_valueAt f ((dg / 10) + 1))))) hx hb hr (fun t ht hW => ⟨⟨_, (), rfl, e5.symm, trivial⟩, hS.F ht⟩) hS.2.2 dX2_tenTimesAt_30
def s_X2_tenWidths (fw : Nat → Int32) (fh : Nat → Int32) (lat : Int32) : Int32 := s_X2_tenTimesAt fw (if 0 ≤ lat then lat else 0 - lat)
abbrev rm_X2_tenWidths : Room := { frames := 2, cells := 0, slots := 0, locals := 44 }
abbrev Qc_X2_tenWidths (D : va_G) (cI cZ cJ cD : ClassId) (qm : Nat) (qw : Nat) (qh : Nat) (fw : Nat → Int32) (fh : Nat → Int32) (lat : Int32) : Array Value → State → Outcome → State → Prop := va_Qi (fun (r : Int32) (_ : Unit) => r = s_X2_tenWidths fw fh lat) (fun _ _ => True) (fun _ : Nat => False)
set_option maxHeartbeats 4000000 in
set_option maxRecDepth 100000 in
theorem c_X2_tenWidths (l : Launch) (D : va_G) (cI cZ cJ cD : ClassId) (qm : Nat) (qw : Nat) (qh : Nat) (fw : Nat → Int32) (fh : Nat → Int32) (lat : Int32)  : Met l yX2_tenWidths wsX2_tenWidths rm_X2_tenWidths (va_Pc [.ref qm, .int lat] (zPre D cI cZ cJ cD [(qm, .inr (2, [.ref qw, .ref qh])), (qw, .inl (cI, 10, .inl fw)), (qh, .inl (cI, 10, .inl fh))])) (Qc_X2_tenWidths D cI cZ cJ cD qm qw qh fw fh lat ) 0 0 (fun _ : Nat => False) := by
  refine Met.ofW (cc := cX2_tenWidths) (maxL := 2) (ret := (some .int)) (by decide) rfl ?_
  intro p e s m args below meth c s₁ B hml hv
  obtain ⟨rfl, hP, hK⟩ := hv
  have hx := B.exec
  have hb := B.bytes
  have hr := B.returns
  have hts := atoms_spec (ws := wsX2_tenWidths) B.pre
  have hown : s.vm.findClass RX2 = some m.cls := findClass_of_methodNamed B.named
  have hlocks := B.notSynchronized
  have hS : va_S (fun _ : Nat => False) s.heap s.heap [] := va_S.rf
  have hl := lv_entry ([.ref qm, .int lat]) (n := 2) (Nat.le_of_ble_eq_true rfl)
  rw [lg_entry_eq]
  generalize (lg_sl ([.ref qm, .int lat]) ++ List.replicate (2 - (lg_sl ([.ref qm, .int lat])).length) Slot.unset).toArray = ls at hl ⊢
  have hl : lv_has ls 2 [(0, .ref qm), (1, .int lat)] := hl
  have hP : va_P D vwCl [(qm, .inr (2, [.ref qw, .ref qh])), (qw, .inl (cI, 10, .inl fw)), (qh, .inl (cI, 10, .inl fh))] s.heap := hP
  have hP := hP
  refine lv_aload_n hx hb dX2_tenWidths_0 rfl (lv_at hl 0 rfl) ?_
  refine va_get (D := D) (ci := 2) (v := .ref qw) (C := RX2) (T := TX2) (N := 2) hx hb hts (fun w h => List.mem_cons_of_mem _ (List.mem_append_right _ h)) hown hK hP 0 rfl rfl 0 (by decide) (hts (.fieldLink RX2 9 "AtlasFolder$MapTable" "widths" "[I") (List.mem_cons_of_mem _ (List.mem_append_left _ (List.mem_of_getElem? (i := 0) rfl)))) (fun _ h9 => h9) rfl dX2_tenWidths_1 ?_
  refine lv_iload_n hx hb dX2_tenWidths_4 rfl (lv_at hl 1 rfl) ?_
  refine va_mabs hx hb (hml.trans hl.1.symm) hown (hts (.methodLink RX2 22 Lib.Math.abs.name) (List.mem_cons_of_mem _ (List.mem_append_left _ (List.mem_of_getElem? (i := 1) rfl)))) (hts (.static Lib.Math.abs.name) (List.mem_cons_of_mem _ (List.mem_append_left _ (List.mem_of_getElem? (i := 2) rfl)))) (hts (.initialized "java/lang/Math") (List.mem_cons_of_mem _ (List.mem_append_left _ (List.mem_of_getElem? (i := 3) rfl)))) (hts (.code Lib.Math.abs.name Lib.Math.abs.code 1 (some .int)) (List.mem_cons_of_mem _ (List.mem_append_left _ (List.mem_of_getElem? (i := 4) rfl)))) (Nat.le_of_ble_eq_true rfl) (Nat.le_of_ble_eq_true rfl) (Nat.le_of_ble_eq_true rfl) (Nat.le_of_ble_eq_true rfl) dX2_tenWidths_5 ?_
  refine va_calli (va_runS (As := [.ref qw, .int (if 0 ≤ lat then lat else 0 - lat)]) (rest := []) ⟨hx, hb, hml, hown, hts⟩ (c_X2_tenTimesAt l D cI cZ cJ cD qw fw (if 0 ≤ lat then lat else 0 - lat) ) (va_cwS 2 hts gX2_tenWidths_X2_tenTimesAt rfl rfl rfl (by decide +kernel) ⟨Nat.le_of_ble_eq_true rfl, Nat.le_of_ble_eq_true rfl⟩) ⟨zblind, (fun U hU hW => ⟨rfl, by rw [hU]; exact hP.sub (ws' := [(qw, .inl (cI, 10, .inl fw))]) [1] rfl, va_K.moved hW.alike hK⟩)⟩ rfl rfl hl.1 rfl (lv_room (Nat.le_of_ble_eq_true rfl)) dX2_tenWidths_8 ⟨Nat.le_of_ble_eq_true rfl, Nat.le_of_ble_eq_true rfl⟩) hS (fun q _ h => h.elim) (fun q h => h.elim) (fun r2 u t H locs ht hvm hw hB hz1 hk1 hS => ?_)
  rw [hw]
  have hP := zk hP hk1
  have e3 : s_X2_tenWidths fw fh lat = s_X2_tenTimesAt fw (if 0 ≤ lat then lat else 0 - lat) := rfl
  exact W.iret (v := (s_X2_tenTimesAt fw (if 0 ≤ lat then lat else 0 - lat))) hx hb hr (fun t ht hW => ⟨⟨_, (), rfl, e3.symm, trivial⟩, hS.F ht⟩) hS.2.2 dX2_tenWidths_11
def s_X2_tenHeights (fw : Nat → Int32) (fh : Nat → Int32) (lat : Int32) : Int32 := (if 0 ≤ lat then s_X2_tenTimesAt fh (if 0 ≤ lat then lat else 0 - lat) else -(s_X2_tenTimesAt fh (if 0 ≤ lat then lat else 0 - lat)))
abbrev rm_X2_tenHeights : Room := { frames := 2, cells := 0, slots := 0, locals := 44 }
abbrev Qc_X2_tenHeights (D : va_G) (cI cZ cJ cD : ClassId) (qm : Nat) (qw : Nat) (qh : Nat) (fw : Nat → Int32) (fh : Nat → Int32) (lat : Int32) : Array Value → State → Outcome → State → Prop := va_Qi (fun (r : Int32) (_ : Unit) => r = s_X2_tenHeights fw fh lat) (fun _ _ => True) (fun _ : Nat => False)
set_option maxHeartbeats 4000000 in
set_option maxRecDepth 100000 in
theorem c_X2_tenHeights (l : Launch) (D : va_G) (cI cZ cJ cD : ClassId) (qm : Nat) (qw : Nat) (qh : Nat) (fw : Nat → Int32) (fh : Nat → Int32) (lat : Int32)  : Met l yX2_tenHeights wsX2_tenHeights rm_X2_tenHeights (va_Pc [.ref qm, .int lat] (zPre D cI cZ cJ cD [(qm, .inr (2, [.ref qw, .ref qh])), (qw, .inl (cI, 10, .inl fw)), (qh, .inl (cI, 10, .inl fh))])) (Qc_X2_tenHeights D cI cZ cJ cD qm qw qh fw fh lat ) 0 0 (fun _ : Nat => False) := by
  refine Met.ofW (cc := cX2_tenHeights) (maxL := 3) (ret := (some .int)) (by decide) rfl ?_
  intro p e s m args below meth c s₁ B hml hv
  obtain ⟨rfl, hP, hK⟩ := hv
  have hx := B.exec
  have hb := B.bytes
  have hr := B.returns
  have hts := atoms_spec (ws := wsX2_tenHeights) B.pre
  have hown : s.vm.findClass RX2 = some m.cls := findClass_of_methodNamed B.named
  have hlocks := B.notSynchronized
  have hS : va_S (fun _ : Nat => False) s.heap s.heap [] := va_S.rf
  have hl := lv_entry ([.ref qm, .int lat]) (n := 3) (Nat.le_of_ble_eq_true rfl)
  rw [lg_entry_eq]
  generalize (lg_sl ([.ref qm, .int lat]) ++ List.replicate (3 - (lg_sl ([.ref qm, .int lat])).length) Slot.unset).toArray = ls at hl ⊢
  have hl : lv_has ls 3 [(0, .ref qm), (1, .int lat)] := hl
  have hP : va_P D vwCl [(qm, .inr (2, [.ref qw, .ref qh])), (qw, .inl (cI, 10, .inl fw)), (qh, .inl (cI, 10, .inl fh))] s.heap := hP
  have hP := hP
  refine lv_aload_n hx hb dX2_tenHeights_0 rfl (lv_at hl 0 rfl) ?_
  refine va_get (D := D) (ci := 2) (v := .ref qh) (C := RX2) (T := TX2) (N := 2) hx hb hts (fun w h => List.mem_cons_of_mem _ (List.mem_append_right _ h)) hown hK hP 0 rfl rfl 1 (by decide) (hts (.fieldLink RX2 15 "AtlasFolder$MapTable" "heights" "[I") (List.mem_cons_of_mem _ (List.mem_append_left _ (List.mem_of_getElem? (i := 0) rfl)))) (fun _ h9 => h9) rfl dX2_tenHeights_1 ?_
  refine lv_iload_n hx hb dX2_tenHeights_4 rfl (lv_at hl 1 rfl) ?_
  refine va_mabs hx hb (hml.trans hl.1.symm) hown (hts (.methodLink RX2 22 Lib.Math.abs.name) (List.mem_cons_of_mem _ (List.mem_append_left _ (List.mem_of_getElem? (i := 1) rfl)))) (hts (.static Lib.Math.abs.name) (List.mem_cons_of_mem _ (List.mem_append_left _ (List.mem_of_getElem? (i := 2) rfl)))) (hts (.initialized "java/lang/Math") (List.mem_cons_of_mem _ (List.mem_append_left _ (List.mem_of_getElem? (i := 3) rfl)))) (hts (.code Lib.Math.abs.name Lib.Math.abs.code 1 (some .int)) (List.mem_cons_of_mem _ (List.mem_append_left _ (List.mem_of_getElem? (i := 4) rfl)))) (Nat.le_of_ble_eq_true rfl) (Nat.le_of_ble_eq_true rfl) (Nat.le_of_ble_eq_true rfl) (Nat.le_of_ble_eq_true rfl) dX2_tenHeights_5 ?_
  refine va_calli (va_runS (As := [.ref qh, .int (if 0 ≤ lat then lat else 0 - lat)]) (rest := []) ⟨hx, hb, hml, hown, hts⟩ (c_X2_tenTimesAt l D cI cZ cJ cD qh fh (if 0 ≤ lat then lat else 0 - lat) ) (va_cwS 2 hts gX2_tenHeights_X2_tenTimesAt rfl rfl rfl (by decide +kernel) ⟨Nat.le_of_ble_eq_true rfl, Nat.le_of_ble_eq_true rfl⟩) ⟨zblind, (fun U hU hW => ⟨rfl, by rw [hU]; exact hP.sub (ws' := [(qh, .inl (cI, 10, .inl fh))]) [2] rfl, va_K.moved hW.alike hK⟩)⟩ rfl rfl hl.1 rfl (lv_room (Nat.le_of_ble_eq_true rfl)) dX2_tenHeights_8 ⟨Nat.le_of_ble_eq_true rfl, Nat.le_of_ble_eq_true rfl⟩) hS (fun q _ h => h.elim) (fun q h => h.elim) (fun r5 u t H locs ht hvm hw hB hz1 hk1 hS => ?_)
  rw [hw]
  have hP := zk hP hk1
  refine lv_istore_n (lv' := [(2, .int (s_X2_tenTimesAt fh (if 0 ≤ lat then lat else 0 - lat))), (0, .ref qm), (1, .int lat)]) hx hb dX2_tenHeights_11 rfl hl (by decide) rfl (fun ls hl => ?_)
  refine lv_iload_n hx hb dX2_tenHeights_12 rfl (lv_at hl 2 rfl) ?_
  have K7 : ∀ v7_0 : Int32, v7_0 = (if 0 ≤ lat then s_X2_tenTimesAt fh (if 0 ≤ lat then lat else 0 - lat) else -(s_X2_tenTimesAt fh (if 0 ≤ lat then lat else 0 - lat))) → ∀ (H : Heap) (locs : List Loc), va_P D vwCl [(qm, .inr (2, [.ref qw, .ref qh])), (qw, .inl (cI, 10, .inl fw)), (qh, .inl (cI, 10, .inl fh))] H → va_S (fun _ : Nat => False) s.heap H locs → ∀ (ls : Array Slot), lv_has ls 3 [(2, .int (s_X2_tenTimesAt fh (if 0 ≤ lat then lat else 0 - lat))), (0, .ref qm), (1, .int lat)] → W p l e (headSpec wsX2_tenHeights rm_X2_tenHeights).room s m ([.ref qm, .int lat]).toArray below meth c H locs 0 0 (MQ below (Qc_X2_tenHeights D cI cZ cJ cD qm qw qh fw fh lat) ([.ref qm, .int lat]).toArray s 0 0 (fun _ : Nat => False)) (F0 m 22 ls [.int v7_0]) := by
    intro v7_0 hv7_0 H locs hP hS ls hl
    subst hv7_0
    have e8 : s_X2_tenHeights fw fh lat = (if 0 ≤ lat then s_X2_tenTimesAt fh (if 0 ≤ lat then lat else 0 - lat) else -(s_X2_tenTimesAt fh (if 0 ≤ lat then lat else 0 - lat))) := rfl
    exact W.iret (v := (if 0 ≤ lat then s_X2_tenTimesAt fh (if 0 ≤ lat then lat else 0 - lat) else -(s_X2_tenTimesAt fh (if 0 ≤ lat then lat else 0 - lat)))) hx hb hr (fun t ht hW => ⟨⟨_, (), rfl, e8.symm, trivial⟩, hS.F ht⟩) hS.2.2 dX2_tenHeights_22
  refine lv_if_ge (tgt := 21) hx hb dX2_tenHeights_13 (by decide) (fun c9 => ?_) (fun c9 => ?_)
  · refine lv_iload_n hx hb dX2_tenHeights_21 rfl (lv_at hl 0 rfl) ?_
    exact K7 _ (if_pos c9).symm _ _ hP hS _ (lv_sub hl [0, 1, 2] rfl)
  · refine lv_iload_n hx hb dX2_tenHeights_16 rfl (lv_at hl 0 rfl) ?_
    refine lv_ineg hx hb dX2_tenHeights_17 ?_
    refine lv_goto (tgt := 22) hx hb dX2_tenHeights_18 (by decide) ?_
    exact K7 _ (if_neg c9).symm _ _ hP hS _ (lv_sub hl [0, 1, 2] rfl)
def s_X2_wouldRise (fw : Nat → Int32) (fh : Nat → Int32) (row : Int32) (hgt : Int32) : Int32 := (if row = 0 then (if hgt = 0 then 1 else 0) else (if hgt ≤ (s_X2_valueAt fh (row - 1)) then 0 else (if row = 9 then 1 else (if (s_X2_valueAt fh (row + 1)) ≤ hgt then 0 else 1))))
abbrev rm_X2_wouldRise : Room := { frames := 1, cells := 0, slots := 0, locals := 21 }
abbrev Qc_X2_wouldRise (D : va_G) (cI cZ cJ cD : ClassId) (qm : Nat) (qw : Nat) (qh : Nat) (fw : Nat → Int32) (fh : Nat → Int32) (row : Int32) (hgt : Int32) : Array Value → State → Outcome → State → Prop := va_Qi (fun (r : Int32) (_ : Unit) => r = s_X2_wouldRise fw fh row hgt) (fun _ _ => True) (fun _ : Nat => False)
set_option maxHeartbeats 4000000 in
set_option maxRecDepth 100000 in
theorem c_X2_wouldRise (l : Launch) (D : va_G) (cI cZ cJ cD : ClassId) (qm : Nat) (qw : Nat) (qh : Nat) (fw : Nat → Int32) (fh : Nat → Int32) (row : Int32) (hgt : Int32)  : Met l yX2_wouldRise wsX2_wouldRise rm_X2_wouldRise (va_Pc [.ref qm, .int row, .int hgt] (zPre D cI cZ cJ cD [(qm, .inr (2, [.ref qw, .ref qh])), (qw, .inl (cI, 10, .inl fw)), (qh, .inl (cI, 10, .inl fh))])) (Qc_X2_wouldRise D cI cZ cJ cD qm qw qh fw fh row hgt ) 0 0 (fun _ : Nat => False) := by
  refine Met.ofW (cc := cX2_wouldRise) (maxL := 3) (ret := (some .boolean)) (by decide) rfl ?_
  intro p e s m args below meth c s₁ B hml hv
  obtain ⟨rfl, hP, hK⟩ := hv
  have hx := B.exec
  have hb := B.bytes
  have hr := B.returns
  have hts := atoms_spec (ws := wsX2_wouldRise) B.pre
  have hown : s.vm.findClass RX2 = some m.cls := findClass_of_methodNamed B.named
  have hlocks := B.notSynchronized
  have hS : va_S (fun _ : Nat => False) s.heap s.heap [] := va_S.rf
  have hl := lv_entry ([.ref qm, .int row, .int hgt]) (n := 3) (Nat.le_of_ble_eq_true rfl)
  rw [lg_entry_eq]
  generalize (lg_sl ([.ref qm, .int row, .int hgt]) ++ List.replicate (3 - (lg_sl ([.ref qm, .int row, .int hgt])).length) Slot.unset).toArray = ls at hl ⊢
  have hl : lv_has ls 3 [(0, .ref qm), (1, .int row), (2, .int hgt)] := hl
  have hP : va_P D vwCl [(qm, .inr (2, [.ref qw, .ref qh])), (qw, .inl (cI, 10, .inl fw)), (qh, .inl (cI, 10, .inl fh))] s.heap := hP
  have hP := hP
  refine lv_iload_n hx hb dX2_wouldRise_0 rfl (lv_at hl 1 rfl) ?_
  refine lv_if_ne (tgt := 14) hx hb dX2_wouldRise_1 (by decide) (fun c12 => ?_) (fun c12 => ?_)
  · refine lv_iload_n hx hb dX2_wouldRise_14 rfl (lv_at hl 2 rfl) ?_
    refine lv_aload_n hx hb dX2_wouldRise_15 rfl (lv_at hl 0 rfl) ?_
    refine va_get (D := D) (ci := 2) (v := .ref qh) (C := RX2) (T := TX2) (N := 2) hx hb hts (fun w h => List.mem_cons_of_mem _ (List.mem_append_right _ h)) hown hK hP 0 rfl rfl 1 (by decide) (hts (.fieldLink RX2 15 "AtlasFolder$MapTable" "heights" "[I") (List.mem_cons_of_mem _ (List.mem_append_left _ (List.mem_of_getElem? (i := 0) rfl)))) (fun _ h9 => h9) rfl dX2_wouldRise_16 ?_
    refine lv_iload_n hx hb dX2_wouldRise_19 rfl (lv_at hl 1 rfl) ?_
    refine lv_iconst (v := 1) hx hb dX2_wouldRise_20 (by decide) ?_
    refine lv_isub hx hb dX2_wouldRise_21 ?_
    refine va_calli (va_runS (As := [.ref qh, .int (row - 1)]) (rest := [.int hgt]) ⟨hx, hb, hml, hown, hts⟩ (c_X2_valueAt l D cI cZ cJ cD qh fh (row - 1) ) (va_cwS 2 hts gX2_wouldRise_X2_valueAt rfl rfl rfl (by decide +kernel) ⟨Nat.le_of_ble_eq_true rfl, Nat.le_of_ble_eq_true rfl⟩) ⟨zblind, (fun U hU hW => ⟨rfl, by rw [hU]; exact hP.sub (ws' := [(qh, .inl (cI, 10, .inl fh))]) [2] rfl, va_K.moved hW.alike hK⟩)⟩ rfl rfl hl.1 rfl (lv_room (Nat.le_of_ble_eq_true rfl)) dX2_wouldRise_22 ⟨Nat.le_of_ble_eq_true rfl, Nat.le_of_ble_eq_true rfl⟩) hS (fun q _ h => h.elim) (fun q h => h.elim) (fun r13 u t H locs ht hvm hw hB hz1 hk1 hS => ?_)
    rw [hw]
    have hP := zk hP hk1
    have K15 : ∀ v15_0 : Int32, v15_0 = (if hgt ≤ (s_X2_valueAt fh (row - 1)) then 0 else (if row = 9 then 1 else (if (s_X2_valueAt fh (row + 1)) ≤ hgt then 0 else 1))) → ∀ (H : Heap) (locs : List Loc), va_P D vwCl [(qm, .inr (2, [.ref qw, .ref qh])), (qw, .inl (cI, 10, .inl fw)), (qh, .inl (cI, 10, .inl fh))] H → va_S (fun _ : Nat => False) s.heap H locs → ∀ (ls : Array Slot), lv_has ls 3 [(0, .ref qm), (1, .int row), (2, .int hgt)] → W p l e (headSpec wsX2_wouldRise rm_X2_wouldRise).room s m ([.ref qm, .int row, .int hgt]).toArray below meth c H locs 0 0 (MQ below (Qc_X2_wouldRise D cI cZ cJ cD qm qw qh fw fh row hgt) ([.ref qm, .int row, .int hgt]).toArray s 0 0 (fun _ : Nat => False)) (F0 m 53 ls [.int v15_0]) := by
      intro v15_0 hv15_0 H locs hP hS ls hl
      subst hv15_0
      have e16 : s_X2_wouldRise fw fh row hgt = (if hgt ≤ (s_X2_valueAt fh (row - 1)) then 0 else (if row = 9 then 1 else (if (s_X2_valueAt fh (row + 1)) ≤ hgt then 0 else 1))) := by
        unfold s_X2_wouldRise
        exact (if_neg c12)
      exact W.zret (v := (if hgt ≤ (s_X2_valueAt fh (row - 1)) then 0 else (if row = 9 then 1 else (if (s_X2_valueAt fh (row + 1)) ≤ hgt then 0 else 1)))) hx hb hr (z_b (by (repeat' split) <;> simp)) (fun t ht hW => ⟨⟨_, (), rfl, e16.symm, trivial⟩, hS.F ht⟩) hS.2.2 dX2_wouldRise_53
    refine lv_icmp_le (tgt := 52) hx hb dX2_wouldRise_25 (by decide) (fun c17 => ?_) (fun c17 => ?_)
    · refine lv_iconst (v := 0) hx hb dX2_wouldRise_52 (by decide) ?_
      exact K15 _ (if_pos c17).symm _ _ hP hS _ (lv_sub hl [0, 1, 2] rfl)
    · refine lv_iload_n hx hb dX2_wouldRise_28 rfl (lv_at hl 1 rfl) ?_
      refine lv_bipush (v := 9) hx hb dX2_wouldRise_29 (by decide) ?_
      refine lv_icmp_eq (tgt := 48) hx hb dX2_wouldRise_31 (by decide) (fun c18 => ?_) (fun c18 => ?_)
      · refine lv_iconst (v := 1) hx hb dX2_wouldRise_48 (by decide) ?_
        refine lv_goto (tgt := 53) hx hb dX2_wouldRise_49 (by decide) ?_
        exact K15 _ ((if_neg c17).trans (if_pos c18)).symm _ _ hP hS _ (lv_sub hl [0, 1, 2] rfl)
      · refine lv_iload_n hx hb dX2_wouldRise_34 rfl (lv_at hl 2 rfl) ?_
        refine lv_aload_n hx hb dX2_wouldRise_35 rfl (lv_at hl 0 rfl) ?_
        refine va_get (D := D) (ci := 2) (v := .ref qh) (C := RX2) (T := TX2) (N := 2) hx hb hts (fun w h => List.mem_cons_of_mem _ (List.mem_append_right _ h)) hown hK hP 0 rfl rfl 1 (by decide) (hts (.fieldLink RX2 15 "AtlasFolder$MapTable" "heights" "[I") (List.mem_cons_of_mem _ (List.mem_append_left _ (List.mem_of_getElem? (i := 0) rfl)))) (fun _ h9 => h9) rfl dX2_wouldRise_36 ?_
        refine lv_iload_n hx hb dX2_wouldRise_39 rfl (lv_at hl 1 rfl) ?_
        refine lv_iconst (v := 1) hx hb dX2_wouldRise_40 (by decide) ?_
        refine lv_iadd hx hb dX2_wouldRise_41 ?_
        refine va_calli (va_runS (As := [.ref qh, .int (row + 1)]) (rest := [.int hgt]) ⟨hx, hb, hml, hown, hts⟩ (c_X2_valueAt l D cI cZ cJ cD qh fh (row + 1) ) (va_cwS 2 hts gX2_wouldRise_X2_valueAt rfl rfl rfl (by decide +kernel) ⟨Nat.le_of_ble_eq_true rfl, Nat.le_of_ble_eq_true rfl⟩) ⟨zblind, (fun U hU hW => ⟨rfl, by rw [hU]; exact hP.sub (ws' := [(qh, .inl (cI, 10, .inl fh))]) [2] rfl, va_K.moved hW.alike hK⟩)⟩ rfl rfl hl.1 rfl (lv_room (Nat.le_of_ble_eq_true rfl)) dX2_wouldRise_42 ⟨Nat.le_of_ble_eq_true rfl, Nat.le_of_ble_eq_true rfl⟩) hS (fun q _ h => h.elim) (fun q h => h.elim) (fun r19 u t H locs ht hvm hw hB hz1 hk1 hS => ?_)
        rw [hw]
        have hP := zk hP hk1
        refine lv_icmp_ge (tgt := 52) hx hb dX2_wouldRise_45 (by decide) (fun c20 => ?_) (fun c20 => ?_)
        · refine lv_iconst (v := 0) hx hb dX2_wouldRise_52 (by decide) ?_
          exact K15 _ ((if_neg c17).trans ((if_neg c18).trans (if_pos c20))).symm _ _ hP hS _ (lv_sub hl [0, 1, 2] rfl)
        · refine lv_iconst (v := 1) hx hb dX2_wouldRise_48 (by decide) ?_
          refine lv_goto (tgt := 53) hx hb dX2_wouldRise_49 (by decide) ?_
          exact K15 _ ((if_neg c17).trans ((if_neg c18).trans (if_neg c20))).symm _ _ hP hS _ (lv_sub hl [0, 1, 2] rfl)
  · refine lv_iload_n hx hb dX2_wouldRise_4 rfl (lv_at hl 2 rfl) ?_
    have K22 : ∀ v22_0 : Int32, v22_0 = (if hgt = 0 then 1 else 0) → ∀ (H : Heap) (locs : List Loc), va_P D vwCl [(qm, .inr (2, [.ref qw, .ref qh])), (qw, .inl (cI, 10, .inl fw)), (qh, .inl (cI, 10, .inl fh))] H → va_S (fun _ : Nat => False) s.heap H locs → ∀ (ls : Array Slot), lv_has ls 3 [(0, .ref qm), (1, .int row), (2, .int hgt)] → W p l e (headSpec wsX2_wouldRise rm_X2_wouldRise).room s m ([.ref qm, .int row, .int hgt]).toArray below meth c H locs 0 0 (MQ below (Qc_X2_wouldRise D cI cZ cJ cD qm qw qh fw fh row hgt) ([.ref qm, .int row, .int hgt]).toArray s 0 0 (fun _ : Nat => False)) (F0 m 13 ls [.int v22_0]) := by
      intro v22_0 hv22_0 H locs hP hS ls hl
      subst hv22_0
      have e23 : s_X2_wouldRise fw fh row hgt = (if hgt = 0 then 1 else 0) := by
        unfold s_X2_wouldRise
        exact (if_pos c12)
      exact W.zret (v := (if hgt = 0 then 1 else 0)) hx hb hr (z_b (by (repeat' split) <;> simp)) (fun t ht hW => ⟨⟨_, (), rfl, e23.symm, trivial⟩, hS.F ht⟩) hS.2.2 dX2_wouldRise_13
    refine lv_if_ne (tgt := 12) hx hb dX2_wouldRise_5 (by decide) (fun c24 => ?_) (fun c24 => ?_)
    · refine lv_iconst (v := 0) hx hb dX2_wouldRise_12 (by decide) ?_
      exact K22 _ (if_neg c24).symm _ _ hP hS _ (lv_sub hl [0, 1, 2] rfl)
    · refine lv_iconst (v := 1) hx hb dX2_wouldRise_8 (by decide) ?_
      refine lv_goto (tgt := 13) hx hb dX2_wouldRise_9 (by decide) ?_
      exact K22 _ (if_pos c24).symm _ _ hP hS _ (lv_sub hl [0, 1, 2] rfl)
def s_X2_cellArea (fw : Nat → Int32) (fh : Nat → Int32) (lat : Int32) : Int64 := (((s_X2_tenWidths fw fh lat) + (s_X2_tenWidths fw fh (lat + 1))).toInt64) * (((s_X2_tenHeights fw fh (lat + 1)) - (s_X2_tenHeights fw fh lat)).toInt64)
abbrev rm_X2_cellArea : Room := { frames := 3, cells := 0, slots := 0, locals := 66 }
abbrev Qc_X2_cellArea (D : va_G) (cI cZ cJ cD : ClassId) (qm : Nat) (qw : Nat) (qh : Nat) (fw : Nat → Int32) (fh : Nat → Int32) (lat : Int32) : Array Value → State → Outcome → State → Prop := va_Ql (fun (r : Int64) (_ : Unit) => r = s_X2_cellArea fw fh lat) (fun _ _ => True) (fun _ : Nat => False)
set_option maxHeartbeats 4000000 in
set_option maxRecDepth 100000 in
theorem c_X2_cellArea (l : Launch) (D : va_G) (cI cZ cJ cD : ClassId) (qm : Nat) (qw : Nat) (qh : Nat) (fw : Nat → Int32) (fh : Nat → Int32) (lat : Int32)  : Met l yX2_cellArea wsX2_cellArea rm_X2_cellArea (va_Pc [.ref qm, .int lat] (zPre D cI cZ cJ cD [(qm, .inr (2, [.ref qw, .ref qh])), (qw, .inl (cI, 10, .inl fw)), (qh, .inl (cI, 10, .inl fh))])) (Qc_X2_cellArea D cI cZ cJ cD qm qw qh fw fh lat ) 0 0 (fun _ : Nat => False) := by
  refine Met.ofW (cc := cX2_cellArea) (maxL := 4) (ret := (some .long)) (by decide) rfl ?_
  intro p e s m args below meth c s₁ B hml hv
  obtain ⟨rfl, hP, hK⟩ := hv
  have hx := B.exec
  have hb := B.bytes
  have hr := B.returns
  have hts := atoms_spec (ws := wsX2_cellArea) B.pre
  have hown : s.vm.findClass RX2 = some m.cls := findClass_of_methodNamed B.named
  have hlocks := B.notSynchronized
  have hS : va_S (fun _ : Nat => False) s.heap s.heap [] := va_S.rf
  have hl := lv_entry ([.ref qm, .int lat]) (n := 4) (Nat.le_of_ble_eq_true rfl)
  rw [lg_entry_eq]
  generalize (lg_sl ([.ref qm, .int lat]) ++ List.replicate (4 - (lg_sl ([.ref qm, .int lat])).length) Slot.unset).toArray = ls at hl ⊢
  have hl : lv_has ls 4 [(0, .ref qm), (1, .int lat)] := hl
  have hP : va_P D vwCl [(qm, .inr (2, [.ref qw, .ref qh])), (qw, .inl (cI, 10, .inl fw)), (qh, .inl (cI, 10, .inl fh))] s.heap := hP
  have hP := hP
  refine lv_aload_n hx hb dX2_cellArea_0 rfl (lv_at hl 0 rfl) ?_
  refine lv_iload_n hx hb dX2_cellArea_1 rfl (lv_at hl 1 rfl) ?_
  refine va_calli (va_runV (As := [.int lat]) (rest := []) ⟨hx, hb, hml, hown, hts⟩ (c_X2_tenWidths l D cI cZ cJ cD qm qw qh fw fh lat ) (cwV 1 hts gX2_cellArea_X2_tenWidths rfl rfl rfl (by decide +kernel) ⟨Nat.le_of_ble_eq_true rfl, Nat.le_of_ble_eq_true rfl⟩) ⟨zblind, va_recv hK hP (ci := 2) (q0 := 0) rfl rfl, (fun U hU hW => ⟨rfl, by rw [hU]; exact hP.sub (ws' := [(qm, .inr (2, [.ref qw, .ref qh])), (qw, .inl (cI, 10, .inl fw)), (qh, .inl (cI, 10, .inl fh))]) [0, 1, 2] rfl, va_K.moved hW.alike hK⟩)⟩ rfl rfl hl.1 rfl (lv_room (Nat.le_of_ble_eq_true rfl)) dX2_cellArea_2 ⟨Nat.le_of_ble_eq_true rfl, Nat.le_of_ble_eq_true rfl⟩) hS (fun q _ h => h.elim) (fun q h => h.elim) (fun r5 u t H locs ht hvm hw hB hz1 hk1 hS => ?_)
  rw [hw]
  have hP := zk hP hk1
  refine lv_aload_n hx hb dX2_cellArea_5 rfl (lv_at hl 0 rfl) ?_
  refine lv_iload_n hx hb dX2_cellArea_6 rfl (lv_at hl 1 rfl) ?_
  refine lv_iconst (v := 1) hx hb dX2_cellArea_7 (by decide) ?_
  refine lv_iadd hx hb dX2_cellArea_8 ?_
  refine va_calli (va_runV (As := [.int (lat + 1)]) (rest := [.int (s_X2_tenWidths fw fh lat)]) ⟨hx, hb, hml, hown, hts⟩ (c_X2_tenWidths l D cI cZ cJ cD qm qw qh fw fh (lat + 1) ) (cwV 1 hts gX2_cellArea_X2_tenWidths rfl rfl rfl (by decide +kernel) ⟨Nat.le_of_ble_eq_true rfl, Nat.le_of_ble_eq_true rfl⟩) ⟨zblind, va_recv hK hP (ci := 2) (q0 := 0) rfl rfl, (fun U hU hW => ⟨rfl, by rw [hU]; exact hP.sub (ws' := [(qm, .inr (2, [.ref qw, .ref qh])), (qw, .inl (cI, 10, .inl fw)), (qh, .inl (cI, 10, .inl fh))]) [0, 1, 2] rfl, va_K.moved hW.alike hK⟩)⟩ rfl rfl hl.1 rfl (lv_room (Nat.le_of_ble_eq_true rfl)) dX2_cellArea_9 ⟨Nat.le_of_ble_eq_true rfl, Nat.le_of_ble_eq_true rfl⟩) hS (fun q _ h => h.elim) (fun q h => h.elim) (fun r6 u t H locs ht hvm hw hB hz1 hk1 hS => ?_)
  rw [hw]
  have hP := zk hP hk1
  refine lv_iadd hx hb dX2_cellArea_12 ?_
  refine lv_i2l hx hb dX2_cellArea_13 rfl ?_
  refine lv_lstore_n (lv' := [(2, .long (((s_X2_tenWidths fw fh lat) + (s_X2_tenWidths fw fh (lat + 1))).toInt64)), (0, .ref qm), (1, .int lat)]) hx hb dX2_cellArea_14 rfl hl (by decide) rfl (fun ls hl => ?_)
  refine lv_lload_n hx hb dX2_cellArea_15 rfl (lv_at hl 0 rfl) ?_
  refine lv_aload_n hx hb dX2_cellArea_16 rfl (lv_at hl 1 rfl) ?_
  refine lv_iload_n hx hb dX2_cellArea_17 rfl (lv_at hl 2 rfl) ?_
  refine lv_iconst (v := 1) hx hb dX2_cellArea_18 (by decide) ?_
  refine lv_iadd hx hb dX2_cellArea_19 ?_
  refine va_calli (va_runV (As := [.int (lat + 1)]) (rest := [.long (((s_X2_tenWidths fw fh lat) + (s_X2_tenWidths fw fh (lat + 1))).toInt64)]) ⟨hx, hb, hml, hown, hts⟩ (c_X2_tenHeights l D cI cZ cJ cD qm qw qh fw fh (lat + 1) ) (cwV 1 hts gX2_cellArea_X2_tenHeights rfl rfl rfl (by decide +kernel) ⟨Nat.le_of_ble_eq_true rfl, Nat.le_of_ble_eq_true rfl⟩) ⟨zblind, va_recv hK hP (ci := 2) (q0 := 0) rfl rfl, (fun U hU hW => ⟨rfl, by rw [hU]; exact hP.sub (ws' := [(qm, .inr (2, [.ref qw, .ref qh])), (qw, .inl (cI, 10, .inl fw)), (qh, .inl (cI, 10, .inl fh))]) [0, 1, 2] rfl, va_K.moved hW.alike hK⟩)⟩ rfl rfl hl.1 rfl (lv_room (Nat.le_of_ble_eq_true rfl)) dX2_cellArea_20 ⟨Nat.le_of_ble_eq_true rfl, Nat.le_of_ble_eq_true rfl⟩) hS (fun q _ h => h.elim) (fun q h => h.elim) (fun r7 u t H locs ht hvm hw hB hz1 hk1 hS => ?_)
  rw [hw]
  have hP := zk hP hk1
  refine lv_aload_n hx hb dX2_cellArea_23 rfl (lv_at hl 1 rfl) ?_
  refine lv_iload_n hx hb dX2_cellArea_24 rfl (lv_at hl 2 rfl) ?_
  refine va_calli (va_runV (As := [.int lat]) (rest := [.int (s_X2_tenHeights fw fh (lat + 1)), .long (((s_X2_tenWidths fw fh lat) + (s_X2_tenWidths fw fh (lat + 1))).toInt64)]) ⟨hx, hb, hml, hown, hts⟩ (c_X2_tenHeights l D cI cZ cJ cD qm qw qh fw fh lat ) (cwV 1 hts gX2_cellArea_X2_tenHeights rfl rfl rfl (by decide +kernel) ⟨Nat.le_of_ble_eq_true rfl, Nat.le_of_ble_eq_true rfl⟩) ⟨zblind, va_recv hK hP (ci := 2) (q0 := 0) rfl rfl, (fun U hU hW => ⟨rfl, by rw [hU]; exact hP.sub (ws' := [(qm, .inr (2, [.ref qw, .ref qh])), (qw, .inl (cI, 10, .inl fw)), (qh, .inl (cI, 10, .inl fh))]) [0, 1, 2] rfl, va_K.moved hW.alike hK⟩)⟩ rfl rfl hl.1 rfl (lv_room (Nat.le_of_ble_eq_true rfl)) dX2_cellArea_25 ⟨Nat.le_of_ble_eq_true rfl, Nat.le_of_ble_eq_true rfl⟩) hS (fun q _ h => h.elim) (fun q h => h.elim) (fun r8 u t H locs ht hvm hw hB hz1 hk1 hS => ?_)
  rw [hw]
  have hP := zk hP hk1
  refine lv_isub hx hb dX2_cellArea_28 ?_
  refine lv_i2l hx hb dX2_cellArea_29 rfl ?_
  refine lv_lmul hx hb dX2_cellArea_30 ?_
  have e9 : s_X2_cellArea fw fh lat = (((s_X2_tenWidths fw fh lat) + (s_X2_tenWidths fw fh (lat + 1))).toInt64) * (((s_X2_tenHeights fw fh (lat + 1)) - (s_X2_tenHeights fw fh lat)).toInt64) := rfl
  exact W.lret (v := ((((s_X2_tenWidths fw fh lat) + (s_X2_tenWidths fw fh (lat + 1))).toInt64) * (((s_X2_tenHeights fw fh (lat + 1)) - (s_X2_tenHeights fw fh lat)).toInt64))) hx hb hr (fun t ht hW => ⟨⟨_, (), rfl, e9.symm, trivial⟩, hS.F ht⟩) hS.2.2 dX2_cellArea_31
def s_X2_bandArea (fw : Nat → Int32) (fh : Nat → Int32) (bd : Int32) : Int64 := (36000 * (((s_X2_valueAt fw bd) + (s_X2_valueAt fw (bd + 1))).toInt64)) * (((s_X2_valueAt fh (bd + 1)) - (s_X2_valueAt fh bd)).toInt64)
abbrev rm_X2_bandArea : Room := { frames := 1, cells := 0, slots := 0, locals := 21 }
abbrev Qc_X2_bandArea (D : va_G) (cI cZ cJ cD : ClassId) (qm : Nat) (qw : Nat) (qh : Nat) (fw : Nat → Int32) (fh : Nat → Int32) (bd : Int32) : Array Value → State → Outcome → State → Prop := va_Ql (fun (r : Int64) (_ : Unit) => r = s_X2_bandArea fw fh bd) (fun _ _ => True) (fun _ : Nat => False)
set_option maxHeartbeats 4000000 in
set_option maxRecDepth 100000 in
theorem c_X2_bandArea (l : Launch) (D : va_G) (cI cZ cJ cD : ClassId) (qm : Nat) (qw : Nat) (qh : Nat) (fw : Nat → Int32) (fh : Nat → Int32) (bd : Int32)  : Met l yX2_bandArea wsX2_bandArea rm_X2_bandArea (va_Pc [.ref qm, .int bd] (zPre D cI cZ cJ cD [(qm, .inr (2, [.ref qw, .ref qh])), (qw, .inl (cI, 10, .inl fw)), (qh, .inl (cI, 10, .inl fh))])) (Qc_X2_bandArea D cI cZ cJ cD qm qw qh fw fh bd ) 0 0 (fun _ : Nat => False) := by
  refine Met.ofW (cc := cX2_bandArea) (maxL := 6) (ret := (some .long)) (by decide) rfl ?_
  intro p e s m args below meth c s₁ B hml hv
  obtain ⟨rfl, hP, hK⟩ := hv
  have hx := B.exec
  have hb := B.bytes
  have hr := B.returns
  have hts := atoms_spec (ws := wsX2_bandArea) B.pre
  have hown : s.vm.findClass RX2 = some m.cls := findClass_of_methodNamed B.named
  have hlocks := B.notSynchronized
  have hS : va_S (fun _ : Nat => False) s.heap s.heap [] := va_S.rf
  have hl := lv_entry ([.ref qm, .int bd]) (n := 6) (Nat.le_of_ble_eq_true rfl)
  rw [lg_entry_eq]
  generalize (lg_sl ([.ref qm, .int bd]) ++ List.replicate (6 - (lg_sl ([.ref qm, .int bd])).length) Slot.unset).toArray = ls at hl ⊢
  have hl : lv_has ls 6 [(0, .ref qm), (1, .int bd)] := hl
  have hP : va_P D vwCl [(qm, .inr (2, [.ref qw, .ref qh])), (qw, .inl (cI, 10, .inl fw)), (qh, .inl (cI, 10, .inl fh))] s.heap := hP
  have hP := hP
  refine lv_aload_n hx hb dX2_bandArea_0 rfl (lv_at hl 0 rfl) ?_
  refine va_get (D := D) (ci := 2) (v := .ref qw) (C := RX2) (T := TX2) (N := 2) hx hb hts (fun w h => List.mem_cons_of_mem _ (List.mem_append_right _ h)) hown hK hP 0 rfl rfl 0 (by decide) (hts (.fieldLink RX2 9 "AtlasFolder$MapTable" "widths" "[I") (List.mem_cons_of_mem _ (List.mem_append_left _ (List.mem_of_getElem? (i := 0) rfl)))) (fun _ h9 => h9) rfl dX2_bandArea_1 ?_
  refine lv_iload_n hx hb dX2_bandArea_4 rfl (lv_at hl 1 rfl) ?_
  refine va_calli (va_runS (As := [.ref qw, .int bd]) (rest := []) ⟨hx, hb, hml, hown, hts⟩ (c_X2_valueAt l D cI cZ cJ cD qw fw bd ) (va_cwS 2 hts gX2_bandArea_X2_valueAt rfl rfl rfl (by decide +kernel) ⟨Nat.le_of_ble_eq_true rfl, Nat.le_of_ble_eq_true rfl⟩) ⟨zblind, (fun U hU hW => ⟨rfl, by rw [hU]; exact hP.sub (ws' := [(qw, .inl (cI, 10, .inl fw))]) [1] rfl, va_K.moved hW.alike hK⟩)⟩ rfl rfl hl.1 rfl (lv_room (Nat.le_of_ble_eq_true rfl)) dX2_bandArea_5 ⟨Nat.le_of_ble_eq_true rfl, Nat.le_of_ble_eq_true rfl⟩) hS (fun q _ h => h.elim) (fun q h => h.elim) (fun r5 u t H locs ht hvm hw hB hz1 hk1 hS => ?_)
  rw [hw]
  have hP := zk hP hk1
  refine lv_aload_n hx hb dX2_bandArea_8 rfl (lv_at hl 0 rfl) ?_
  refine va_get (D := D) (ci := 2) (v := .ref qw) (C := RX2) (T := TX2) (N := 2) hx hb hts (fun w h => List.mem_cons_of_mem _ (List.mem_append_right _ h)) hown hK hP 0 rfl rfl 0 (by decide) (hts (.fieldLink RX2 9 "AtlasFolder$MapTable" "widths" "[I") (List.mem_cons_of_mem _ (List.mem_append_left _ (List.mem_of_getElem? (i := 0) rfl)))) (fun _ h9 => h9) rfl dX2_bandArea_9 ?_
  refine lv_iload_n hx hb dX2_bandArea_12 rfl (lv_at hl 1 rfl) ?_
  refine lv_iconst (v := 1) hx hb dX2_bandArea_13 (by decide) ?_
  refine lv_iadd hx hb dX2_bandArea_14 ?_
  refine va_calli (va_runS (As := [.ref qw, .int (bd + 1)]) (rest := [.int (s_X2_valueAt fw bd)]) ⟨hx, hb, hml, hown, hts⟩ (c_X2_valueAt l D cI cZ cJ cD qw fw (bd + 1) ) (va_cwS 2 hts gX2_bandArea_X2_valueAt rfl rfl rfl (by decide +kernel) ⟨Nat.le_of_ble_eq_true rfl, Nat.le_of_ble_eq_true rfl⟩) ⟨zblind, (fun U hU hW => ⟨rfl, by rw [hU]; exact hP.sub (ws' := [(qw, .inl (cI, 10, .inl fw))]) [1] rfl, va_K.moved hW.alike hK⟩)⟩ rfl rfl hl.1 rfl (lv_room (Nat.le_of_ble_eq_true rfl)) dX2_bandArea_15 ⟨Nat.le_of_ble_eq_true rfl, Nat.le_of_ble_eq_true rfl⟩) hS (fun q _ h => h.elim) (fun q h => h.elim) (fun r6 u t H locs ht hvm hw hB hz1 hk1 hS => ?_)
  rw [hw]
  have hP := zk hP hk1
  refine lv_iadd hx hb dX2_bandArea_18 ?_
  refine lv_i2l hx hb dX2_bandArea_19 rfl ?_
  refine lv_lstore_n (lv' := [(2, .long (((s_X2_valueAt fw bd) + (s_X2_valueAt fw (bd + 1))).toInt64)), (0, .ref qm), (1, .int bd)]) hx hb dX2_bandArea_20 rfl hl (by decide) rfl (fun ls hl => ?_)
  refine lv_aload_n hx hb dX2_bandArea_21 rfl (lv_at hl 1 rfl) ?_
  refine va_get (D := D) (ci := 2) (v := .ref qh) (C := RX2) (T := TX2) (N := 2) hx hb hts (fun w h => List.mem_cons_of_mem _ (List.mem_append_right _ h)) hown hK hP 0 rfl rfl 1 (by decide) (hts (.fieldLink RX2 15 "AtlasFolder$MapTable" "heights" "[I") (List.mem_cons_of_mem _ (List.mem_append_left _ (List.mem_of_getElem? (i := 1) rfl)))) (fun _ h9 => h9) rfl dX2_bandArea_22 ?_
  refine lv_iload_n hx hb dX2_bandArea_25 rfl (lv_at hl 2 rfl) ?_
  refine lv_iconst (v := 1) hx hb dX2_bandArea_26 (by decide) ?_
  refine lv_iadd hx hb dX2_bandArea_27 ?_
  refine va_calli (va_runS (As := [.ref qh, .int (bd + 1)]) (rest := []) ⟨hx, hb, hml, hown, hts⟩ (c_X2_valueAt l D cI cZ cJ cD qh fh (bd + 1) ) (va_cwS 2 hts gX2_bandArea_X2_valueAt rfl rfl rfl (by decide +kernel) ⟨Nat.le_of_ble_eq_true rfl, Nat.le_of_ble_eq_true rfl⟩) ⟨zblind, (fun U hU hW => ⟨rfl, by rw [hU]; exact hP.sub (ws' := [(qh, .inl (cI, 10, .inl fh))]) [2] rfl, va_K.moved hW.alike hK⟩)⟩ rfl rfl hl.1 rfl (lv_room (Nat.le_of_ble_eq_true rfl)) dX2_bandArea_28 ⟨Nat.le_of_ble_eq_true rfl, Nat.le_of_ble_eq_true rfl⟩) hS (fun q _ h => h.elim) (fun q h => h.elim) (fun r7 u t H locs ht hvm hw hB hz1 hk1 hS => ?_)
  rw [hw]
  have hP := zk hP hk1
  refine lv_aload_n hx hb dX2_bandArea_31 rfl (lv_at hl 1 rfl) ?_
  refine va_get (D := D) (ci := 2) (v := .ref qh) (C := RX2) (T := TX2) (N := 2) hx hb hts (fun w h => List.mem_cons_of_mem _ (List.mem_append_right _ h)) hown hK hP 0 rfl rfl 1 (by decide) (hts (.fieldLink RX2 15 "AtlasFolder$MapTable" "heights" "[I") (List.mem_cons_of_mem _ (List.mem_append_left _ (List.mem_of_getElem? (i := 1) rfl)))) (fun _ h9 => h9) rfl dX2_bandArea_32 ?_
  refine lv_iload_n hx hb dX2_bandArea_35 rfl (lv_at hl 2 rfl) ?_
  refine va_calli (va_runS (As := [.ref qh, .int bd]) (rest := [.int (s_X2_valueAt fh (bd + 1))]) ⟨hx, hb, hml, hown, hts⟩ (c_X2_valueAt l D cI cZ cJ cD qh fh bd ) (va_cwS 2 hts gX2_bandArea_X2_valueAt rfl rfl rfl (by decide +kernel) ⟨Nat.le_of_ble_eq_true rfl, Nat.le_of_ble_eq_true rfl⟩) ⟨zblind, (fun U hU hW => ⟨rfl, by rw [hU]; exact hP.sub (ws' := [(qh, .inl (cI, 10, .inl fh))]) [2] rfl, va_K.moved hW.alike hK⟩)⟩ rfl rfl hl.1 rfl (lv_room (Nat.le_of_ble_eq_true rfl)) dX2_bandArea_36 ⟨Nat.le_of_ble_eq_true rfl, Nat.le_of_ble_eq_true rfl⟩) hS (fun q _ h => h.elim) (fun q h => h.elim) (fun r8 u t H locs ht hvm hw hB hz1 hk1 hS => ?_)
  rw [hw]
  have hP := zk hP hk1
  refine lv_isub hx hb dX2_bandArea_39 ?_
  refine lv_i2l hx hb dX2_bandArea_40 rfl ?_
  refine lv_lstore (lv' := [(4, .long (((s_X2_valueAt fh (bd + 1)) - (s_X2_valueAt fh bd)).toInt64)), (2, .long (((s_X2_valueAt fw bd) + (s_X2_valueAt fw (bd + 1))).toInt64)), (0, .ref qm), (1, .int bd)]) hx hb dX2_bandArea_41 hl (by decide) rfl (fun ls hl => ?_)
  refine lv_ldc2 (v := 36000) hx hb hown (hts (.constantLong RX2 41 (36000)) (List.mem_cons_of_mem _ (List.mem_append_left _ (List.mem_of_getElem? (i := 2) rfl)))) dX2_bandArea_43 ?_
  refine lv_lload_n hx hb dX2_bandArea_46 rfl (lv_at hl 1 rfl) ?_
  refine lv_lmul hx hb dX2_bandArea_47 ?_
  refine lv_lload hx hb dX2_bandArea_48 (lv_at hl 0 rfl) ?_
  refine lv_lmul hx hb dX2_bandArea_50 ?_
  have e9 : s_X2_bandArea fw fh bd = (36000 * (((s_X2_valueAt fw bd) + (s_X2_valueAt fw (bd + 1))).toInt64)) * (((s_X2_valueAt fh (bd + 1)) - (s_X2_valueAt fh bd)).toInt64) := rfl
  exact W.lret (v := ((36000 * (((s_X2_valueAt fw bd) + (s_X2_valueAt fw (bd + 1))).toInt64)) * (((s_X2_valueAt fh (bd + 1)) - (s_X2_valueAt fh bd)).toInt64))) hx hb hr (fun t ht hW => ⟨⟨_, (), rfl, e9.symm, trivial⟩, hS.F ht⟩) hS.2.2 dX2_bandArea_51
def n_X2_setRow_qw (fw : Nat → Int32) (fh : Nat → Int32) (row : Int32) (wd : Int32) (hgt : Int32) : Nat → Int32 := (if row < 0 then fw else (if 10 ≤ row then fw else upd fw row.toNatClampNeg wd))
def n_X2_setRow_qh (fw : Nat → Int32) (fh : Nat → Int32) (row : Int32) (wd : Int32) (hgt : Int32) : Nat → Int32 := (if row < 0 then fh else (if 10 ≤ row then fh else upd fh row.toNatClampNeg hgt))
abbrev rm_X2_setRow : Room := { frames := 0, cells := 0, slots := 0, locals := 0 }
abbrev Qc_X2_setRow (D : va_G) (cI cZ cJ cD : ClassId) (qm : Nat) (qw : Nat) (qh : Nat) (fw : Nat → Int32) (fh : Nat → Int32) (row : Int32) (wd : Int32) (hgt : Int32) (A : Nat → Prop) : Array Value → State → Outcome → State → Prop := va_Qv (fun _ : Unit => True) (zPost D cI cZ cJ cD A [(qm, .inr (2, [.ref qw, .ref qh])), (qw, .inl (cI, 10, .inl (n_X2_setRow_qw fw fh row wd hgt))), (qh, .inl (cI, 10, .inl (n_X2_setRow_qh fw fh row wd hgt)))]) A
set_option maxHeartbeats 4000000 in
set_option maxRecDepth 100000 in
theorem c_X2_setRow (l : Launch) (D : va_G) (cI cZ cJ cD : ClassId) (qm : Nat) (qw : Nat) (qh : Nat) (fw : Nat → Int32) (fh : Nat → Int32) (row : Int32) (wd : Int32) (hgt : Int32) (sz : Nat)  : Met l yX2_setRow wsX2_setRow rm_X2_setRow (va_Pc [.ref qm, .int row, .int wd, .int hgt] (zPreW D cI cZ cJ cD [(qm, .inr (2, [.ref qw, .ref qh])), (qw, .inl (cI, 10, .inl fw)), (qh, .inl (cI, 10, .inl fh))] sz)) (Qc_X2_setRow D cI cZ cJ cD qm qw qh fw fh row wd hgt (va_A [(qm, .inr (2, [.ref qw, .ref qh])), (qw, .inl (cI, 10, .inl fw)), (qh, .inl (cI, 10, .inl fh))] sz)) 0 0 (va_A [(qm, .inr (2, [.ref qw, .ref qh])), (qw, .inl (cI, 10, .inl fw)), (qh, .inl (cI, 10, .inl fh))] sz) := by
  refine Met.ofW (cc := cX2_setRow) (maxL := 4) (ret := none) (by decide) rfl ?_
  intro p e s m args below meth c s₁ B hml hv
  obtain ⟨rfl, hsz, hP, hK, hD0⟩ := hv
  have hx := B.exec
  have hb := B.bytes
  have hr := B.returns
  have hts := atoms_spec (ws := wsX2_setRow) B.pre
  have hown : s.vm.findClass RX2 = some m.cls := findClass_of_methodNamed B.named
  have hlocks := B.notSynchronized
  subst hsz
  have hD := hD0.self (sz := s.heap.size)
  generalize hAe : va_A [(qm, .inr (2, [.ref qw, .ref qh])), (qw, .inl (cI, 10, .inl fw)), (qh, .inl (cI, 10, .inl fh))] s.heap.size = A at hD ⊢
  have hA : ∀ q : Nat, s.heap.size ≤ q → A q := fun q h => by rw [← hAe]; exact Or.inr h
  have hS : va_S A s.heap s.heap [] := va_S.rf
  have hl := lv_entry ([.ref qm, .int row, .int wd, .int hgt]) (n := 4) (Nat.le_of_ble_eq_true rfl)
  rw [lg_entry_eq]
  generalize (lg_sl ([.ref qm, .int row, .int wd, .int hgt]) ++ List.replicate (4 - (lg_sl ([.ref qm, .int row, .int wd, .int hgt])).length) Slot.unset).toArray = ls at hl ⊢
  have hl : lv_has ls 4 [(0, .ref qm), (1, .int row), (2, .int wd), (3, .int hgt)] := hl
  have hP : va_P D vwCl [(qm, .inr (2, [.ref qw, .ref qh])), (qw, .inl (cI, 10, .inl fw)), (qh, .inl (cI, 10, .inl fh))] s.heap := hP
  have hP := hP
  refine lv_iload_n hx hb dX2_setRow_0 rfl (lv_at hl 1 rfl) ?_
  refine lv_if_lt (tgt := 24) hx hb dX2_setRow_1 (by decide) (fun c3 => ?_) (fun c3 => ?_)
  · have e4 : n_X2_setRow_qw fw fh row wd hgt = fw := by
      unfold n_X2_setRow_qw
      exact (if_pos c3)
    have e5 : n_X2_setRow_qh fw fh row wd hgt = fh := by
      unfold n_X2_setRow_qh
      exact (if_pos c3)
    exact W.vret hx hb hr (fun t ht hW => ⟨⟨(), rfl, trivial, ⟨(by rw [e4, e5]; rw [ht]; exact hP), va_K.moved hW.alike hK, (by rw [e4, e5]; exact hD)⟩⟩, hS.F ht⟩) hS.2.2 dX2_setRow_24
  · refine lv_iload_n hx hb dX2_setRow_4 rfl (lv_at hl 1 rfl) ?_
    refine lv_bipush (v := 10) hx hb dX2_setRow_5 (by decide) ?_
    refine lv_icmp_ge (tgt := 24) hx hb dX2_setRow_7 (by decide) (fun c6 => ?_) (fun c6 => ?_)
    · have e7 : n_X2_setRow_qw fw fh row wd hgt = fw := by
        unfold n_X2_setRow_qw
        exact ((if_neg c3).trans (if_pos c6))
      have e8 : n_X2_setRow_qh fw fh row wd hgt = fh := by
        unfold n_X2_setRow_qh
        exact ((if_neg c3).trans (if_pos c6))
      exact W.vret hx hb hr (fun t ht hW => ⟨⟨(), rfl, trivial, ⟨(by rw [e7, e8]; rw [ht]; exact hP), va_K.moved hW.alike hK, (by rw [e7, e8]; exact hD)⟩⟩, hS.F ht⟩) hS.2.2 dX2_setRow_24
    · refine lv_aload_n hx hb dX2_setRow_10 rfl (lv_at hl 0 rfl) ?_
      refine va_get (D := D) (ci := 2) (v := .ref qw) (C := RX2) (T := TX2) (N := 2) hx hb hts (fun w h => List.mem_cons_of_mem _ (List.mem_append_right _ h)) hown hK hP 0 rfl rfl 0 (by decide) (hts (.fieldLink RX2 9 "AtlasFolder$MapTable" "widths" "[I") (List.mem_cons_of_mem _ (List.mem_append_left _ (List.mem_of_getElem? (i := 0) rfl)))) (fun _ h9 => h9) rfl dX2_setRow_11 ?_
      refine lv_iload_n hx hb dX2_setRow_14 rfl (lv_at hl 1 rfl) ?_
      refine lv_iload_n hx hb dX2_setRow_15 rfl (lv_at hl 2 rfl) ?_
      refine va_iast hx hb hK hP hD hS 1 0 rfl rfl (z_in rfl c3 c6) dX2_setRow_16 (fun H locs hP hD hS => ?_)
      have hP : va_P D vwCl [(qm, .inr (2, [.ref qw, .ref qh])), (qw, .inl (cI, 10, .inl (upd fw row.toNatClampNeg wd))), (qh, .inl (cI, 10, .inl fh))] H := hP
      have hD : va_D A [(qm, .inr (2, [.ref qw, .ref qh])), (qw, .inl (cI, 10, .inl (upd fw row.toNatClampNeg wd))), (qh, .inl (cI, 10, .inl fh))] := hD
      refine lv_aload_n hx hb dX2_setRow_17 rfl (lv_at hl 0 rfl) ?_
      refine va_get (D := D) (ci := 2) (v := .ref qh) (C := RX2) (T := TX2) (N := 2) hx hb hts (fun w h => List.mem_cons_of_mem _ (List.mem_append_right _ h)) hown hK hP 0 rfl rfl 1 (by decide) (hts (.fieldLink RX2 15 "AtlasFolder$MapTable" "heights" "[I") (List.mem_cons_of_mem _ (List.mem_append_left _ (List.mem_of_getElem? (i := 1) rfl)))) (fun _ h9 => h9) rfl dX2_setRow_18 ?_
      refine lv_iload_n hx hb dX2_setRow_21 rfl (lv_at hl 1 rfl) ?_
      refine lv_iload_n hx hb dX2_setRow_22 rfl (lv_at hl 3 rfl) ?_
      refine va_iast hx hb hK hP hD hS 2 0 rfl rfl (z_in rfl c3 c6) dX2_setRow_23 (fun H locs hP hD hS => ?_)
      have hP : va_P D vwCl [(qm, .inr (2, [.ref qw, .ref qh])), (qw, .inl (cI, 10, .inl (upd fw row.toNatClampNeg wd))), (qh, .inl (cI, 10, .inl (upd fh row.toNatClampNeg hgt)))] H := hP
      have hD : va_D A [(qm, .inr (2, [.ref qw, .ref qh])), (qw, .inl (cI, 10, .inl (upd fw row.toNatClampNeg wd))), (qh, .inl (cI, 10, .inl (upd fh row.toNatClampNeg hgt)))] := hD
      have e9 : n_X2_setRow_qw fw fh row wd hgt = upd fw row.toNatClampNeg wd := by
        unfold n_X2_setRow_qw
        exact ((if_neg c3).trans (if_neg c6))
      have e10 : n_X2_setRow_qh fw fh row wd hgt = upd fh row.toNatClampNeg hgt := by
        unfold n_X2_setRow_qh
        exact ((if_neg c3).trans (if_neg c6))
      exact W.vret hx hb hr (fun t ht hW => ⟨⟨(), rfl, trivial, ⟨(by rw [e9, e10]; rw [ht]; exact hP), va_K.moved hW.alike hK, (by rw [e9, e10]; exact hD)⟩⟩, hS.F ht⟩) hS.2.2 dX2_setRow_24
def s_J13_compare_74951 (x : Int64) (y : Int64) : Int32 := (if 0 ≤ (lg_cmp x y) then (if (lg_cmp x y) = 0 then 0 else 1) else (-1))
abbrev rm_J13_compare_74951 : Room := { frames := 0, cells := 0, slots := 0, locals := 0 }
abbrev Qc_J13_compare_74951 (D : va_G) (cI cZ cJ cD : ClassId) (x : Int64) (y : Int64) : Array Value → State → Outcome → State → Prop := va_Qi (fun (r : Int32) (_ : Unit) => r = s_J13_compare_74951 x y) (fun _ _ => True) (fun _ : Nat => False)
set_option maxHeartbeats 4000000 in
set_option maxRecDepth 100000 in
theorem c_J13_compare_74951 (l : Launch) (D : va_G) (cI cZ cJ cD : ClassId) (x : Int64) (y : Int64)  : Met l yJ13_compare_74951 wsJ13_compare_74951 rm_J13_compare_74951 (va_Pc [.long x, .long y] (zPre D cI cZ cJ cD [])) (Qc_J13_compare_74951 D cI cZ cJ cD x y ) 0 0 (fun _ : Nat => False) := by
  refine Met.ofW (cc := cJ13_compare_74951) (maxL := 4) (ret := (some .int)) (by decide) rfl ?_
  intro p e s m args below meth c s₁ B hml hv
  obtain ⟨rfl, hP, hK⟩ := hv
  have hx := B.exec
  have hb := B.bytes
  have hr := B.returns
  have hts := atoms_spec (ws := wsJ13_compare_74951) B.pre
  have hown : s.vm.findClass RJ13 = some m.cls := findClass_of_methodNamed B.named
  have hlocks := B.notSynchronized
  have hS : va_S (fun _ : Nat => False) s.heap s.heap [] := va_S.rf
  have hl := lv_entry ([.long x, .long y]) (n := 4) (Nat.le_of_ble_eq_true rfl)
  rw [lg_entry_eq]
  generalize (lg_sl ([.long x, .long y]) ++ List.replicate (4 - (lg_sl ([.long x, .long y])).length) Slot.unset).toArray = ls at hl ⊢
  have hl : lv_has ls 4 [(0, .long x), (2, .long y)] := hl
  have hP : va_P D vwCl [] s.heap := hP
  have hP := hP
  refine lv_lload_n hx hb dJ13_compare_74951_0 rfl (lv_at hl 0 rfl) ?_
  refine lv_lload_n hx hb dJ13_compare_74951_1 rfl (lv_at hl 1 rfl) ?_
  refine W.lcmp hx hb dJ13_compare_74951_2 ?_
  have K6 : ∀ v6_0 : Int32, v6_0 = (if 0 ≤ (lg_cmp x y) then (if (lg_cmp x y) = 0 then 0 else 1) else (-1)) → ∀ (H : Heap) (locs : List Loc), va_P D vwCl [] H → va_S (fun _ : Nat => False) s.heap H locs → ∀ (ls : Array Slot), lv_has ls 4 [(0, .long x), (2, .long y)] → W p l e (headSpec wsJ13_compare_74951 rm_J13_compare_74951).room s m ([.long x, .long y]).toArray below meth c H locs 0 0 (MQ below (Qc_J13_compare_74951 D cI cZ cJ cD x y) ([.long x, .long y]).toArray s 0 0 (fun _ : Nat => False)) (F0 m 21 ls [.int v6_0]) := by
    intro v6_0 hv6_0 H locs hP hS ls hl
    subst hv6_0
    have e7 : s_J13_compare_74951 x y = (if 0 ≤ (lg_cmp x y) then (if (lg_cmp x y) = 0 then 0 else 1) else (-1)) := rfl
    exact W.iret (v := (if 0 ≤ (lg_cmp x y) then (if (lg_cmp x y) = 0 then 0 else 1) else (-1))) hx hb hr (fun t ht hW => ⟨⟨_, (), rfl, e7.symm, trivial⟩, hS.F ht⟩) hS.2.2 dJ13_compare_74951_21
  refine lv_if_ge (tgt := 10) hx hb dJ13_compare_74951_3 (by decide) (fun c8 => ?_) (fun c8 => ?_)
  · refine lv_lload_n hx hb dJ13_compare_74951_10 rfl (lv_at hl 0 rfl) ?_
    refine lv_lload_n hx hb dJ13_compare_74951_11 rfl (lv_at hl 1 rfl) ?_
    refine W.lcmp hx hb dJ13_compare_74951_12 ?_
    refine lv_if_ne (tgt := 20) hx hb dJ13_compare_74951_13 (by decide) (fun c9 => ?_) (fun c9 => ?_)
    · refine lv_iconst (v := 1) hx hb dJ13_compare_74951_20 (by decide) ?_
      exact K6 _ ((if_pos c8).trans (if_neg c9)).symm _ _ hP hS _ (lv_sub hl [0, 1] rfl)
    · refine lv_iconst (v := 0) hx hb dJ13_compare_74951_16 (by decide) ?_
      refine lv_goto (tgt := 21) hx hb dJ13_compare_74951_17 (by decide) ?_
      exact K6 _ ((if_pos c8).trans (if_pos c9)).symm _ _ hP hS _ (lv_sub hl [0, 1] rfl)
  · refine lv_iconst (v := (-1)) hx hb dJ13_compare_74951_6 (by decide) ?_
    refine lv_goto (tgt := 21) hx hb dJ13_compare_74951_7 (by decide) ?_
    exact K6 _ (if_neg c8).symm _ _ hP hS _ (lv_sub hl [0, 1] rfl)
def s_X0_truthOf (ft : Nat → Int32) (bd : Int32) : Int32 := (if bd < 0 then 1000 else (if 9 ≤ bd then 1000 else ft bd.toNatClampNeg))
abbrev rm_X0_truthOf : Room := { frames := 0, cells := 0, slots := 0, locals := 0 }
abbrev Qc_X0_truthOf (D : va_G) (cI cZ cJ cD : ClassId) (qb : Nat) (qt : Nat) (ft : Nat → Int32) (bd : Int32) : Array Value → State → Outcome → State → Prop := va_Qi (fun (r : Int32) (_ : Unit) => r = s_X0_truthOf ft bd) (fun _ _ => True) (fun _ : Nat => False)
set_option maxHeartbeats 4000000 in
set_option maxRecDepth 100000 in
theorem c_X0_truthOf (l : Launch) (D : va_G) (cI cZ cJ cD : ClassId) (qb : Nat) (qt : Nat) (ft : Nat → Int32) (bd : Int32)  : Met l yX0_truthOf wsX0_truthOf rm_X0_truthOf (va_Pc [.ref qb, .int bd] (zPre D cI cZ cJ cD [(qb, .inr (0, [.ref qt])), (qt, .inl (cI, 9, .inl ft))])) (Qc_X0_truthOf D cI cZ cJ cD qb qt ft bd ) 0 0 (fun _ : Nat => False) := by
  refine Met.ofW (cc := cX0_truthOf) (maxL := 2) (ret := (some .int)) (by decide) rfl ?_
  intro p e s m args below meth c s₁ B hml hv
  obtain ⟨rfl, hP, hK⟩ := hv
  have hx := B.exec
  have hb := B.bytes
  have hr := B.returns
  have hts := atoms_spec (ws := wsX0_truthOf) B.pre
  have hown : s.vm.findClass RX0 = some m.cls := findClass_of_methodNamed B.named
  have hlocks := B.notSynchronized
  have hS : va_S (fun _ : Nat => False) s.heap s.heap [] := va_S.rf
  have hl := lv_entry ([.ref qb, .int bd]) (n := 2) (Nat.le_of_ble_eq_true rfl)
  rw [lg_entry_eq]
  generalize (lg_sl ([.ref qb, .int bd]) ++ List.replicate (2 - (lg_sl ([.ref qb, .int bd])).length) Slot.unset).toArray = ls at hl ⊢
  have hl : lv_has ls 2 [(0, .ref qb), (1, .int bd)] := hl
  have hP : va_P D vwCl [(qb, .inr (0, [.ref qt])), (qt, .inl (cI, 9, .inl ft))] s.heap := hP
  have hP := hP
  refine lv_iload_n hx hb dX0_truthOf_0 rfl (lv_at hl 1 rfl) ?_
  have K6 : ∀ v6_0 : Int32, v6_0 = (if bd < 0 then 1000 else (if 9 ≤ bd then 1000 else ft bd.toNatClampNeg)) → ∀ (H : Heap) (locs : List Loc), va_P D vwCl [(qb, .inr (0, [.ref qt])), (qt, .inl (cI, 9, .inl ft))] H → va_S (fun _ : Nat => False) s.heap H locs → ∀ (ls : Array Slot), lv_has ls 2 [(0, .ref qb), (1, .int bd)] → W p l e (headSpec wsX0_truthOf rm_X0_truthOf).room s m ([.ref qb, .int bd]).toArray below meth c H locs 0 0 (MQ below (Qc_X0_truthOf D cI cZ cJ cD qb qt ft bd) ([.ref qb, .int bd]).toArray s 0 0 (fun _ : Nat => False)) (F0 m 22 ls [.int v6_0]) := by
    intro v6_0 hv6_0 H locs hP hS ls hl
    subst hv6_0
    have e7 : s_X0_truthOf ft bd = (if bd < 0 then 1000 else (if 9 ≤ bd then 1000 else ft bd.toNatClampNeg)) := rfl
    exact W.iret (v := (if bd < 0 then 1000 else (if 9 ≤ bd then 1000 else ft bd.toNatClampNeg))) hx hb hr (fun t ht hW => ⟨⟨_, (), rfl, e7.symm, trivial⟩, hS.F ht⟩) hS.2.2 dX0_truthOf_22
  refine lv_if_lt (tgt := 19) hx hb dX0_truthOf_1 (by decide) (fun c8 => ?_) (fun c8 => ?_)
  · refine lv_sipush (v := 1000) hx hb dX0_truthOf_19 (by decide) ?_
    exact K6 _ (if_pos c8).symm _ _ hP hS _ (lv_sub hl [0, 1] rfl)
  · refine lv_iload_n hx hb dX0_truthOf_4 rfl (lv_at hl 1 rfl) ?_
    refine lv_bipush (v := 9) hx hb dX0_truthOf_5 (by decide) ?_
    refine lv_icmp_ge (tgt := 19) hx hb dX0_truthOf_7 (by decide) (fun c9 => ?_) (fun c9 => ?_)
    · refine lv_sipush (v := 1000) hx hb dX0_truthOf_19 (by decide) ?_
      exact K6 _ ((if_neg c8).trans (if_pos c9)).symm _ _ hP hS _ (lv_sub hl [0, 1] rfl)
    · refine lv_aload_n hx hb dX0_truthOf_10 rfl (lv_at hl 0 rfl) ?_
      refine va_get (D := D) (ci := 0) (v := .ref qt) (C := RX0) (T := TX0) (N := 1) hx hb hts (fun w h => List.mem_cons_of_mem _ (List.mem_append_right _ h)) hown hK hP 0 rfl rfl 0 (by decide) (hts (.fieldLink RX0 9 "AtlasFolder$BandTruths" "truths" "[I") (List.mem_cons_of_mem _ (List.mem_append_left _ (List.mem_of_getElem? (i := 0) rfl)))) (fun _ h9 => h9) rfl dX0_truthOf_11 ?_
      refine lv_iload_n hx hb dX0_truthOf_14 rfl (lv_at hl 1 rfl) ?_
      refine va_iald hx hb hK hP 1 0 rfl rfl (z_in rfl c8 c9) dX0_truthOf_15 ?_
      refine lv_goto (tgt := 22) hx hb dX0_truthOf_16 (by decide) ?_
      exact K6 _ ((if_neg c8).trans (if_neg c9)).symm _ _ hP hS _ (lv_sub hl [0, 1] rfl)
def s_X0_replaceTruth (ft : Nat → Int32) (bd : Int32) (tr : Int32) : Int32 := s_X0_truthOf ft bd
def n_X0_replaceTruth_qt (ft : Nat → Int32) (bd : Int32) (tr : Int32) : Nat → Int32 := (if bd < 0 then ft else (if 9 ≤ bd then ft else upd ft bd.toNatClampNeg tr))
abbrev rm_X0_replaceTruth : Room := { frames := 1, cells := 0, slots := 0, locals := 21 }
abbrev Qc_X0_replaceTruth (D : va_G) (cI cZ cJ cD : ClassId) (qb : Nat) (qt : Nat) (ft : Nat → Int32) (bd : Int32) (tr : Int32) (A : Nat → Prop) : Array Value → State → Outcome → State → Prop := va_Qi (fun (r : Int32) (_ : Unit) => r = s_X0_replaceTruth ft bd tr) (zPost D cI cZ cJ cD A [(qb, .inr (0, [.ref qt])), (qt, .inl (cI, 9, .inl (n_X0_replaceTruth_qt ft bd tr)))]) A
set_option maxHeartbeats 4000000 in
set_option maxRecDepth 100000 in
theorem c_X0_replaceTruth (l : Launch) (D : va_G) (cI cZ cJ cD : ClassId) (qb : Nat) (qt : Nat) (ft : Nat → Int32) (bd : Int32) (tr : Int32) (sz : Nat)  : Met l yX0_replaceTruth wsX0_replaceTruth rm_X0_replaceTruth (va_Pc [.ref qb, .int bd, .int tr] (zPreW D cI cZ cJ cD [(qb, .inr (0, [.ref qt])), (qt, .inl (cI, 9, .inl ft))] sz)) (Qc_X0_replaceTruth D cI cZ cJ cD qb qt ft bd tr (va_A [(qb, .inr (0, [.ref qt])), (qt, .inl (cI, 9, .inl ft))] sz)) 0 0 (va_A [(qb, .inr (0, [.ref qt])), (qt, .inl (cI, 9, .inl ft))] sz) := by
  refine Met.ofW (cc := cX0_replaceTruth) (maxL := 4) (ret := (some .int)) (by decide) rfl ?_
  intro p e s m args below meth c s₁ B hml hv
  obtain ⟨rfl, hsz, hP, hK, hD0⟩ := hv
  have hx := B.exec
  have hb := B.bytes
  have hr := B.returns
  have hts := atoms_spec (ws := wsX0_replaceTruth) B.pre
  have hown : s.vm.findClass RX0 = some m.cls := findClass_of_methodNamed B.named
  have hlocks := B.notSynchronized
  subst hsz
  have hD := hD0.self (sz := s.heap.size)
  generalize hAe : va_A [(qb, .inr (0, [.ref qt])), (qt, .inl (cI, 9, .inl ft))] s.heap.size = A at hD ⊢
  have hA : ∀ q : Nat, s.heap.size ≤ q → A q := fun q h => by rw [← hAe]; exact Or.inr h
  have hS : va_S A s.heap s.heap [] := va_S.rf
  have hl := lv_entry ([.ref qb, .int bd, .int tr]) (n := 4) (Nat.le_of_ble_eq_true rfl)
  rw [lg_entry_eq]
  generalize (lg_sl ([.ref qb, .int bd, .int tr]) ++ List.replicate (4 - (lg_sl ([.ref qb, .int bd, .int tr])).length) Slot.unset).toArray = ls at hl ⊢
  have hl : lv_has ls 4 [(0, .ref qb), (1, .int bd), (2, .int tr)] := hl
  have hP : va_P D vwCl [(qb, .inr (0, [.ref qt])), (qt, .inl (cI, 9, .inl ft))] s.heap := hP
  have hP := hP
  refine lv_aload_n hx hb dX0_replaceTruth_0 rfl (lv_at hl 0 rfl) ?_
  refine lv_iload_n hx hb dX0_replaceTruth_1 rfl (lv_at hl 1 rfl) ?_
  refine va_calli (va_runV (As := [.int bd]) (rest := []) ⟨hx, hb, hml, hown, hts⟩ (c_X0_truthOf l D cI cZ cJ cD qb qt ft bd ) (cwV 1 hts gX0_replaceTruth_X0_truthOf rfl rfl rfl (by decide +kernel) ⟨Nat.le_of_ble_eq_true rfl, Nat.le_of_ble_eq_true rfl⟩) ⟨zblind, va_recv hK hP (ci := 0) (q0 := 0) rfl rfl, (fun U hU hW => ⟨rfl, by rw [hU]; exact hP.sub (ws' := [(qb, .inr (0, [.ref qt])), (qt, .inl (cI, 9, .inl ft))]) [0, 1] rfl, va_K.moved hW.alike hK⟩)⟩ rfl rfl hl.1 rfl (lv_room (Nat.le_of_ble_eq_true rfl)) dX0_replaceTruth_2 ⟨Nat.le_of_ble_eq_true rfl, Nat.le_of_ble_eq_true rfl⟩) hS (fun q _ h => h.elim) (fun q h => h.elim) (fun r4 u t H locs ht hvm hw hB hz1 hk1 hS => ?_)
  rw [hw]
  have hP := zk hP hk1
  refine lv_istore_n (lv' := [(3, .int (s_X0_truthOf ft bd)), (0, .ref qb), (1, .int bd), (2, .int tr)]) hx hb dX0_replaceTruth_5 rfl hl (by decide) rfl (fun ls hl => ?_)
  refine lv_iload_n hx hb dX0_replaceTruth_6 rfl (lv_at hl 2 rfl) ?_
  refine lv_if_lt (tgt := 23) hx hb dX0_replaceTruth_7 (by decide) (fun c5 => ?_) (fun c5 => ?_)
  · refine lv_iload_n hx hb dX0_replaceTruth_23 rfl (lv_at hl 0 rfl) ?_
    have e6 : s_X0_replaceTruth ft bd tr = s_X0_truthOf ft bd := rfl
    have e7 : n_X0_replaceTruth_qt ft bd tr = ft := by
      unfold n_X0_replaceTruth_qt
      exact (if_pos c5)
    exact W.iret (v := (s_X0_truthOf ft bd)) hx hb hr (fun t ht hW => ⟨⟨_, (), rfl, e6.symm, ⟨(by rw [e7]; rw [ht]; exact hP), va_K.moved hW.alike hK, (by rw [e7]; exact hD)⟩⟩, hS.F ht⟩) hS.2.2 dX0_replaceTruth_24
  · refine lv_iload_n hx hb dX0_replaceTruth_10 rfl (lv_at hl 2 rfl) ?_
    refine lv_bipush (v := 9) hx hb dX0_replaceTruth_11 (by decide) ?_
    refine lv_icmp_ge (tgt := 23) hx hb dX0_replaceTruth_13 (by decide) (fun c8 => ?_) (fun c8 => ?_)
    · refine lv_iload_n hx hb dX0_replaceTruth_23 rfl (lv_at hl 0 rfl) ?_
      have e9 : s_X0_replaceTruth ft bd tr = s_X0_truthOf ft bd := rfl
      have e10 : n_X0_replaceTruth_qt ft bd tr = ft := by
        unfold n_X0_replaceTruth_qt
        exact ((if_neg c5).trans (if_pos c8))
      exact W.iret (v := (s_X0_truthOf ft bd)) hx hb hr (fun t ht hW => ⟨⟨_, (), rfl, e9.symm, ⟨(by rw [e10]; rw [ht]; exact hP), va_K.moved hW.alike hK, (by rw [e10]; exact hD)⟩⟩, hS.F ht⟩) hS.2.2 dX0_replaceTruth_24
    · refine lv_aload_n hx hb dX0_replaceTruth_16 rfl (lv_at hl 1 rfl) ?_
      refine va_get (D := D) (ci := 0) (v := .ref qt) (C := RX0) (T := TX0) (N := 1) hx hb hts (fun w h => List.mem_cons_of_mem _ (List.mem_append_right _ h)) hown hK hP 0 rfl rfl 0 (by decide) (hts (.fieldLink RX0 9 "AtlasFolder$BandTruths" "truths" "[I") (List.mem_cons_of_mem _ (List.mem_append_left _ (List.mem_of_getElem? (i := 0) rfl)))) (fun _ h9 => h9) rfl dX0_replaceTruth_17 ?_
      refine lv_iload_n hx hb dX0_replaceTruth_20 rfl (lv_at hl 2 rfl) ?_
      refine lv_iload_n hx hb dX0_replaceTruth_21 rfl (lv_at hl 3 rfl) ?_
      refine va_iast hx hb hK hP hD hS 1 0 rfl rfl (z_in rfl c5 c8) dX0_replaceTruth_22 (fun H locs hP hD hS => ?_)
      have hP : va_P D vwCl [(qb, .inr (0, [.ref qt])), (qt, .inl (cI, 9, .inl (upd ft bd.toNatClampNeg tr)))] H := hP
      have hD : va_D A [(qb, .inr (0, [.ref qt])), (qt, .inl (cI, 9, .inl (upd ft bd.toNatClampNeg tr)))] := hD
      refine lv_iload_n hx hb dX0_replaceTruth_23 rfl (lv_at hl 0 rfl) ?_
      have e11 : s_X0_replaceTruth ft bd tr = s_X0_truthOf ft bd := rfl
      have e12 : n_X0_replaceTruth_qt ft bd tr = upd ft bd.toNatClampNeg tr := by
        unfold n_X0_replaceTruth_qt
        exact ((if_neg c5).trans (if_neg c8))
      exact W.iret (v := (s_X0_truthOf ft bd)) hx hb hr (fun t ht hW => ⟨⟨_, (), rfl, e11.symm, ⟨(by rw [e12]; rw [ht]; exact hP), va_K.moved hW.alike hK, (by rw [e12]; exact hD)⟩⟩, hS.F ht⟩) hS.2.2 dX0_replaceTruth_24
def s_X0_compareBands (ft : Nat → Int32) (fw : Nat → Int32) (fh : Nat → Int32) (b1 : Int32) (b2 : Int32) : Int32 := s_J13_compare_74951 ((s_X2_bandArea fw fh b1) * ((s_X0_truthOf ft b2).toInt64)) ((s_X2_bandArea fw fh b2) * ((s_X0_truthOf ft b1).toInt64))
abbrev rm_X0_compareBands : Room := { frames := 2, cells := 0, slots := 0, locals := 46 }
abbrev Qc_X0_compareBands (D : va_G) (cI cZ cJ cD : ClassId) (qb : Nat) (qt : Nat) (ft : Nat → Int32) (qm : Nat) (qw : Nat) (qh : Nat) (fw : Nat → Int32) (fh : Nat → Int32) (b1 : Int32) (b2 : Int32) : Array Value → State → Outcome → State → Prop := va_Qi (fun (r : Int32) (_ : Unit) => r = s_X0_compareBands ft fw fh b1 b2) (fun _ _ => True) (fun _ : Nat => False)
set_option maxHeartbeats 4000000 in
set_option maxRecDepth 100000 in
theorem c_X0_compareBands (l : Launch) (D : va_G) (cI cZ cJ cD : ClassId) (qb : Nat) (qt : Nat) (ft : Nat → Int32) (qm : Nat) (qw : Nat) (qh : Nat) (fw : Nat → Int32) (fh : Nat → Int32) (b1 : Int32) (b2 : Int32)  : Met l yX0_compareBands wsX0_compareBands rm_X0_compareBands (va_Pc [.ref qb, .ref qm, .int b1, .int b2] (zPre D cI cZ cJ cD [(qb, .inr (0, [.ref qt])), (qt, .inl (cI, 9, .inl ft)), (qm, .inr (2, [.ref qw, .ref qh])), (qw, .inl (cI, 10, .inl fw)), (qh, .inl (cI, 10, .inl fh))])) (Qc_X0_compareBands D cI cZ cJ cD qb qt ft qm qw qh fw fh b1 b2 ) 0 0 (fun _ : Nat => False) := by
  refine Met.ofW (cc := cX0_compareBands) (maxL := 4) (ret := (some .int)) (by decide) rfl ?_
  intro p e s m args below meth c s₁ B hml hv
  obtain ⟨rfl, hP, hK⟩ := hv
  have hx := B.exec
  have hb := B.bytes
  have hr := B.returns
  have hts := atoms_spec (ws := wsX0_compareBands) B.pre
  have hown : s.vm.findClass RX0 = some m.cls := findClass_of_methodNamed B.named
  have hlocks := B.notSynchronized
  have hS : va_S (fun _ : Nat => False) s.heap s.heap [] := va_S.rf
  have hl := lv_entry ([.ref qb, .ref qm, .int b1, .int b2]) (n := 4) (Nat.le_of_ble_eq_true rfl)
  rw [lg_entry_eq]
  generalize (lg_sl ([.ref qb, .ref qm, .int b1, .int b2]) ++ List.replicate (4 - (lg_sl ([.ref qb, .ref qm, .int b1, .int b2])).length) Slot.unset).toArray = ls at hl ⊢
  have hl : lv_has ls 4 [(0, .ref qb), (1, .ref qm), (2, .int b1), (3, .int b2)] := hl
  have hP : va_P D vwCl [(qb, .inr (0, [.ref qt])), (qt, .inl (cI, 9, .inl ft)), (qm, .inr (2, [.ref qw, .ref qh])), (qw, .inl (cI, 10, .inl fw)), (qh, .inl (cI, 10, .inl fh))] s.heap := hP
  have hP := hP
  refine lv_aload_n hx hb dX0_compareBands_0 rfl (lv_at hl 1 rfl) ?_
  refine lv_iload_n hx hb dX0_compareBands_1 rfl (lv_at hl 2 rfl) ?_
  refine va_calll (va_runV (As := [.int b1]) (rest := []) ⟨hx, hb, hml, hown, hts⟩ (c_X2_bandArea l D cI cZ cJ cD qm qw qh fw fh b1 ) (cwV 1 hts gX0_compareBands_X2_bandArea rfl rfl rfl (by decide +kernel) ⟨Nat.le_of_ble_eq_true rfl, Nat.le_of_ble_eq_true rfl⟩) ⟨zblind, va_recv hK hP (ci := 2) (q0 := 2) rfl rfl, (fun U hU hW => ⟨rfl, by rw [hU]; exact hP.sub (ws' := [(qm, .inr (2, [.ref qw, .ref qh])), (qw, .inl (cI, 10, .inl fw)), (qh, .inl (cI, 10, .inl fh))]) [2, 3, 4] rfl, va_K.moved hW.alike hK⟩)⟩ rfl rfl hl.1 rfl (lv_room (Nat.le_of_ble_eq_true rfl)) dX0_compareBands_2 ⟨Nat.le_of_ble_eq_true rfl, Nat.le_of_ble_eq_true rfl⟩) hS (fun q _ h => h.elim) (fun q h => h.elim) (fun r6 u t H locs ht hvm hw hB hz1 hk1 hS => ?_)
  rw [hw]
  have hP := zk hP hk1
  refine lv_aload_n hx hb dX0_compareBands_5 rfl (lv_at hl 0 rfl) ?_
  refine lv_iload_n hx hb dX0_compareBands_6 rfl (lv_at hl 3 rfl) ?_
  refine va_calli (va_runV (As := [.int b2]) (rest := [.long (s_X2_bandArea fw fh b1)]) ⟨hx, hb, hml, hown, hts⟩ (c_X0_truthOf l D cI cZ cJ cD qb qt ft b2 ) (cwV 1 hts gX0_compareBands_X0_truthOf rfl rfl rfl (by decide +kernel) ⟨Nat.le_of_ble_eq_true rfl, Nat.le_of_ble_eq_true rfl⟩) ⟨zblind, va_recv hK hP (ci := 0) (q0 := 0) rfl rfl, (fun U hU hW => ⟨rfl, by rw [hU]; exact hP.sub (ws' := [(qb, .inr (0, [.ref qt])), (qt, .inl (cI, 9, .inl ft))]) [0, 1] rfl, va_K.moved hW.alike hK⟩)⟩ rfl rfl hl.1 rfl (lv_room (Nat.le_of_ble_eq_true rfl)) dX0_compareBands_7 ⟨Nat.le_of_ble_eq_true rfl, Nat.le_of_ble_eq_true rfl⟩) hS (fun q _ h => h.elim) (fun q h => h.elim) (fun r7 u t H locs ht hvm hw hB hz1 hk1 hS => ?_)
  rw [hw]
  have hP := zk hP hk1
  refine lv_i2l hx hb dX0_compareBands_10 rfl ?_
  refine lv_lmul hx hb dX0_compareBands_11 ?_
  refine lv_aload_n hx hb dX0_compareBands_12 rfl (lv_at hl 1 rfl) ?_
  refine lv_iload_n hx hb dX0_compareBands_13 rfl (lv_at hl 3 rfl) ?_
  refine va_calll (va_runV (As := [.int b2]) (rest := [.long ((s_X2_bandArea fw fh b1) * ((s_X0_truthOf ft b2).toInt64))]) ⟨hx, hb, hml, hown, hts⟩ (c_X2_bandArea l D cI cZ cJ cD qm qw qh fw fh b2 ) (cwV 1 hts gX0_compareBands_X2_bandArea rfl rfl rfl (by decide +kernel) ⟨Nat.le_of_ble_eq_true rfl, Nat.le_of_ble_eq_true rfl⟩) ⟨zblind, va_recv hK hP (ci := 2) (q0 := 2) rfl rfl, (fun U hU hW => ⟨rfl, by rw [hU]; exact hP.sub (ws' := [(qm, .inr (2, [.ref qw, .ref qh])), (qw, .inl (cI, 10, .inl fw)), (qh, .inl (cI, 10, .inl fh))]) [2, 3, 4] rfl, va_K.moved hW.alike hK⟩)⟩ rfl rfl hl.1 rfl (lv_room (Nat.le_of_ble_eq_true rfl)) dX0_compareBands_14 ⟨Nat.le_of_ble_eq_true rfl, Nat.le_of_ble_eq_true rfl⟩) hS (fun q _ h => h.elim) (fun q h => h.elim) (fun r8 u t H locs ht hvm hw hB hz1 hk1 hS => ?_)
  rw [hw]
  have hP := zk hP hk1
  refine lv_aload_n hx hb dX0_compareBands_17 rfl (lv_at hl 0 rfl) ?_
  refine lv_iload_n hx hb dX0_compareBands_18 rfl (lv_at hl 2 rfl) ?_
  refine va_calli (va_runV (As := [.int b1]) (rest := [.long (s_X2_bandArea fw fh b2), .long ((s_X2_bandArea fw fh b1) * ((s_X0_truthOf ft b2).toInt64))]) ⟨hx, hb, hml, hown, hts⟩ (c_X0_truthOf l D cI cZ cJ cD qb qt ft b1 ) (cwV 1 hts gX0_compareBands_X0_truthOf rfl rfl rfl (by decide +kernel) ⟨Nat.le_of_ble_eq_true rfl, Nat.le_of_ble_eq_true rfl⟩) ⟨zblind, va_recv hK hP (ci := 0) (q0 := 0) rfl rfl, (fun U hU hW => ⟨rfl, by rw [hU]; exact hP.sub (ws' := [(qb, .inr (0, [.ref qt])), (qt, .inl (cI, 9, .inl ft))]) [0, 1] rfl, va_K.moved hW.alike hK⟩)⟩ rfl rfl hl.1 rfl (lv_room (Nat.le_of_ble_eq_true rfl)) dX0_compareBands_19 ⟨Nat.le_of_ble_eq_true rfl, Nat.le_of_ble_eq_true rfl⟩) hS (fun q _ h => h.elim) (fun q h => h.elim) (fun r9 u t H locs ht hvm hw hB hz1 hk1 hS => ?_)
  rw [hw]
  have hP := zk hP hk1
  refine lv_i2l hx hb dX0_compareBands_22 rfl ?_
  refine lv_lmul hx hb dX0_compareBands_23 ?_
  refine va_calli (va_runS (As := [.long ((s_X2_bandArea fw fh b1) * ((s_X0_truthOf ft b2).toInt64)), .long ((s_X2_bandArea fw fh b2) * ((s_X0_truthOf ft b1).toInt64))]) (rest := []) ⟨hx, hb, hml, hown, hts⟩ (c_J13_compare_74951 l D cI cZ cJ cD ((s_X2_bandArea fw fh b1) * ((s_X0_truthOf ft b2).toInt64)) ((s_X2_bandArea fw fh b2) * ((s_X0_truthOf ft b1).toInt64)) ) (va_cwS 2 hts gX0_compareBands_J13_compare_74951 rfl rfl rfl (by decide +kernel) ⟨Nat.le_of_ble_eq_true rfl, Nat.le_of_ble_eq_true rfl⟩) ⟨zblind, (fun U hU hW => ⟨rfl, by rw [hU]; exact hP.sub (ws' := []) [] rfl, va_K.moved hW.alike hK⟩)⟩ rfl rfl hl.1 rfl (lv_room (Nat.le_of_ble_eq_true rfl)) dX0_compareBands_24 ⟨Nat.le_of_ble_eq_true rfl, Nat.le_of_ble_eq_true rfl⟩) hS (fun q _ h => h.elim) (fun q h => h.elim) (fun r10 u t H locs ht hvm hw hB hz1 hk1 hS => ?_)
  rw [hw]
  have hP := zk hP hk1
  have e11 : s_X0_compareBands ft fw fh b1 b2 = s_J13_compare_74951 ((s_X2_bandArea fw fh b1) * ((s_X0_truthOf ft b2).toInt64)) ((s_X2_bandArea fw fh b2) * ((s_X0_truthOf ft b1).toInt64)) := rfl
  exact W.iret (v := (s_J13_compare_74951 ((s_X2_bandArea fw fh b1) * ((s_X0_truthOf ft b2).toInt64)) ((s_X2_bandArea fw fh b2) * ((s_X0_truthOf ft b1).toInt64)))) hx hb hr (fun t ht hW => ⟨⟨_, (), rfl, e11.symm, trivial⟩, hS.F ht⟩) hS.2.2 dX0_compareBands_27
def s_X3_replaceBreadth (br : Int32) (nb : Int32) : Int32 := br
def n_X3_replaceBreadth_qz_0 (br : Int32) (nb : Int32) : Int32 := nb
abbrev rm_X3_replaceBreadth : Room := { frames := 0, cells := 0, slots := 0, locals := 0 }
abbrev Qc_X3_replaceBreadth (D : va_G) (cI cZ cJ cD : ClassId) (qz : Nat) (br : Int32) (nb : Int32) (A : Nat → Prop) : Array Value → State → Outcome → State → Prop := va_Qi (fun (r : Int32) (_ : Unit) => r = s_X3_replaceBreadth br nb) (zPost D cI cZ cJ cD A [(qz, .inr (3, [.int (n_X3_replaceBreadth_qz_0 br nb)]))]) A
set_option maxHeartbeats 4000000 in
set_option maxRecDepth 100000 in
theorem c_X3_replaceBreadth (l : Launch) (D : va_G) (cI cZ cJ cD : ClassId) (qz : Nat) (br : Int32) (nb : Int32) (sz : Nat)  : Met l yX3_replaceBreadth wsX3_replaceBreadth rm_X3_replaceBreadth (va_Pc [.ref qz, .int nb] (zPreW D cI cZ cJ cD [(qz, .inr (3, [.int br]))] sz)) (Qc_X3_replaceBreadth D cI cZ cJ cD qz br nb (va_A [(qz, .inr (3, [.int br]))] sz)) 0 0 (va_A [(qz, .inr (3, [.int br]))] sz) := by
  refine Met.ofW (cc := cX3_replaceBreadth) (maxL := 3) (ret := (some .int)) (by decide) rfl ?_
  intro p e s m args below meth c s₁ B hml hv
  obtain ⟨rfl, hsz, hP, hK, hD0⟩ := hv
  have hx := B.exec
  have hb := B.bytes
  have hr := B.returns
  have hts := atoms_spec (ws := wsX3_replaceBreadth) B.pre
  have hown : s.vm.findClass RX3 = some m.cls := findClass_of_methodNamed B.named
  have hlocks := B.notSynchronized
  subst hsz
  have hD := hD0.self (sz := s.heap.size)
  generalize hAe : va_A [(qz, .inr (3, [.int br]))] s.heap.size = A at hD ⊢
  have hA : ∀ q : Nat, s.heap.size ≤ q → A q := fun q h => by rw [← hAe]; exact Or.inr h
  have hS : va_S A s.heap s.heap [] := va_S.rf
  have hl := lv_entry ([.ref qz, .int nb]) (n := 3) (Nat.le_of_ble_eq_true rfl)
  rw [lg_entry_eq]
  generalize (lg_sl ([.ref qz, .int nb]) ++ List.replicate (3 - (lg_sl ([.ref qz, .int nb])).length) Slot.unset).toArray = ls at hl ⊢
  have hl : lv_has ls 3 [(0, .ref qz), (1, .int nb)] := hl
  have hP : va_P D vwCl [(qz, .inr (3, [.int br]))] s.heap := hP
  have hP := hP
  refine lv_aload_n hx hb dX3_replaceBreadth_0 rfl (lv_at hl 0 rfl) ?_
  refine va_get (D := D) (ci := 3) (v := .int br) (C := RX3) (T := TX3) (N := 1) hx hb hts (fun w h => List.mem_cons_of_mem _ (List.mem_append_right _ h)) hown hK hP 0 rfl rfl 0 (by decide) (hts (.fieldLink RX3 9 "AtlasFolder$ZoneRing" "breadth" "I") (List.mem_cons_of_mem _ (List.mem_append_left _ (List.mem_of_getElem? (i := 0) rfl)))) (fun _ h9 => h9) rfl dX3_replaceBreadth_1 ?_
  refine lv_istore_n (lv' := [(2, .int br), (0, .ref qz), (1, .int nb)]) hx hb dX3_replaceBreadth_4 rfl hl (by decide) rfl (fun ls hl => ?_)
  refine lv_aload_n hx hb dX3_replaceBreadth_5 rfl (lv_at hl 1 rfl) ?_
  refine lv_iload_n hx hb dX3_replaceBreadth_6 rfl (lv_at hl 2 rfl) ?_
  refine va_put (D := D) (ci := 3) (v := .int nb) (ty := .int) (C := RX3) (T := TX3) (N := 1) hx hb hts (fun w h => List.mem_cons_of_mem _ (List.mem_append_right _ h)) tyX3 tyX3_ok nmX3 hown hK hP hD hS 0 rfl rfl 0 (by decide) (hts (.fieldLink RX3 9 "AtlasFolder$ZoneRing" "breadth" "I") (List.mem_cons_of_mem _ (List.mem_append_left _ (List.mem_of_getElem? (i := 0) rfl)))) (fun _ h9 => h9) rfl (by decide +kernel) rfl rfl (Nat.le_of_ble_eq_true rfl) dX3_replaceBreadth_7 (fun H locs hP hD hS => ?_)
  have hP : va_P D vwCl [(qz, .inr (3, [.int nb]))] H := hP
  have hD : va_D A [(qz, .inr (3, [.int nb]))] := hD
  refine lv_iload_n hx hb dX3_replaceBreadth_10 rfl (lv_at hl 0 rfl) ?_
  have e1 : s_X3_replaceBreadth br nb = br := rfl
  have e2 : n_X3_replaceBreadth_qz_0 br nb = nb := rfl
  exact W.iret (v := br) hx hb hr (fun t ht hW => ⟨⟨_, (), rfl, e1.symm, ⟨(by rw [e2]; rw [ht]; exact hP), va_K.moved hW.alike hK, (by rw [e2]; exact hD)⟩⟩, hS.F ht⟩) hS.2.2 dX3_replaceBreadth_11
def s_X3_zonesBefore (br : Int32) (lon : Int32) : Int32 := (if 1 ≤ br then (lon - (-180)) / br else 0)
abbrev rm_X3_zonesBefore : Room := { frames := 0, cells := 0, slots := 0, locals := 0 }
abbrev Qc_X3_zonesBefore (D : va_G) (cI cZ cJ cD : ClassId) (qz : Nat) (br : Int32) (lon : Int32) : Array Value → State → Outcome → State → Prop := va_Qi (fun (r : Int32) (_ : Unit) => r = s_X3_zonesBefore br lon) (fun _ _ => True) (fun _ : Nat => False)
set_option maxHeartbeats 4000000 in
set_option maxRecDepth 100000 in
theorem c_X3_zonesBefore (l : Launch) (D : va_G) (cI cZ cJ cD : ClassId) (qz : Nat) (br : Int32) (lon : Int32)  : Met l yX3_zonesBefore wsX3_zonesBefore rm_X3_zonesBefore (va_Pc [.ref qz, .int lon] (zPre D cI cZ cJ cD [(qz, .inr (3, [.int br]))])) (Qc_X3_zonesBefore D cI cZ cJ cD qz br lon ) 0 0 (fun _ : Nat => False) := by
  refine Met.ofW (cc := cX3_zonesBefore) (maxL := 2) (ret := (some .int)) (by decide) rfl ?_
  intro p e s m args below meth c s₁ B hml hv
  obtain ⟨rfl, hP, hK⟩ := hv
  have hx := B.exec
  have hb := B.bytes
  have hr := B.returns
  have hts := atoms_spec (ws := wsX3_zonesBefore) B.pre
  have hown : s.vm.findClass RX3 = some m.cls := findClass_of_methodNamed B.named
  have hlocks := B.notSynchronized
  have hS : va_S (fun _ : Nat => False) s.heap s.heap [] := va_S.rf
  have hl := lv_entry ([.ref qz, .int lon]) (n := 2) (Nat.le_of_ble_eq_true rfl)
  rw [lg_entry_eq]
  generalize (lg_sl ([.ref qz, .int lon]) ++ List.replicate (2 - (lg_sl ([.ref qz, .int lon])).length) Slot.unset).toArray = ls at hl ⊢
  have hl : lv_has ls 2 [(0, .ref qz), (1, .int lon)] := hl
  have hP : va_P D vwCl [(qz, .inr (3, [.int br]))] s.heap := hP
  have hP := hP
  refine lv_aload_n hx hb dX3_zonesBefore_0 rfl (lv_at hl 0 rfl) ?_
  refine va_get (D := D) (ci := 3) (v := .int br) (C := RX3) (T := TX3) (N := 1) hx hb hts (fun w h => List.mem_cons_of_mem _ (List.mem_append_right _ h)) hown hK hP 0 rfl rfl 0 (by decide) (hts (.fieldLink RX3 9 "AtlasFolder$ZoneRing" "breadth" "I") (List.mem_cons_of_mem _ (List.mem_append_left _ (List.mem_of_getElem? (i := 0) rfl)))) (fun _ h9 => h9) rfl dX3_zonesBefore_1 ?_
  refine lv_iconst (v := 1) hx hb dX3_zonesBefore_4 (by decide) ?_
  have K5 : ∀ v5_0 : Int32, v5_0 = (if 1 ≤ br then (lon - (-180)) / br else 0) → ∀ (H : Heap) (locs : List Loc), va_P D vwCl [(qz, .inr (3, [.int br]))] H → va_S (fun _ : Nat => False) s.heap H locs → ∀ (ls : Array Slot), lv_has ls 2 [(0, .ref qz), (1, .int lon)] → W p l e (headSpec wsX3_zonesBefore rm_X3_zonesBefore).room s m ([.ref qz, .int lon]).toArray below meth c H locs 0 0 (MQ below (Qc_X3_zonesBefore D cI cZ cJ cD qz br lon) ([.ref qz, .int lon]).toArray s 0 0 (fun _ : Nat => False)) (F0 m 22 ls [.int v5_0]) := by
    intro v5_0 hv5_0 H locs hP hS ls hl
    subst hv5_0
    have e6 : s_X3_zonesBefore br lon = (if 1 ≤ br then (lon - (-180)) / br else 0) := rfl
    exact W.iret (v := (if 1 ≤ br then (lon - (-180)) / br else 0)) hx hb hr (fun t ht hW => ⟨⟨_, (), rfl, e6.symm, trivial⟩, hS.F ht⟩) hS.2.2 dX3_zonesBefore_22
  refine lv_icmp_ge (tgt := 12) hx hb dX3_zonesBefore_5 (by decide) (fun c7 => ?_) (fun c7 => ?_)
  · refine lv_iload_n hx hb dX3_zonesBefore_12 rfl (lv_at hl 1 rfl) ?_
    refine lv_sipush (v := (-180)) hx hb dX3_zonesBefore_13 (by decide) ?_
    refine lv_isub hx hb dX3_zonesBefore_16 ?_
    refine lv_aload_n hx hb dX3_zonesBefore_17 rfl (lv_at hl 0 rfl) ?_
    refine va_get (D := D) (ci := 3) (v := .int br) (C := RX3) (T := TX3) (N := 1) hx hb hts (fun w h => List.mem_cons_of_mem _ (List.mem_append_right _ h)) hown hK hP 0 rfl rfl 0 (by decide) (hts (.fieldLink RX3 9 "AtlasFolder$ZoneRing" "breadth" "I") (List.mem_cons_of_mem _ (List.mem_append_left _ (List.mem_of_getElem? (i := 0) rfl)))) (fun _ h9 => h9) rfl dX3_zonesBefore_18 ?_
    refine lv_idiv hx hb dX3_zonesBefore_21 (z_nz1 c7) ?_
    exact K5 _ (if_pos c7).symm _ _ hP hS _ (lv_sub hl [0, 1] rfl)
  · refine lv_iconst (v := 0) hx hb dX3_zonesBefore_8 (by decide) ?_
    refine lv_goto (tgt := 22) hx hb dX3_zonesBefore_9 (by decide) ?_
    exact K5 _ (if_neg c7).symm _ _ hP hS _ (lv_sub hl [0, 1] rfl)
def s_X3_seamsEastOf (br : Int32) (so : Int32) (dg : Int32) : Int32 := (s_X3_zonesBefore br (so + dg)) - (s_X3_zonesBefore br so)
abbrev rm_X3_seamsEastOf : Room := { frames := 1, cells := 0, slots := 0, locals := 21 }
abbrev Qc_X3_seamsEastOf (D : va_G) (cI cZ cJ cD : ClassId) (qz : Nat) (br : Int32) (so : Int32) (dg : Int32) : Array Value → State → Outcome → State → Prop := va_Qi (fun (r : Int32) (_ : Unit) => r = s_X3_seamsEastOf br so dg) (fun _ _ => True) (fun _ : Nat => False)
set_option maxHeartbeats 4000000 in
set_option maxRecDepth 100000 in
theorem c_X3_seamsEastOf (l : Launch) (D : va_G) (cI cZ cJ cD : ClassId) (qz : Nat) (br : Int32) (so : Int32) (dg : Int32)  : Met l yX3_seamsEastOf wsX3_seamsEastOf rm_X3_seamsEastOf (va_Pc [.ref qz, .int so, .int dg] (zPre D cI cZ cJ cD [(qz, .inr (3, [.int br]))])) (Qc_X3_seamsEastOf D cI cZ cJ cD qz br so dg ) 0 0 (fun _ : Nat => False) := by
  refine Met.ofW (cc := cX3_seamsEastOf) (maxL := 3) (ret := (some .int)) (by decide) rfl ?_
  intro p e s m args below meth c s₁ B hml hv
  obtain ⟨rfl, hP, hK⟩ := hv
  have hx := B.exec
  have hb := B.bytes
  have hr := B.returns
  have hts := atoms_spec (ws := wsX3_seamsEastOf) B.pre
  have hown : s.vm.findClass RX3 = some m.cls := findClass_of_methodNamed B.named
  have hlocks := B.notSynchronized
  have hS : va_S (fun _ : Nat => False) s.heap s.heap [] := va_S.rf
  have hl := lv_entry ([.ref qz, .int so, .int dg]) (n := 3) (Nat.le_of_ble_eq_true rfl)
  rw [lg_entry_eq]
  generalize (lg_sl ([.ref qz, .int so, .int dg]) ++ List.replicate (3 - (lg_sl ([.ref qz, .int so, .int dg])).length) Slot.unset).toArray = ls at hl ⊢
  have hl : lv_has ls 3 [(0, .ref qz), (1, .int so), (2, .int dg)] := hl
  have hP : va_P D vwCl [(qz, .inr (3, [.int br]))] s.heap := hP
  have hP := hP
  refine lv_aload_n hx hb dX3_seamsEastOf_0 rfl (lv_at hl 0 rfl) ?_
  refine lv_iload_n hx hb dX3_seamsEastOf_1 rfl (lv_at hl 1 rfl) ?_
  refine lv_iload_n hx hb dX3_seamsEastOf_2 rfl (lv_at hl 2 rfl) ?_
  refine lv_iadd hx hb dX3_seamsEastOf_3 ?_
  refine va_calli (va_runV (As := [.int (so + dg)]) (rest := []) ⟨hx, hb, hml, hown, hts⟩ (c_X3_zonesBefore l D cI cZ cJ cD qz br (so + dg) ) (cwV 1 hts gX3_seamsEastOf_X3_zonesBefore rfl rfl rfl (by decide +kernel) ⟨Nat.le_of_ble_eq_true rfl, Nat.le_of_ble_eq_true rfl⟩) ⟨zblind, va_recv hK hP (ci := 3) (q0 := 0) rfl rfl, (fun U hU hW => ⟨rfl, by rw [hU]; exact hP.sub (ws' := [(qz, .inr (3, [.int br]))]) [0] rfl, va_K.moved hW.alike hK⟩)⟩ rfl rfl hl.1 rfl (lv_room (Nat.le_of_ble_eq_true rfl)) dX3_seamsEastOf_4 ⟨Nat.le_of_ble_eq_true rfl, Nat.le_of_ble_eq_true rfl⟩) hS (fun q _ h => h.elim) (fun q h => h.elim) (fun r3 u t H locs ht hvm hw hB hz1 hk1 hS => ?_)
  rw [hw]
  have hP := zk hP hk1
  refine lv_aload_n hx hb dX3_seamsEastOf_7 rfl (lv_at hl 0 rfl) ?_
  refine lv_iload_n hx hb dX3_seamsEastOf_8 rfl (lv_at hl 1 rfl) ?_
  refine va_calli (va_runV (As := [.int so]) (rest := [.int (s_X3_zonesBefore br (so + dg))]) ⟨hx, hb, hml, hown, hts⟩ (c_X3_zonesBefore l D cI cZ cJ cD qz br so ) (cwV 1 hts gX3_seamsEastOf_X3_zonesBefore rfl rfl rfl (by decide +kernel) ⟨Nat.le_of_ble_eq_true rfl, Nat.le_of_ble_eq_true rfl⟩) ⟨zblind, va_recv hK hP (ci := 3) (q0 := 0) rfl rfl, (fun U hU hW => ⟨rfl, by rw [hU]; exact hP.sub (ws' := [(qz, .inr (3, [.int br]))]) [0] rfl, va_K.moved hW.alike hK⟩)⟩ rfl rfl hl.1 rfl (lv_room (Nat.le_of_ble_eq_true rfl)) dX3_seamsEastOf_9 ⟨Nat.le_of_ble_eq_true rfl, Nat.le_of_ble_eq_true rfl⟩) hS (fun q _ h => h.elim) (fun q h => h.elim) (fun r4 u t H locs ht hvm hw hB hz1 hk1 hS => ?_)
  rw [hw]
  have hP := zk hP hk1
  refine lv_isub hx hb dX3_seamsEastOf_12 ?_
  have e5 : s_X3_seamsEastOf br so dg = (s_X3_zonesBefore br (so + dg)) - (s_X3_zonesBefore br so) := rfl
  exact W.iret (v := ((s_X3_zonesBefore br (so + dg)) - (s_X3_zonesBefore br so))) hx hb hr (fun t ht hW => ⟨⟨_, (), rfl, e5.symm, trivial⟩, hS.F ht⟩) hS.2.2 dX3_seamsEastOf_13
def s_X4_degreesEast (o1 : Int32) (o2 : Int32) : Int32 := (if 0 ≤ (o2 - o1) then o2 - o1 else (o2 - o1) + 360)
abbrev rm_X4_degreesEast : Room := { frames := 0, cells := 0, slots := 0, locals := 0 }
abbrev Qc_X4_degreesEast (D : va_G) (cI cZ cJ cD : ClassId) (o1 : Int32) (o2 : Int32) : Array Value → State → Outcome → State → Prop := va_Qi (fun (r : Int32) (_ : Unit) => r = s_X4_degreesEast o1 o2) (fun _ _ => True) (fun _ : Nat => False)
set_option maxHeartbeats 4000000 in
set_option maxRecDepth 100000 in
theorem c_X4_degreesEast (l : Launch) (D : va_G) (cI cZ cJ cD : ClassId) (o1 : Int32) (o2 : Int32)  : Met l yX4_degreesEast wsX4_degreesEast rm_X4_degreesEast (va_Pc [.int o1, .int o2] (zPre D cI cZ cJ cD [])) (Qc_X4_degreesEast D cI cZ cJ cD o1 o2 ) 0 0 (fun _ : Nat => False) := by
  refine Met.ofW (cc := cX4_degreesEast) (maxL := 3) (ret := (some .int)) (by decide) rfl ?_
  intro p e s m args below meth c s₁ B hml hv
  obtain ⟨rfl, hP, hK⟩ := hv
  have hx := B.exec
  have hb := B.bytes
  have hr := B.returns
  have hts := atoms_spec (ws := wsX4_degreesEast) B.pre
  have hown : s.vm.findClass RX4 = some m.cls := findClass_of_methodNamed B.named
  have hlocks := B.notSynchronized
  have hS : va_S (fun _ : Nat => False) s.heap s.heap [] := va_S.rf
  have hl := lv_entry ([.int o1, .int o2]) (n := 3) (Nat.le_of_ble_eq_true rfl)
  rw [lg_entry_eq]
  generalize (lg_sl ([.int o1, .int o2]) ++ List.replicate (3 - (lg_sl ([.int o1, .int o2])).length) Slot.unset).toArray = ls at hl ⊢
  have hl : lv_has ls 3 [(0, .int o1), (1, .int o2)] := hl
  have hP : va_P D vwCl [] s.heap := hP
  have hP := hP
  refine lv_iload_n hx hb dX4_degreesEast_0 rfl (lv_at hl 1 rfl) ?_
  refine lv_iload_n hx hb dX4_degreesEast_1 rfl (lv_at hl 0 rfl) ?_
  refine lv_isub hx hb dX4_degreesEast_2 ?_
  refine lv_istore_n (lv' := [(2, .int (o2 - o1)), (0, .int o1), (1, .int o2)]) hx hb dX4_degreesEast_3 rfl hl (by decide) rfl (fun ls hl => ?_)
  refine lv_iload_n hx hb dX4_degreesEast_4 rfl (lv_at hl 0 rfl) ?_
  have K5 : ∀ v5_0 : Int32, v5_0 = (if 0 ≤ (o2 - o1) then o2 - o1 else (o2 - o1) + 360) → ∀ (H : Heap) (locs : List Loc), va_P D vwCl [] H → va_S (fun _ : Nat => False) s.heap H locs → ∀ (ls : Array Slot), lv_has ls 3 [(2, .int (o2 - o1)), (0, .int o1), (1, .int o2)] → W p l e (headSpec wsX4_degreesEast rm_X4_degreesEast).room s m ([.int o1, .int o2]).toArray below meth c H locs 0 0 (MQ below (Qc_X4_degreesEast D cI cZ cJ cD o1 o2) ([.int o1, .int o2]).toArray s 0 0 (fun _ : Nat => False)) (F0 m 17 ls [.int v5_0]) := by
    intro v5_0 hv5_0 H locs hP hS ls hl
    subst hv5_0
    have e6 : s_X4_degreesEast o1 o2 = (if 0 ≤ (o2 - o1) then o2 - o1 else (o2 - o1) + 360) := rfl
    exact W.iret (v := (if 0 ≤ (o2 - o1) then o2 - o1 else (o2 - o1) + 360)) hx hb hr (fun t ht hW => ⟨⟨_, (), rfl, e6.symm, trivial⟩, hS.F ht⟩) hS.2.2 dX4_degreesEast_17
  refine lv_if_ge (tgt := 16) hx hb dX4_degreesEast_5 (by decide) (fun c7 => ?_) (fun c7 => ?_)
  · refine lv_iload_n hx hb dX4_degreesEast_16 rfl (lv_at hl 0 rfl) ?_
    exact K5 _ (if_pos c7).symm _ _ hP hS _ (lv_sub hl [0, 1, 2] rfl)
  · refine lv_iload_n hx hb dX4_degreesEast_8 rfl (lv_at hl 0 rfl) ?_
    refine lv_sipush (v := 360) hx hb dX4_degreesEast_9 (by decide) ?_
    refine lv_iadd hx hb dX4_degreesEast_12 ?_
    refine lv_goto (tgt := 17) hx hb dX4_degreesEast_13 (by decide) ?_
    exact K5 _ (if_neg c7).symm _ _ hP hS _ (lv_sub hl [0, 1, 2] rfl)
def s_X4_goesEast (o1 : Int32) (o2 : Int32) : Int32 := (if 180 < (s_X4_degreesEast o1 o2) then 0 else 1)
abbrev rm_X4_goesEast : Room := { frames := 1, cells := 0, slots := 0, locals := 22 }
abbrev Qc_X4_goesEast (D : va_G) (cI cZ cJ cD : ClassId) (o1 : Int32) (o2 : Int32) : Array Value → State → Outcome → State → Prop := va_Qi (fun (r : Int32) (_ : Unit) => r = s_X4_goesEast o1 o2) (fun _ _ => True) (fun _ : Nat => False)
set_option maxHeartbeats 4000000 in
set_option maxRecDepth 100000 in
theorem c_X4_goesEast (l : Launch) (D : va_G) (cI cZ cJ cD : ClassId) (o1 : Int32) (o2 : Int32)  : Met l yX4_goesEast wsX4_goesEast rm_X4_goesEast (va_Pc [.int o1, .int o2] (zPre D cI cZ cJ cD [])) (Qc_X4_goesEast D cI cZ cJ cD o1 o2 ) 0 0 (fun _ : Nat => False) := by
  refine Met.ofW (cc := cX4_goesEast) (maxL := 2) (ret := (some .boolean)) (by decide) rfl ?_
  intro p e s m args below meth c s₁ B hml hv
  obtain ⟨rfl, hP, hK⟩ := hv
  have hx := B.exec
  have hb := B.bytes
  have hr := B.returns
  have hts := atoms_spec (ws := wsX4_goesEast) B.pre
  have hown : s.vm.findClass RX4 = some m.cls := findClass_of_methodNamed B.named
  have hlocks := B.notSynchronized
  have hS : va_S (fun _ : Nat => False) s.heap s.heap [] := va_S.rf
  have hl := lv_entry ([.int o1, .int o2]) (n := 2) (Nat.le_of_ble_eq_true rfl)
  rw [lg_entry_eq]
  generalize (lg_sl ([.int o1, .int o2]) ++ List.replicate (2 - (lg_sl ([.int o1, .int o2])).length) Slot.unset).toArray = ls at hl ⊢
  have hl : lv_has ls 2 [(0, .int o1), (1, .int o2)] := hl
  have hP : va_P D vwCl [] s.heap := hP
  have hP := hP
  refine lv_iload_n hx hb dX4_goesEast_0 rfl (lv_at hl 0 rfl) ?_
  refine lv_iload_n hx hb dX4_goesEast_1 rfl (lv_at hl 1 rfl) ?_
  refine va_calli (va_runS (As := [.int o1, .int o2]) (rest := []) ⟨hx, hb, hml, hown, hts⟩ (c_X4_degreesEast l D cI cZ cJ cD o1 o2 ) (va_cwS 2 hts gX4_goesEast_X4_degreesEast rfl rfl rfl (by decide +kernel) ⟨Nat.le_of_ble_eq_true rfl, Nat.le_of_ble_eq_true rfl⟩) ⟨zblind, (fun U hU hW => ⟨rfl, by rw [hU]; exact hP.sub (ws' := []) [] rfl, va_K.moved hW.alike hK⟩)⟩ rfl rfl hl.1 rfl (lv_room (Nat.le_of_ble_eq_true rfl)) dX4_goesEast_2 ⟨Nat.le_of_ble_eq_true rfl, Nat.le_of_ble_eq_true rfl⟩) hS (fun q _ h => h.elim) (fun q h => h.elim) (fun r5 u t H locs ht hvm hw hB hz1 hk1 hS => ?_)
  rw [hw]
  have hP := zk hP hk1
  refine lv_sipush (v := 180) hx hb dX4_goesEast_5 (by decide) ?_
  have K7 : ∀ v7_0 : Int32, v7_0 = (if 180 < (s_X4_degreesEast o1 o2) then 0 else 1) → ∀ (H : Heap) (locs : List Loc), va_P D vwCl [] H → va_S (fun _ : Nat => False) s.heap H locs → ∀ (ls : Array Slot), lv_has ls 2 [(0, .int o1), (1, .int o2)] → W p l e (headSpec wsX4_goesEast rm_X4_goesEast).room s m ([.int o1, .int o2]).toArray below meth c H locs 0 0 (MQ below (Qc_X4_goesEast D cI cZ cJ cD o1 o2) ([.int o1, .int o2]).toArray s 0 0 (fun _ : Nat => False)) (F0 m 16 ls [.int v7_0]) := by
    intro v7_0 hv7_0 H locs hP hS ls hl
    subst hv7_0
    have e8 : s_X4_goesEast o1 o2 = (if 180 < (s_X4_degreesEast o1 o2) then 0 else 1) := rfl
    exact W.zret (v := (if 180 < (s_X4_degreesEast o1 o2) then 0 else 1)) hx hb hr (z_b (by (repeat' split) <;> simp)) (fun t ht hW => ⟨⟨_, (), rfl, e8.symm, trivial⟩, hS.F ht⟩) hS.2.2 dX4_goesEast_16
  refine lv_icmp_gt (tgt := 15) hx hb dX4_goesEast_8 (by decide) (fun c9 => ?_) (fun c9 => ?_)
  · refine lv_iconst (v := 0) hx hb dX4_goesEast_15 (by decide) ?_
    exact K7 _ (if_pos c9).symm _ _ hP hS _ (lv_sub hl [0, 1] rfl)
  · refine lv_iconst (v := 1) hx hb dX4_goesEast_11 (by decide) ?_
    refine lv_goto (tgt := 16) hx hb dX4_goesEast_12 (by decide) ?_
    exact K7 _ (if_neg c9).symm _ _ hP hS _ (lv_sub hl [0, 1] rfl)
def s_X4_shorterWay (o1 : Int32) (o2 : Int32) : Int32 := (if (360 - (s_X4_degreesEast o1 o2)) < (s_X4_degreesEast o1 o2) then (360 - (s_X4_degreesEast o1 o2)) else (s_X4_degreesEast o1 o2))
abbrev rm_X4_shorterWay : Room := { frames := 1, cells := 0, slots := 0, locals := 22 }
abbrev Qc_X4_shorterWay (D : va_G) (cI cZ cJ cD : ClassId) (o1 : Int32) (o2 : Int32) : Array Value → State → Outcome → State → Prop := va_Qi (fun (r : Int32) (_ : Unit) => r = s_X4_shorterWay o1 o2) (fun _ _ => True) (fun _ : Nat => False)
set_option maxHeartbeats 4000000 in
set_option maxRecDepth 100000 in
theorem c_X4_shorterWay (l : Launch) (D : va_G) (cI cZ cJ cD : ClassId) (o1 : Int32) (o2 : Int32)  : Met l yX4_shorterWay wsX4_shorterWay rm_X4_shorterWay (va_Pc [.int o1, .int o2] (zPre D cI cZ cJ cD [])) (Qc_X4_shorterWay D cI cZ cJ cD o1 o2 ) 0 0 (fun _ : Nat => False) := by
  refine Met.ofW (cc := cX4_shorterWay) (maxL := 3) (ret := (some .int)) (by decide) rfl ?_
  intro p e s m args below meth c s₁ B hml hv
  obtain ⟨rfl, hP, hK⟩ := hv
  have hx := B.exec
  have hb := B.bytes
  have hr := B.returns
  have hts := atoms_spec (ws := wsX4_shorterWay) B.pre
  have hown : s.vm.findClass RX4 = some m.cls := findClass_of_methodNamed B.named
  have hlocks := B.notSynchronized
  have hS : va_S (fun _ : Nat => False) s.heap s.heap [] := va_S.rf
  have hl := lv_entry ([.int o1, .int o2]) (n := 3) (Nat.le_of_ble_eq_true rfl)
  rw [lg_entry_eq]
  generalize (lg_sl ([.int o1, .int o2]) ++ List.replicate (3 - (lg_sl ([.int o1, .int o2])).length) Slot.unset).toArray = ls at hl ⊢
  have hl : lv_has ls 3 [(0, .int o1), (1, .int o2)] := hl
  have hP : va_P D vwCl [] s.heap := hP
  have hP := hP
  refine lv_iload_n hx hb dX4_shorterWay_0 rfl (lv_at hl 0 rfl) ?_
  refine lv_iload_n hx hb dX4_shorterWay_1 rfl (lv_at hl 1 rfl) ?_
  refine va_calli (va_runS (As := [.int o1, .int o2]) (rest := []) ⟨hx, hb, hml, hown, hts⟩ (c_X4_degreesEast l D cI cZ cJ cD o1 o2 ) (va_cwS 2 hts gX4_shorterWay_X4_degreesEast rfl rfl rfl (by decide +kernel) ⟨Nat.le_of_ble_eq_true rfl, Nat.le_of_ble_eq_true rfl⟩) ⟨zblind, (fun U hU hW => ⟨rfl, by rw [hU]; exact hP.sub (ws' := []) [] rfl, va_K.moved hW.alike hK⟩)⟩ rfl rfl hl.1 rfl (lv_room (Nat.le_of_ble_eq_true rfl)) dX4_shorterWay_2 ⟨Nat.le_of_ble_eq_true rfl, Nat.le_of_ble_eq_true rfl⟩) hS (fun q _ h => h.elim) (fun q h => h.elim) (fun r2 u t H locs ht hvm hw hB hz1 hk1 hS => ?_)
  rw [hw]
  have hP := zk hP hk1
  refine lv_istore_n (lv' := [(2, .int (s_X4_degreesEast o1 o2)), (0, .int o1), (1, .int o2)]) hx hb dX4_shorterWay_5 rfl hl (by decide) rfl (fun ls hl => ?_)
  refine lv_iload_n hx hb dX4_shorterWay_6 rfl (lv_at hl 0 rfl) ?_
  refine lv_sipush (v := 360) hx hb dX4_shorterWay_7 (by decide) ?_
  refine lv_iload_n hx hb dX4_shorterWay_10 rfl (lv_at hl 0 rfl) ?_
  refine lv_isub hx hb dX4_shorterWay_11 ?_
  refine va_mmin hx hb (hml.trans hl.1.symm) hown (hts (.methodLink RX4 198 Lib.Math.min.name) (List.mem_cons_of_mem _ (List.mem_of_getElem? (i := 0) rfl))) (hts (.static Lib.Math.min.name) (List.mem_cons_of_mem _ (List.mem_of_getElem? (i := 1) rfl))) (hts (.initialized "java/lang/Math") (List.mem_cons_of_mem _ (List.mem_of_getElem? (i := 2) rfl))) (hts (.code Lib.Math.min.name Lib.Math.min.code 2 (some .int)) (List.mem_cons_of_mem _ (List.mem_of_getElem? (i := 3) rfl))) (Nat.le_of_ble_eq_true rfl) (Nat.le_of_ble_eq_true rfl) (Nat.le_of_ble_eq_true rfl) (Nat.le_of_ble_eq_true rfl) dX4_shorterWay_12 ?_
  have e3 : s_X4_shorterWay o1 o2 = (if (360 - (s_X4_degreesEast o1 o2)) < (s_X4_degreesEast o1 o2) then (360 - (s_X4_degreesEast o1 o2)) else (s_X4_degreesEast o1 o2)) := rfl
  exact W.iret (v := (if (360 - (s_X4_degreesEast o1 o2)) < (s_X4_degreesEast o1 o2) then (360 - (s_X4_degreesEast o1 o2)) else (s_X4_degreesEast o1 o2))) hx hb hr (fun t ht hW => ⟨⟨_, (), rfl, e3.symm, trivial⟩, hS.F ht⟩) hS.2.2 dX4_shorterWay_15
def k_X4_requireLatitude (lat : Int32) : Nat := (if lat < (-90) then 2 else (if lat ≤ 90 then 0 else 2))
abbrev rm_X4_requireLatitude : Room := { frames := 6, cells := 1, slots := 6, locals := 90 }
abbrev Qc_X4_requireLatitude (D : va_G) (cI cZ cJ cD : ClassId) (lat : Int32) : Array Value → State → Outcome → State → Prop := va_Qv (fun _ : Unit => k_X4_requireLatitude lat = 0) (fun _ _ => True) (fun _ : Nat => False)
abbrev Xc_X4_requireLatitude (D : va_G) (cI cZ cJ cD : ClassId) (lat : Int32) : String → State → State → Prop := vx_X (fun _ : Unit => True) (fun E _ _ => zX E (k_X4_requireLatitude lat)) (fun _ : Nat => False)
set_option maxHeartbeats 4000000 in
set_option maxRecDepth 100000 in
theorem c_X4_requireLatitude (l : Launch) (hnt : l.stackTraces = false) (D : va_G) (cI cZ cJ cD : ClassId) (lat : Int32)  : vx_Met l yX4_requireLatitude wsX4_requireLatitude rm_X4_requireLatitude (va_Pc [.int lat] (zPreE D cI cZ cJ cD [])) (Qc_X4_requireLatitude D cI cZ cJ cD lat ) (Xc_X4_requireLatitude D cI cZ cJ cD lat ) 1 6 (fun _ : Nat => False) := by
  refine vx_ofW (cc := cX4_requireLatitude) (maxL := 1) (ret := none) (by decide) rfl ?_
  intro p e s m args below meth c s₁ B hml ht0 hv
  obtain ⟨rfl, hP, hK, hE⟩ := hv
  have hx := B.exec
  have hb := B.bytes
  have hr := B.returns
  have hts := atoms_spec (ws := wsX4_requireLatitude) B.pre
  have hown : s.vm.findClass RX4 = some m.cls := findClass_of_methodNamed B.named
  have hlocks := B.notSynchronized
  have hS : va_S (fun _ : Nat => False) s.heap s.heap [] := va_S.rf
  have hl := lv_entry ([.int lat]) (n := 1) (Nat.le_of_ble_eq_true rfl)
  rw [lg_entry_eq]
  generalize (lg_sl ([.int lat]) ++ List.replicate (1 - (lg_sl ([.int lat])).length) Slot.unset).toArray = ls at hl ⊢
  have hl : lv_has ls 1 [(0, .int lat)] := hl
  have hP : va_P D vwCl [] s.heap := hP
  have hP := hP
  refine lv_iload_n hx hb dX4_requireLatitude_0 rfl (lv_at hl 0 rfl) ?_
  refine lv_bipush (v := (-90)) hx hb dX4_requireLatitude_1 (by decide) ?_
  refine lv_icmp_lt (tgt := 12) hx hb dX4_requireLatitude_3 (by decide) (fun c3 => ?_) (fun c3 => ?_)
  · have e4 : k_X4_requireLatitude lat = 2 := by
      unfold k_X4_requireLatitude
      exact (if_pos c3)
    obtain ⟨sa, hstr⟩ := hE.str 182 "there is no such latitude" (by decide)
    have hat : ∀ w ∈ vx_atS RX4 48 "java/lang/IllegalArgumentException" ["java/lang/RuntimeException", "java/lang/Exception"], w.before _ s = true := vx_hat (fun w h => hts w (List.mem_cons_of_mem _ (List.mem_append_right _ h))) (B := zBad2) (by decide +kernel) (hE.bad2 _)
    exact vx_throwS (text := "there is no such latitude") (names := ["java/lang/RuntimeException", "java/lang/Exception"]) (A := (fun _ : Nat => False)) hx hb hnt hown (by decide) (by decide) (hts (.classLink RX4 44 "java/lang/IllegalArgumentException") (List.mem_cons_of_mem _ (List.mem_append_left _ (List.mem_of_getElem? (i := 0) rfl)))) (hts (.initialized "java/lang/IllegalArgumentException") (List.mem_cons_of_mem _ (List.mem_append_left _ (List.mem_of_getElem? (i := 1) rfl)))) hstr hat (by decide +kernel) hE.1 hE.2.1 hS (hl.1.trans hml.symm) dX4_requireLatitude_12 dX4_requireLatitude_15 dX4_requireLatitude_16 dX4_requireLatitude_18 dX4_requireLatitude_21 (fun x hx => (ht0 x hx).elim) (by decide) (by decide) (by decide) (by decide) hlocks (fun t hal9 hz9 hk9 => ⟨(), trivial, zX2 e4, zF hS hz9 hk9⟩) hS.2.2 (by decide) (by decide)
  · refine lv_iload_n hx hb dX4_requireLatitude_6 rfl (lv_at hl 0 rfl) ?_
    refine lv_bipush (v := 90) hx hb dX4_requireLatitude_7 (by decide) ?_
    refine lv_icmp_le (tgt := 22) hx hb dX4_requireLatitude_9 (by decide) (fun c5 => ?_) (fun c5 => ?_)
    · refine W.widen (k := 1) (n := 6) (by decide) (by decide) ?_
      have e6 : k_X4_requireLatitude lat = 0 := by
        unfold k_X4_requireLatitude
        exact ((if_neg c3).trans (if_pos c5))
      refine vx_ret ?_
      exact W.vret hx hb hr (fun t ht hW => ⟨⟨(), rfl, e6, trivial⟩, hS.F ht⟩) hS.2.2 dX4_requireLatitude_22
    · have e7 : k_X4_requireLatitude lat = 2 := by
        unfold k_X4_requireLatitude
        exact ((if_neg c3).trans (if_neg c5))
      obtain ⟨sa, hstr⟩ := hE.str 182 "there is no such latitude" (by decide)
      have hat : ∀ w ∈ vx_atS RX4 48 "java/lang/IllegalArgumentException" ["java/lang/RuntimeException", "java/lang/Exception"], w.before _ s = true := vx_hat (fun w h => hts w (List.mem_cons_of_mem _ (List.mem_append_right _ h))) (B := zBad2) (by decide +kernel) (hE.bad2 _)
      exact vx_throwS (text := "there is no such latitude") (names := ["java/lang/RuntimeException", "java/lang/Exception"]) (A := (fun _ : Nat => False)) hx hb hnt hown (by decide) (by decide) (hts (.classLink RX4 44 "java/lang/IllegalArgumentException") (List.mem_cons_of_mem _ (List.mem_append_left _ (List.mem_of_getElem? (i := 0) rfl)))) (hts (.initialized "java/lang/IllegalArgumentException") (List.mem_cons_of_mem _ (List.mem_append_left _ (List.mem_of_getElem? (i := 1) rfl)))) hstr hat (by decide +kernel) hE.1 hE.2.1 hS (hl.1.trans hml.symm) dX4_requireLatitude_12 dX4_requireLatitude_15 dX4_requireLatitude_16 dX4_requireLatitude_18 dX4_requireLatitude_21 (fun x hx => (ht0 x hx).elim) (by decide) (by decide) (by decide) (by decide) hlocks (fun t hal9 hz9 hk9 => ⟨(), trivial, zX2 e7, zF hS hz9 hk9⟩) hS.2.2 (by decide) (by decide)
def k_X4_requireLongitude (lon : Int32) : Nat := (if lon < (-180) then 2 else (if lon ≤ 179 then 0 else 2))
abbrev rm_X4_requireLongitude : Room := { frames := 6, cells := 1, slots := 6, locals := 90 }
abbrev Qc_X4_requireLongitude (D : va_G) (cI cZ cJ cD : ClassId) (lon : Int32) : Array Value → State → Outcome → State → Prop := va_Qv (fun _ : Unit => k_X4_requireLongitude lon = 0) (fun _ _ => True) (fun _ : Nat => False)
abbrev Xc_X4_requireLongitude (D : va_G) (cI cZ cJ cD : ClassId) (lon : Int32) : String → State → State → Prop := vx_X (fun _ : Unit => True) (fun E _ _ => zX E (k_X4_requireLongitude lon)) (fun _ : Nat => False)
set_option maxHeartbeats 4000000 in
set_option maxRecDepth 100000 in
theorem c_X4_requireLongitude (l : Launch) (hnt : l.stackTraces = false) (D : va_G) (cI cZ cJ cD : ClassId) (lon : Int32)  : vx_Met l yX4_requireLongitude wsX4_requireLongitude rm_X4_requireLongitude (va_Pc [.int lon] (zPreE D cI cZ cJ cD [])) (Qc_X4_requireLongitude D cI cZ cJ cD lon ) (Xc_X4_requireLongitude D cI cZ cJ cD lon ) 1 6 (fun _ : Nat => False) := by
  refine vx_ofW (cc := cX4_requireLongitude) (maxL := 1) (ret := none) (by decide) rfl ?_
  intro p e s m args below meth c s₁ B hml ht0 hv
  obtain ⟨rfl, hP, hK, hE⟩ := hv
  have hx := B.exec
  have hb := B.bytes
  have hr := B.returns
  have hts := atoms_spec (ws := wsX4_requireLongitude) B.pre
  have hown : s.vm.findClass RX4 = some m.cls := findClass_of_methodNamed B.named
  have hlocks := B.notSynchronized
  have hS : va_S (fun _ : Nat => False) s.heap s.heap [] := va_S.rf
  have hl := lv_entry ([.int lon]) (n := 1) (Nat.le_of_ble_eq_true rfl)
  rw [lg_entry_eq]
  generalize (lg_sl ([.int lon]) ++ List.replicate (1 - (lg_sl ([.int lon])).length) Slot.unset).toArray = ls at hl ⊢
  have hl : lv_has ls 1 [(0, .int lon)] := hl
  have hP : va_P D vwCl [] s.heap := hP
  have hP := hP
  refine lv_iload_n hx hb dX4_requireLongitude_0 rfl (lv_at hl 0 rfl) ?_
  refine lv_sipush (v := (-180)) hx hb dX4_requireLongitude_1 (by decide) ?_
  refine lv_icmp_lt (tgt := 14) hx hb dX4_requireLongitude_4 (by decide) (fun c3 => ?_) (fun c3 => ?_)
  · have e4 : k_X4_requireLongitude lon = 2 := by
      unfold k_X4_requireLongitude
      exact (if_pos c3)
    obtain ⟨sa, hstr⟩ := hE.str 184 "there is no such longitude" (by decide)
    have hat : ∀ w ∈ vx_atS RX4 48 "java/lang/IllegalArgumentException" ["java/lang/RuntimeException", "java/lang/Exception"], w.before _ s = true := vx_hat (fun w h => hts w (List.mem_cons_of_mem _ (List.mem_append_right _ h))) (B := zBad2) (by decide +kernel) (hE.bad2 _)
    exact vx_throwS (text := "there is no such longitude") (names := ["java/lang/RuntimeException", "java/lang/Exception"]) (A := (fun _ : Nat => False)) hx hb hnt hown (by decide) (by decide) (hts (.classLink RX4 44 "java/lang/IllegalArgumentException") (List.mem_cons_of_mem _ (List.mem_append_left _ (List.mem_of_getElem? (i := 0) rfl)))) (hts (.initialized "java/lang/IllegalArgumentException") (List.mem_cons_of_mem _ (List.mem_append_left _ (List.mem_of_getElem? (i := 1) rfl)))) hstr hat (by decide +kernel) hE.1 hE.2.1 hS (hl.1.trans hml.symm) dX4_requireLongitude_14 dX4_requireLongitude_17 dX4_requireLongitude_18 dX4_requireLongitude_20 dX4_requireLongitude_23 (fun x hx => (ht0 x hx).elim) (by decide) (by decide) (by decide) (by decide) hlocks (fun t hal9 hz9 hk9 => ⟨(), trivial, zX2 e4, zF hS hz9 hk9⟩) hS.2.2 (by decide) (by decide)
  · refine lv_iload_n hx hb dX4_requireLongitude_7 rfl (lv_at hl 0 rfl) ?_
    refine lv_sipush (v := 179) hx hb dX4_requireLongitude_8 (by decide) ?_
    refine lv_icmp_le (tgt := 24) hx hb dX4_requireLongitude_11 (by decide) (fun c5 => ?_) (fun c5 => ?_)
    · refine W.widen (k := 1) (n := 6) (by decide) (by decide) ?_
      have e6 : k_X4_requireLongitude lon = 0 := by
        unfold k_X4_requireLongitude
        exact ((if_neg c3).trans (if_pos c5))
      refine vx_ret ?_
      exact W.vret hx hb hr (fun t ht hW => ⟨⟨(), rfl, e6, trivial⟩, hS.F ht⟩) hS.2.2 dX4_requireLongitude_24
    · have e7 : k_X4_requireLongitude lon = 2 := by
        unfold k_X4_requireLongitude
        exact ((if_neg c3).trans (if_neg c5))
      obtain ⟨sa, hstr⟩ := hE.str 184 "there is no such longitude" (by decide)
      have hat : ∀ w ∈ vx_atS RX4 48 "java/lang/IllegalArgumentException" ["java/lang/RuntimeException", "java/lang/Exception"], w.before _ s = true := vx_hat (fun w h => hts w (List.mem_cons_of_mem _ (List.mem_append_right _ h))) (B := zBad2) (by decide +kernel) (hE.bad2 _)
      exact vx_throwS (text := "there is no such longitude") (names := ["java/lang/RuntimeException", "java/lang/Exception"]) (A := (fun _ : Nat => False)) hx hb hnt hown (by decide) (by decide) (hts (.classLink RX4 44 "java/lang/IllegalArgumentException") (List.mem_cons_of_mem _ (List.mem_append_left _ (List.mem_of_getElem? (i := 0) rfl)))) (hts (.initialized "java/lang/IllegalArgumentException") (List.mem_cons_of_mem _ (List.mem_append_left _ (List.mem_of_getElem? (i := 1) rfl)))) hstr hat (by decide +kernel) hE.1 hE.2.1 hS (hl.1.trans hml.symm) dX4_requireLongitude_14 dX4_requireLongitude_17 dX4_requireLongitude_18 dX4_requireLongitude_20 dX4_requireLongitude_23 (fun x hx => (ht0 x hx).elim) (by decide) (by decide) (by decide) (by decide) hlocks (fun t hal9 hz9 hk9 => ⟨(), trivial, zX2 e7, zF hS hz9 hk9⟩) hS.2.2 (by decide) (by decide)
def k_X4_requireBand (bd : Int32) : Nat := (if bd < 0 then 1 else (if bd < 9 then 0 else 1))
abbrev rm_X4_requireBand : Room := { frames := 6, cells := 1, slots := 6, locals := 90 }
abbrev Qc_X4_requireBand (D : va_G) (cI cZ cJ cD : ClassId) (bd : Int32) : Array Value → State → Outcome → State → Prop := va_Qv (fun _ : Unit => k_X4_requireBand bd = 0) (fun _ _ => True) (fun _ : Nat => False)
abbrev Xc_X4_requireBand (D : va_G) (cI cZ cJ cD : ClassId) (bd : Int32) : String → State → State → Prop := vx_X (fun _ : Unit => True) (fun E _ _ => zX E (k_X4_requireBand bd)) (fun _ : Nat => False)
set_option maxHeartbeats 4000000 in
set_option maxRecDepth 100000 in
theorem c_X4_requireBand (l : Launch) (hnt : l.stackTraces = false) (D : va_G) (cI cZ cJ cD : ClassId) (bd : Int32)  : vx_Met l yX4_requireBand wsX4_requireBand rm_X4_requireBand (va_Pc [.int bd] (zPreE D cI cZ cJ cD [])) (Qc_X4_requireBand D cI cZ cJ cD bd ) (Xc_X4_requireBand D cI cZ cJ cD bd ) 1 6 (fun _ : Nat => False) := by
  refine vx_ofW (cc := cX4_requireBand) (maxL := 1) (ret := none) (by decide) rfl ?_
  intro p e s m args below meth c s₁ B hml ht0 hv
  obtain ⟨rfl, hP, hK, hE⟩ := hv
  have hx := B.exec
  have hb := B.bytes
  have hr := B.returns
  have hts := atoms_spec (ws := wsX4_requireBand) B.pre
  have hown : s.vm.findClass RX4 = some m.cls := findClass_of_methodNamed B.named
  have hlocks := B.notSynchronized
  have hS : va_S (fun _ : Nat => False) s.heap s.heap [] := va_S.rf
  have hl := lv_entry ([.int bd]) (n := 1) (Nat.le_of_ble_eq_true rfl)
  rw [lg_entry_eq]
  generalize (lg_sl ([.int bd]) ++ List.replicate (1 - (lg_sl ([.int bd])).length) Slot.unset).toArray = ls at hl ⊢
  have hl : lv_has ls 1 [(0, .int bd)] := hl
  have hP : va_P D vwCl [] s.heap := hP
  have hP := hP
  refine lv_iload_n hx hb dX4_requireBand_0 rfl (lv_at hl 0 rfl) ?_
  refine lv_if_lt (tgt := 10) hx hb dX4_requireBand_1 (by decide) (fun c3 => ?_) (fun c3 => ?_)
  · have e4 : k_X4_requireBand bd = 1 := by
      unfold k_X4_requireBand
      exact (if_pos c3)
    obtain ⟨sa, hstr⟩ := hE.str 186 "there is no such band" (by decide)
    have hat : ∀ w ∈ vx_atS RX4 41 "java/lang/IndexOutOfBoundsException" ["java/lang/RuntimeException", "java/lang/Exception"], w.before _ s = true := vx_hat (fun w h => hts w (List.mem_cons_of_mem _ (List.mem_append_right _ h))) (B := zBad1) (by decide +kernel) (hE.bad1 _)
    exact vx_throwS (text := "there is no such band") (names := ["java/lang/RuntimeException", "java/lang/Exception"]) (A := (fun _ : Nat => False)) hx hb hnt hown (by decide) (by decide) (hts (.classLink RX4 37 "java/lang/IndexOutOfBoundsException") (List.mem_cons_of_mem _ (List.mem_append_left _ (List.mem_of_getElem? (i := 0) rfl)))) (hts (.initialized "java/lang/IndexOutOfBoundsException") (List.mem_cons_of_mem _ (List.mem_append_left _ (List.mem_of_getElem? (i := 1) rfl)))) hstr hat (by decide +kernel) hE.1 hE.2.1 hS (hl.1.trans hml.symm) dX4_requireBand_10 dX4_requireBand_13 dX4_requireBand_14 dX4_requireBand_16 dX4_requireBand_19 (fun x hx => (ht0 x hx).elim) (by decide) (by decide) (by decide) (by decide) hlocks (fun t hal9 hz9 hk9 => ⟨(), trivial, zX1 e4, zF hS hz9 hk9⟩) hS.2.2 (by decide) (by decide)
  · refine lv_iload_n hx hb dX4_requireBand_4 rfl (lv_at hl 0 rfl) ?_
    refine lv_bipush (v := 9) hx hb dX4_requireBand_5 (by decide) ?_
    refine lv_icmp_lt (tgt := 20) hx hb dX4_requireBand_7 (by decide) (fun c5 => ?_) (fun c5 => ?_)
    · refine W.widen (k := 1) (n := 6) (by decide) (by decide) ?_
      have e6 : k_X4_requireBand bd = 0 := by
        unfold k_X4_requireBand
        exact ((if_neg c3).trans (if_pos c5))
      refine vx_ret ?_
      exact W.vret hx hb hr (fun t ht hW => ⟨⟨(), rfl, e6, trivial⟩, hS.F ht⟩) hS.2.2 dX4_requireBand_20
    · have e7 : k_X4_requireBand bd = 1 := by
        unfold k_X4_requireBand
        exact ((if_neg c3).trans (if_neg c5))
      obtain ⟨sa, hstr⟩ := hE.str 186 "there is no such band" (by decide)
      have hat : ∀ w ∈ vx_atS RX4 41 "java/lang/IndexOutOfBoundsException" ["java/lang/RuntimeException", "java/lang/Exception"], w.before _ s = true := vx_hat (fun w h => hts w (List.mem_cons_of_mem _ (List.mem_append_right _ h))) (B := zBad1) (by decide +kernel) (hE.bad1 _)
      exact vx_throwS (text := "there is no such band") (names := ["java/lang/RuntimeException", "java/lang/Exception"]) (A := (fun _ : Nat => False)) hx hb hnt hown (by decide) (by decide) (hts (.classLink RX4 37 "java/lang/IndexOutOfBoundsException") (List.mem_cons_of_mem _ (List.mem_append_left _ (List.mem_of_getElem? (i := 0) rfl)))) (hts (.initialized "java/lang/IndexOutOfBoundsException") (List.mem_cons_of_mem _ (List.mem_append_left _ (List.mem_of_getElem? (i := 1) rfl)))) hstr hat (by decide +kernel) hE.1 hE.2.1 hS (hl.1.trans hml.symm) dX4_requireBand_10 dX4_requireBand_13 dX4_requireBand_14 dX4_requireBand_16 dX4_requireBand_19 (fun x hx => (ht0 x hx).elim) (by decide) (by decide) (by decide) (by decide) hlocks (fun t hal9 hz9 hk9 => ⟨(), trivial, zX1 e7, zF hS hz9 hk9⟩) hS.2.2 (by decide) (by decide)
def s_X4_someTurned (tn : Int32) : Int32 := (if tn = 0 then 0 else tn)
def k_X4_someTurned (tn : Int32) : Nat := (if tn = 0 then 3 else 0)
abbrev rm_X4_someTurned : Room := { frames := 6, cells := 1, slots := 6, locals := 90 }
abbrev Qc_X4_someTurned (D : va_G) (cI cZ cJ cD : ClassId) (tn : Int32) : Array Value → State → Outcome → State → Prop := va_Qi (fun (r : Int32) (_ : Unit) => k_X4_someTurned tn = 0 ∧ r = s_X4_someTurned tn) (fun _ _ => True) (fun _ : Nat => False)
abbrev Xc_X4_someTurned (D : va_G) (cI cZ cJ cD : ClassId) (tn : Int32) : String → State → State → Prop := vx_X (fun _ : Unit => True) (fun E _ _ => zX E (k_X4_someTurned tn)) (fun _ : Nat => False)
set_option maxHeartbeats 4000000 in
set_option maxRecDepth 100000 in
theorem c_X4_someTurned (l : Launch) (hnt : l.stackTraces = false) (D : va_G) (cI cZ cJ cD : ClassId) (tn : Int32)  : vx_Met l yX4_someTurned wsX4_someTurned rm_X4_someTurned (va_Pc [.int tn] (zPreE D cI cZ cJ cD [])) (Qc_X4_someTurned D cI cZ cJ cD tn ) (Xc_X4_someTurned D cI cZ cJ cD tn ) 1 6 (fun _ : Nat => False) := by
  refine vx_ofW (cc := cX4_someTurned) (maxL := 1) (ret := (some .int)) (by decide) rfl ?_
  intro p e s m args below meth c s₁ B hml ht0 hv
  obtain ⟨rfl, hP, hK, hE⟩ := hv
  have hx := B.exec
  have hb := B.bytes
  have hr := B.returns
  have hts := atoms_spec (ws := wsX4_someTurned) B.pre
  have hown : s.vm.findClass RX4 = some m.cls := findClass_of_methodNamed B.named
  have hlocks := B.notSynchronized
  have hS : va_S (fun _ : Nat => False) s.heap s.heap [] := va_S.rf
  have hl := lv_entry ([.int tn]) (n := 1) (Nat.le_of_ble_eq_true rfl)
  rw [lg_entry_eq]
  generalize (lg_sl ([.int tn]) ++ List.replicate (1 - (lg_sl ([.int tn])).length) Slot.unset).toArray = ls at hl ⊢
  have hl : lv_has ls 1 [(0, .int tn)] := hl
  have hP : va_P D vwCl [] s.heap := hP
  have hP := hP
  refine lv_iload_n hx hb dX4_someTurned_0 rfl (lv_at hl 0 rfl) ?_
  refine lv_if_ne (tgt := 14) hx hb dX4_someTurned_1 (by decide) (fun c2 => ?_) (fun c2 => ?_)
  · refine lv_iload_n hx hb dX4_someTurned_14 rfl (lv_at hl 0 rfl) ?_
    refine W.widen (k := 1) (n := 6) (by decide) (by decide) ?_
    have e3 : s_X4_someTurned tn = tn := by
      unfold s_X4_someTurned
      exact (if_neg c2)
    have e4 : k_X4_someTurned tn = 0 := by
      unfold k_X4_someTurned
      exact (if_neg c2)
    refine vx_ret ?_
    exact W.iret (v := tn) hx hb hr (fun t ht hW => ⟨⟨_, (), rfl, ⟨e4, e3.symm⟩, trivial⟩, hS.F ht⟩) hS.2.2 dX4_someTurned_15
  · have e5 : k_X4_someTurned tn = 3 := by
      unfold k_X4_someTurned
      exact (if_pos c2)
    obtain ⟨sa, hstr⟩ := hE.str 193 "there are no panels on one side of the line" (by decide)
    have hat : ∀ w ∈ vx_atS RX4 57 "java/lang/IllegalStateException" ["java/lang/RuntimeException", "java/lang/Exception"], w.before _ s = true := vx_hat (fun w h => hts w (List.mem_cons_of_mem _ (List.mem_append_right _ h))) (B := zBad3) (by decide +kernel) (hE.bad3 _)
    exact vx_throwS (text := "there are no panels on one side of the line") (names := ["java/lang/RuntimeException", "java/lang/Exception"]) (A := (fun _ : Nat => False)) hx hb hnt hown (by decide) (by decide) (hts (.classLink RX4 53 "java/lang/IllegalStateException") (List.mem_cons_of_mem _ (List.mem_append_left _ (List.mem_of_getElem? (i := 0) rfl)))) (hts (.initialized "java/lang/IllegalStateException") (List.mem_cons_of_mem _ (List.mem_append_left _ (List.mem_of_getElem? (i := 1) rfl)))) hstr hat (by decide +kernel) hE.1 hE.2.1 hS (hl.1.trans hml.symm) dX4_someTurned_4 dX4_someTurned_7 dX4_someTurned_8 dX4_someTurned_10 dX4_someTurned_13 (fun x hx => (ht0 x hx).elim) (by decide) (by decide) (by decide) (by decide) hlocks (fun t hal9 hz9 hk9 => ⟨(), trivial, zX3 e5, zF hS hz9 hk9⟩) hS.2.2 (by decide) (by decide)
end
section
def lp_X0_greatest_4 (ft : Nat → Int32) (fw : Nat → Int32) (fh : Nat → Int32) : Nat → Int32
  | 0 => 0
  | k + 1 => (if (s_X0_compareBands ft fw fh (nI (k + 1)) (lp_X0_greatest_4 ft fw fh k)) ≤ 0 then lp_X0_greatest_4 ft fw fh k else nI (k + 1))
def s_X0_greatest (ft : Nat → Int32) (fw : Nat → Int32) (fh : Nat → Int32) : Int32 := lp_X0_greatest_4 ft fw fh 8
abbrev rm_X0_greatest : Room := { frames := 3, cells := 0, slots := 0, locals := 69 }
abbrev Qc_X0_greatest (D : va_G) (cI cZ cJ cD : ClassId) (qb : Nat) (qt : Nat) (ft : Nat → Int32) (qm : Nat) (qw : Nat) (qh : Nat) (fw : Nat → Int32) (fh : Nat → Int32) : Array Value → State → Outcome → State → Prop := va_Qi (fun (r : Int32) (_ : Unit) => r = s_X0_greatest ft fw fh) (fun _ _ => True) (fun _ : Nat => False)
set_option maxHeartbeats 4000000 in
set_option maxRecDepth 100000 in
theorem c_X0_greatest (l : Launch) (D : va_G) (cI cZ cJ cD : ClassId) (qb : Nat) (qt : Nat) (ft : Nat → Int32) (qm : Nat) (qw : Nat) (qh : Nat) (fw : Nat → Int32) (fh : Nat → Int32)  : Met l yX0_greatest wsX0_greatest rm_X0_greatest (va_Pc [.ref qb, .ref qm] (zPre D cI cZ cJ cD [(qb, .inr (0, [.ref qt])), (qt, .inl (cI, 9, .inl ft)), (qm, .inr (2, [.ref qw, .ref qh])), (qw, .inl (cI, 10, .inl fw)), (qh, .inl (cI, 10, .inl fh))])) (Qc_X0_greatest D cI cZ cJ cD qb qt ft qm qw qh fw fh ) 0 0 (fun _ : Nat => False) := by
  refine Met.ofW (cc := cX0_greatest) (maxL := 4) (ret := (some .int)) (by decide) rfl ?_
  intro p e s m args below meth c s₁ B hml hv
  obtain ⟨rfl, hP, hK⟩ := hv
  have hx := B.exec
  have hb := B.bytes
  have hr := B.returns
  have hts := atoms_spec (ws := wsX0_greatest) B.pre
  have hown : s.vm.findClass RX0 = some m.cls := findClass_of_methodNamed B.named
  have hlocks := B.notSynchronized
  have hS : va_S (fun _ : Nat => False) s.heap s.heap [] := va_S.rf
  have hl := lv_entry ([.ref qb, .ref qm]) (n := 4) (Nat.le_of_ble_eq_true rfl)
  rw [lg_entry_eq]
  generalize (lg_sl ([.ref qb, .ref qm]) ++ List.replicate (4 - (lg_sl ([.ref qb, .ref qm])).length) Slot.unset).toArray = ls at hl ⊢
  have hl : lv_has ls 4 [(0, .ref qb), (1, .ref qm)] := hl
  have hP : va_P D vwCl [(qb, .inr (0, [.ref qt])), (qt, .inl (cI, 9, .inl ft)), (qm, .inr (2, [.ref qw, .ref qh])), (qw, .inl (cI, 10, .inl fw)), (qh, .inl (cI, 10, .inl fh))] s.heap := hP
  have hP := hP
  refine lv_iconst (v := 0) hx hb dX0_greatest_0 (by decide) ?_
  refine lv_istore_n (lv' := [(2, .int 0), (0, .ref qb), (1, .ref qm)]) hx hb dX0_greatest_1 rfl hl (by decide) rfl (fun ls hl => ?_)
  refine lv_iconst (v := 1) hx hb dX0_greatest_2 (by decide) ?_
  refine lv_istore_n (lv' := [(3, .int 1), (2, .int 0), (0, .ref qb), (1, .ref qm)]) hx hb dX0_greatest_3 rfl hl (by decide) rfl (fun ls hl => ?_)
  have X1 : ∀ (H : Heap) (locs : List Loc), va_P D vwCl [(qb, .inr (0, [.ref qt])), (qt, .inl (cI, 9, .inl ft)), (qm, .inr (2, [.ref qw, .ref qh])), (qw, .inl (cI, 10, .inl fw)), (qh, .inl (cI, 10, .inl fh))] H → va_S (fun _ : Nat => False) s.heap H locs → ∀ (ls : Array Slot), lv_has ls 4 [(0, .ref qb), (1, .ref qm), (2, .int (lp_X0_greatest_4 ft fw fh 8))] → W p l e (headSpec wsX0_greatest rm_X0_greatest).room s m ([.ref qb, .ref qm]).toArray below meth c H locs 0 0 (MQ below (Qc_X0_greatest D cI cZ cJ cD qb qt ft qm qw qh fw fh) ([.ref qb, .ref qm]).toArray s 0 0 (fun _ : Nat => False)) (F0 m 28 ls []) := by
    intro H locs hP hS ls hl
    refine lv_iload_n hx hb dX0_greatest_28 rfl (lv_at hl 2 rfl) ?_
    have e2 : s_X0_greatest ft fw fh = lp_X0_greatest_4 ft fw fh 8 := rfl
    exact W.iret (v := (lp_X0_greatest_4 ft fw fh 8)) hx hb hr (fun t ht hW => ⟨⟨_, (), rfl, e2.symm, trivial⟩, hS.F ht⟩) hS.2.2 dX0_greatest_29
  have L1 : ∀ (n k : Nat) (acc : Int32), k ≤ 8 → 8 < k + n → acc = lp_X0_greatest_4 ft fw fh k → ∀ (H : Heap) (locs : List Loc), va_P D vwCl [(qb, .inr (0, [.ref qt])), (qt, .inl (cI, 9, .inl ft)), (qm, .inr (2, [.ref qw, .ref qh])), (qw, .inl (cI, 10, .inl fw)), (qh, .inl (cI, 10, .inl fh))] H → va_S (fun _ : Nat => False) s.heap H locs → ∀ (ls : Array Slot), lv_has ls 4 [(0, .ref qb), (1, .ref qm), (3, .int (nI (k + 1))), (2, .int acc)] → W p l e (headSpec wsX0_greatest rm_X0_greatest).room s m ([.ref qb, .ref qm]).toArray below meth c H locs 0 0 (MQ below (Qc_X0_greatest D cI cZ cJ cD qb qt ft qm qw qh fw fh) ([.ref qb, .ref qm]).toArray s 0 0 (fun _ : Nat => False)) (F0 m 4 ls []) := by
    intro n
    induction n with
    | zero =>
      intro k acc hk hf
      exact absurd hf (by omega)
    | succ n ih =>
      intro k acc hk hf hacc H locs hP hS ls hl
      subst hacc
      refine lv_iload_n hx hb dX0_greatest_4 rfl (lv_at hl 2 rfl) ?_
      refine lv_bipush (v := 9) hx hb dX0_greatest_5 (by decide) ?_
      refine lv_icmp_ge (tgt := 28) hx hb dX0_greatest_7 (by decide) (fun c3 => ?_) (fun c3 => ?_)
      · have hge : 8 ≤ k := (by have := (nI_leI (a := 9) (b := k + 1) (by omega) (by omega)).mp c3; omega)
        have ek : k = 8 := by omega
        subst ek
        exact X1 _ _ hP hS _ (lv_sub hl [0, 1, 3] rfl)
      · refine lv_aload_n hx hb dX0_greatest_10 rfl (lv_at hl 0 rfl) ?_
        refine lv_aload_n hx hb dX0_greatest_11 rfl (lv_at hl 1 rfl) ?_
        refine lv_iload_n hx hb dX0_greatest_12 rfl (lv_at hl 2 rfl) ?_
        refine lv_iload_n hx hb dX0_greatest_13 rfl (lv_at hl 3 rfl) ?_
        refine va_calli (va_runV (As := [.ref qm, .int (nI (k + 1)), .int (lp_X0_greatest_4 ft fw fh k)]) (rest := []) ⟨hx, hb, hml, hown, hts⟩ (c_X0_compareBands l D cI cZ cJ cD qb qt ft qm qw qh fw fh (nI (k + 1)) (lp_X0_greatest_4 ft fw fh k) ) (cwV 3 hts gX0_greatest_X0_compareBands rfl rfl rfl (by decide +kernel) ⟨Nat.le_of_ble_eq_true rfl, Nat.le_of_ble_eq_true rfl⟩) ⟨zblind, va_recv hK hP (ci := 0) (q0 := 0) rfl rfl, (fun U hU hW => ⟨rfl, by rw [hU]; exact hP.sub (ws' := [(qb, .inr (0, [.ref qt])), (qt, .inl (cI, 9, .inl ft)), (qm, .inr (2, [.ref qw, .ref qh])), (qw, .inl (cI, 10, .inl fw)), (qh, .inl (cI, 10, .inl fh))]) [0, 1, 2, 3, 4] rfl, va_K.moved hW.alike hK⟩)⟩ rfl rfl hl.1 rfl (lv_room (Nat.le_of_ble_eq_true rfl)) dX0_greatest_14 ⟨Nat.le_of_ble_eq_true rfl, Nat.le_of_ble_eq_true rfl⟩) hS (fun q _ h => h.elim) (fun q h => h.elim) (fun r4 u t H locs ht hvm hw hB hz1 hk1 hS => ?_)
        rw [hw]
        have hP := zk hP hk1
        refine lv_if_le (tgt := 22) hx hb dX0_greatest_17 (by decide) (fun c5 => ?_) (fun c5 => ?_)
        · refine lv_iinc (v := nI (k + 1 + 1)) (lv' := [(3, .int (nI (k + 1 + 1))), (0, .ref qb), (1, .ref qm), (2, .int (lp_X0_greatest_4 ft fw fh k))]) hx hb dX0_greatest_22 hl (k := 2) rfl (nI_succ (k + 1)).symm (by decide) rfl (fun ls hl => ?_)
          refine lv_goto (tgt := 4) hx hb dX0_greatest_25 (by decide) ?_
          have hlt : k < 8 := ((Nat.lt_or_ge (k + 1) 9).elim (fun q => by omega) (fun q => absurd (nI_le (a := 9) (b := k + 1) q (by omega)) c3))
          exact ih (k + 1) _ (by omega) (by omega) ((if_pos c5)).symm _ _ hP hS _ (lv_sub hl [1, 2, 0, 3] rfl)
        · refine lv_iload_n hx hb dX0_greatest_20 rfl (lv_at hl 2 rfl) ?_
          refine lv_istore_n (lv' := [(2, .int (nI (k + 1))), (0, .ref qb), (1, .ref qm), (3, .int (nI (k + 1)))]) hx hb dX0_greatest_21 rfl hl (by decide) rfl (fun ls hl => ?_)
          refine lv_iinc (v := nI (k + 1 + 1)) (lv' := [(3, .int (nI (k + 1 + 1))), (2, .int (nI (k + 1))), (0, .ref qb), (1, .ref qm)]) hx hb dX0_greatest_22 hl (k := 3) rfl (nI_succ (k + 1)).symm (by decide) rfl (fun ls hl => ?_)
          refine lv_goto (tgt := 4) hx hb dX0_greatest_25 (by decide) ?_
          have hlt : k < 8 := ((Nat.lt_or_ge (k + 1) 9).elim (fun q => by omega) (fun q => absurd (nI_le (a := 9) (b := k + 1) q (by omega)) c3))
          exact ih (k + 1) _ (by omega) (by omega) ((if_neg c5)).symm _ _ hP hS _ (lv_sub hl [2, 3, 0, 1] rfl)
  exact L1 (8 + 1) 0 _ (Nat.zero_le _) (by omega) rfl _ _ hP hS _ (lv_sub hl [2, 3, 0, 1] rfl)
def s_X0_areaByTruth (ft : Nat → Int32) (fw : Nat → Int32) (fh : Nat → Int32) (bd : Int32) : UInt32 := FP.fdiv (FP.l2f (s_X2_bandArea fw fh bd)) (FP.i2f (s_X0_truthOf ft bd))
abbrev rm_X0_areaByTruth : Room := { frames := 2, cells := 0, slots := 0, locals := 46 }
abbrev Qc_X0_areaByTruth (D : va_G) (cI cZ cJ cD : ClassId) (qb : Nat) (qt : Nat) (ft : Nat → Int32) (qm : Nat) (qw : Nat) (qh : Nat) (fw : Nat → Int32) (fh : Nat → Int32) (bd : Int32) : Array Value → State → Outcome → State → Prop := va_Qf (fun (r : UInt32) (_ : Unit) => r = s_X0_areaByTruth ft fw fh bd) (fun _ _ => True) (fun _ : Nat => False)
set_option maxHeartbeats 4000000 in
set_option maxRecDepth 100000 in
theorem c_X0_areaByTruth (l : Launch) (D : va_G) (cI cZ cJ cD : ClassId) (qb : Nat) (qt : Nat) (ft : Nat → Int32) (qm : Nat) (qw : Nat) (qh : Nat) (fw : Nat → Int32) (fh : Nat → Int32) (bd : Int32) (htr : ¬ s_X0_truthOf ft bd = 0) : Met l yX0_areaByTruth wsX0_areaByTruth rm_X0_areaByTruth (va_Pc [.ref qb, .ref qm, .int bd] (zPre D cI cZ cJ cD [(qb, .inr (0, [.ref qt])), (qt, .inl (cI, 9, .inl ft)), (qm, .inr (2, [.ref qw, .ref qh])), (qw, .inl (cI, 10, .inl fw)), (qh, .inl (cI, 10, .inl fh))])) (Qc_X0_areaByTruth D cI cZ cJ cD qb qt ft qm qw qh fw fh bd ) 0 0 (fun _ : Nat => False) := by
  refine Met.ofW (cc := cX0_areaByTruth) (maxL := 3) (ret := (some .float)) (by decide) rfl ?_
  intro p e s m args below meth c s₁ B hml hv
  obtain ⟨rfl, hP, hK⟩ := hv
  have hx := B.exec
  have hb := B.bytes
  have hr := B.returns
  have hts := atoms_spec (ws := wsX0_areaByTruth) B.pre
  have hown : s.vm.findClass RX0 = some m.cls := findClass_of_methodNamed B.named
  have hlocks := B.notSynchronized
  have hS : va_S (fun _ : Nat => False) s.heap s.heap [] := va_S.rf
  have hl := lv_entry ([.ref qb, .ref qm, .int bd]) (n := 3) (Nat.le_of_ble_eq_true rfl)
  rw [lg_entry_eq]
  generalize (lg_sl ([.ref qb, .ref qm, .int bd]) ++ List.replicate (3 - (lg_sl ([.ref qb, .ref qm, .int bd])).length) Slot.unset).toArray = ls at hl ⊢
  have hl : lv_has ls 3 [(0, .ref qb), (1, .ref qm), (2, .int bd)] := hl
  have hP : va_P D vwCl [(qb, .inr (0, [.ref qt])), (qt, .inl (cI, 9, .inl ft)), (qm, .inr (2, [.ref qw, .ref qh])), (qw, .inl (cI, 10, .inl fw)), (qh, .inl (cI, 10, .inl fh))] s.heap := hP
  have hP := hP
  refine lv_aload_n hx hb dX0_areaByTruth_0 rfl (lv_at hl 1 rfl) ?_
  refine lv_iload_n hx hb dX0_areaByTruth_1 rfl (lv_at hl 2 rfl) ?_
  refine va_calll (va_runV (As := [.int bd]) (rest := []) ⟨hx, hb, hml, hown, hts⟩ (c_X2_bandArea l D cI cZ cJ cD qm qw qh fw fh bd ) (cwV 1 hts gX0_areaByTruth_X2_bandArea rfl rfl rfl (by decide +kernel) ⟨Nat.le_of_ble_eq_true rfl, Nat.le_of_ble_eq_true rfl⟩) ⟨zblind, va_recv hK hP (ci := 2) (q0 := 2) rfl rfl, (fun U hU hW => ⟨rfl, by rw [hU]; exact hP.sub (ws' := [(qm, .inr (2, [.ref qw, .ref qh])), (qw, .inl (cI, 10, .inl fw)), (qh, .inl (cI, 10, .inl fh))]) [2, 3, 4] rfl, va_K.moved hW.alike hK⟩)⟩ rfl rfl hl.1 rfl (lv_room (Nat.le_of_ble_eq_true rfl)) dX0_areaByTruth_2 ⟨Nat.le_of_ble_eq_true rfl, Nat.le_of_ble_eq_true rfl⟩) hS (fun q _ h => h.elim) (fun q h => h.elim) (fun r3 u t H locs ht hvm hw hB hz1 hk1 hS => ?_)
  rw [hw]
  have hP := zk hP hk1
  refine lv_l2f hx hb dX0_areaByTruth_5 ?_
  refine lv_aload_n hx hb dX0_areaByTruth_6 rfl (lv_at hl 0 rfl) ?_
  refine lv_iload_n hx hb dX0_areaByTruth_7 rfl (lv_at hl 2 rfl) ?_
  refine va_calli (va_runV (As := [.int bd]) (rest := [.float (FP.l2f (s_X2_bandArea fw fh bd))]) ⟨hx, hb, hml, hown, hts⟩ (c_X0_truthOf l D cI cZ cJ cD qb qt ft bd ) (cwV 1 hts gX0_areaByTruth_X0_truthOf rfl rfl rfl (by decide +kernel) ⟨Nat.le_of_ble_eq_true rfl, Nat.le_of_ble_eq_true rfl⟩) ⟨zblind, va_recv hK hP (ci := 0) (q0 := 0) rfl rfl, (fun U hU hW => ⟨rfl, by rw [hU]; exact hP.sub (ws' := [(qb, .inr (0, [.ref qt])), (qt, .inl (cI, 9, .inl ft))]) [0, 1] rfl, va_K.moved hW.alike hK⟩)⟩ rfl rfl hl.1 rfl (lv_room (Nat.le_of_ble_eq_true rfl)) dX0_areaByTruth_8 ⟨Nat.le_of_ble_eq_true rfl, Nat.le_of_ble_eq_true rfl⟩) hS (fun q _ h => h.elim) (fun q h => h.elim) (fun r4 u t H locs ht hvm hw hB hz1 hk1 hS => ?_)
  rw [hw]
  have hP := zk hP hk1
  refine lv_i2f hx hb dX0_areaByTruth_11 ?_
  refine lv_fdiv hx hb dX0_areaByTruth_12 (z_fdiv _ _ htr) ?_
  have e5 : s_X0_areaByTruth ft fw fh bd = FP.fdiv (FP.l2f (s_X2_bandArea fw fh bd)) (FP.i2f (s_X0_truthOf ft bd)) := rfl
  exact W.fret (v := (FP.fdiv (FP.l2f (s_X2_bandArea fw fh bd)) (FP.i2f (s_X0_truthOf ft bd)))) hx hb hr (fun t ht hW => ⟨⟨_, (), rfl, e5.symm, trivial⟩, hS.F ht⟩) hS.2.2 dX0_areaByTruth_13
def s_X1_panels (nC : Nat) (nR : Nat) (nf : Int32) : Int32 := (nI nC) * (nI nR)
abbrev rm_X1_panels : Room := { frames := 0, cells := 0, slots := 0, locals := 0 }
abbrev Qc_X1_panels (D : va_G) (cI cZ cJ cD : ClassId) (qf : Nat) (qx : Nat) (qy : Nat) (qz : Nat) (qu : Nat) (nC : Nat) (nR : Nat) (nf : Int32) : Array Value → State → Outcome → State → Prop := va_Qi (fun (r : Int32) (_ : Unit) => r = s_X1_panels nC nR nf) (fun _ _ => True) (fun _ : Nat => False)
set_option maxHeartbeats 4000000 in
set_option maxRecDepth 100000 in
theorem c_X1_panels (l : Launch) (D : va_G) (cI cZ cJ cD : ClassId) (qf : Nat) (qx : Nat) (qy : Nat) (qz : Nat) (qu : Nat) (nC : Nat) (nR : Nat) (nf : Int32)  : Met l yX1_panels wsX1_panels rm_X1_panels (va_Pc [.ref qf] (zPre D cI cZ cJ cD [(qf, .inr (1, [.ref qx, .ref qy, .ref qz, .ref qu, .int (nI nC), .int (nI nR), .int nf]))])) (Qc_X1_panels D cI cZ cJ cD qf qx qy qz qu nC nR nf ) 0 0 (fun _ : Nat => False) := by
  refine Met.ofW (cc := cX1_panels) (maxL := 1) (ret := (some .int)) (by decide) rfl ?_
  intro p e s m args below meth c s₁ B hml hv
  obtain ⟨rfl, hP, hK⟩ := hv
  have hx := B.exec
  have hb := B.bytes
  have hr := B.returns
  have hts := atoms_spec (ws := wsX1_panels) B.pre
  have hown : s.vm.findClass RX1 = some m.cls := findClass_of_methodNamed B.named
  have hlocks := B.notSynchronized
  have hS : va_S (fun _ : Nat => False) s.heap s.heap [] := va_S.rf
  have hl := lv_entry ([.ref qf]) (n := 1) (Nat.le_of_ble_eq_true rfl)
  rw [lg_entry_eq]
  generalize (lg_sl ([.ref qf]) ++ List.replicate (1 - (lg_sl ([.ref qf])).length) Slot.unset).toArray = ls at hl ⊢
  have hl : lv_has ls 1 [(0, .ref qf)] := hl
  have hP : va_P D vwCl [(qf, .inr (1, [.ref qx, .ref qy, .ref qz, .ref qu, .int (nI nC), .int (nI nR), .int nf]))] s.heap := hP
  have hP := hP
  refine lv_aload_n hx hb dX1_panels_0 rfl (lv_at hl 0 rfl) ?_
  refine va_get (D := D) (ci := 1) (v := .int (nI nC)) (C := RX1) (T := TX1) (N := 7) hx hb hts (fun w h => List.mem_cons_of_mem _ (List.mem_append_right _ h)) hown hK hP 0 rfl rfl 4 (by decide) (hts (.fieldLink RX1 29 "AtlasFolder$FoldedSheet" "columns" "I") (List.mem_cons_of_mem _ (List.mem_append_left _ (List.mem_of_getElem? (i := 0) rfl)))) (fun _ h9 => h9) rfl dX1_panels_1 ?_
  refine lv_aload_n hx hb dX1_panels_4 rfl (lv_at hl 0 rfl) ?_
  refine va_get (D := D) (ci := 1) (v := .int (nI nR)) (C := RX1) (T := TX1) (N := 7) hx hb hts (fun w h => List.mem_cons_of_mem _ (List.mem_append_right _ h)) hown hK hP 0 rfl rfl 5 (by decide) (hts (.fieldLink RX1 33 "AtlasFolder$FoldedSheet" "rows" "I") (List.mem_cons_of_mem _ (List.mem_append_left _ (List.mem_of_getElem? (i := 1) rfl)))) (fun _ h9 => h9) rfl dX1_panels_5 ?_
  refine lv_imul hx hb dX1_panels_8 ?_
  have e1 : s_X1_panels nC nR nf = (nI nC) * (nI nR) := rfl
  exact W.iret (v := ((nI nC) * (nI nR))) hx hb hr (fun t ht hW => ⟨⟨_, (), rfl, e1.symm, trivial⟩, hS.F ht⟩) hS.2.2 dX1_panels_9
theorem z_pan (nC nR : Nat) (nf : Int32) : s_X1_panels nC nR nf = nI (nC * nR) := pk_mul nC nR
theorem z_pge {nC nR k : Nat} {nf : Int32} (hN : nC * nR ≤ 36) (hk : k ≤ nC * nR) (h : s_X1_panels nC nR nf ≤ nI k) : nC * nR ≤ k := by
  rw [z_pan] at h
  exact (nI_leI (by omega) (by omega)).mp h
theorem z_plt {nC nR k : Nat} {nf : Int32} (hN : nC * nR ≤ 36) (hk : k ≤ nC * nR) (h : ¬ s_X1_panels nC nR nf ≤ nI k) : k < nC * nR := by
  rw [z_pan] at h
  rcases Nat.lt_or_ge k (nC * nR) with q | q
  · exact q
  · exact absurd (nI_le q (by omega)) h
theorem z_pin {nC nR k : Nat} {nf : Int32} (hN : nC * nR ≤ 36) (hk : k ≤ nC * nR) (h : ¬ s_X1_panels nC nR nf ≤ nI k) : vp_in (nI k) 36 := vp_in_nI (Nat.lt_of_lt_of_le (z_plt hN hk h) hN) (by omega)
def s_X1_number (nC : Nat) (nR : Nat) (nf : Int32) (co : Int32) (ro : Int32) : Int32 := (co * (nI nR)) + ro
abbrev rm_X1_number : Room := { frames := 0, cells := 0, slots := 0, locals := 0 }
abbrev Qc_X1_number (D : va_G) (cI cZ cJ cD : ClassId) (qf : Nat) (qx : Nat) (qy : Nat) (qz : Nat) (qu : Nat) (nC : Nat) (nR : Nat) (nf : Int32) (co : Int32) (ro : Int32) : Array Value → State → Outcome → State → Prop := va_Qi (fun (r : Int32) (_ : Unit) => r = s_X1_number nC nR nf co ro) (fun _ _ => True) (fun _ : Nat => False)
set_option maxHeartbeats 4000000 in
set_option maxRecDepth 100000 in
theorem c_X1_number (l : Launch) (D : va_G) (cI cZ cJ cD : ClassId) (qf : Nat) (qx : Nat) (qy : Nat) (qz : Nat) (qu : Nat) (nC : Nat) (nR : Nat) (nf : Int32) (co : Int32) (ro : Int32)  : Met l yX1_number wsX1_number rm_X1_number (va_Pc [.ref qf, .int co, .int ro] (zPre D cI cZ cJ cD [(qf, .inr (1, [.ref qx, .ref qy, .ref qz, .ref qu, .int (nI nC), .int (nI nR), .int nf]))])) (Qc_X1_number D cI cZ cJ cD qf qx qy qz qu nC nR nf co ro ) 0 0 (fun _ : Nat => False) := by
  refine Met.ofW (cc := cX1_number) (maxL := 3) (ret := (some .int)) (by decide) rfl ?_
  intro p e s m args below meth c s₁ B hml hv
  obtain ⟨rfl, hP, hK⟩ := hv
  have hx := B.exec
  have hb := B.bytes
  have hr := B.returns
  have hts := atoms_spec (ws := wsX1_number) B.pre
  have hown : s.vm.findClass RX1 = some m.cls := findClass_of_methodNamed B.named
  have hlocks := B.notSynchronized
  have hS : va_S (fun _ : Nat => False) s.heap s.heap [] := va_S.rf
  have hl := lv_entry ([.ref qf, .int co, .int ro]) (n := 3) (Nat.le_of_ble_eq_true rfl)
  rw [lg_entry_eq]
  generalize (lg_sl ([.ref qf, .int co, .int ro]) ++ List.replicate (3 - (lg_sl ([.ref qf, .int co, .int ro])).length) Slot.unset).toArray = ls at hl ⊢
  have hl : lv_has ls 3 [(0, .ref qf), (1, .int co), (2, .int ro)] := hl
  have hP : va_P D vwCl [(qf, .inr (1, [.ref qx, .ref qy, .ref qz, .ref qu, .int (nI nC), .int (nI nR), .int nf]))] s.heap := hP
  have hP := hP
  refine lv_iload_n hx hb dX1_number_0 rfl (lv_at hl 1 rfl) ?_
  refine lv_aload_n hx hb dX1_number_1 rfl (lv_at hl 0 rfl) ?_
  refine va_get (D := D) (ci := 1) (v := .int (nI nR)) (C := RX1) (T := TX1) (N := 7) hx hb hts (fun w h => List.mem_cons_of_mem _ (List.mem_append_right _ h)) hown hK hP 0 rfl rfl 5 (by decide) (hts (.fieldLink RX1 33 "AtlasFolder$FoldedSheet" "rows" "I") (List.mem_cons_of_mem _ (List.mem_append_left _ (List.mem_of_getElem? (i := 0) rfl)))) (fun _ h9 => h9) rfl dX1_number_2 ?_
  refine lv_imul hx hb dX1_number_5 ?_
  refine lv_iload_n hx hb dX1_number_6 rfl (lv_at hl 2 rfl) ?_
  refine lv_iadd hx hb dX1_number_7 ?_
  have e1 : s_X1_number nC nR nf co ro = (co * (nI nR)) + ro := rfl
  exact W.iret (v := ((co * (nI nR)) + ro)) hx hb hr (fun t ht hW => ⟨⟨_, (), rfl, e1.symm, trivial⟩, hS.F ht⟩) hS.2.2 dX1_number_8
def s_X1_hasPanel (nC : Nat) (nR : Nat) (nf : Int32) (co : Int32) (ro : Int32) : Int32 := (if co < 0 then 0 else (if (nI nC) ≤ co then 0 else (if ro < 0 then 0 else (if (nI nR) ≤ ro then 0 else 1))))
abbrev rm_X1_hasPanel : Room := { frames := 0, cells := 0, slots := 0, locals := 0 }
abbrev Qc_X1_hasPanel (D : va_G) (cI cZ cJ cD : ClassId) (qf : Nat) (qx : Nat) (qy : Nat) (qz : Nat) (qu : Nat) (nC : Nat) (nR : Nat) (nf : Int32) (co : Int32) (ro : Int32) : Array Value → State → Outcome → State → Prop := va_Qi (fun (r : Int32) (_ : Unit) => r = s_X1_hasPanel nC nR nf co ro) (fun _ _ => True) (fun _ : Nat => False)
set_option maxHeartbeats 4000000 in
set_option maxRecDepth 100000 in
theorem c_X1_hasPanel (l : Launch) (D : va_G) (cI cZ cJ cD : ClassId) (qf : Nat) (qx : Nat) (qy : Nat) (qz : Nat) (qu : Nat) (nC : Nat) (nR : Nat) (nf : Int32) (co : Int32) (ro : Int32)  : Met l yX1_hasPanel wsX1_hasPanel rm_X1_hasPanel (va_Pc [.ref qf, .int co, .int ro] (zPre D cI cZ cJ cD [(qf, .inr (1, [.ref qx, .ref qy, .ref qz, .ref qu, .int (nI nC), .int (nI nR), .int nf]))])) (Qc_X1_hasPanel D cI cZ cJ cD qf qx qy qz qu nC nR nf co ro ) 0 0 (fun _ : Nat => False) := by
  refine Met.ofW (cc := cX1_hasPanel) (maxL := 3) (ret := (some .boolean)) (by decide) rfl ?_
  intro p e s m args below meth c s₁ B hml hv
  obtain ⟨rfl, hP, hK⟩ := hv
  have hx := B.exec
  have hb := B.bytes
  have hr := B.returns
  have hts := atoms_spec (ws := wsX1_hasPanel) B.pre
  have hown : s.vm.findClass RX1 = some m.cls := findClass_of_methodNamed B.named
  have hlocks := B.notSynchronized
  have hS : va_S (fun _ : Nat => False) s.heap s.heap [] := va_S.rf
  have hl := lv_entry ([.ref qf, .int co, .int ro]) (n := 3) (Nat.le_of_ble_eq_true rfl)
  rw [lg_entry_eq]
  generalize (lg_sl ([.ref qf, .int co, .int ro]) ++ List.replicate (3 - (lg_sl ([.ref qf, .int co, .int ro])).length) Slot.unset).toArray = ls at hl ⊢
  have hl : lv_has ls 3 [(0, .ref qf), (1, .int co), (2, .int ro)] := hl
  have hP : va_P D vwCl [(qf, .inr (1, [.ref qx, .ref qy, .ref qz, .ref qu, .int (nI nC), .int (nI nR), .int nf]))] s.heap := hP
  have hP := hP
  refine lv_iload_n hx hb dX1_hasPanel_0 rfl (lv_at hl 1 rfl) ?_
  have K8 : ∀ v8_0 : Int32, v8_0 = (if co < 0 then 0 else (if (nI nC) ≤ co then 0 else (if ro < 0 then 0 else (if (nI nR) ≤ ro then 0 else 1)))) → ∀ (H : Heap) (locs : List Loc), va_P D vwCl [(qf, .inr (1, [.ref qx, .ref qy, .ref qz, .ref qu, .int (nI nC), .int (nI nR), .int nf]))] H → va_S (fun _ : Nat => False) s.heap H locs → ∀ (ls : Array Slot), lv_has ls 3 [(0, .ref qf), (1, .int co), (2, .int ro)] → W p l e (headSpec wsX1_hasPanel rm_X1_hasPanel).room s m ([.ref qf, .int co, .int ro]).toArray below meth c H locs 0 0 (MQ below (Qc_X1_hasPanel D cI cZ cJ cD qf qx qy qz qu nC nR nf co ro) ([.ref qf, .int co, .int ro]).toArray s 0 0 (fun _ : Nat => False)) (F0 m 29 ls [.int v8_0]) := by
    intro v8_0 hv8_0 H locs hP hS ls hl
    subst hv8_0
    have e9 : s_X1_hasPanel nC nR nf co ro = (if co < 0 then 0 else (if (nI nC) ≤ co then 0 else (if ro < 0 then 0 else (if (nI nR) ≤ ro then 0 else 1)))) := rfl
    exact W.zret (v := (if co < 0 then 0 else (if (nI nC) ≤ co then 0 else (if ro < 0 then 0 else (if (nI nR) ≤ ro then 0 else 1))))) hx hb hr (z_b (by (repeat' split) <;> simp)) (fun t ht hW => ⟨⟨_, (), rfl, e9.symm, trivial⟩, hS.F ht⟩) hS.2.2 dX1_hasPanel_29
  refine lv_if_lt (tgt := 28) hx hb dX1_hasPanel_1 (by decide) (fun c10 => ?_) (fun c10 => ?_)
  · refine lv_iconst (v := 0) hx hb dX1_hasPanel_28 (by decide) ?_
    exact K8 _ (if_pos c10).symm _ _ hP hS _ (lv_sub hl [0, 1, 2] rfl)
  · refine lv_iload_n hx hb dX1_hasPanel_4 rfl (lv_at hl 1 rfl) ?_
    refine lv_aload_n hx hb dX1_hasPanel_5 rfl (lv_at hl 0 rfl) ?_
    refine va_get (D := D) (ci := 1) (v := .int (nI nC)) (C := RX1) (T := TX1) (N := 7) hx hb hts (fun w h => List.mem_cons_of_mem _ (List.mem_append_right _ h)) hown hK hP 0 rfl rfl 4 (by decide) (hts (.fieldLink RX1 29 "AtlasFolder$FoldedSheet" "columns" "I") (List.mem_cons_of_mem _ (List.mem_append_left _ (List.mem_of_getElem? (i := 0) rfl)))) (fun _ h9 => h9) rfl dX1_hasPanel_6 ?_
    refine lv_icmp_ge (tgt := 28) hx hb dX1_hasPanel_9 (by decide) (fun c11 => ?_) (fun c11 => ?_)
    · refine lv_iconst (v := 0) hx hb dX1_hasPanel_28 (by decide) ?_
      exact K8 _ ((if_neg c10).trans (if_pos c11)).symm _ _ hP hS _ (lv_sub hl [0, 1, 2] rfl)
    · refine lv_iload_n hx hb dX1_hasPanel_12 rfl (lv_at hl 2 rfl) ?_
      refine lv_if_lt (tgt := 28) hx hb dX1_hasPanel_13 (by decide) (fun c12 => ?_) (fun c12 => ?_)
      · refine lv_iconst (v := 0) hx hb dX1_hasPanel_28 (by decide) ?_
        exact K8 _ ((if_neg c10).trans ((if_neg c11).trans (if_pos c12))).symm _ _ hP hS _ (lv_sub hl [0, 1, 2] rfl)
      · refine lv_iload_n hx hb dX1_hasPanel_16 rfl (lv_at hl 2 rfl) ?_
        refine lv_aload_n hx hb dX1_hasPanel_17 rfl (lv_at hl 0 rfl) ?_
        refine va_get (D := D) (ci := 1) (v := .int (nI nR)) (C := RX1) (T := TX1) (N := 7) hx hb hts (fun w h => List.mem_cons_of_mem _ (List.mem_append_right _ h)) hown hK hP 0 rfl rfl 5 (by decide) (hts (.fieldLink RX1 33 "AtlasFolder$FoldedSheet" "rows" "I") (List.mem_cons_of_mem _ (List.mem_append_left _ (List.mem_of_getElem? (i := 1) rfl)))) (fun _ h9 => h9) rfl dX1_hasPanel_18 ?_
        refine lv_icmp_ge (tgt := 28) hx hb dX1_hasPanel_21 (by decide) (fun c13 => ?_) (fun c13 => ?_)
        · refine lv_iconst (v := 0) hx hb dX1_hasPanel_28 (by decide) ?_
          exact K8 _ ((if_neg c10).trans ((if_neg c11).trans ((if_neg c12).trans (if_pos c13)))).symm _ _ hP hS _ (lv_sub hl [0, 1, 2] rfl)
        · refine lv_iconst (v := 1) hx hb dX1_hasPanel_24 (by decide) ?_
          refine lv_goto (tgt := 29) hx hb dX1_hasPanel_25 (by decide) ?_
          exact K8 _ ((if_neg c10).trans ((if_neg c11).trans ((if_neg c12).trans (if_neg c13)))).symm _ _ hP hS _ (lv_sub hl [0, 1, 2] rfl)
def s_X1_columnOf (nC : Nat) (nR : Nat) (nf : Int32) (lon : Int32) : Int32 := ((lon - (-180)) * (nI nC)) / 360
abbrev rm_X1_columnOf : Room := { frames := 0, cells := 0, slots := 0, locals := 0 }
abbrev Qc_X1_columnOf (D : va_G) (cI cZ cJ cD : ClassId) (qf : Nat) (qx : Nat) (qy : Nat) (qz : Nat) (qu : Nat) (nC : Nat) (nR : Nat) (nf : Int32) (lon : Int32) : Array Value → State → Outcome → State → Prop := va_Qi (fun (r : Int32) (_ : Unit) => r = s_X1_columnOf nC nR nf lon) (fun _ _ => True) (fun _ : Nat => False)
set_option maxHeartbeats 4000000 in
set_option maxRecDepth 100000 in
theorem c_X1_columnOf (l : Launch) (D : va_G) (cI cZ cJ cD : ClassId) (qf : Nat) (qx : Nat) (qy : Nat) (qz : Nat) (qu : Nat) (nC : Nat) (nR : Nat) (nf : Int32) (lon : Int32)  : Met l yX1_columnOf wsX1_columnOf rm_X1_columnOf (va_Pc [.ref qf, .int lon] (zPre D cI cZ cJ cD [(qf, .inr (1, [.ref qx, .ref qy, .ref qz, .ref qu, .int (nI nC), .int (nI nR), .int nf]))])) (Qc_X1_columnOf D cI cZ cJ cD qf qx qy qz qu nC nR nf lon ) 0 0 (fun _ : Nat => False) := by
  refine Met.ofW (cc := cX1_columnOf) (maxL := 2) (ret := (some .int)) (by decide) rfl ?_
  intro p e s m args below meth c s₁ B hml hv
  obtain ⟨rfl, hP, hK⟩ := hv
  have hx := B.exec
  have hb := B.bytes
  have hr := B.returns
  have hts := atoms_spec (ws := wsX1_columnOf) B.pre
  have hown : s.vm.findClass RX1 = some m.cls := findClass_of_methodNamed B.named
  have hlocks := B.notSynchronized
  have hS : va_S (fun _ : Nat => False) s.heap s.heap [] := va_S.rf
  have hl := lv_entry ([.ref qf, .int lon]) (n := 2) (Nat.le_of_ble_eq_true rfl)
  rw [lg_entry_eq]
  generalize (lg_sl ([.ref qf, .int lon]) ++ List.replicate (2 - (lg_sl ([.ref qf, .int lon])).length) Slot.unset).toArray = ls at hl ⊢
  have hl : lv_has ls 2 [(0, .ref qf), (1, .int lon)] := hl
  have hP : va_P D vwCl [(qf, .inr (1, [.ref qx, .ref qy, .ref qz, .ref qu, .int (nI nC), .int (nI nR), .int nf]))] s.heap := hP
  have hP := hP
  refine lv_iload_n hx hb dX1_columnOf_0 rfl (lv_at hl 1 rfl) ?_
  refine lv_sipush (v := (-180)) hx hb dX1_columnOf_1 (by decide) ?_
  refine lv_isub hx hb dX1_columnOf_4 ?_
  refine lv_aload_n hx hb dX1_columnOf_5 rfl (lv_at hl 0 rfl) ?_
  refine va_get (D := D) (ci := 1) (v := .int (nI nC)) (C := RX1) (T := TX1) (N := 7) hx hb hts (fun w h => List.mem_cons_of_mem _ (List.mem_append_right _ h)) hown hK hP 0 rfl rfl 4 (by decide) (hts (.fieldLink RX1 29 "AtlasFolder$FoldedSheet" "columns" "I") (List.mem_cons_of_mem _ (List.mem_append_left _ (List.mem_of_getElem? (i := 0) rfl)))) (fun _ h9 => h9) rfl dX1_columnOf_6 ?_
  refine lv_imul hx hb dX1_columnOf_9 ?_
  refine lv_sipush (v := 360) hx hb dX1_columnOf_10 (by decide) ?_
  refine lv_idiv hx hb dX1_columnOf_13 (by decide) ?_
  have e1 : s_X1_columnOf nC nR nf lon = ((lon - (-180)) * (nI nC)) / 360 := rfl
  exact W.iret (v := (((lon - (-180)) * (nI nC)) / 360)) hx hb hr (fun t ht hW => ⟨⟨_, (), rfl, e1.symm, trivial⟩, hS.F ht⟩) hS.2.2 dX1_columnOf_14
def s_X1_rowOf (nC : Nat) (nR : Nat) (nf : Int32) (lat : Int32) : Int32 := (if ((nI nR) - 1) < (((90 - lat) * (nI nR)) / 180) then ((nI nR) - 1) else (((90 - lat) * (nI nR)) / 180))
abbrev rm_X1_rowOf : Room := { frames := 1, cells := 0, slots := 0, locals := 21 }
abbrev Qc_X1_rowOf (D : va_G) (cI cZ cJ cD : ClassId) (qf : Nat) (qx : Nat) (qy : Nat) (qz : Nat) (qu : Nat) (nC : Nat) (nR : Nat) (nf : Int32) (lat : Int32) : Array Value → State → Outcome → State → Prop := va_Qi (fun (r : Int32) (_ : Unit) => r = s_X1_rowOf nC nR nf lat) (fun _ _ => True) (fun _ : Nat => False)
set_option maxHeartbeats 4000000 in
set_option maxRecDepth 100000 in
theorem c_X1_rowOf (l : Launch) (D : va_G) (cI cZ cJ cD : ClassId) (qf : Nat) (qx : Nat) (qy : Nat) (qz : Nat) (qu : Nat) (nC : Nat) (nR : Nat) (nf : Int32) (lat : Int32)  : Met l yX1_rowOf wsX1_rowOf rm_X1_rowOf (va_Pc [.ref qf, .int lat] (zPre D cI cZ cJ cD [(qf, .inr (1, [.ref qx, .ref qy, .ref qz, .ref qu, .int (nI nC), .int (nI nR), .int nf]))])) (Qc_X1_rowOf D cI cZ cJ cD qf qx qy qz qu nC nR nf lat ) 0 0 (fun _ : Nat => False) := by
  refine Met.ofW (cc := cX1_rowOf) (maxL := 2) (ret := (some .int)) (by decide) rfl ?_
  intro p e s m args below meth c s₁ B hml hv
  obtain ⟨rfl, hP, hK⟩ := hv
  have hx := B.exec
  have hb := B.bytes
  have hr := B.returns
  have hts := atoms_spec (ws := wsX1_rowOf) B.pre
  have hown : s.vm.findClass RX1 = some m.cls := findClass_of_methodNamed B.named
  have hlocks := B.notSynchronized
  have hS : va_S (fun _ : Nat => False) s.heap s.heap [] := va_S.rf
  have hl := lv_entry ([.ref qf, .int lat]) (n := 2) (Nat.le_of_ble_eq_true rfl)
  rw [lg_entry_eq]
  generalize (lg_sl ([.ref qf, .int lat]) ++ List.replicate (2 - (lg_sl ([.ref qf, .int lat])).length) Slot.unset).toArray = ls at hl ⊢
  have hl : lv_has ls 2 [(0, .ref qf), (1, .int lat)] := hl
  have hP : va_P D vwCl [(qf, .inr (1, [.ref qx, .ref qy, .ref qz, .ref qu, .int (nI nC), .int (nI nR), .int nf]))] s.heap := hP
  have hP := hP
  refine lv_bipush (v := 90) hx hb dX1_rowOf_0 (by decide) ?_
  refine lv_iload_n hx hb dX1_rowOf_2 rfl (lv_at hl 1 rfl) ?_
  refine lv_isub hx hb dX1_rowOf_3 ?_
  refine lv_aload_n hx hb dX1_rowOf_4 rfl (lv_at hl 0 rfl) ?_
  refine va_get (D := D) (ci := 1) (v := .int (nI nR)) (C := RX1) (T := TX1) (N := 7) hx hb hts (fun w h => List.mem_cons_of_mem _ (List.mem_append_right _ h)) hown hK hP 0 rfl rfl 5 (by decide) (hts (.fieldLink RX1 33 "AtlasFolder$FoldedSheet" "rows" "I") (List.mem_cons_of_mem _ (List.mem_append_left _ (List.mem_of_getElem? (i := 0) rfl)))) (fun _ h9 => h9) rfl dX1_rowOf_5 ?_
  refine lv_imul hx hb dX1_rowOf_8 ?_
  refine lv_sipush (v := 180) hx hb dX1_rowOf_9 (by decide) ?_
  refine lv_idiv hx hb dX1_rowOf_12 (by decide) ?_
  refine lv_aload_n hx hb dX1_rowOf_13 rfl (lv_at hl 0 rfl) ?_
  refine va_get (D := D) (ci := 1) (v := .int (nI nR)) (C := RX1) (T := TX1) (N := 7) hx hb hts (fun w h => List.mem_cons_of_mem _ (List.mem_append_right _ h)) hown hK hP 0 rfl rfl 5 (by decide) (hts (.fieldLink RX1 33 "AtlasFolder$FoldedSheet" "rows" "I") (List.mem_cons_of_mem _ (List.mem_append_left _ (List.mem_of_getElem? (i := 0) rfl)))) (fun _ h9 => h9) rfl dX1_rowOf_14 ?_
  refine lv_iconst (v := 1) hx hb dX1_rowOf_17 (by decide) ?_
  refine lv_isub hx hb dX1_rowOf_18 ?_
  refine va_mmin hx hb (hml.trans hl.1.symm) hown (hts (.methodLink RX1 47 Lib.Math.min.name) (List.mem_cons_of_mem _ (List.mem_append_left _ (List.mem_of_getElem? (i := 1) rfl)))) (hts (.static Lib.Math.min.name) (List.mem_cons_of_mem _ (List.mem_append_left _ (List.mem_of_getElem? (i := 2) rfl)))) (hts (.initialized "java/lang/Math") (List.mem_cons_of_mem _ (List.mem_append_left _ (List.mem_of_getElem? (i := 3) rfl)))) (hts (.code Lib.Math.min.name Lib.Math.min.code 2 (some .int)) (List.mem_cons_of_mem _ (List.mem_append_left _ (List.mem_of_getElem? (i := 4) rfl)))) (Nat.le_of_ble_eq_true rfl) (Nat.le_of_ble_eq_true rfl) (Nat.le_of_ble_eq_true rfl) (Nat.le_of_ble_eq_true rfl) dX1_rowOf_19 ?_
  have e1 : s_X1_rowOf nC nR nf lat = (if ((nI nR) - 1) < (((90 - lat) * (nI nR)) / 180) then ((nI nR) - 1) else (((90 - lat) * (nI nR)) / 180)) := rfl
  exact W.iret (v := (if ((nI nR) - 1) < (((90 - lat) * (nI nR)) / 180) then ((nI nR) - 1) else (((90 - lat) * (nI nR)) / 180))) hx hb hr (fun t ht hW => ⟨⟨_, (), rfl, e1.symm, trivial⟩, hS.F ht⟩) hS.2.2 dX1_rowOf_22
def lp_X1_placesBelow_5 (nC : Nat) (nR : Nat) (nf : Int32) (f : Nat → Int32) (b : Int32) : Nat → Int32
  | 0 => 0
  | k + 1 => (if b ≤ (f (nI k).toNatClampNeg) then lp_X1_placesBelow_5 nC nR nf f b k else (lp_X1_placesBelow_5 nC nR nf f b k) + 1)
def s_X1_placesBelow (nC : Nat) (nR : Nat) (nf : Int32) (f : Nat → Int32) (b : Int32) : Int32 := lp_X1_placesBelow_5 nC nR nf f b (nC * nR)
abbrev rm_X1_placesBelow : Room := { frames := 1, cells := 0, slots := 0, locals := 20 }
abbrev Qc_X1_placesBelow (D : va_G) (cI cZ cJ cD : ClassId) (qf : Nat) (qx : Nat) (qy : Nat) (qz : Nat) (qu : Nat) (nC : Nat) (nR : Nat) (nf : Int32) (qa : Nat) (f : Nat → Int32) (b : Int32) : Array Value → State → Outcome → State → Prop := va_Qi (fun (r : Int32) (_ : Unit) => r = s_X1_placesBelow nC nR nf f b) (fun _ _ => True) (fun _ : Nat => False)
set_option maxHeartbeats 4000000 in
set_option maxRecDepth 100000 in
theorem c_X1_placesBelow (l : Launch) (D : va_G) (cI cZ cJ cD : ClassId) (qf : Nat) (qx : Nat) (qy : Nat) (qz : Nat) (qu : Nat) (nC : Nat) (nR : Nat) (nf : Int32) (qa : Nat) (f : Nat → Int32) (b : Int32) (hN : nC * nR ≤ 36) : Met l yX1_placesBelow wsX1_placesBelow rm_X1_placesBelow (va_Pc [.ref qf, .ref qa, .int b] (zPre D cI cZ cJ cD [(qf, .inr (1, [.ref qx, .ref qy, .ref qz, .ref qu, .int (nI nC), .int (nI nR), .int nf])), (qa, .inl (cI, 36, .inl f))])) (Qc_X1_placesBelow D cI cZ cJ cD qf qx qy qz qu nC nR nf qa f b ) 0 0 (fun _ : Nat => False) := by
  refine Met.ofW (cc := cX1_placesBelow) (maxL := 5) (ret := (some .int)) (by decide) rfl ?_
  intro p e s m args below meth c s₁ B hml hv
  obtain ⟨rfl, hP, hK⟩ := hv
  have hx := B.exec
  have hb := B.bytes
  have hr := B.returns
  have hts := atoms_spec (ws := wsX1_placesBelow) B.pre
  have hown : s.vm.findClass RX1 = some m.cls := findClass_of_methodNamed B.named
  have hlocks := B.notSynchronized
  have hS : va_S (fun _ : Nat => False) s.heap s.heap [] := va_S.rf
  have hl := lv_entry ([.ref qf, .ref qa, .int b]) (n := 5) (Nat.le_of_ble_eq_true rfl)
  rw [lg_entry_eq]
  generalize (lg_sl ([.ref qf, .ref qa, .int b]) ++ List.replicate (5 - (lg_sl ([.ref qf, .ref qa, .int b])).length) Slot.unset).toArray = ls at hl ⊢
  have hl : lv_has ls 5 [(0, .ref qf), (1, .ref qa), (2, .int b)] := hl
  have hP : va_P D vwCl [(qf, .inr (1, [.ref qx, .ref qy, .ref qz, .ref qu, .int (nI nC), .int (nI nR), .int nf])), (qa, .inl (cI, 36, .inl f))] s.heap := hP
  have hP := hP
  refine lv_iconst (v := 0) hx hb dX1_placesBelow_0 (by decide) ?_
  refine lv_istore_n (lv' := [(3, .int 0), (0, .ref qf), (1, .ref qa), (2, .int b)]) hx hb dX1_placesBelow_1 rfl hl (by decide) rfl (fun ls hl => ?_)
  refine lv_iconst (v := 0) hx hb dX1_placesBelow_2 (by decide) ?_
  refine lv_istore (lv' := [(4, .int 0), (3, .int 0), (0, .ref qf), (1, .ref qa), (2, .int b)]) hx hb dX1_placesBelow_3 hl (by decide) rfl (fun ls hl => ?_)
  have X1 : ∀ (H : Heap) (locs : List Loc), va_P D vwCl [(qf, .inr (1, [.ref qx, .ref qy, .ref qz, .ref qu, .int (nI nC), .int (nI nR), .int nf])), (qa, .inl (cI, 36, .inl f))] H → va_S (fun _ : Nat => False) s.heap H locs → ∀ (ls : Array Slot), lv_has ls 5 [(0, .ref qf), (1, .ref qa), (2, .int b), (3, .int (lp_X1_placesBelow_5 nC nR nf f b (nC * nR)))] → W p l e (headSpec wsX1_placesBelow rm_X1_placesBelow).room s m ([.ref qf, .ref qa, .int b]).toArray below meth c H locs 0 0 (MQ below (Qc_X1_placesBelow D cI cZ cJ cD qf qx qy qz qu nC nR nf qa f b) ([.ref qf, .ref qa, .int b]).toArray s 0 0 (fun _ : Nat => False)) (F0 m 31 ls []) := by
    intro H locs hP hS ls hl
    refine lv_iload_n hx hb dX1_placesBelow_31 rfl (lv_at hl 3 rfl) ?_
    have e2 : s_X1_placesBelow nC nR nf f b = lp_X1_placesBelow_5 nC nR nf f b (nC * nR) := rfl
    exact W.iret (v := (lp_X1_placesBelow_5 nC nR nf f b (nC * nR))) hx hb hr (fun t ht hW => ⟨⟨_, (), rfl, e2.symm, trivial⟩, hS.F ht⟩) hS.2.2 dX1_placesBelow_32
  have L1 : ∀ (n k : Nat) (acc : Int32), k ≤ nC * nR → nC * nR < k + n → acc = lp_X1_placesBelow_5 nC nR nf f b k → ∀ (H : Heap) (locs : List Loc), va_P D vwCl [(qf, .inr (1, [.ref qx, .ref qy, .ref qz, .ref qu, .int (nI nC), .int (nI nR), .int nf])), (qa, .inl (cI, 36, .inl f))] H → va_S (fun _ : Nat => False) s.heap H locs → ∀ (ls : Array Slot), lv_has ls 5 [(0, .ref qf), (1, .ref qa), (2, .int b), (4, .int (nI k)), (3, .int acc)] → W p l e (headSpec wsX1_placesBelow rm_X1_placesBelow).room s m ([.ref qf, .ref qa, .int b]).toArray below meth c H locs 0 0 (MQ below (Qc_X1_placesBelow D cI cZ cJ cD qf qx qy qz qu nC nR nf qa f b) ([.ref qf, .ref qa, .int b]).toArray s 0 0 (fun _ : Nat => False)) (F0 m 5 ls []) := by
    intro n
    induction n with
    | zero =>
      intro k acc hk hf
      exact absurd hf (by omega)
    | succ n ih =>
      intro k acc hk hf hacc H locs hP hS ls hl
      subst hacc
      refine lv_iload hx hb dX1_placesBelow_5 (lv_at hl 3 rfl) ?_
      refine lv_aload_n hx hb dX1_placesBelow_7 rfl (lv_at hl 0 rfl) ?_
      refine va_calli (va_runV (As := []) (rest := [.int (nI k)]) ⟨hx, hb, hml, hown, hts⟩ (c_X1_panels l D cI cZ cJ cD qf qx qy qz qu nC nR nf ) (cwV 0 hts gX1_placesBelow_X1_panels rfl rfl rfl (by decide +kernel) ⟨Nat.le_of_ble_eq_true rfl, Nat.le_of_ble_eq_true rfl⟩) ⟨zblind, va_recv hK hP (ci := 1) (q0 := 0) rfl rfl, (fun U hU hW => ⟨rfl, by rw [hU]; exact hP.sub (ws' := [(qf, .inr (1, [.ref qx, .ref qy, .ref qz, .ref qu, .int (nI nC), .int (nI nR), .int nf]))]) [0] rfl, va_K.moved hW.alike hK⟩)⟩ rfl rfl hl.1 rfl (lv_room (Nat.le_of_ble_eq_true rfl)) dX1_placesBelow_8 ⟨Nat.le_of_ble_eq_true rfl, Nat.le_of_ble_eq_true rfl⟩) hS (fun q _ h => h.elim) (fun q h => h.elim) (fun r3 u t H locs ht hvm hw hB hz1 hk1 hS => ?_)
      rw [hw]
      have hP := zk hP hk1
      refine lv_icmp_ge (tgt := 31) hx hb dX1_placesBelow_11 (by decide) (fun c4 => ?_) (fun c4 => ?_)
      · have hge : nC * nR ≤ k := (z_pge hN hk c4)
        have ek : k = nC * nR := by omega
        subst ek
        exact X1 _ _ hP hS _ (lv_sub hl [0, 1, 2, 4] rfl)
      · refine lv_aload_n hx hb dX1_placesBelow_14 rfl (lv_at hl 1 rfl) ?_
        refine lv_iload hx hb dX1_placesBelow_15 (lv_at hl 3 rfl) ?_
        refine va_iald hx hb hK hP 1 0 rfl rfl (z_pin hN hk c4) dX1_placesBelow_17 ?_
        refine lv_iload_n hx hb dX1_placesBelow_18 rfl (lv_at hl 2 rfl) ?_
        refine lv_icmp_ge (tgt := 25) hx hb dX1_placesBelow_19 (by decide) (fun c5 => ?_) (fun c5 => ?_)
        · refine lv_iinc (v := nI (k + 1)) (lv' := [(4, .int (nI (k + 1))), (0, .ref qf), (1, .ref qa), (2, .int b), (3, .int (lp_X1_placesBelow_5 nC nR nf f b k))]) hx hb dX1_placesBelow_25 hl (k := 3) rfl (nI_succ k).symm (by decide) rfl (fun ls hl => ?_)
          refine lv_goto (tgt := 5) hx hb dX1_placesBelow_28 (by decide) ?_
          have hlt : k < nC * nR := (z_plt hN hk c4)
          exact ih (k + 1) _ (by omega) (by omega) ((if_pos c5)).symm _ _ hP hS _ (lv_sub hl [1, 2, 3, 0, 4] rfl)
        · refine lv_iinc (v := (lp_X1_placesBelow_5 nC nR nf f b k) + 1) (lv' := [(3, .int ((lp_X1_placesBelow_5 nC nR nf f b k) + 1)), (0, .ref qf), (1, .ref qa), (2, .int b), (4, .int (nI k))]) hx hb dX1_placesBelow_22 hl (k := 4) rfl rfl (by decide) rfl (fun ls hl => ?_)
          refine lv_iinc (v := nI (k + 1)) (lv' := [(4, .int (nI (k + 1))), (3, .int ((lp_X1_placesBelow_5 nC nR nf f b k) + 1)), (0, .ref qf), (1, .ref qa), (2, .int b)]) hx hb dX1_placesBelow_25 hl (k := 4) rfl (nI_succ k).symm (by decide) rfl (fun ls hl => ?_)
          refine lv_goto (tgt := 5) hx hb dX1_placesBelow_28 (by decide) ?_
          have hlt : k < nC * nR := (z_plt hN hk c4)
          exact ih (k + 1) _ (by omega) (by omega) ((if_neg c5)).symm _ _ hP hS _ (lv_sub hl [2, 3, 4, 0, 1] rfl)
  exact L1 (nC * nR + 1) 0 _ (Nat.zero_le _) (by omega) rfl _ _ hP hS _ (lv_sub hl [2, 3, 4, 0, 1] rfl)
def lp_X1_highestLayer_4 (nC : Nat) (nR : Nat) (nf : Int32) (fz : Nat → Int32) : Nat → Int32
  | 0 => 0
  | k + 1 => (if (lp_X1_highestLayer_4 nC nR nf fz k) < (fz (nI k).toNatClampNeg) then (fz (nI k).toNatClampNeg) else (lp_X1_highestLayer_4 nC nR nf fz k))
def s_X1_highestLayer (nC : Nat) (nR : Nat) (nf : Int32) (fz : Nat → Int32) : Int32 := lp_X1_highestLayer_4 nC nR nf fz (nC * nR)
abbrev rm_X1_highestLayer : Room := { frames := 1, cells := 0, slots := 0, locals := 21 }
abbrev Qc_X1_highestLayer (D : va_G) (cI cZ cJ cD : ClassId) (qf : Nat) (qx : Nat) (qy : Nat) (qz : Nat) (qu : Nat) (nC : Nat) (nR : Nat) (nf : Int32) (fz : Nat → Int32) : Array Value → State → Outcome → State → Prop := va_Qi (fun (r : Int32) (_ : Unit) => r = s_X1_highestLayer nC nR nf fz) (fun _ _ => True) (fun _ : Nat => False)
set_option maxHeartbeats 4000000 in
set_option maxRecDepth 100000 in
theorem c_X1_highestLayer (l : Launch) (D : va_G) (cI cZ cJ cD : ClassId) (qf : Nat) (qx : Nat) (qy : Nat) (qz : Nat) (qu : Nat) (nC : Nat) (nR : Nat) (nf : Int32) (fz : Nat → Int32) (hN : nC * nR ≤ 36) : Met l yX1_highestLayer wsX1_highestLayer rm_X1_highestLayer (va_Pc [.ref qf] (zPre D cI cZ cJ cD [(qf, .inr (1, [.ref qx, .ref qy, .ref qz, .ref qu, .int (nI nC), .int (nI nR), .int nf])), (qz, .inl (cI, 36, .inl fz))])) (Qc_X1_highestLayer D cI cZ cJ cD qf qx qy qz qu nC nR nf fz ) 0 0 (fun _ : Nat => False) := by
  refine Met.ofW (cc := cX1_highestLayer) (maxL := 3) (ret := (some .int)) (by decide) rfl ?_
  intro p e s m args below meth c s₁ B hml hv
  obtain ⟨rfl, hP, hK⟩ := hv
  have hx := B.exec
  have hb := B.bytes
  have hr := B.returns
  have hts := atoms_spec (ws := wsX1_highestLayer) B.pre
  have hown : s.vm.findClass RX1 = some m.cls := findClass_of_methodNamed B.named
  have hlocks := B.notSynchronized
  have hS : va_S (fun _ : Nat => False) s.heap s.heap [] := va_S.rf
  have hl := lv_entry ([.ref qf]) (n := 3) (Nat.le_of_ble_eq_true rfl)
  rw [lg_entry_eq]
  generalize (lg_sl ([.ref qf]) ++ List.replicate (3 - (lg_sl ([.ref qf])).length) Slot.unset).toArray = ls at hl ⊢
  have hl : lv_has ls 3 [(0, .ref qf)] := hl
  have hP : va_P D vwCl [(qf, .inr (1, [.ref qx, .ref qy, .ref qz, .ref qu, .int (nI nC), .int (nI nR), .int nf])), (qz, .inl (cI, 36, .inl fz))] s.heap := hP
  have hP := hP
  refine lv_iconst (v := 0) hx hb dX1_highestLayer_0 (by decide) ?_
  refine lv_istore_n (lv' := [(1, .int 0), (0, .ref qf)]) hx hb dX1_highestLayer_1 rfl hl (by decide) rfl (fun ls hl => ?_)
  refine lv_iconst (v := 0) hx hb dX1_highestLayer_2 (by decide) ?_
  refine lv_istore_n (lv' := [(2, .int 0), (1, .int 0), (0, .ref qf)]) hx hb dX1_highestLayer_3 rfl hl (by decide) rfl (fun ls hl => ?_)
  have X1 : ∀ (H : Heap) (locs : List Loc), va_P D vwCl [(qf, .inr (1, [.ref qx, .ref qy, .ref qz, .ref qu, .int (nI nC), .int (nI nR), .int nf])), (qz, .inl (cI, 36, .inl fz))] H → va_S (fun _ : Nat => False) s.heap H locs → ∀ (ls : Array Slot), lv_has ls 3 [(0, .ref qf), (1, .int (lp_X1_highestLayer_4 nC nR nf fz (nC * nR)))] → W p l e (headSpec wsX1_highestLayer rm_X1_highestLayer).room s m ([.ref qf]).toArray below meth c H locs 0 0 (MQ below (Qc_X1_highestLayer D cI cZ cJ cD qf qx qy qz qu nC nR nf fz) ([.ref qf]).toArray s 0 0 (fun _ : Nat => False)) (F0 m 29 ls []) := by
    intro H locs hP hS ls hl
    refine lv_iload_n hx hb dX1_highestLayer_29 rfl (lv_at hl 1 rfl) ?_
    have e2 : s_X1_highestLayer nC nR nf fz = lp_X1_highestLayer_4 nC nR nf fz (nC * nR) := rfl
    exact W.iret (v := (lp_X1_highestLayer_4 nC nR nf fz (nC * nR))) hx hb hr (fun t ht hW => ⟨⟨_, (), rfl, e2.symm, trivial⟩, hS.F ht⟩) hS.2.2 dX1_highestLayer_30
  have L1 : ∀ (n k : Nat) (acc : Int32), k ≤ nC * nR → nC * nR < k + n → acc = lp_X1_highestLayer_4 nC nR nf fz k → ∀ (H : Heap) (locs : List Loc), va_P D vwCl [(qf, .inr (1, [.ref qx, .ref qy, .ref qz, .ref qu, .int (nI nC), .int (nI nR), .int nf])), (qz, .inl (cI, 36, .inl fz))] H → va_S (fun _ : Nat => False) s.heap H locs → ∀ (ls : Array Slot), lv_has ls 3 [(0, .ref qf), (2, .int (nI k)), (1, .int acc)] → W p l e (headSpec wsX1_highestLayer rm_X1_highestLayer).room s m ([.ref qf]).toArray below meth c H locs 0 0 (MQ below (Qc_X1_highestLayer D cI cZ cJ cD qf qx qy qz qu nC nR nf fz) ([.ref qf]).toArray s 0 0 (fun _ : Nat => False)) (F0 m 4 ls []) := by
    intro n
    induction n with
    | zero =>
      intro k acc hk hf
      exact absurd hf (by omega)
    | succ n ih =>
      intro k acc hk hf hacc H locs hP hS ls hl
      subst hacc
      refine lv_iload_n hx hb dX1_highestLayer_4 rfl (lv_at hl 1 rfl) ?_
      refine lv_aload_n hx hb dX1_highestLayer_5 rfl (lv_at hl 0 rfl) ?_
      refine va_calli (va_runV (As := []) (rest := [.int (nI k)]) ⟨hx, hb, hml, hown, hts⟩ (c_X1_panels l D cI cZ cJ cD qf qx qy qz qu nC nR nf ) (cwV 0 hts gX1_highestLayer_X1_panels rfl rfl rfl (by decide +kernel) ⟨Nat.le_of_ble_eq_true rfl, Nat.le_of_ble_eq_true rfl⟩) ⟨zblind, va_recv hK hP (ci := 1) (q0 := 0) rfl rfl, (fun U hU hW => ⟨rfl, by rw [hU]; exact hP.sub (ws' := [(qf, .inr (1, [.ref qx, .ref qy, .ref qz, .ref qu, .int (nI nC), .int (nI nR), .int nf]))]) [0] rfl, va_K.moved hW.alike hK⟩)⟩ rfl rfl hl.1 rfl (lv_room (Nat.le_of_ble_eq_true rfl)) dX1_highestLayer_6 ⟨Nat.le_of_ble_eq_true rfl, Nat.le_of_ble_eq_true rfl⟩) hS (fun q _ h => h.elim) (fun q h => h.elim) (fun r3 u t H locs ht hvm hw hB hz1 hk1 hS => ?_)
      rw [hw]
      have hP := zk hP hk1
      refine lv_icmp_ge (tgt := 29) hx hb dX1_highestLayer_9 (by decide) (fun c4 => ?_) (fun c4 => ?_)
      · have hge : nC * nR ≤ k := (z_pge hN hk c4)
        have ek : k = nC * nR := by omega
        subst ek
        exact X1 _ _ hP hS _ (lv_sub hl [0, 2] rfl)
      · refine lv_iload_n hx hb dX1_highestLayer_12 rfl (lv_at hl 2 rfl) ?_
        refine lv_aload_n hx hb dX1_highestLayer_13 rfl (lv_at hl 0 rfl) ?_
        refine va_get (D := D) (ci := 1) (v := .ref qz) (C := RX1) (T := TX1) (N := 7) hx hb hts (fun w h => List.mem_cons_of_mem _ (List.mem_append_right _ h)) hown hK hP 0 rfl rfl 2 (by decide) (hts (.fieldLink RX1 18 "AtlasFolder$FoldedSheet" "layers" "[I") (List.mem_cons_of_mem _ (List.mem_append_left _ (List.mem_of_getElem? (i := 0) rfl)))) (fun _ h9 => h9) rfl dX1_highestLayer_14 ?_
        refine lv_iload_n hx hb dX1_highestLayer_17 rfl (lv_at hl 1 rfl) ?_
        refine va_iald hx hb hK hP 1 0 rfl rfl (z_pin hN hk c4) dX1_highestLayer_18 ?_
        refine va_mmax hx hb (hml.trans hl.1.symm) hown (hts (.methodLink RX1 67 Lib.Math.max.name) (List.mem_cons_of_mem _ (List.mem_append_left _ (List.mem_of_getElem? (i := 1) rfl)))) (hts (.static Lib.Math.max.name) (List.mem_cons_of_mem _ (List.mem_append_left _ (List.mem_of_getElem? (i := 2) rfl)))) (hts (.initialized "java/lang/Math") (List.mem_cons_of_mem _ (List.mem_append_left _ (List.mem_of_getElem? (i := 3) rfl)))) (hts (.code Lib.Math.max.name Lib.Math.max.code 2 (some .int)) (List.mem_cons_of_mem _ (List.mem_append_left _ (List.mem_of_getElem? (i := 4) rfl)))) (Nat.le_of_ble_eq_true rfl) (Nat.le_of_ble_eq_true rfl) (Nat.le_of_ble_eq_true rfl) (Nat.le_of_ble_eq_true rfl) dX1_highestLayer_19 ?_
        refine lv_istore_n (lv' := [(1, .int (if (lp_X1_highestLayer_4 nC nR nf fz k) < (fz (nI k).toNatClampNeg) then (fz (nI k).toNatClampNeg) else (lp_X1_highestLayer_4 nC nR nf fz k))), (0, .ref qf), (2, .int (nI k))]) hx hb dX1_highestLayer_22 rfl hl (by decide) rfl (fun ls hl => ?_)
        refine lv_iinc (v := nI (k + 1)) (lv' := [(2, .int (nI (k + 1))), (1, .int (if (lp_X1_highestLayer_4 nC nR nf fz k) < (fz (nI k).toNatClampNeg) then (fz (nI k).toNatClampNeg) else (lp_X1_highestLayer_4 nC nR nf fz k))), (0, .ref qf)]) hx hb dX1_highestLayer_23 hl (k := 2) rfl (nI_succ k).symm (by decide) rfl (fun ls hl => ?_)
        refine lv_goto (tgt := 4) hx hb dX1_highestLayer_26 (by decide) ?_
        have hlt : k < nC * nR := (z_plt hN hk c4)
        exact ih (k + 1) _ (by omega) (by omega) rfl _ _ hP hS _ (lv_sub hl [2, 0, 1] rfl)
  exact L1 (nC * nR + 1) 0 _ (Nat.zero_le _) (by omega) rfl _ _ hP hS _ (lv_sub hl [2, 0, 1] rfl)
def lp_X1_higherThan_4 (nC : Nat) (nR : Nat) (nf : Int32) (fx : Nat → Int32) (fy : Nat → Int32) (fz : Nat → Int32) (pn : Int32) : Nat → Int32
  | 0 => 0
  | k + 1 => (if (fx (nI k).toNatClampNeg) = (fx pn.toNatClampNeg) then (if (fy (nI k).toNatClampNeg) = (fy pn.toNatClampNeg) then (if (fz (nI k).toNatClampNeg) ≤ (fz pn.toNatClampNeg) then lp_X1_higherThan_4 nC nR nf fx fy fz pn k else (lp_X1_higherThan_4 nC nR nf fx fy fz pn k) + 1) else lp_X1_higherThan_4 nC nR nf fx fy fz pn k) else lp_X1_higherThan_4 nC nR nf fx fy fz pn k)
def s_X1_higherThan (nC : Nat) (nR : Nat) (nf : Int32) (fx : Nat → Int32) (fy : Nat → Int32) (fz : Nat → Int32) (pn : Int32) : Int32 := lp_X1_higherThan_4 nC nR nf fx fy fz pn (nC * nR)
abbrev rm_X1_higherThan : Room := { frames := 1, cells := 0, slots := 0, locals := 20 }
abbrev Qc_X1_higherThan (D : va_G) (cI cZ cJ cD : ClassId) (qf : Nat) (qx : Nat) (qy : Nat) (qz : Nat) (qu : Nat) (nC : Nat) (nR : Nat) (nf : Int32) (fx : Nat → Int32) (fy : Nat → Int32) (fz : Nat → Int32) (pn : Int32) : Array Value → State → Outcome → State → Prop := va_Qi (fun (r : Int32) (_ : Unit) => r = s_X1_higherThan nC nR nf fx fy fz pn) (fun _ _ => True) (fun _ : Nat => False)
set_option maxHeartbeats 4000000 in
set_option maxRecDepth 100000 in
theorem c_X1_higherThan (l : Launch) (D : va_G) (cI cZ cJ cD : ClassId) (qf : Nat) (qx : Nat) (qy : Nat) (qz : Nat) (qu : Nat) (nC : Nat) (nR : Nat) (nf : Int32) (fx : Nat → Int32) (fy : Nat → Int32) (fz : Nat → Int32) (pn : Int32) (hN : nC * nR ≤ 36) (hp : vp_in pn 36) : Met l yX1_higherThan wsX1_higherThan rm_X1_higherThan (va_Pc [.ref qf, .int pn] (zPre D cI cZ cJ cD [(qf, .inr (1, [.ref qx, .ref qy, .ref qz, .ref qu, .int (nI nC), .int (nI nR), .int nf])), (qx, .inl (cI, 36, .inl fx)), (qy, .inl (cI, 36, .inl fy)), (qz, .inl (cI, 36, .inl fz))])) (Qc_X1_higherThan D cI cZ cJ cD qf qx qy qz qu nC nR nf fx fy fz pn ) 0 0 (fun _ : Nat => False) := by
  refine Met.ofW (cc := cX1_higherThan) (maxL := 4) (ret := (some .int)) (by decide) rfl ?_
  intro p e s m args below meth c s₁ B hml hv
  obtain ⟨rfl, hP, hK⟩ := hv
  have hx := B.exec
  have hb := B.bytes
  have hr := B.returns
  have hts := atoms_spec (ws := wsX1_higherThan) B.pre
  have hown : s.vm.findClass RX1 = some m.cls := findClass_of_methodNamed B.named
  have hlocks := B.notSynchronized
  have hS : va_S (fun _ : Nat => False) s.heap s.heap [] := va_S.rf
  have hl := lv_entry ([.ref qf, .int pn]) (n := 4) (Nat.le_of_ble_eq_true rfl)
  rw [lg_entry_eq]
  generalize (lg_sl ([.ref qf, .int pn]) ++ List.replicate (4 - (lg_sl ([.ref qf, .int pn])).length) Slot.unset).toArray = ls at hl ⊢
  have hl : lv_has ls 4 [(0, .ref qf), (1, .int pn)] := hl
  have hP : va_P D vwCl [(qf, .inr (1, [.ref qx, .ref qy, .ref qz, .ref qu, .int (nI nC), .int (nI nR), .int nf])), (qx, .inl (cI, 36, .inl fx)), (qy, .inl (cI, 36, .inl fy)), (qz, .inl (cI, 36, .inl fz))] s.heap := hP
  have hP := hP
  refine lv_iconst (v := 0) hx hb dX1_higherThan_0 (by decide) ?_
  refine lv_istore_n (lv' := [(2, .int 0), (0, .ref qf), (1, .int pn)]) hx hb dX1_higherThan_1 rfl hl (by decide) rfl (fun ls hl => ?_)
  refine lv_iconst (v := 0) hx hb dX1_higherThan_2 (by decide) ?_
  refine lv_istore_n (lv' := [(3, .int 0), (2, .int 0), (0, .ref qf), (1, .int pn)]) hx hb dX1_higherThan_3 rfl hl (by decide) rfl (fun ls hl => ?_)
  have X1 : ∀ (H : Heap) (locs : List Loc), va_P D vwCl [(qf, .inr (1, [.ref qx, .ref qy, .ref qz, .ref qu, .int (nI nC), .int (nI nR), .int nf])), (qx, .inl (cI, 36, .inl fx)), (qy, .inl (cI, 36, .inl fy)), (qz, .inl (cI, 36, .inl fz))] H → va_S (fun _ : Nat => False) s.heap H locs → ∀ (ls : Array Slot), lv_has ls 4 [(0, .ref qf), (1, .int pn), (2, .int (lp_X1_higherThan_4 nC nR nf fx fy fz pn (nC * nR)))] → W p l e (headSpec wsX1_higherThan rm_X1_higherThan).room s m ([.ref qf, .int pn]).toArray below meth c H locs 0 0 (MQ below (Qc_X1_higherThan D cI cZ cJ cD qf qx qy qz qu nC nR nf fx fy fz pn) ([.ref qf, .int pn]).toArray s 0 0 (fun _ : Nat => False)) (F0 m 66 ls []) := by
    intro H locs hP hS ls hl
    refine lv_iload_n hx hb dX1_higherThan_66 rfl (lv_at hl 2 rfl) ?_
    have e2 : s_X1_higherThan nC nR nf fx fy fz pn = lp_X1_higherThan_4 nC nR nf fx fy fz pn (nC * nR) := rfl
    exact W.iret (v := (lp_X1_higherThan_4 nC nR nf fx fy fz pn (nC * nR))) hx hb hr (fun t ht hW => ⟨⟨_, (), rfl, e2.symm, trivial⟩, hS.F ht⟩) hS.2.2 dX1_higherThan_67
  have L1 : ∀ (n k : Nat) (acc : Int32), k ≤ nC * nR → nC * nR < k + n → acc = lp_X1_higherThan_4 nC nR nf fx fy fz pn k → ∀ (H : Heap) (locs : List Loc), va_P D vwCl [(qf, .inr (1, [.ref qx, .ref qy, .ref qz, .ref qu, .int (nI nC), .int (nI nR), .int nf])), (qx, .inl (cI, 36, .inl fx)), (qy, .inl (cI, 36, .inl fy)), (qz, .inl (cI, 36, .inl fz))] H → va_S (fun _ : Nat => False) s.heap H locs → ∀ (ls : Array Slot), lv_has ls 4 [(0, .ref qf), (1, .int pn), (3, .int (nI k)), (2, .int acc)] → W p l e (headSpec wsX1_higherThan rm_X1_higherThan).room s m ([.ref qf, .int pn]).toArray below meth c H locs 0 0 (MQ below (Qc_X1_higherThan D cI cZ cJ cD qf qx qy qz qu nC nR nf fx fy fz pn) ([.ref qf, .int pn]).toArray s 0 0 (fun _ : Nat => False)) (F0 m 4 ls []) := by
    intro n
    induction n with
    | zero =>
      intro k acc hk hf
      exact absurd hf (by omega)
    | succ n ih =>
      intro k acc hk hf hacc H locs hP hS ls hl
      subst hacc
      refine lv_iload_n hx hb dX1_higherThan_4 rfl (lv_at hl 2 rfl) ?_
      refine lv_aload_n hx hb dX1_higherThan_5 rfl (lv_at hl 0 rfl) ?_
      refine va_calli (va_runV (As := []) (rest := [.int (nI k)]) ⟨hx, hb, hml, hown, hts⟩ (c_X1_panels l D cI cZ cJ cD qf qx qy qz qu nC nR nf ) (cwV 0 hts gX1_higherThan_X1_panels rfl rfl rfl (by decide +kernel) ⟨Nat.le_of_ble_eq_true rfl, Nat.le_of_ble_eq_true rfl⟩) ⟨zblind, va_recv hK hP (ci := 1) (q0 := 0) rfl rfl, (fun U hU hW => ⟨rfl, by rw [hU]; exact hP.sub (ws' := [(qf, .inr (1, [.ref qx, .ref qy, .ref qz, .ref qu, .int (nI nC), .int (nI nR), .int nf]))]) [0] rfl, va_K.moved hW.alike hK⟩)⟩ rfl rfl hl.1 rfl (lv_room (Nat.le_of_ble_eq_true rfl)) dX1_higherThan_6 ⟨Nat.le_of_ble_eq_true rfl, Nat.le_of_ble_eq_true rfl⟩) hS (fun q _ h => h.elim) (fun q h => h.elim) (fun r3 u t H locs ht hvm hw hB hz1 hk1 hS => ?_)
      rw [hw]
      have hP := zk hP hk1
      refine lv_icmp_ge (tgt := 66) hx hb dX1_higherThan_9 (by decide) (fun c4 => ?_) (fun c4 => ?_)
      · have hge : nC * nR ≤ k := (z_pge hN hk c4)
        have ek : k = nC * nR := by omega
        subst ek
        exact X1 _ _ hP hS _ (lv_sub hl [0, 1, 3] rfl)
      · refine lv_aload_n hx hb dX1_higherThan_12 rfl (lv_at hl 0 rfl) ?_
        refine va_get (D := D) (ci := 1) (v := .ref qx) (C := RX1) (T := TX1) (N := 7) hx hb hts (fun w h => List.mem_cons_of_mem _ (List.mem_append_right _ h)) hown hK hP 0 rfl rfl 0 (by decide) (hts (.fieldLink RX1 9 "AtlasFolder$FoldedSheet" "columnPlaces" "[I") (List.mem_cons_of_mem _ (List.mem_append_left _ (List.mem_of_getElem? (i := 0) rfl)))) (fun _ h9 => h9) rfl dX1_higherThan_13 ?_
        refine lv_iload_n hx hb dX1_higherThan_16 rfl (lv_at hl 2 rfl) ?_
        refine va_iald hx hb hK hP 1 0 rfl rfl (z_pin hN hk c4) dX1_higherThan_17 ?_
        refine lv_aload_n hx hb dX1_higherThan_18 rfl (lv_at hl 0 rfl) ?_
        refine va_get (D := D) (ci := 1) (v := .ref qx) (C := RX1) (T := TX1) (N := 7) hx hb hts (fun w h => List.mem_cons_of_mem _ (List.mem_append_right _ h)) hown hK hP 0 rfl rfl 0 (by decide) (hts (.fieldLink RX1 9 "AtlasFolder$FoldedSheet" "columnPlaces" "[I") (List.mem_cons_of_mem _ (List.mem_append_left _ (List.mem_of_getElem? (i := 0) rfl)))) (fun _ h9 => h9) rfl dX1_higherThan_19 ?_
        refine lv_iload_n hx hb dX1_higherThan_22 rfl (lv_at hl 1 rfl) ?_
        refine va_iald hx hb hK hP 1 0 rfl rfl hp dX1_higherThan_23 ?_
        refine lv_icmp_ne (tgt := 60) hx hb dX1_higherThan_24 (by decide) (fun c5 => ?_) (fun c5 => ?_)
        · refine lv_iinc (v := nI (k + 1)) (lv' := [(3, .int (nI (k + 1))), (0, .ref qf), (1, .int pn), (2, .int (lp_X1_higherThan_4 nC nR nf fx fy fz pn k))]) hx hb dX1_higherThan_60 hl (k := 2) rfl (nI_succ k).symm (by decide) rfl (fun ls hl => ?_)
          refine lv_goto (tgt := 4) hx hb dX1_higherThan_63 (by decide) ?_
          have hlt : k < nC * nR := (z_plt hN hk c4)
          exact ih (k + 1) _ (by omega) (by omega) ((if_neg c5)).symm _ _ hP hS _ (lv_sub hl [1, 2, 0, 3] rfl)
        · refine lv_aload_n hx hb dX1_higherThan_27 rfl (lv_at hl 0 rfl) ?_
          refine va_get (D := D) (ci := 1) (v := .ref qy) (C := RX1) (T := TX1) (N := 7) hx hb hts (fun w h => List.mem_cons_of_mem _ (List.mem_append_right _ h)) hown hK hP 0 rfl rfl 1 (by decide) (hts (.fieldLink RX1 15 "AtlasFolder$FoldedSheet" "rowPlaces" "[I") (List.mem_cons_of_mem _ (List.mem_append_left _ (List.mem_of_getElem? (i := 1) rfl)))) (fun _ h9 => h9) rfl dX1_higherThan_28 ?_
          refine lv_iload_n hx hb dX1_higherThan_31 rfl (lv_at hl 2 rfl) ?_
          refine va_iald hx hb hK hP 2 0 rfl rfl (z_pin hN hk c4) dX1_higherThan_32 ?_
          refine lv_aload_n hx hb dX1_higherThan_33 rfl (lv_at hl 0 rfl) ?_
          refine va_get (D := D) (ci := 1) (v := .ref qy) (C := RX1) (T := TX1) (N := 7) hx hb hts (fun w h => List.mem_cons_of_mem _ (List.mem_append_right _ h)) hown hK hP 0 rfl rfl 1 (by decide) (hts (.fieldLink RX1 15 "AtlasFolder$FoldedSheet" "rowPlaces" "[I") (List.mem_cons_of_mem _ (List.mem_append_left _ (List.mem_of_getElem? (i := 1) rfl)))) (fun _ h9 => h9) rfl dX1_higherThan_34 ?_
          refine lv_iload_n hx hb dX1_higherThan_37 rfl (lv_at hl 1 rfl) ?_
          refine va_iald hx hb hK hP 2 0 rfl rfl hp dX1_higherThan_38 ?_
          refine lv_icmp_ne (tgt := 60) hx hb dX1_higherThan_39 (by decide) (fun c6 => ?_) (fun c6 => ?_)
          · refine lv_iinc (v := nI (k + 1)) (lv' := [(3, .int (nI (k + 1))), (0, .ref qf), (1, .int pn), (2, .int (lp_X1_higherThan_4 nC nR nf fx fy fz pn k))]) hx hb dX1_higherThan_60 hl (k := 2) rfl (nI_succ k).symm (by decide) rfl (fun ls hl => ?_)
            refine lv_goto (tgt := 4) hx hb dX1_higherThan_63 (by decide) ?_
            have hlt : k < nC * nR := (z_plt hN hk c4)
            exact ih (k + 1) _ (by omega) (by omega) (((if_pos c5).trans (if_neg c6))).symm _ _ hP hS _ (lv_sub hl [1, 2, 0, 3] rfl)
          · refine lv_aload_n hx hb dX1_higherThan_42 rfl (lv_at hl 0 rfl) ?_
            refine va_get (D := D) (ci := 1) (v := .ref qz) (C := RX1) (T := TX1) (N := 7) hx hb hts (fun w h => List.mem_cons_of_mem _ (List.mem_append_right _ h)) hown hK hP 0 rfl rfl 2 (by decide) (hts (.fieldLink RX1 18 "AtlasFolder$FoldedSheet" "layers" "[I") (List.mem_cons_of_mem _ (List.mem_append_left _ (List.mem_of_getElem? (i := 2) rfl)))) (fun _ h9 => h9) rfl dX1_higherThan_43 ?_
            refine lv_iload_n hx hb dX1_higherThan_46 rfl (lv_at hl 2 rfl) ?_
            refine va_iald hx hb hK hP 3 0 rfl rfl (z_pin hN hk c4) dX1_higherThan_47 ?_
            refine lv_aload_n hx hb dX1_higherThan_48 rfl (lv_at hl 0 rfl) ?_
            refine va_get (D := D) (ci := 1) (v := .ref qz) (C := RX1) (T := TX1) (N := 7) hx hb hts (fun w h => List.mem_cons_of_mem _ (List.mem_append_right _ h)) hown hK hP 0 rfl rfl 2 (by decide) (hts (.fieldLink RX1 18 "AtlasFolder$FoldedSheet" "layers" "[I") (List.mem_cons_of_mem _ (List.mem_append_left _ (List.mem_of_getElem? (i := 2) rfl)))) (fun _ h9 => h9) rfl dX1_higherThan_49 ?_
            refine lv_iload_n hx hb dX1_higherThan_52 rfl (lv_at hl 1 rfl) ?_
            refine va_iald hx hb hK hP 3 0 rfl rfl hp dX1_higherThan_53 ?_
            refine lv_icmp_le (tgt := 60) hx hb dX1_higherThan_54 (by decide) (fun c7 => ?_) (fun c7 => ?_)
            · refine lv_iinc (v := nI (k + 1)) (lv' := [(3, .int (nI (k + 1))), (0, .ref qf), (1, .int pn), (2, .int (lp_X1_higherThan_4 nC nR nf fx fy fz pn k))]) hx hb dX1_higherThan_60 hl (k := 2) rfl (nI_succ k).symm (by decide) rfl (fun ls hl => ?_)
              refine lv_goto (tgt := 4) hx hb dX1_higherThan_63 (by decide) ?_
              have hlt : k < nC * nR := (z_plt hN hk c4)
              exact ih (k + 1) _ (by omega) (by omega) (((if_pos c5).trans ((if_pos c6).trans (if_pos c7)))).symm _ _ hP hS _ (lv_sub hl [1, 2, 0, 3] rfl)
            · refine lv_iinc (v := (lp_X1_higherThan_4 nC nR nf fx fy fz pn k) + 1) (lv' := [(2, .int ((lp_X1_higherThan_4 nC nR nf fx fy fz pn k) + 1)), (0, .ref qf), (1, .int pn), (3, .int (nI k))]) hx hb dX1_higherThan_57 hl (k := 3) rfl rfl (by decide) rfl (fun ls hl => ?_)
              refine lv_iinc (v := nI (k + 1)) (lv' := [(3, .int (nI (k + 1))), (2, .int ((lp_X1_higherThan_4 nC nR nf fx fy fz pn k) + 1)), (0, .ref qf), (1, .int pn)]) hx hb dX1_higherThan_60 hl (k := 3) rfl (nI_succ k).symm (by decide) rfl (fun ls hl => ?_)
              refine lv_goto (tgt := 4) hx hb dX1_higherThan_63 (by decide) ?_
              have hlt : k < nC * nR := (z_plt hN hk c4)
              exact ih (k + 1) _ (by omega) (by omega) (((if_pos c5).trans ((if_pos c6).trans (if_neg c7)))).symm _ _ hP hS _ (lv_sub hl [2, 3, 0, 1] rfl)
  exact L1 (nC * nR + 1) 0 _ (Nat.zero_le _) (by omega) rfl _ _ hP hS _ (lv_sub hl [2, 3, 0, 1] rfl)
def lp_X1_mostPanels_4 (nC : Nat) (nR : Nat) (nf : Int32) (fx : Nat → Int32) (fy : Nat → Int32) (fz : Nat → Int32) : Nat → Int32
  | 0 => 0
  | k + 1 => (if (lp_X1_mostPanels_4 nC nR nf fx fy fz k) < ((s_X1_higherThan nC nR nf fx fy fz (nI k)) + 1) then ((s_X1_higherThan nC nR nf fx fy fz (nI k)) + 1) else (lp_X1_mostPanels_4 nC nR nf fx fy fz k))
def s_X1_mostPanels (nC : Nat) (nR : Nat) (nf : Int32) (fx : Nat → Int32) (fy : Nat → Int32) (fz : Nat → Int32) : Int32 := lp_X1_mostPanels_4 nC nR nf fx fy fz (nC * nR)
abbrev rm_X1_mostPanels : Room := { frames := 2, cells := 0, slots := 0, locals := 43 }
abbrev Qc_X1_mostPanels (D : va_G) (cI cZ cJ cD : ClassId) (qf : Nat) (qx : Nat) (qy : Nat) (qz : Nat) (qu : Nat) (nC : Nat) (nR : Nat) (nf : Int32) (fx : Nat → Int32) (fy : Nat → Int32) (fz : Nat → Int32) : Array Value → State → Outcome → State → Prop := va_Qi (fun (r : Int32) (_ : Unit) => r = s_X1_mostPanels nC nR nf fx fy fz) (fun _ _ => True) (fun _ : Nat => False)
set_option maxHeartbeats 4000000 in
set_option maxRecDepth 100000 in
theorem c_X1_mostPanels (l : Launch) (D : va_G) (cI cZ cJ cD : ClassId) (qf : Nat) (qx : Nat) (qy : Nat) (qz : Nat) (qu : Nat) (nC : Nat) (nR : Nat) (nf : Int32) (fx : Nat → Int32) (fy : Nat → Int32) (fz : Nat → Int32) (hN : nC * nR ≤ 36) : Met l yX1_mostPanels wsX1_mostPanels rm_X1_mostPanels (va_Pc [.ref qf] (zPre D cI cZ cJ cD [(qf, .inr (1, [.ref qx, .ref qy, .ref qz, .ref qu, .int (nI nC), .int (nI nR), .int nf])), (qx, .inl (cI, 36, .inl fx)), (qy, .inl (cI, 36, .inl fy)), (qz, .inl (cI, 36, .inl fz))])) (Qc_X1_mostPanels D cI cZ cJ cD qf qx qy qz qu nC nR nf fx fy fz ) 0 0 (fun _ : Nat => False) := by
  refine Met.ofW (cc := cX1_mostPanels) (maxL := 3) (ret := (some .int)) (by decide) rfl ?_
  intro p e s m args below meth c s₁ B hml hv
  obtain ⟨rfl, hP, hK⟩ := hv
  have hx := B.exec
  have hb := B.bytes
  have hr := B.returns
  have hts := atoms_spec (ws := wsX1_mostPanels) B.pre
  have hown : s.vm.findClass RX1 = some m.cls := findClass_of_methodNamed B.named
  have hlocks := B.notSynchronized
  have hS : va_S (fun _ : Nat => False) s.heap s.heap [] := va_S.rf
  have hl := lv_entry ([.ref qf]) (n := 3) (Nat.le_of_ble_eq_true rfl)
  rw [lg_entry_eq]
  generalize (lg_sl ([.ref qf]) ++ List.replicate (3 - (lg_sl ([.ref qf])).length) Slot.unset).toArray = ls at hl ⊢
  have hl : lv_has ls 3 [(0, .ref qf)] := hl
  have hP : va_P D vwCl [(qf, .inr (1, [.ref qx, .ref qy, .ref qz, .ref qu, .int (nI nC), .int (nI nR), .int nf])), (qx, .inl (cI, 36, .inl fx)), (qy, .inl (cI, 36, .inl fy)), (qz, .inl (cI, 36, .inl fz))] s.heap := hP
  have hP := hP
  refine lv_iconst (v := 0) hx hb dX1_mostPanels_0 (by decide) ?_
  refine lv_istore_n (lv' := [(1, .int 0), (0, .ref qf)]) hx hb dX1_mostPanels_1 rfl hl (by decide) rfl (fun ls hl => ?_)
  refine lv_iconst (v := 0) hx hb dX1_mostPanels_2 (by decide) ?_
  refine lv_istore_n (lv' := [(2, .int 0), (1, .int 0), (0, .ref qf)]) hx hb dX1_mostPanels_3 rfl hl (by decide) rfl (fun ls hl => ?_)
  have X1 : ∀ (H : Heap) (locs : List Loc), va_P D vwCl [(qf, .inr (1, [.ref qx, .ref qy, .ref qz, .ref qu, .int (nI nC), .int (nI nR), .int nf])), (qx, .inl (cI, 36, .inl fx)), (qy, .inl (cI, 36, .inl fy)), (qz, .inl (cI, 36, .inl fz))] H → va_S (fun _ : Nat => False) s.heap H locs → ∀ (ls : Array Slot), lv_has ls 3 [(0, .ref qf), (1, .int (lp_X1_mostPanels_4 nC nR nf fx fy fz (nC * nR)))] → W p l e (headSpec wsX1_mostPanels rm_X1_mostPanels).room s m ([.ref qf]).toArray below meth c H locs 0 0 (MQ below (Qc_X1_mostPanels D cI cZ cJ cD qf qx qy qz qu nC nR nf fx fy fz) ([.ref qf]).toArray s 0 0 (fun _ : Nat => False)) (F0 m 30 ls []) := by
    intro H locs hP hS ls hl
    refine lv_iload_n hx hb dX1_mostPanels_30 rfl (lv_at hl 1 rfl) ?_
    have e2 : s_X1_mostPanels nC nR nf fx fy fz = lp_X1_mostPanels_4 nC nR nf fx fy fz (nC * nR) := rfl
    exact W.iret (v := (lp_X1_mostPanels_4 nC nR nf fx fy fz (nC * nR))) hx hb hr (fun t ht hW => ⟨⟨_, (), rfl, e2.symm, trivial⟩, hS.F ht⟩) hS.2.2 dX1_mostPanels_31
  have L1 : ∀ (n k : Nat) (acc : Int32), k ≤ nC * nR → nC * nR < k + n → acc = lp_X1_mostPanels_4 nC nR nf fx fy fz k → ∀ (H : Heap) (locs : List Loc), va_P D vwCl [(qf, .inr (1, [.ref qx, .ref qy, .ref qz, .ref qu, .int (nI nC), .int (nI nR), .int nf])), (qx, .inl (cI, 36, .inl fx)), (qy, .inl (cI, 36, .inl fy)), (qz, .inl (cI, 36, .inl fz))] H → va_S (fun _ : Nat => False) s.heap H locs → ∀ (ls : Array Slot), lv_has ls 3 [(0, .ref qf), (2, .int (nI k)), (1, .int acc)] → W p l e (headSpec wsX1_mostPanels rm_X1_mostPanels).room s m ([.ref qf]).toArray below meth c H locs 0 0 (MQ below (Qc_X1_mostPanels D cI cZ cJ cD qf qx qy qz qu nC nR nf fx fy fz) ([.ref qf]).toArray s 0 0 (fun _ : Nat => False)) (F0 m 4 ls []) := by
    intro n
    induction n with
    | zero =>
      intro k acc hk hf
      exact absurd hf (by omega)
    | succ n ih =>
      intro k acc hk hf hacc H locs hP hS ls hl
      subst hacc
      refine lv_iload_n hx hb dX1_mostPanels_4 rfl (lv_at hl 1 rfl) ?_
      refine lv_aload_n hx hb dX1_mostPanels_5 rfl (lv_at hl 0 rfl) ?_
      refine va_calli (va_runV (As := []) (rest := [.int (nI k)]) ⟨hx, hb, hml, hown, hts⟩ (c_X1_panels l D cI cZ cJ cD qf qx qy qz qu nC nR nf ) (cwV 0 hts gX1_mostPanels_X1_panels rfl rfl rfl (by decide +kernel) ⟨Nat.le_of_ble_eq_true rfl, Nat.le_of_ble_eq_true rfl⟩) ⟨zblind, va_recv hK hP (ci := 1) (q0 := 0) rfl rfl, (fun U hU hW => ⟨rfl, by rw [hU]; exact hP.sub (ws' := [(qf, .inr (1, [.ref qx, .ref qy, .ref qz, .ref qu, .int (nI nC), .int (nI nR), .int nf]))]) [0] rfl, va_K.moved hW.alike hK⟩)⟩ rfl rfl hl.1 rfl (lv_room (Nat.le_of_ble_eq_true rfl)) dX1_mostPanels_6 ⟨Nat.le_of_ble_eq_true rfl, Nat.le_of_ble_eq_true rfl⟩) hS (fun q _ h => h.elim) (fun q h => h.elim) (fun r3 u t H locs ht hvm hw hB hz1 hk1 hS => ?_)
      rw [hw]
      have hP := zk hP hk1
      refine lv_icmp_ge (tgt := 30) hx hb dX1_mostPanels_9 (by decide) (fun c4 => ?_) (fun c4 => ?_)
      · have hge : nC * nR ≤ k := (z_pge hN hk c4)
        have ek : k = nC * nR := by omega
        subst ek
        exact X1 _ _ hP hS _ (lv_sub hl [0, 2] rfl)
      · refine lv_iload_n hx hb dX1_mostPanels_12 rfl (lv_at hl 2 rfl) ?_
        refine lv_aload_n hx hb dX1_mostPanels_13 rfl (lv_at hl 0 rfl) ?_
        refine lv_iload_n hx hb dX1_mostPanels_14 rfl (lv_at hl 1 rfl) ?_
        refine va_calli (va_runV (As := [.int (nI k)]) (rest := [.int (lp_X1_mostPanels_4 nC nR nf fx fy fz k)]) ⟨hx, hb, hml, hown, hts⟩ (c_X1_higherThan l D cI cZ cJ cD qf qx qy qz qu nC nR nf fx fy fz (nI k) hN (z_pin hN hk c4)) (cwV 1 hts gX1_mostPanels_X1_higherThan rfl rfl rfl (by decide +kernel) ⟨Nat.le_of_ble_eq_true rfl, Nat.le_of_ble_eq_true rfl⟩) ⟨zblind, va_recv hK hP (ci := 1) (q0 := 0) rfl rfl, (fun U hU hW => ⟨rfl, by rw [hU]; exact hP.sub (ws' := [(qf, .inr (1, [.ref qx, .ref qy, .ref qz, .ref qu, .int (nI nC), .int (nI nR), .int nf])), (qx, .inl (cI, 36, .inl fx)), (qy, .inl (cI, 36, .inl fy)), (qz, .inl (cI, 36, .inl fz))]) [0, 1, 2, 3] rfl, va_K.moved hW.alike hK⟩)⟩ rfl rfl hl.1 rfl (lv_room (Nat.le_of_ble_eq_true rfl)) dX1_mostPanels_15 ⟨Nat.le_of_ble_eq_true rfl, Nat.le_of_ble_eq_true rfl⟩) hS (fun q _ h => h.elim) (fun q h => h.elim) (fun r5 u t H locs ht hvm hw hB hz1 hk1 hS => ?_)
        rw [hw]
        have hP := zk hP hk1
        refine lv_iconst (v := 1) hx hb dX1_mostPanels_18 (by decide) ?_
        refine lv_iadd hx hb dX1_mostPanels_19 ?_
        refine va_mmax hx hb (hml.trans hl.1.symm) hown (hts (.methodLink RX1 67 Lib.Math.max.name) (List.mem_cons_of_mem _ (List.mem_append_left _ (List.mem_of_getElem? (i := 0) rfl)))) (hts (.static Lib.Math.max.name) (List.mem_cons_of_mem _ (List.mem_append_left _ (List.mem_of_getElem? (i := 1) rfl)))) (hts (.initialized "java/lang/Math") (List.mem_cons_of_mem _ (List.mem_append_left _ (List.mem_of_getElem? (i := 2) rfl)))) (hts (.code Lib.Math.max.name Lib.Math.max.code 2 (some .int)) (List.mem_cons_of_mem _ (List.mem_append_left _ (List.mem_of_getElem? (i := 3) rfl)))) (Nat.le_of_ble_eq_true rfl) (Nat.le_of_ble_eq_true rfl) (Nat.le_of_ble_eq_true rfl) (Nat.le_of_ble_eq_true rfl) dX1_mostPanels_20 ?_
        refine lv_istore_n (lv' := [(1, .int (if (lp_X1_mostPanels_4 nC nR nf fx fy fz k) < ((s_X1_higherThan nC nR nf fx fy fz (nI k)) + 1) then ((s_X1_higherThan nC nR nf fx fy fz (nI k)) + 1) else (lp_X1_mostPanels_4 nC nR nf fx fy fz k))), (0, .ref qf), (2, .int (nI k))]) hx hb dX1_mostPanels_23 rfl hl (by decide) rfl (fun ls hl => ?_)
        refine lv_iinc (v := nI (k + 1)) (lv' := [(2, .int (nI (k + 1))), (1, .int (if (lp_X1_mostPanels_4 nC nR nf fx fy fz k) < ((s_X1_higherThan nC nR nf fx fy fz (nI k)) + 1) then ((s_X1_higherThan nC nR nf fx fy fz (nI k)) + 1) else (lp_X1_mostPanels_4 nC nR nf fx fy fz k))), (0, .ref qf)]) hx hb dX1_mostPanels_24 hl (k := 2) rfl (nI_succ k).symm (by decide) rfl (fun ls hl => ?_)
        refine lv_goto (tgt := 4) hx hb dX1_mostPanels_27 (by decide) ?_
        have hlt : k < nC * nR := (z_plt hN hk c4)
        exact ih (k + 1) _ (by omega) (by omega) rfl _ _ hP hS _ (lv_sub hl [2, 0, 1] rfl)
  exact L1 (nC * nR + 1) 0 _ (Nat.zero_le _) (by omega) rfl _ _ hP hS _ (lv_sub hl [2, 0, 1] rfl)
def lp_X1_readablePanels_4 (nC : Nat) (nR : Nat) (nf : Int32) (fx : Nat → Int32) (fy : Nat → Int32) (fz : Nat → Int32) (fu : Nat → Int32) : Nat → Int32
  | 0 => 0
  | k + 1 => (if (fu (nI k).toNatClampNeg) = 0 then lp_X1_readablePanels_4 nC nR nf fx fy fz fu k else (if (s_X1_higherThan nC nR nf fx fy fz (nI k)) = 0 then (lp_X1_readablePanels_4 nC nR nf fx fy fz fu k) + 1 else lp_X1_readablePanels_4 nC nR nf fx fy fz fu k))
def s_X1_readablePanels (nC : Nat) (nR : Nat) (nf : Int32) (fx : Nat → Int32) (fy : Nat → Int32) (fz : Nat → Int32) (fu : Nat → Int32) : Int32 := lp_X1_readablePanels_4 nC nR nf fx fy fz fu (nC * nR)
abbrev rm_X1_readablePanels : Room := { frames := 2, cells := 0, slots := 0, locals := 43 }
abbrev Qc_X1_readablePanels (D : va_G) (cI cZ cJ cD : ClassId) (qf : Nat) (qx : Nat) (qy : Nat) (qz : Nat) (qu : Nat) (nC : Nat) (nR : Nat) (nf : Int32) (fx : Nat → Int32) (fy : Nat → Int32) (fz : Nat → Int32) (fu : Nat → Int32) : Array Value → State → Outcome → State → Prop := va_Qi (fun (r : Int32) (_ : Unit) => r = s_X1_readablePanels nC nR nf fx fy fz fu) (fun _ _ => True) (fun _ : Nat => False)
set_option maxHeartbeats 4000000 in
set_option maxRecDepth 100000 in
theorem c_X1_readablePanels (l : Launch) (D : va_G) (cI cZ cJ cD : ClassId) (qf : Nat) (qx : Nat) (qy : Nat) (qz : Nat) (qu : Nat) (nC : Nat) (nR : Nat) (nf : Int32) (fx : Nat → Int32) (fy : Nat → Int32) (fz : Nat → Int32) (fu : Nat → Int32) (hN : nC * nR ≤ 36) : Met l yX1_readablePanels wsX1_readablePanels rm_X1_readablePanels (va_Pc [.ref qf] (zPre D cI cZ cJ cD [(qf, .inr (1, [.ref qx, .ref qy, .ref qz, .ref qu, .int (nI nC), .int (nI nR), .int nf])), (qx, .inl (cI, 36, .inl fx)), (qy, .inl (cI, 36, .inl fy)), (qz, .inl (cI, 36, .inl fz)), (qu, .inl (cZ, 36, .inl fu))])) (Qc_X1_readablePanels D cI cZ cJ cD qf qx qy qz qu nC nR nf fx fy fz fu ) 0 0 (fun _ : Nat => False) := by
  refine Met.ofW (cc := cX1_readablePanels) (maxL := 3) (ret := (some .int)) (by decide) rfl ?_
  intro p e s m args below meth c s₁ B hml hv
  obtain ⟨rfl, hP, hK⟩ := hv
  have hx := B.exec
  have hb := B.bytes
  have hr := B.returns
  have hts := atoms_spec (ws := wsX1_readablePanels) B.pre
  have hown : s.vm.findClass RX1 = some m.cls := findClass_of_methodNamed B.named
  have hlocks := B.notSynchronized
  have hS : va_S (fun _ : Nat => False) s.heap s.heap [] := va_S.rf
  have hl := lv_entry ([.ref qf]) (n := 3) (Nat.le_of_ble_eq_true rfl)
  rw [lg_entry_eq]
  generalize (lg_sl ([.ref qf]) ++ List.replicate (3 - (lg_sl ([.ref qf])).length) Slot.unset).toArray = ls at hl ⊢
  have hl : lv_has ls 3 [(0, .ref qf)] := hl
  have hP : va_P D vwCl [(qf, .inr (1, [.ref qx, .ref qy, .ref qz, .ref qu, .int (nI nC), .int (nI nR), .int nf])), (qx, .inl (cI, 36, .inl fx)), (qy, .inl (cI, 36, .inl fy)), (qz, .inl (cI, 36, .inl fz)), (qu, .inl (cZ, 36, .inl fu))] s.heap := hP
  have hP := hP
  refine lv_iconst (v := 0) hx hb dX1_readablePanels_0 (by decide) ?_
  refine lv_istore_n (lv' := [(1, .int 0), (0, .ref qf)]) hx hb dX1_readablePanels_1 rfl hl (by decide) rfl (fun ls hl => ?_)
  refine lv_iconst (v := 0) hx hb dX1_readablePanels_2 (by decide) ?_
  refine lv_istore_n (lv' := [(2, .int 0), (1, .int 0), (0, .ref qf)]) hx hb dX1_readablePanels_3 rfl hl (by decide) rfl (fun ls hl => ?_)
  have X1 : ∀ (H : Heap) (locs : List Loc), va_P D vwCl [(qf, .inr (1, [.ref qx, .ref qy, .ref qz, .ref qu, .int (nI nC), .int (nI nR), .int nf])), (qx, .inl (cI, 36, .inl fx)), (qy, .inl (cI, 36, .inl fy)), (qz, .inl (cI, 36, .inl fz)), (qu, .inl (cZ, 36, .inl fu))] H → va_S (fun _ : Nat => False) s.heap H locs → ∀ (ls : Array Slot), lv_has ls 3 [(0, .ref qf), (1, .int (lp_X1_readablePanels_4 nC nR nf fx fy fz fu (nC * nR)))] → W p l e (headSpec wsX1_readablePanels rm_X1_readablePanels).room s m ([.ref qf]).toArray below meth c H locs 0 0 (MQ below (Qc_X1_readablePanels D cI cZ cJ cD qf qx qy qz qu nC nR nf fx fy fz fu) ([.ref qf]).toArray s 0 0 (fun _ : Nat => False)) (F0 m 38 ls []) := by
    intro H locs hP hS ls hl
    refine lv_iload_n hx hb dX1_readablePanels_38 rfl (lv_at hl 1 rfl) ?_
    have e2 : s_X1_readablePanels nC nR nf fx fy fz fu = lp_X1_readablePanels_4 nC nR nf fx fy fz fu (nC * nR) := rfl
    exact W.iret (v := (lp_X1_readablePanels_4 nC nR nf fx fy fz fu (nC * nR))) hx hb hr (fun t ht hW => ⟨⟨_, (), rfl, e2.symm, trivial⟩, hS.F ht⟩) hS.2.2 dX1_readablePanels_39
  have L1 : ∀ (n k : Nat) (acc : Int32), k ≤ nC * nR → nC * nR < k + n → acc = lp_X1_readablePanels_4 nC nR nf fx fy fz fu k → ∀ (H : Heap) (locs : List Loc), va_P D vwCl [(qf, .inr (1, [.ref qx, .ref qy, .ref qz, .ref qu, .int (nI nC), .int (nI nR), .int nf])), (qx, .inl (cI, 36, .inl fx)), (qy, .inl (cI, 36, .inl fy)), (qz, .inl (cI, 36, .inl fz)), (qu, .inl (cZ, 36, .inl fu))] H → va_S (fun _ : Nat => False) s.heap H locs → ∀ (ls : Array Slot), lv_has ls 3 [(0, .ref qf), (2, .int (nI k)), (1, .int acc)] → W p l e (headSpec wsX1_readablePanels rm_X1_readablePanels).room s m ([.ref qf]).toArray below meth c H locs 0 0 (MQ below (Qc_X1_readablePanels D cI cZ cJ cD qf qx qy qz qu nC nR nf fx fy fz fu) ([.ref qf]).toArray s 0 0 (fun _ : Nat => False)) (F0 m 4 ls []) := by
    intro n
    induction n with
    | zero =>
      intro k acc hk hf
      exact absurd hf (by omega)
    | succ n ih =>
      intro k acc hk hf hacc H locs hP hS ls hl
      subst hacc
      refine lv_iload_n hx hb dX1_readablePanels_4 rfl (lv_at hl 1 rfl) ?_
      refine lv_aload_n hx hb dX1_readablePanels_5 rfl (lv_at hl 0 rfl) ?_
      refine va_calli (va_runV (As := []) (rest := [.int (nI k)]) ⟨hx, hb, hml, hown, hts⟩ (c_X1_panels l D cI cZ cJ cD qf qx qy qz qu nC nR nf ) (cwV 0 hts gX1_readablePanels_X1_panels rfl rfl rfl (by decide +kernel) ⟨Nat.le_of_ble_eq_true rfl, Nat.le_of_ble_eq_true rfl⟩) ⟨zblind, va_recv hK hP (ci := 1) (q0 := 0) rfl rfl, (fun U hU hW => ⟨rfl, by rw [hU]; exact hP.sub (ws' := [(qf, .inr (1, [.ref qx, .ref qy, .ref qz, .ref qu, .int (nI nC), .int (nI nR), .int nf]))]) [0] rfl, va_K.moved hW.alike hK⟩)⟩ rfl rfl hl.1 rfl (lv_room (Nat.le_of_ble_eq_true rfl)) dX1_readablePanels_6 ⟨Nat.le_of_ble_eq_true rfl, Nat.le_of_ble_eq_true rfl⟩) hS (fun q _ h => h.elim) (fun q h => h.elim) (fun r3 u t H locs ht hvm hw hB hz1 hk1 hS => ?_)
      rw [hw]
      have hP := zk hP hk1
      refine lv_icmp_ge (tgt := 38) hx hb dX1_readablePanels_9 (by decide) (fun c4 => ?_) (fun c4 => ?_)
      · have hge : nC * nR ≤ k := (z_pge hN hk c4)
        have ek : k = nC * nR := by omega
        subst ek
        exact X1 _ _ hP hS _ (lv_sub hl [0, 2] rfl)
      · refine lv_aload_n hx hb dX1_readablePanels_12 rfl (lv_at hl 0 rfl) ?_
        refine va_get (D := D) (ci := 1) (v := .ref qu) (C := RX1) (T := TX1) (N := 7) hx hb hts (fun w h => List.mem_cons_of_mem _ (List.mem_append_right _ h)) hown hK hP 0 rfl rfl 3 (by decide) (hts (.fieldLink RX1 21 "AtlasFolder$FoldedSheet" "faceUp" "[Z") (List.mem_cons_of_mem _ (List.mem_append_left _ (List.mem_of_getElem? (i := 0) rfl)))) (fun _ h9 => h9) rfl dX1_readablePanels_13 ?_
        refine lv_iload_n hx hb dX1_readablePanels_16 rfl (lv_at hl 1 rfl) ?_
        refine va_zald hx hb hK hP 4 1 rfl rfl (z_pin hN hk c4) dX1_readablePanels_17 ?_
        refine lv_if_eq (tgt := 32) hx hb dX1_readablePanels_18 (by decide) (fun c5 => ?_) (fun c5 => ?_)
        · refine lv_iinc (v := nI (k + 1)) (lv' := [(2, .int (nI (k + 1))), (0, .ref qf), (1, .int (lp_X1_readablePanels_4 nC nR nf fx fy fz fu k))]) hx hb dX1_readablePanels_32 hl (k := 1) rfl (nI_succ k).symm (by decide) rfl (fun ls hl => ?_)
          refine lv_goto (tgt := 4) hx hb dX1_readablePanels_35 (by decide) ?_
          have hlt : k < nC * nR := (z_plt hN hk c4)
          exact ih (k + 1) _ (by omega) (by omega) ((if_pos c5)).symm _ _ hP hS _ (lv_sub hl [1, 0, 2] rfl)
        · refine lv_aload_n hx hb dX1_readablePanels_21 rfl (lv_at hl 0 rfl) ?_
          refine lv_iload_n hx hb dX1_readablePanels_22 rfl (lv_at hl 1 rfl) ?_
          refine va_calli (va_runV (As := [.int (nI k)]) (rest := []) ⟨hx, hb, hml, hown, hts⟩ (c_X1_higherThan l D cI cZ cJ cD qf qx qy qz qu nC nR nf fx fy fz (nI k) hN (z_pin hN hk c4)) (cwV 1 hts gX1_readablePanels_X1_higherThan rfl rfl rfl (by decide +kernel) ⟨Nat.le_of_ble_eq_true rfl, Nat.le_of_ble_eq_true rfl⟩) ⟨zblind, va_recv hK hP (ci := 1) (q0 := 0) rfl rfl, (fun U hU hW => ⟨rfl, by rw [hU]; exact hP.sub (ws' := [(qf, .inr (1, [.ref qx, .ref qy, .ref qz, .ref qu, .int (nI nC), .int (nI nR), .int nf])), (qx, .inl (cI, 36, .inl fx)), (qy, .inl (cI, 36, .inl fy)), (qz, .inl (cI, 36, .inl fz))]) [0, 1, 2, 3] rfl, va_K.moved hW.alike hK⟩)⟩ rfl rfl hl.1 rfl (lv_room (Nat.le_of_ble_eq_true rfl)) dX1_readablePanels_23 ⟨Nat.le_of_ble_eq_true rfl, Nat.le_of_ble_eq_true rfl⟩) hS (fun q _ h => h.elim) (fun q h => h.elim) (fun r6 u t H locs ht hvm hw hB hz1 hk1 hS => ?_)
          rw [hw]
          have hP := zk hP hk1
          refine lv_if_ne (tgt := 32) hx hb dX1_readablePanels_26 (by decide) (fun c7 => ?_) (fun c7 => ?_)
          · refine lv_iinc (v := nI (k + 1)) (lv' := [(2, .int (nI (k + 1))), (0, .ref qf), (1, .int (lp_X1_readablePanels_4 nC nR nf fx fy fz fu k))]) hx hb dX1_readablePanels_32 hl (k := 1) rfl (nI_succ k).symm (by decide) rfl (fun ls hl => ?_)
            refine lv_goto (tgt := 4) hx hb dX1_readablePanels_35 (by decide) ?_
            have hlt : k < nC * nR := (z_plt hN hk c4)
            exact ih (k + 1) _ (by omega) (by omega) (((if_neg c5).trans (if_neg c7))).symm _ _ hP hS _ (lv_sub hl [1, 0, 2] rfl)
          · refine lv_iinc (v := (lp_X1_readablePanels_4 nC nR nf fx fy fz fu k) + 1) (lv' := [(1, .int ((lp_X1_readablePanels_4 nC nR nf fx fy fz fu k) + 1)), (0, .ref qf), (2, .int (nI k))]) hx hb dX1_readablePanels_29 hl (k := 2) rfl rfl (by decide) rfl (fun ls hl => ?_)
            refine lv_iinc (v := nI (k + 1)) (lv' := [(2, .int (nI (k + 1))), (1, .int ((lp_X1_readablePanels_4 nC nR nf fx fy fz fu k) + 1)), (0, .ref qf)]) hx hb dX1_readablePanels_32 hl (k := 2) rfl (nI_succ k).symm (by decide) rfl (fun ls hl => ?_)
            refine lv_goto (tgt := 4) hx hb dX1_readablePanels_35 (by decide) ?_
            have hlt : k < nC * nR := (z_plt hN hk c4)
            exact ih (k + 1) _ (by omega) (by omega) (((if_neg c5).trans (if_pos c7))).symm _ _ hP hS _ (lv_sub hl [2, 0, 1] rfl)
  exact L1 (nC * nR + 1) 0 _ (Nat.zero_le _) (by omega) rfl _ _ hP hS _ (lv_sub hl [2, 0, 1] rfl)
end
section
theorem zlv {ls : Array Slot} {nL : Nat} {l l' : List (Nat × Value)} (h : lv_has ls nL l) (e : l = l') : lv_has ls nL l' := e ▸ h
theorem z_add0 (x : Int32) : x + nI 0 = x := by rw [nI_0]; exact Int32.add_zero x
theorem z_adds (x : Int32) (k : Nat) : x + nI k + Int32.ofInt 1 = x + nI (k + 1) := by rw [nI_succ, Int32.add_assoc]; rfl
theorem z_toI {k : Nat} (h : k < 2 ^ 31) : (nI k).toInt = (k : Int) := nI_toInt h
theorem z_bm {x : Int} (h1 : -2147483648 ≤ x) (h2 : x < 2147483648) : x.bmod (2 ^ 32) = x := by
  rw [Int.bmod_def]
  omega
theorem z_addI {x y : Int32} (h1 : -2147483648 ≤ x.toInt + y.toInt) (h2 : x.toInt + y.toInt < 2147483648) : (x + y).toInt = x.toInt + y.toInt := by rw [Int32.toInt_add]; exact z_bm h1 h2
theorem z_subI {x y : Int32} (h1 : -2147483648 ≤ x.toInt - y.toInt) (h2 : x.toInt - y.toInt < 2147483648) : (x - y).toInt = x.toInt - y.toInt := by rw [Int32.toInt_sub]; exact z_bm h1 h2
theorem z_mulI {x y : Int32} (h1 : -2147483648 ≤ x.toInt * y.toInt) (h2 : x.toInt * y.toInt < 2147483648) : (x * y).toInt = x.toInt * y.toInt := by rw [Int32.toInt_mul]; exact z_bm h1 h2
theorem z_fadd {so : Int32} {k : Nat} (h1 : -90 ≤ so.toInt) (h2 : so.toInt + k ≤ 90) : (so + nI k).toInt = so.toInt + k := by
  have e := nI_toInt (n := k) (by omega)
  rw [z_addI (by rw [e]; omega) (by rw [e]; omega), e]
theorem z_fge {so no : Int32} {k : Nat} (h1 : -90 ≤ so.toInt) (h2 : so.toInt ≤ no.toInt) (h3 : no.toInt ≤ 90) (hk : k ≤ (no.toInt - so.toInt).toNat) (h : no ≤ so + nI k) : (no.toInt - so.toInt).toNat ≤ k := by
  rw [Int32.le_iff_toInt_le, z_fadd h1 (by omega)] at h
  omega
theorem z_flt {so no : Int32} {k : Nat} (h1 : -90 ≤ so.toInt) (h2 : so.toInt ≤ no.toInt) (h3 : no.toInt ≤ 90) (hk : k ≤ (no.toInt - so.toInt).toNat) (h : ¬ no ≤ so + nI k) : k < (no.toInt - so.toInt).toNat := by
  rw [Int32.le_iff_toInt_le, z_fadd h1 (by omega)] at h
  omega
theorem z_s90 {k : Nat} (h : k ≤ 181) : (90 - nI k).toInt = 90 - (k : Int) := by
  have e := nI_toInt (n := k) (by omega)
  have e2 : (90 : Int32).toInt = 90 := rfl
  rw [z_subI (by rw [e, e2]; omega) (by rw [e, e2]; omega), e, e2]
theorem z_dec (k : Nat) : 90 - nI k + Int32.ofInt (-1) = 90 - nI (k + 1) := by
  rw [nI_succ, Int32.sub_eq_add_neg, Int32.sub_eq_add_neg, Int32.neg_add, Int32.add_assoc, Int32.sub_eq_add_neg]
  rfl
def lp_X2_fieldArea_6 (fw : Nat → Int32) (fh : Nat → Int32) (so : Int32) (no : Int32) (dw : Int32) : Nat → Int64
  | 0 => 0
  | k + 1 => (lp_X2_fieldArea_6 fw fh so no dw k) + (dw.toInt64 * (s_X2_cellArea fw fh (so + nI k)))
def s_X2_fieldArea (fw : Nat → Int32) (fh : Nat → Int32) (so : Int32) (no : Int32) (dw : Int32) : Int64 := lp_X2_fieldArea_6 fw fh so no dw ((no.toInt - so.toInt).toNat)
abbrev rm_X2_fieldArea : Room := { frames := 4, cells := 0, slots := 0, locals := 89 }
abbrev Qc_X2_fieldArea (D : va_G) (cI cZ cJ cD : ClassId) (qm : Nat) (qw : Nat) (qh : Nat) (fw : Nat → Int32) (fh : Nat → Int32) (so : Int32) (no : Int32) (dw : Int32) : Array Value → State → Outcome → State → Prop := va_Ql (fun (r : Int64) (_ : Unit) => r = s_X2_fieldArea fw fh so no dw) (fun _ _ => True) (fun _ : Nat => False)
set_option maxHeartbeats 4000000 in
set_option maxRecDepth 100000 in
theorem c_X2_fieldArea (l : Launch) (D : va_G) (cI cZ cJ cD : ClassId) (qm : Nat) (qw : Nat) (qh : Nat) (fw : Nat → Int32) (fh : Nat → Int32) (so : Int32) (no : Int32) (dw : Int32) (h1 : -90 ≤ so.toInt) (h2 : so.toInt ≤ no.toInt) (h3 : no.toInt ≤ 90) : Met l yX2_fieldArea wsX2_fieldArea rm_X2_fieldArea (va_Pc [.ref qm, .int so, .int no, .int dw] (zPre D cI cZ cJ cD [(qm, .inr (2, [.ref qw, .ref qh])), (qw, .inl (cI, 10, .inl fw)), (qh, .inl (cI, 10, .inl fh))])) (Qc_X2_fieldArea D cI cZ cJ cD qm qw qh fw fh so no dw ) 0 0 (fun _ : Nat => False) := by
  refine Met.ofW (cc := cX2_fieldArea) (maxL := 7) (ret := (some .long)) (by decide) rfl ?_
  intro p e s m args below meth c s₁ B hml hv
  obtain ⟨rfl, hP, hK⟩ := hv
  have hx := B.exec
  have hb := B.bytes
  have hr := B.returns
  have hts := atoms_spec (ws := wsX2_fieldArea) B.pre
  have hown : s.vm.findClass RX2 = some m.cls := findClass_of_methodNamed B.named
  have hlocks := B.notSynchronized
  have hS : va_S (fun _ : Nat => False) s.heap s.heap [] := va_S.rf
  have hl := lv_entry ([.ref qm, .int so, .int no, .int dw]) (n := 7) (Nat.le_of_ble_eq_true rfl)
  rw [lg_entry_eq]
  generalize (lg_sl ([.ref qm, .int so, .int no, .int dw]) ++ List.replicate (7 - (lg_sl ([.ref qm, .int so, .int no, .int dw])).length) Slot.unset).toArray = ls at hl ⊢
  have hl : lv_has ls 7 [(0, .ref qm), (1, .int so), (2, .int no), (3, .int dw)] := hl
  have hP : va_P D vwCl [(qm, .inr (2, [.ref qw, .ref qh])), (qw, .inl (cI, 10, .inl fw)), (qh, .inl (cI, 10, .inl fh))] s.heap := hP
  have hP := hP
  refine lv_lconst (v := 0) hx hb dX2_fieldArea_0 (by decide) ?_
  refine lv_lstore (lv' := [(4, .long 0), (0, .ref qm), (1, .int so), (2, .int no), (3, .int dw)]) hx hb dX2_fieldArea_1 hl (by decide) rfl (fun ls hl => ?_)
  refine lv_iload_n hx hb dX2_fieldArea_3 rfl (lv_at hl 2 rfl) ?_
  refine lv_istore (lv' := [(6, .int so), (4, .long 0), (0, .ref qm), (1, .int so), (2, .int no), (3, .int dw)]) hx hb dX2_fieldArea_4 hl (by decide) rfl (fun ls hl => ?_)
  have X1 : ∀ (H : Heap) (locs : List Loc), va_P D vwCl [(qm, .inr (2, [.ref qw, .ref qh])), (qw, .inl (cI, 10, .inl fw)), (qh, .inl (cI, 10, .inl fh))] H → va_S (fun _ : Nat => False) s.heap H locs → ∀ (ls : Array Slot), lv_has ls 7 [(0, .ref qm), (1, .int so), (2, .int no), (3, .int dw), (4, .long (lp_X2_fieldArea_6 fw fh so no dw ((no.toInt - so.toInt).toNat)))] → W p l e (headSpec wsX2_fieldArea rm_X2_fieldArea).room s m ([.ref qm, .int so, .int no, .int dw]).toArray below meth c H locs 0 0 (MQ below (Qc_X2_fieldArea D cI cZ cJ cD qm qw qh fw fh so no dw) ([.ref qm, .int so, .int no, .int dw]).toArray s 0 0 (fun _ : Nat => False)) (F0 m 32 ls []) := by
    intro H locs hP hS ls hl
    refine lv_lload hx hb dX2_fieldArea_32 (lv_at hl 4 rfl) ?_
    have e2 : s_X2_fieldArea fw fh so no dw = lp_X2_fieldArea_6 fw fh so no dw ((no.toInt - so.toInt).toNat) := rfl
    exact W.lret (v := (lp_X2_fieldArea_6 fw fh so no dw ((no.toInt - so.toInt).toNat))) hx hb hr (fun t ht hW => ⟨⟨_, (), rfl, e2.symm, trivial⟩, hS.F ht⟩) hS.2.2 dX2_fieldArea_34
  have L1 : ∀ (n k : Nat) (acc : Int64), k ≤ (no.toInt - so.toInt).toNat → (no.toInt - so.toInt).toNat < k + n → acc = lp_X2_fieldArea_6 fw fh so no dw k → ∀ (H : Heap) (locs : List Loc), va_P D vwCl [(qm, .inr (2, [.ref qw, .ref qh])), (qw, .inl (cI, 10, .inl fw)), (qh, .inl (cI, 10, .inl fh))] H → va_S (fun _ : Nat => False) s.heap H locs → ∀ (ls : Array Slot), lv_has ls 7 [(0, .ref qm), (1, .int so), (2, .int no), (3, .int dw), (6, .int (so + nI k)), (4, .long acc)] → W p l e (headSpec wsX2_fieldArea rm_X2_fieldArea).room s m ([.ref qm, .int so, .int no, .int dw]).toArray below meth c H locs 0 0 (MQ below (Qc_X2_fieldArea D cI cZ cJ cD qm qw qh fw fh so no dw) ([.ref qm, .int so, .int no, .int dw]).toArray s 0 0 (fun _ : Nat => False)) (F0 m 6 ls []) := by
    intro n
    induction n with
    | zero =>
      intro k acc hk hf
      exact absurd hf (by omega)
    | succ n ih =>
      intro k acc hk hf hacc H locs hP hS ls hl
      subst hacc
      refine lv_iload hx hb dX2_fieldArea_6 (lv_at hl 4 rfl) ?_
      refine lv_iload_n hx hb dX2_fieldArea_8 rfl (lv_at hl 2 rfl) ?_
      refine lv_icmp_ge (tgt := 32) hx hb dX2_fieldArea_9 (by decide) (fun c3 => ?_) (fun c3 => ?_)
      · have hge : (no.toInt - so.toInt).toNat ≤ k := z_fge h1 h2 h3 hk c3
        have ek : k = (no.toInt - so.toInt).toNat := by omega
        subst ek
        exact X1 _ _ hP hS _ (lv_sub hl [0, 1, 2, 3, 5] rfl)
      · refine lv_lload hx hb dX2_fieldArea_12 (lv_at hl 5 rfl) ?_
        refine lv_iload_n hx hb dX2_fieldArea_14 rfl (lv_at hl 3 rfl) ?_
        refine lv_i2l hx hb dX2_fieldArea_15 rfl ?_
        refine lv_aload_n hx hb dX2_fieldArea_16 rfl (lv_at hl 0 rfl) ?_
        refine lv_iload hx hb dX2_fieldArea_17 (lv_at hl 4 rfl) ?_
        refine va_calll (va_runV (As := [.int (so + nI k)]) (rest := [.long dw.toInt64, .long (lp_X2_fieldArea_6 fw fh so no dw k)]) ⟨hx, hb, hml, hown, hts⟩ (c_X2_cellArea l D cI cZ cJ cD qm qw qh fw fh (so + nI k) ) (cwV 1 hts gX2_fieldArea_X2_cellArea rfl rfl rfl (by decide +kernel) ⟨Nat.le_of_ble_eq_true rfl, Nat.le_of_ble_eq_true rfl⟩) ⟨zblind, va_recv hK hP (ci := 2) (q0 := 0) rfl rfl, (fun U hU hW => ⟨rfl, by rw [hU]; exact hP.sub (ws' := [(qm, .inr (2, [.ref qw, .ref qh])), (qw, .inl (cI, 10, .inl fw)), (qh, .inl (cI, 10, .inl fh))]) [0, 1, 2] rfl, va_K.moved hW.alike hK⟩)⟩ rfl rfl hl.1 rfl (lv_room (Nat.le_of_ble_eq_true rfl)) dX2_fieldArea_19 ⟨Nat.le_of_ble_eq_true rfl, Nat.le_of_ble_eq_true rfl⟩) hS (fun q _ h => h.elim) (fun q h => h.elim) (fun r4 u t H locs ht hvm hw hB hz1 hk1 hS => ?_)
        rw [hw]
        have hP := zk hP hk1
        refine lv_lmul hx hb dX2_fieldArea_22 ?_
        refine lv_ladd hx hb dX2_fieldArea_23 ?_
        refine lv_lstore (lv' := [(4, .long ((lp_X2_fieldArea_6 fw fh so no dw k) + (dw.toInt64 * (s_X2_cellArea fw fh (so + nI k))))), (0, .ref qm), (1, .int so), (2, .int no), (3, .int dw), (6, .int (so + nI k))]) hx hb dX2_fieldArea_24 hl (by decide) rfl (fun ls hl => ?_)
        refine lv_iinc (v := so + nI (k + 1)) (lv' := [(6, .int (so + nI (k + 1))), (4, .long ((lp_X2_fieldArea_6 fw fh so no dw k) + (dw.toInt64 * (s_X2_cellArea fw fh (so + nI k))))), (0, .ref qm), (1, .int so), (2, .int no), (3, .int dw)]) hx hb dX2_fieldArea_26 hl (k := 5) rfl (z_adds so k) (by decide) rfl (fun ls hl => ?_)
        refine lv_goto (tgt := 6) hx hb dX2_fieldArea_29 (by decide) ?_
        have hlt : k < (no.toInt - so.toInt).toNat := z_flt h1 h2 h3 hk c3
        exact ih (k + 1) _ (by omega) (by omega) rfl _ _ hP hS _ (lv_sub hl [2, 3, 4, 5, 0, 1] rfl)
  exact L1 ((no.toInt - so.toInt).toNat + 1) 0 _ (Nat.zero_le _) (by omega) rfl _ _ hP hS _ (zlv (lv_sub (l' := [(0, .ref qm), (1, .int so), (2, .int no), (3, .int dw), (6, .int so), (4, .long 0)]) hl [2, 3, 4, 5, 0, 1] rfl) (by rw [z_add0]; first | done | rfl))
def lp_gna (fw fh : Nat → Int32) (h : Int32) : Nat → Nat → Int32
  | 0, k => 90 - nI k
  | n + 1, k => if s_X2_tenHeights fw fh (90 - nI k) ≤ h then 90 - nI k else lp_gna fw fh h n (k + 1)
theorem z_gna0 {fw fh : Nat → Int32} {h : Int32} {k : Nat} (hk : k ≤ 181) (c : 90 - nI k < -90) (hr : lp_gna fw fh h (181 - k) k = lp_gna fw fh h 181 0) : 90 - nI k = lp_gna fw fh h 181 0 := by
  rw [Int32.lt_iff_toInt_lt, z_s90 hk] at c
  have e2 : (-90 : Int32).toInt = -90 := rfl
  have ek : k = 181 := by omega
  subst ek
  exact hr
theorem z_gnal {k : Nat} (hk : k ≤ 181) (c : ¬ 90 - nI k < -90) : k ≤ 180 := by
  rw [Int32.lt_iff_toInt_lt, z_s90 hk] at c
  have e2 : (-90 : Int32).toInt = -90 := rfl
  omega
theorem z_gna1 {fw fh : Nat → Int32} {h : Int32} {k : Nat} (hk : k ≤ 180) (c : s_X2_tenHeights fw fh (90 - nI k) ≤ h) (hr : lp_gna fw fh h (181 - k) k = lp_gna fw fh h 181 0) : 90 - nI k = lp_gna fw fh h 181 0 := by
  rw [show 181 - k = (180 - k) + 1 by omega] at hr
  exact (if_pos c).symm.trans hr
theorem z_gna2 {fw fh : Nat → Int32} {h : Int32} {k : Nat} (hk : k ≤ 180) (c : ¬ s_X2_tenHeights fw fh (90 - nI k) ≤ h) (hr : lp_gna fw fh h (181 - k) k = lp_gna fw fh h 181 0) : lp_gna fw fh h (181 - (k + 1)) (k + 1) = lp_gna fw fh h 181 0 := by
  rw [show 181 - k = (180 - k) + 1 by omega] at hr
  rw [show 181 - (k + 1) = 180 - k by omega]
  exact (if_neg c).symm.trans hr
def s_X2_greatestNotAbove (fw : Nat → Int32) (fh : Nat → Int32) (hgt : Int32) : Int32 := lp_gna fw fh hgt 181 0
abbrev rm_X2_greatestNotAbove : Room := { frames := 3, cells := 0, slots := 0, locals := 66 }
abbrev Qc_X2_greatestNotAbove (D : va_G) (cI cZ cJ cD : ClassId) (qm : Nat) (qw : Nat) (qh : Nat) (fw : Nat → Int32) (fh : Nat → Int32) (hgt : Int32) : Array Value → State → Outcome → State → Prop := va_Qi (fun (r : Int32) (_ : Unit) => r = s_X2_greatestNotAbove fw fh hgt) (fun _ _ => True) (fun _ : Nat => False)
set_option maxHeartbeats 4000000 in
set_option maxRecDepth 100000 in
theorem c_X2_greatestNotAbove (l : Launch) (D : va_G) (cI cZ cJ cD : ClassId) (qm : Nat) (qw : Nat) (qh : Nat) (fw : Nat → Int32) (fh : Nat → Int32) (hgt : Int32)  : Met l yX2_greatestNotAbove wsX2_greatestNotAbove rm_X2_greatestNotAbove (va_Pc [.ref qm, .int hgt] (zPre D cI cZ cJ cD [(qm, .inr (2, [.ref qw, .ref qh])), (qw, .inl (cI, 10, .inl fw)), (qh, .inl (cI, 10, .inl fh))])) (Qc_X2_greatestNotAbove D cI cZ cJ cD qm qw qh fw fh hgt ) 0 0 (fun _ : Nat => False) := by
  refine Met.ofW (cc := cX2_greatestNotAbove) (maxL := 3) (ret := (some .int)) (by decide) rfl ?_
  intro p e s m args below meth c s₁ B hml hv
  obtain ⟨rfl, hP, hK⟩ := hv
  have hx := B.exec
  have hb := B.bytes
  have hr := B.returns
  have hts := atoms_spec (ws := wsX2_greatestNotAbove) B.pre
  have hown : s.vm.findClass RX2 = some m.cls := findClass_of_methodNamed B.named
  have hlocks := B.notSynchronized
  have hS : va_S (fun _ : Nat => False) s.heap s.heap [] := va_S.rf
  have hl := lv_entry ([.ref qm, .int hgt]) (n := 3) (Nat.le_of_ble_eq_true rfl)
  rw [lg_entry_eq]
  generalize (lg_sl ([.ref qm, .int hgt]) ++ List.replicate (3 - (lg_sl ([.ref qm, .int hgt])).length) Slot.unset).toArray = ls at hl ⊢
  have hl : lv_has ls 3 [(0, .ref qm), (1, .int hgt)] := hl
  have hP : va_P D vwCl [(qm, .inr (2, [.ref qw, .ref qh])), (qw, .inl (cI, 10, .inl fw)), (qh, .inl (cI, 10, .inl fh))] s.heap := hP
  have hP := hP
  refine lv_bipush (v := 90) hx hb dX2_greatestNotAbove_0 (by decide) ?_
  refine lv_istore_n (lv' := [(2, .int 90), (0, .ref qm), (1, .int hgt)]) hx hb dX2_greatestNotAbove_2 rfl hl (by decide) rfl (fun ls hl => ?_)
  have X1 : ∀ (H : Heap) (locs : List Loc), va_P D vwCl [(qm, .inr (2, [.ref qw, .ref qh])), (qw, .inl (cI, 10, .inl fw)), (qh, .inl (cI, 10, .inl fh))] H → va_S (fun _ : Nat => False) s.heap H locs → ∀ (ls : Array Slot), lv_has ls 3 [(2, .int (lp_gna fw fh hgt 181 0)), (0, .ref qm), (1, .int hgt)] → W p l e (headSpec wsX2_greatestNotAbove rm_X2_greatestNotAbove).room s m ([.ref qm, .int hgt]).toArray below meth c H locs 0 0 (MQ below (Qc_X2_greatestNotAbove D cI cZ cJ cD qm qw qh fw fh hgt) ([.ref qm, .int hgt]).toArray s 0 0 (fun _ : Nat => False)) (F0 m 24 ls []) := by
    intro  H locs hP hS ls hl
    refine lv_iload_n hx hb dX2_greatestNotAbove_24 rfl (lv_at hl 0 rfl) ?_
    have e2 : s_X2_greatestNotAbove fw fh hgt = lp_gna fw fh hgt 181 0 := rfl
    exact W.iret (v := (lp_gna fw fh hgt 181 0)) hx hb hr (fun t ht hW => ⟨⟨_, (), rfl, e2.symm, trivial⟩, hS.F ht⟩) hS.2.2 dX2_greatestNotAbove_25
  have L1 : ∀ (n1 : Nat) (k : Nat), (k ≤ 181) → (lp_gna fw fh hgt (181 - k) k = lp_gna fw fh hgt 181 0) → (181 < k + n1) → ∀ (H : Heap) (locs : List Loc), va_P D vwCl [(qm, .inr (2, [.ref qw, .ref qh])), (qw, .inl (cI, 10, .inl fw)), (qh, .inl (cI, 10, .inl fh))] H → va_S (fun _ : Nat => False) s.heap H locs → ∀ (ls : Array Slot), lv_has ls 3 [(2, .int (90 - nI k)), (0, .ref qm), (1, .int hgt)] → W p l e (headSpec wsX2_greatestNotAbove rm_X2_greatestNotAbove).room s m ([.ref qm, .int hgt]).toArray below meth c H locs 0 0 (MQ below (Qc_X2_greatestNotAbove D cI cZ cJ cD qm qw qh fw fh hgt) ([.ref qm, .int hgt]).toArray s 0 0 (fun _ : Nat => False)) (F0 m 3 ls []) := by
    intro n1
    induction n1 with
    | zero =>
      intro k hk hr hf1
      exact absurd hf1 (by omega)
    | succ n1 ih1 =>
      intro k hk hr hf1 H locs hP hS ls hl
      refine lv_iload_n hx hb dX2_greatestNotAbove_3 rfl (lv_at hl 0 rfl) ?_
      refine lv_bipush (v := (-90)) hx hb dX2_greatestNotAbove_4 (by decide) ?_
      refine lv_icmp_lt (tgt := 24) hx hb dX2_greatestNotAbove_6 (by decide) (fun c3 => ?_) (fun c3 => ?_)
      · have eg := z_gna0 hk c3 hr
        exact X1  _ _ hP hS _ (zlv (lv_sub (l' := [(2, .int (90 - nI k)), (0, .ref qm), (1, .int hgt)]) hl [0, 1, 2] rfl) (by rw [eg]))
      · refine lv_aload_n hx hb dX2_greatestNotAbove_9 rfl (lv_at hl 1 rfl) ?_
        refine lv_iload_n hx hb dX2_greatestNotAbove_10 rfl (lv_at hl 0 rfl) ?_
        refine va_calli (va_runV (As := [.int (90 - nI k)]) (rest := []) ⟨hx, hb, hml, hown, hts⟩ (c_X2_tenHeights l D cI cZ cJ cD qm qw qh fw fh (90 - nI k) ) (cwV 1 hts gX2_greatestNotAbove_X2_tenHeights rfl rfl rfl (by decide +kernel) ⟨Nat.le_of_ble_eq_true rfl, Nat.le_of_ble_eq_true rfl⟩) ⟨zblind, va_recv hK hP (ci := 2) (q0 := 0) rfl rfl, (fun U hU hW => ⟨rfl, by rw [hU]; exact hP.sub (ws' := [(qm, .inr (2, [.ref qw, .ref qh])), (qw, .inl (cI, 10, .inl fw)), (qh, .inl (cI, 10, .inl fh))]) [0, 1, 2] rfl, va_K.moved hW.alike hK⟩)⟩ rfl rfl hl.1 rfl (lv_room (Nat.le_of_ble_eq_true rfl)) dX2_greatestNotAbove_11 ⟨Nat.le_of_ble_eq_true rfl, Nat.le_of_ble_eq_true rfl⟩) hS (fun q _ h => h.elim) (fun q h => h.elim) (fun r4 u t H locs ht hvm hw hB hz1 hk1 hS => ?_)
        rw [hw]
        have hP := zk hP hk1
        refine lv_iload_n hx hb dX2_greatestNotAbove_14 rfl (lv_at hl 2 rfl) ?_
        refine lv_icmp_le (tgt := 24) hx hb dX2_greatestNotAbove_15 (by decide) (fun c5 => ?_) (fun c5 => ?_)
        · have eg := z_gna1 (z_gnal hk c3) c5 hr
          exact X1  _ _ hP hS _ (zlv (lv_sub (l' := [(2, .int (90 - nI k)), (0, .ref qm), (1, .int hgt)]) hl [0, 1, 2] rfl) (by rw [eg]))
        · refine lv_iinc (v := 90 - nI (k + 1)) (lv' := [(2, .int (90 - nI (k + 1))), (0, .ref qm), (1, .int hgt)]) hx hb dX2_greatestNotAbove_18 hl (k := 0) rfl (z_dec k) (by decide) rfl (fun ls hl => ?_)
          refine lv_goto (tgt := 3) hx hb dX2_greatestNotAbove_21 (by decide) ?_
          have hk8 := z_gnal hk c3
          exact ih1 (k + 1) (by omega) (z_gna2 hk8 c5 hr) (by omega) _ _ hP hS _ (lv_sub hl [0, 1, 2] rfl)
  exact L1 182 0 (by omega) rfl (by omega) _ _ hP hS _ (zlv (lv_sub (l' := [(2, .int 90), (0, .ref qm), (1, .int hgt)]) hl [0, 1, 2] rfl) (by rfl))
def s_X0_areAllAlike (ft : Nat → Int32) (fw : Nat → Int32) (fh : Nat → Int32) : Int32 := (if (∀ j : Nat, j < 8 → s_X0_compareBands ft fw fh (nI (j + 1)) 0 = 0) then 1 else 0)
abbrev rm_X0_areAllAlike : Room := { frames := 3, cells := 0, slots := 0, locals := 69 }
abbrev Qc_X0_areAllAlike (D : va_G) (cI cZ cJ cD : ClassId) (qb : Nat) (qt : Nat) (ft : Nat → Int32) (qm : Nat) (qw : Nat) (qh : Nat) (fw : Nat → Int32) (fh : Nat → Int32) : Array Value → State → Outcome → State → Prop := va_Qi (fun (r : Int32) (_ : Unit) => r = s_X0_areAllAlike ft fw fh) (fun _ _ => True) (fun _ : Nat => False)
set_option maxHeartbeats 4000000 in
set_option maxRecDepth 100000 in
theorem c_X0_areAllAlike (l : Launch) (D : va_G) (cI cZ cJ cD : ClassId) (qb : Nat) (qt : Nat) (ft : Nat → Int32) (qm : Nat) (qw : Nat) (qh : Nat) (fw : Nat → Int32) (fh : Nat → Int32)  : Met l yX0_areAllAlike wsX0_areAllAlike rm_X0_areAllAlike (va_Pc [.ref qb, .ref qm] (zPre D cI cZ cJ cD [(qb, .inr (0, [.ref qt])), (qt, .inl (cI, 9, .inl ft)), (qm, .inr (2, [.ref qw, .ref qh])), (qw, .inl (cI, 10, .inl fw)), (qh, .inl (cI, 10, .inl fh))])) (Qc_X0_areAllAlike D cI cZ cJ cD qb qt ft qm qw qh fw fh ) 0 0 (fun _ : Nat => False) := by
  refine Met.ofW (cc := cX0_areAllAlike) (maxL := 3) (ret := (some .boolean)) (by decide) rfl ?_
  intro p e s m args below meth c s₁ B hml hv
  obtain ⟨rfl, hP, hK⟩ := hv
  have hx := B.exec
  have hb := B.bytes
  have hr := B.returns
  have hts := atoms_spec (ws := wsX0_areAllAlike) B.pre
  have hown : s.vm.findClass RX0 = some m.cls := findClass_of_methodNamed B.named
  have hlocks := B.notSynchronized
  have hS : va_S (fun _ : Nat => False) s.heap s.heap [] := va_S.rf
  have hl := lv_entry ([.ref qb, .ref qm]) (n := 3) (Nat.le_of_ble_eq_true rfl)
  rw [lg_entry_eq]
  generalize (lg_sl ([.ref qb, .ref qm]) ++ List.replicate (3 - (lg_sl ([.ref qb, .ref qm])).length) Slot.unset).toArray = ls at hl ⊢
  have hl : lv_has ls 3 [(0, .ref qb), (1, .ref qm)] := hl
  have hP : va_P D vwCl [(qb, .inr (0, [.ref qt])), (qt, .inl (cI, 9, .inl ft)), (qm, .inr (2, [.ref qw, .ref qh])), (qw, .inl (cI, 10, .inl fw)), (qh, .inl (cI, 10, .inl fh))] s.heap := hP
  have hP := hP
  refine lv_iconst (v := 1) hx hb dX0_areAllAlike_0 (by decide) ?_
  refine lv_istore_n (lv' := [(2, .int 1), (0, .ref qb), (1, .ref qm)]) hx hb dX0_areAllAlike_1 rfl hl (by decide) rfl (fun ls hl => ?_)
  have X1 : (∀ j : Nat, j < 8 → s_X0_compareBands ft fw fh (nI (j + 1)) 0 = 0) → ∀ (H : Heap) (locs : List Loc), va_P D vwCl [(qb, .inr (0, [.ref qt])), (qt, .inl (cI, 9, .inl ft)), (qm, .inr (2, [.ref qw, .ref qh])), (qw, .inl (cI, 10, .inl fw)), (qh, .inl (cI, 10, .inl fh))] H → va_S (fun _ : Nat => False) s.heap H locs → ∀ (ls : Array Slot), lv_has ls 3 [(0, .ref qb), (1, .ref qm)] → W p l e (headSpec wsX0_areAllAlike rm_X0_areAllAlike).room s m ([.ref qb, .ref qm]).toArray below meth c H locs 0 0 (MQ below (Qc_X0_areAllAlike D cI cZ cJ cD qb qt ft qm qw qh fw fh) ([.ref qb, .ref qm]).toArray s 0 0 (fun _ : Nat => False)) (F0 m 26 ls []) := by
    intro hal8 H locs hP hS ls hl
    refine lv_iconst (v := 1) hx hb dX0_areAllAlike_26 (by decide) ?_
    exact W.zret (v := 1) hx hb hr (z_b (by (repeat' split) <;> simp)) (fun t ht hW => ⟨⟨_, (), rfl, (if_pos hal8).symm, trivial⟩, hS.F ht⟩) hS.2.2 dX0_areAllAlike_27
  have L1 : ∀ (n1 : Nat) (k : Nat), (k ≤ 8) → (∀ j : Nat, j < k → s_X0_compareBands ft fw fh (nI (j + 1)) 0 = 0) → (8 < k + n1) → ∀ (H : Heap) (locs : List Loc), va_P D vwCl [(qb, .inr (0, [.ref qt])), (qt, .inl (cI, 9, .inl ft)), (qm, .inr (2, [.ref qw, .ref qh])), (qw, .inl (cI, 10, .inl fw)), (qh, .inl (cI, 10, .inl fh))] H → va_S (fun _ : Nat => False) s.heap H locs → ∀ (ls : Array Slot), lv_has ls 3 [(2, .int (nI (k + 1))), (0, .ref qb), (1, .ref qm)] → W p l e (headSpec wsX0_areAllAlike rm_X0_areAllAlike).room s m ([.ref qb, .ref qm]).toArray below meth c H locs 0 0 (MQ below (Qc_X0_areAllAlike D cI cZ cJ cD qb qt ft qm qw qh fw fh) ([.ref qb, .ref qm]).toArray s 0 0 (fun _ : Nat => False)) (F0 m 2 ls []) := by
    intro n1
    induction n1 with
    | zero =>
      intro k hk hall hf1
      exact absurd hf1 (by omega)
    | succ n1 ih1 =>
      intro k hk hall hf1 H locs hP hS ls hl
      refine lv_iload_n hx hb dX0_areAllAlike_2 rfl (lv_at hl 0 rfl) ?_
      refine lv_bipush (v := 9) hx hb dX0_areAllAlike_3 (by decide) ?_
      refine lv_icmp_ge (tgt := 26) hx hb dX0_areAllAlike_5 (by decide) (fun c2 => ?_) (fun c2 => ?_)
      · have hge0 : 8 ≤ k := (by have := (nI_leI (a := 9) (b := k + 1) (by omega) (by omega)).mp c2; omega)
        exact X1 (fun j hj => hall j (by omega)) _ _ hP hS _ (lv_sub hl [1, 2] rfl)
      · refine lv_aload_n hx hb dX0_areAllAlike_8 rfl (lv_at hl 1 rfl) ?_
        refine lv_aload_n hx hb dX0_areAllAlike_9 rfl (lv_at hl 2 rfl) ?_
        refine lv_iload_n hx hb dX0_areAllAlike_10 rfl (lv_at hl 0 rfl) ?_
        refine lv_iconst (v := 0) hx hb dX0_areAllAlike_11 (by decide) ?_
        refine va_calli (va_runV (As := [.ref qm, .int (nI (k + 1)), .int 0]) (rest := []) ⟨hx, hb, hml, hown, hts⟩ (c_X0_compareBands l D cI cZ cJ cD qb qt ft qm qw qh fw fh (nI (k + 1)) 0 ) (cwV 3 hts gX0_areAllAlike_X0_compareBands rfl rfl rfl (by decide +kernel) ⟨Nat.le_of_ble_eq_true rfl, Nat.le_of_ble_eq_true rfl⟩) ⟨zblind, va_recv hK hP (ci := 0) (q0 := 0) rfl rfl, (fun U hU hW => ⟨rfl, by rw [hU]; exact hP.sub (ws' := [(qb, .inr (0, [.ref qt])), (qt, .inl (cI, 9, .inl ft)), (qm, .inr (2, [.ref qw, .ref qh])), (qw, .inl (cI, 10, .inl fw)), (qh, .inl (cI, 10, .inl fh))]) [0, 1, 2, 3, 4] rfl, va_K.moved hW.alike hK⟩)⟩ rfl rfl hl.1 rfl (lv_room (Nat.le_of_ble_eq_true rfl)) dX0_areAllAlike_12 ⟨Nat.le_of_ble_eq_true rfl, Nat.le_of_ble_eq_true rfl⟩) hS (fun q _ h => h.elim) (fun q h => h.elim) (fun r3 u t H locs ht hvm hw hB hz1 hk1 hS => ?_)
        rw [hw]
        have hP := zk hP hk1
        refine lv_if_eq (tgt := 20) hx hb dX0_areAllAlike_15 (by decide) (fun c4 => ?_) (fun c4 => ?_)
        · refine lv_iinc (v := nI (k + 1 + 1)) (lv' := [(2, .int (nI (k + 1 + 1))), (0, .ref qb), (1, .ref qm)]) hx hb dX0_areAllAlike_20 hl (k := 0) rfl (nI_succ (k + 1)).symm (by decide) rfl (fun ls hl => ?_)
          refine lv_goto (tgt := 2) hx hb dX0_areAllAlike_23 (by decide) ?_
          have hlt0 : k + 1 ≤ 8 := ((Nat.lt_or_ge (k + 1) 9).elim (fun q => by omega) (fun q => absurd (nI_le (a := 9) (b := k + 1) q (by omega)) c2))
          exact ih1 (k + 1) hlt0 (fun j hj => (Nat.lt_succ_iff_lt_or_eq.mp hj).elim (hall j) (fun e => e ▸ c4)) (by omega) _ _ hP hS _ (lv_sub hl [0, 1, 2] rfl)
        · refine lv_iconst (v := 0) hx hb dX0_areAllAlike_18 (by decide) ?_
          exact W.zret (v := 0) hx hb hr (z_b (by (repeat' split) <;> simp)) (fun t ht hW => ⟨⟨_, (), rfl, (if_neg (fun hh => c4 (hh k (((Nat.lt_or_ge (k + 1) 9).elim (fun q => by omega) (fun q => absurd (nI_le (a := 9) (b := k + 1) q (by omega)) c2)))))).symm, trivial⟩, hS.F ht⟩) hS.2.2 dX0_areAllAlike_19
  exact L1 9 0 (by omega) (fun j hj => absurd hj (by omega)) (by omega) _ _ hP hS _ (zlv (lv_sub (l' := [(2, .int 1), (0, .ref qb), (1, .ref qm)]) hl [0, 1, 2] rfl) (by rfl))
theorem z_num {nC nR : Nat} {nf co ro : Int32} (hN : nC * nR ≤ 36) (hC : nC ≤ 36) (hR : nR ≤ 36) (h : ¬ s_X1_hasPanel nC nR nf co ro = 0) : ∃ c r : Nat, c < nC ∧ r < nR ∧ co = nI c ∧ ro = nI r ∧ c * nR + r < nC * nR ∧ s_X1_number nC nR nf co ro = nI (c * nR + r) := by
  unfold s_X1_hasPanel at h
  by_cases c1 : co < 0
  · exact absurd (if_pos c1) h
  rw [if_neg c1] at h
  by_cases c2 : nI nC ≤ co
  · exact absurd (if_pos c2) h
  rw [if_neg c2] at h
  by_cases c3 : ro < 0
  · exact absurd (if_pos c3) h
  rw [if_neg c3] at h
  by_cases c4 : nI nR ≤ ro
  · exact absurd (if_pos c4) h
  obtain ⟨c, hc, ec⟩ := vp_in_of (z_in (nI_toInt (by omega)) c1 c2) (by omega)
  obtain ⟨r, hr, er⟩ := vp_in_of (z_in (nI_toInt (by omega)) c3 c4) (by omega)
  refine ⟨c, r, hc, hr, ec, er, ?_, ?_⟩
  · have : (c + 1) * nR ≤ nC * nR := Nat.mul_le_mul_right nR hc
    rw [Nat.succ_mul] at this
    omega
  · unfold s_X1_number
    rw [ec, er, pk_mul, nI_add]
theorem z_numin {nC nR : Nat} {nf co ro : Int32} (hN : nC * nR ≤ 36) (hC : nC ≤ 36) (hR : nR ≤ 36) (h : ¬ s_X1_hasPanel nC nR nf co ro = 0) : vp_in (s_X1_number nC nR nf co ro) 36 := by
  obtain ⟨c, r, -, -, -, -, h1, h2⟩ := z_num hN hC hR h
  rw [h2]
  exact vp_in_nI (by omega) (by omega)
def s_X1_columnPlace (nC : Nat) (nR : Nat) (nf : Int32) (fx : Nat → Int32) (co : Int32) (ro : Int32) : Int32 := (if (s_X1_hasPanel nC nR nf co ro) = 0 then 0 else fx (s_X1_number nC nR nf co ro).toNatClampNeg)
abbrev rm_X1_columnPlace : Room := { frames := 1, cells := 0, slots := 0, locals := 22 }
abbrev Qc_X1_columnPlace (D : va_G) (cI cZ cJ cD : ClassId) (qf : Nat) (qx : Nat) (qy : Nat) (qz : Nat) (qu : Nat) (nC : Nat) (nR : Nat) (nf : Int32) (fx : Nat → Int32) (co : Int32) (ro : Int32) : Array Value → State → Outcome → State → Prop := va_Qi (fun (r : Int32) (_ : Unit) => r = s_X1_columnPlace nC nR nf fx co ro) (fun _ _ => True) (fun _ : Nat => False)
set_option maxHeartbeats 4000000 in
set_option maxRecDepth 100000 in
theorem c_X1_columnPlace (l : Launch) (D : va_G) (cI cZ cJ cD : ClassId) (qf : Nat) (qx : Nat) (qy : Nat) (qz : Nat) (qu : Nat) (nC : Nat) (nR : Nat) (nf : Int32) (fx : Nat → Int32) (co : Int32) (ro : Int32) (hN : nC * nR ≤ 36) (hC : nC ≤ 36) (hR : nR ≤ 36) : Met l yX1_columnPlace wsX1_columnPlace rm_X1_columnPlace (va_Pc [.ref qf, .int co, .int ro] (zPre D cI cZ cJ cD [(qf, .inr (1, [.ref qx, .ref qy, .ref qz, .ref qu, .int (nI nC), .int (nI nR), .int nf])), (qx, .inl (cI, 36, .inl fx))])) (Qc_X1_columnPlace D cI cZ cJ cD qf qx qy qz qu nC nR nf fx co ro ) 0 0 (fun _ : Nat => False) := by
  refine Met.ofW (cc := cX1_columnPlace) (maxL := 3) (ret := (some .int)) (by decide) rfl ?_
  intro p e s m args below meth c s₁ B hml hv
  obtain ⟨rfl, hP, hK⟩ := hv
  have hx := B.exec
  have hb := B.bytes
  have hr := B.returns
  have hts := atoms_spec (ws := wsX1_columnPlace) B.pre
  have hown : s.vm.findClass RX1 = some m.cls := findClass_of_methodNamed B.named
  have hlocks := B.notSynchronized
  have hS : va_S (fun _ : Nat => False) s.heap s.heap [] := va_S.rf
  have hl := lv_entry ([.ref qf, .int co, .int ro]) (n := 3) (Nat.le_of_ble_eq_true rfl)
  rw [lg_entry_eq]
  generalize (lg_sl ([.ref qf, .int co, .int ro]) ++ List.replicate (3 - (lg_sl ([.ref qf, .int co, .int ro])).length) Slot.unset).toArray = ls at hl ⊢
  have hl : lv_has ls 3 [(0, .ref qf), (1, .int co), (2, .int ro)] := hl
  have hP : va_P D vwCl [(qf, .inr (1, [.ref qx, .ref qy, .ref qz, .ref qu, .int (nI nC), .int (nI nR), .int nf])), (qx, .inl (cI, 36, .inl fx))] s.heap := hP
  have hP := hP
  refine lv_aload_n hx hb dX1_columnPlace_0 rfl (lv_at hl 0 rfl) ?_
  refine lv_iload_n hx hb dX1_columnPlace_1 rfl (lv_at hl 1 rfl) ?_
  refine lv_iload_n hx hb dX1_columnPlace_2 rfl (lv_at hl 2 rfl) ?_
  refine va_calli (va_runV (As := [.int co, .int ro]) (rest := []) ⟨hx, hb, hml, hown, hts⟩ (c_X1_hasPanel l D cI cZ cJ cD qf qx qy qz qu nC nR nf co ro ) (cwV 2 hts gX1_columnPlace_X1_hasPanel rfl rfl rfl (by decide +kernel) ⟨Nat.le_of_ble_eq_true rfl, Nat.le_of_ble_eq_true rfl⟩) ⟨zblind, va_recv hK hP (ci := 1) (q0 := 0) rfl rfl, (fun U hU hW => ⟨rfl, by rw [hU]; exact hP.sub (ws' := [(qf, .inr (1, [.ref qx, .ref qy, .ref qz, .ref qu, .int (nI nC), .int (nI nR), .int nf]))]) [0] rfl, va_K.moved hW.alike hK⟩)⟩ rfl rfl hl.1 rfl (lv_room (Nat.le_of_ble_eq_true rfl)) dX1_columnPlace_3 ⟨Nat.le_of_ble_eq_true rfl, Nat.le_of_ble_eq_true rfl⟩) hS (fun q _ h => h.elim) (fun q h => h.elim) (fun r6 u t H locs ht hvm hw hB hz1 hk1 hS => ?_)
  rw [hw]
  have hP := zk hP hk1
  have K8 : ∀ v8_0 : Int32, v8_0 = (if (s_X1_hasPanel nC nR nf co ro) = 0 then 0 else fx (s_X1_number nC nR nf co ro).toNatClampNeg) → ∀ (H : Heap) (locs : List Loc), va_P D vwCl [(qf, .inr (1, [.ref qx, .ref qy, .ref qz, .ref qu, .int (nI nC), .int (nI nR), .int nf])), (qx, .inl (cI, 36, .inl fx))] H → va_S (fun _ : Nat => False) s.heap H locs → ∀ (ls : Array Slot), lv_has ls 3 [(0, .ref qf), (1, .int co), (2, .int ro)] → W p l e (headSpec wsX1_columnPlace rm_X1_columnPlace).room s m ([.ref qf, .int co, .int ro]).toArray below meth c H locs 0 0 (MQ below (Qc_X1_columnPlace D cI cZ cJ cD qf qx qy qz qu nC nR nf fx co ro) ([.ref qf, .int co, .int ro]).toArray s 0 0 (fun _ : Nat => False)) (F0 m 24 ls [.int v8_0]) := by
    intro v8_0 hv8_0 H locs hP hS ls hl
    subst hv8_0
    have e9 : s_X1_columnPlace nC nR nf fx co ro = (if (s_X1_hasPanel nC nR nf co ro) = 0 then 0 else fx (s_X1_number nC nR nf co ro).toNatClampNeg) := rfl
    exact W.iret (v := (if (s_X1_hasPanel nC nR nf co ro) = 0 then 0 else fx (s_X1_number nC nR nf co ro).toNatClampNeg)) hx hb hr (fun t ht hW => ⟨⟨_, (), rfl, e9.symm, trivial⟩, hS.F ht⟩) hS.2.2 dX1_columnPlace_24
  refine lv_if_eq (tgt := 23) hx hb dX1_columnPlace_6 (by decide) (fun c10 => ?_) (fun c10 => ?_)
  · refine lv_iconst (v := 0) hx hb dX1_columnPlace_23 (by decide) ?_
    exact K8 _ (if_pos c10).symm _ _ hP hS _ (lv_sub hl [0, 1, 2] rfl)
  · refine lv_aload_n hx hb dX1_columnPlace_9 rfl (lv_at hl 0 rfl) ?_
    refine va_get (D := D) (ci := 1) (v := .ref qx) (C := RX1) (T := TX1) (N := 7) hx hb hts (fun w h => List.mem_cons_of_mem _ (List.mem_append_right _ h)) hown hK hP 0 rfl rfl 0 (by decide) (hts (.fieldLink RX1 9 "AtlasFolder$FoldedSheet" "columnPlaces" "[I") (List.mem_cons_of_mem _ (List.mem_append_left _ (List.mem_of_getElem? (i := 0) rfl)))) (fun _ h9 => h9) rfl dX1_columnPlace_10 ?_
    refine lv_aload_n hx hb dX1_columnPlace_13 rfl (lv_at hl 0 rfl) ?_
    refine lv_iload_n hx hb dX1_columnPlace_14 rfl (lv_at hl 1 rfl) ?_
    refine lv_iload_n hx hb dX1_columnPlace_15 rfl (lv_at hl 2 rfl) ?_
    refine va_calli (va_runV (As := [.int co, .int ro]) (rest := [.ref qx]) ⟨hx, hb, hml, hown, hts⟩ (c_X1_number l D cI cZ cJ cD qf qx qy qz qu nC nR nf co ro ) (cwV 2 hts gX1_columnPlace_X1_number rfl rfl rfl (by decide +kernel) ⟨Nat.le_of_ble_eq_true rfl, Nat.le_of_ble_eq_true rfl⟩) ⟨zblind, va_recv hK hP (ci := 1) (q0 := 0) rfl rfl, (fun U hU hW => ⟨rfl, by rw [hU]; exact hP.sub (ws' := [(qf, .inr (1, [.ref qx, .ref qy, .ref qz, .ref qu, .int (nI nC), .int (nI nR), .int nf]))]) [0] rfl, va_K.moved hW.alike hK⟩)⟩ rfl rfl hl.1 rfl (lv_room (Nat.le_of_ble_eq_true rfl)) dX1_columnPlace_16 ⟨Nat.le_of_ble_eq_true rfl, Nat.le_of_ble_eq_true rfl⟩) hS (fun q _ h => h.elim) (fun q h => h.elim) (fun r11 u t H locs ht hvm hw hB hz1 hk1 hS => ?_)
    rw [hw]
    have hP := zk hP hk1
    refine va_iald hx hb hK hP 1 0 rfl rfl (z_numin hN hC hR c10) dX1_columnPlace_19 ?_
    refine lv_goto (tgt := 24) hx hb dX1_columnPlace_20 (by decide) ?_
    exact K8 _ (if_neg c10).symm _ _ hP hS _ (lv_sub hl [0, 1, 2] rfl)
def s_X1_rowPlace (nC : Nat) (nR : Nat) (nf : Int32) (fy : Nat → Int32) (co : Int32) (ro : Int32) : Int32 := (if (s_X1_hasPanel nC nR nf co ro) = 0 then 0 else fy (s_X1_number nC nR nf co ro).toNatClampNeg)
abbrev rm_X1_rowPlace : Room := { frames := 1, cells := 0, slots := 0, locals := 22 }
abbrev Qc_X1_rowPlace (D : va_G) (cI cZ cJ cD : ClassId) (qf : Nat) (qx : Nat) (qy : Nat) (qz : Nat) (qu : Nat) (nC : Nat) (nR : Nat) (nf : Int32) (fy : Nat → Int32) (co : Int32) (ro : Int32) : Array Value → State → Outcome → State → Prop := va_Qi (fun (r : Int32) (_ : Unit) => r = s_X1_rowPlace nC nR nf fy co ro) (fun _ _ => True) (fun _ : Nat => False)
set_option maxHeartbeats 4000000 in
set_option maxRecDepth 100000 in
theorem c_X1_rowPlace (l : Launch) (D : va_G) (cI cZ cJ cD : ClassId) (qf : Nat) (qx : Nat) (qy : Nat) (qz : Nat) (qu : Nat) (nC : Nat) (nR : Nat) (nf : Int32) (fy : Nat → Int32) (co : Int32) (ro : Int32) (hN : nC * nR ≤ 36) (hC : nC ≤ 36) (hR : nR ≤ 36) : Met l yX1_rowPlace wsX1_rowPlace rm_X1_rowPlace (va_Pc [.ref qf, .int co, .int ro] (zPre D cI cZ cJ cD [(qf, .inr (1, [.ref qx, .ref qy, .ref qz, .ref qu, .int (nI nC), .int (nI nR), .int nf])), (qy, .inl (cI, 36, .inl fy))])) (Qc_X1_rowPlace D cI cZ cJ cD qf qx qy qz qu nC nR nf fy co ro ) 0 0 (fun _ : Nat => False) := by
  refine Met.ofW (cc := cX1_rowPlace) (maxL := 3) (ret := (some .int)) (by decide) rfl ?_
  intro p e s m args below meth c s₁ B hml hv
  obtain ⟨rfl, hP, hK⟩ := hv
  have hx := B.exec
  have hb := B.bytes
  have hr := B.returns
  have hts := atoms_spec (ws := wsX1_rowPlace) B.pre
  have hown : s.vm.findClass RX1 = some m.cls := findClass_of_methodNamed B.named
  have hlocks := B.notSynchronized
  have hS : va_S (fun _ : Nat => False) s.heap s.heap [] := va_S.rf
  have hl := lv_entry ([.ref qf, .int co, .int ro]) (n := 3) (Nat.le_of_ble_eq_true rfl)
  rw [lg_entry_eq]
  generalize (lg_sl ([.ref qf, .int co, .int ro]) ++ List.replicate (3 - (lg_sl ([.ref qf, .int co, .int ro])).length) Slot.unset).toArray = ls at hl ⊢
  have hl : lv_has ls 3 [(0, .ref qf), (1, .int co), (2, .int ro)] := hl
  have hP : va_P D vwCl [(qf, .inr (1, [.ref qx, .ref qy, .ref qz, .ref qu, .int (nI nC), .int (nI nR), .int nf])), (qy, .inl (cI, 36, .inl fy))] s.heap := hP
  have hP := hP
  refine lv_aload_n hx hb dX1_rowPlace_0 rfl (lv_at hl 0 rfl) ?_
  refine lv_iload_n hx hb dX1_rowPlace_1 rfl (lv_at hl 1 rfl) ?_
  refine lv_iload_n hx hb dX1_rowPlace_2 rfl (lv_at hl 2 rfl) ?_
  refine va_calli (va_runV (As := [.int co, .int ro]) (rest := []) ⟨hx, hb, hml, hown, hts⟩ (c_X1_hasPanel l D cI cZ cJ cD qf qx qy qz qu nC nR nf co ro ) (cwV 2 hts gX1_rowPlace_X1_hasPanel rfl rfl rfl (by decide +kernel) ⟨Nat.le_of_ble_eq_true rfl, Nat.le_of_ble_eq_true rfl⟩) ⟨zblind, va_recv hK hP (ci := 1) (q0 := 0) rfl rfl, (fun U hU hW => ⟨rfl, by rw [hU]; exact hP.sub (ws' := [(qf, .inr (1, [.ref qx, .ref qy, .ref qz, .ref qu, .int (nI nC), .int (nI nR), .int nf]))]) [0] rfl, va_K.moved hW.alike hK⟩)⟩ rfl rfl hl.1 rfl (lv_room (Nat.le_of_ble_eq_true rfl)) dX1_rowPlace_3 ⟨Nat.le_of_ble_eq_true rfl, Nat.le_of_ble_eq_true rfl⟩) hS (fun q _ h => h.elim) (fun q h => h.elim) (fun r6 u t H locs ht hvm hw hB hz1 hk1 hS => ?_)
  rw [hw]
  have hP := zk hP hk1
  have K8 : ∀ v8_0 : Int32, v8_0 = (if (s_X1_hasPanel nC nR nf co ro) = 0 then 0 else fy (s_X1_number nC nR nf co ro).toNatClampNeg) → ∀ (H : Heap) (locs : List Loc), va_P D vwCl [(qf, .inr (1, [.ref qx, .ref qy, .ref qz, .ref qu, .int (nI nC), .int (nI nR), .int nf])), (qy, .inl (cI, 36, .inl fy))] H → va_S (fun _ : Nat => False) s.heap H locs → ∀ (ls : Array Slot), lv_has ls 3 [(0, .ref qf), (1, .int co), (2, .int ro)] → W p l e (headSpec wsX1_rowPlace rm_X1_rowPlace).room s m ([.ref qf, .int co, .int ro]).toArray below meth c H locs 0 0 (MQ below (Qc_X1_rowPlace D cI cZ cJ cD qf qx qy qz qu nC nR nf fy co ro) ([.ref qf, .int co, .int ro]).toArray s 0 0 (fun _ : Nat => False)) (F0 m 24 ls [.int v8_0]) := by
    intro v8_0 hv8_0 H locs hP hS ls hl
    subst hv8_0
    have e9 : s_X1_rowPlace nC nR nf fy co ro = (if (s_X1_hasPanel nC nR nf co ro) = 0 then 0 else fy (s_X1_number nC nR nf co ro).toNatClampNeg) := rfl
    exact W.iret (v := (if (s_X1_hasPanel nC nR nf co ro) = 0 then 0 else fy (s_X1_number nC nR nf co ro).toNatClampNeg)) hx hb hr (fun t ht hW => ⟨⟨_, (), rfl, e9.symm, trivial⟩, hS.F ht⟩) hS.2.2 dX1_rowPlace_24
  refine lv_if_eq (tgt := 23) hx hb dX1_rowPlace_6 (by decide) (fun c10 => ?_) (fun c10 => ?_)
  · refine lv_iconst (v := 0) hx hb dX1_rowPlace_23 (by decide) ?_
    exact K8 _ (if_pos c10).symm _ _ hP hS _ (lv_sub hl [0, 1, 2] rfl)
  · refine lv_aload_n hx hb dX1_rowPlace_9 rfl (lv_at hl 0 rfl) ?_
    refine va_get (D := D) (ci := 1) (v := .ref qy) (C := RX1) (T := TX1) (N := 7) hx hb hts (fun w h => List.mem_cons_of_mem _ (List.mem_append_right _ h)) hown hK hP 0 rfl rfl 1 (by decide) (hts (.fieldLink RX1 15 "AtlasFolder$FoldedSheet" "rowPlaces" "[I") (List.mem_cons_of_mem _ (List.mem_append_left _ (List.mem_of_getElem? (i := 0) rfl)))) (fun _ h9 => h9) rfl dX1_rowPlace_10 ?_
    refine lv_aload_n hx hb dX1_rowPlace_13 rfl (lv_at hl 0 rfl) ?_
    refine lv_iload_n hx hb dX1_rowPlace_14 rfl (lv_at hl 1 rfl) ?_
    refine lv_iload_n hx hb dX1_rowPlace_15 rfl (lv_at hl 2 rfl) ?_
    refine va_calli (va_runV (As := [.int co, .int ro]) (rest := [.ref qy]) ⟨hx, hb, hml, hown, hts⟩ (c_X1_number l D cI cZ cJ cD qf qx qy qz qu nC nR nf co ro ) (cwV 2 hts gX1_rowPlace_X1_number rfl rfl rfl (by decide +kernel) ⟨Nat.le_of_ble_eq_true rfl, Nat.le_of_ble_eq_true rfl⟩) ⟨zblind, va_recv hK hP (ci := 1) (q0 := 0) rfl rfl, (fun U hU hW => ⟨rfl, by rw [hU]; exact hP.sub (ws' := [(qf, .inr (1, [.ref qx, .ref qy, .ref qz, .ref qu, .int (nI nC), .int (nI nR), .int nf]))]) [0] rfl, va_K.moved hW.alike hK⟩)⟩ rfl rfl hl.1 rfl (lv_room (Nat.le_of_ble_eq_true rfl)) dX1_rowPlace_16 ⟨Nat.le_of_ble_eq_true rfl, Nat.le_of_ble_eq_true rfl⟩) hS (fun q _ h => h.elim) (fun q h => h.elim) (fun r11 u t H locs ht hvm hw hB hz1 hk1 hS => ?_)
    rw [hw]
    have hP := zk hP hk1
    refine va_iald hx hb hK hP 1 0 rfl rfl (z_numin hN hC hR c10) dX1_rowPlace_19 ?_
    refine lv_goto (tgt := 24) hx hb dX1_rowPlace_20 (by decide) ?_
    exact K8 _ (if_neg c10).symm _ _ hP hS _ (lv_sub hl [0, 1, 2] rfl)
def s_X1_panelsAbove (nC : Nat) (nR : Nat) (nf : Int32) (fx : Nat → Int32) (fy : Nat → Int32) (fz : Nat → Int32) (co : Int32) (ro : Int32) : Int32 := (if (s_X1_hasPanel nC nR nf co ro) = 0 then 0 else s_X1_higherThan nC nR nf fx fy fz (s_X1_number nC nR nf co ro))
abbrev rm_X1_panelsAbove : Room := { frames := 2, cells := 0, slots := 0, locals := 43 }
abbrev Qc_X1_panelsAbove (D : va_G) (cI cZ cJ cD : ClassId) (qf : Nat) (qx : Nat) (qy : Nat) (qz : Nat) (qu : Nat) (nC : Nat) (nR : Nat) (nf : Int32) (fx : Nat → Int32) (fy : Nat → Int32) (fz : Nat → Int32) (co : Int32) (ro : Int32) : Array Value → State → Outcome → State → Prop := va_Qi (fun (r : Int32) (_ : Unit) => r = s_X1_panelsAbove nC nR nf fx fy fz co ro) (fun _ _ => True) (fun _ : Nat => False)
set_option maxHeartbeats 4000000 in
set_option maxRecDepth 100000 in
theorem c_X1_panelsAbove (l : Launch) (D : va_G) (cI cZ cJ cD : ClassId) (qf : Nat) (qx : Nat) (qy : Nat) (qz : Nat) (qu : Nat) (nC : Nat) (nR : Nat) (nf : Int32) (fx : Nat → Int32) (fy : Nat → Int32) (fz : Nat → Int32) (co : Int32) (ro : Int32) (hN : nC * nR ≤ 36) (hC : nC ≤ 36) (hR : nR ≤ 36) : Met l yX1_panelsAbove wsX1_panelsAbove rm_X1_panelsAbove (va_Pc [.ref qf, .int co, .int ro] (zPre D cI cZ cJ cD [(qf, .inr (1, [.ref qx, .ref qy, .ref qz, .ref qu, .int (nI nC), .int (nI nR), .int nf])), (qx, .inl (cI, 36, .inl fx)), (qy, .inl (cI, 36, .inl fy)), (qz, .inl (cI, 36, .inl fz))])) (Qc_X1_panelsAbove D cI cZ cJ cD qf qx qy qz qu nC nR nf fx fy fz co ro ) 0 0 (fun _ : Nat => False) := by
  refine Met.ofW (cc := cX1_panelsAbove) (maxL := 3) (ret := (some .int)) (by decide) rfl ?_
  intro p e s m args below meth c s₁ B hml hv
  obtain ⟨rfl, hP, hK⟩ := hv
  have hx := B.exec
  have hb := B.bytes
  have hr := B.returns
  have hts := atoms_spec (ws := wsX1_panelsAbove) B.pre
  have hown : s.vm.findClass RX1 = some m.cls := findClass_of_methodNamed B.named
  have hlocks := B.notSynchronized
  have hS : va_S (fun _ : Nat => False) s.heap s.heap [] := va_S.rf
  have hl := lv_entry ([.ref qf, .int co, .int ro]) (n := 3) (Nat.le_of_ble_eq_true rfl)
  rw [lg_entry_eq]
  generalize (lg_sl ([.ref qf, .int co, .int ro]) ++ List.replicate (3 - (lg_sl ([.ref qf, .int co, .int ro])).length) Slot.unset).toArray = ls at hl ⊢
  have hl : lv_has ls 3 [(0, .ref qf), (1, .int co), (2, .int ro)] := hl
  have hP : va_P D vwCl [(qf, .inr (1, [.ref qx, .ref qy, .ref qz, .ref qu, .int (nI nC), .int (nI nR), .int nf])), (qx, .inl (cI, 36, .inl fx)), (qy, .inl (cI, 36, .inl fy)), (qz, .inl (cI, 36, .inl fz))] s.heap := hP
  have hP := hP
  refine lv_aload_n hx hb dX1_panelsAbove_0 rfl (lv_at hl 0 rfl) ?_
  refine lv_iload_n hx hb dX1_panelsAbove_1 rfl (lv_at hl 1 rfl) ?_
  refine lv_iload_n hx hb dX1_panelsAbove_2 rfl (lv_at hl 2 rfl) ?_
  refine va_calli (va_runV (As := [.int co, .int ro]) (rest := []) ⟨hx, hb, hml, hown, hts⟩ (c_X1_hasPanel l D cI cZ cJ cD qf qx qy qz qu nC nR nf co ro ) (cwV 2 hts gX1_panelsAbove_X1_hasPanel rfl rfl rfl (by decide +kernel) ⟨Nat.le_of_ble_eq_true rfl, Nat.le_of_ble_eq_true rfl⟩) ⟨zblind, va_recv hK hP (ci := 1) (q0 := 0) rfl rfl, (fun U hU hW => ⟨rfl, by rw [hU]; exact hP.sub (ws' := [(qf, .inr (1, [.ref qx, .ref qy, .ref qz, .ref qu, .int (nI nC), .int (nI nR), .int nf]))]) [0] rfl, va_K.moved hW.alike hK⟩)⟩ rfl rfl hl.1 rfl (lv_room (Nat.le_of_ble_eq_true rfl)) dX1_panelsAbove_3 ⟨Nat.le_of_ble_eq_true rfl, Nat.le_of_ble_eq_true rfl⟩) hS (fun q _ h => h.elim) (fun q h => h.elim) (fun r7 u t H locs ht hvm hw hB hz1 hk1 hS => ?_)
  rw [hw]
  have hP := zk hP hk1
  have K9 : ∀ v9_0 : Int32, v9_0 = (if (s_X1_hasPanel nC nR nf co ro) = 0 then 0 else s_X1_higherThan nC nR nf fx fy fz (s_X1_number nC nR nf co ro)) → ∀ (H : Heap) (locs : List Loc), va_P D vwCl [(qf, .inr (1, [.ref qx, .ref qy, .ref qz, .ref qu, .int (nI nC), .int (nI nR), .int nf])), (qx, .inl (cI, 36, .inl fx)), (qy, .inl (cI, 36, .inl fy)), (qz, .inl (cI, 36, .inl fz))] H → va_S (fun _ : Nat => False) s.heap H locs → ∀ (ls : Array Slot), lv_has ls 3 [(0, .ref qf), (1, .int co), (2, .int ro)] → W p l e (headSpec wsX1_panelsAbove rm_X1_panelsAbove).room s m ([.ref qf, .int co, .int ro]).toArray below meth c H locs 0 0 (MQ below (Qc_X1_panelsAbove D cI cZ cJ cD qf qx qy qz qu nC nR nf fx fy fz co ro) ([.ref qf, .int co, .int ro]).toArray s 0 0 (fun _ : Nat => False)) (F0 m 23 ls [.int v9_0]) := by
    intro v9_0 hv9_0 H locs hP hS ls hl
    subst hv9_0
    have e10 : s_X1_panelsAbove nC nR nf fx fy fz co ro = (if (s_X1_hasPanel nC nR nf co ro) = 0 then 0 else s_X1_higherThan nC nR nf fx fy fz (s_X1_number nC nR nf co ro)) := rfl
    exact W.iret (v := (if (s_X1_hasPanel nC nR nf co ro) = 0 then 0 else s_X1_higherThan nC nR nf fx fy fz (s_X1_number nC nR nf co ro))) hx hb hr (fun t ht hW => ⟨⟨_, (), rfl, e10.symm, trivial⟩, hS.F ht⟩) hS.2.2 dX1_panelsAbove_23
  refine lv_if_eq (tgt := 22) hx hb dX1_panelsAbove_6 (by decide) (fun c11 => ?_) (fun c11 => ?_)
  · refine lv_iconst (v := 0) hx hb dX1_panelsAbove_22 (by decide) ?_
    exact K9 _ (if_pos c11).symm _ _ hP hS _ (lv_sub hl [0, 1, 2] rfl)
  · refine lv_aload_n hx hb dX1_panelsAbove_9 rfl (lv_at hl 0 rfl) ?_
    refine lv_aload_n hx hb dX1_panelsAbove_10 rfl (lv_at hl 0 rfl) ?_
    refine lv_iload_n hx hb dX1_panelsAbove_11 rfl (lv_at hl 1 rfl) ?_
    refine lv_iload_n hx hb dX1_panelsAbove_12 rfl (lv_at hl 2 rfl) ?_
    refine va_calli (va_runV (As := [.int co, .int ro]) (rest := [.ref qf]) ⟨hx, hb, hml, hown, hts⟩ (c_X1_number l D cI cZ cJ cD qf qx qy qz qu nC nR nf co ro ) (cwV 2 hts gX1_panelsAbove_X1_number rfl rfl rfl (by decide +kernel) ⟨Nat.le_of_ble_eq_true rfl, Nat.le_of_ble_eq_true rfl⟩) ⟨zblind, va_recv hK hP (ci := 1) (q0 := 0) rfl rfl, (fun U hU hW => ⟨rfl, by rw [hU]; exact hP.sub (ws' := [(qf, .inr (1, [.ref qx, .ref qy, .ref qz, .ref qu, .int (nI nC), .int (nI nR), .int nf]))]) [0] rfl, va_K.moved hW.alike hK⟩)⟩ rfl rfl hl.1 rfl (lv_room (Nat.le_of_ble_eq_true rfl)) dX1_panelsAbove_13 ⟨Nat.le_of_ble_eq_true rfl, Nat.le_of_ble_eq_true rfl⟩) hS (fun q _ h => h.elim) (fun q h => h.elim) (fun r12 u t H locs ht hvm hw hB hz1 hk1 hS => ?_)
    rw [hw]
    have hP := zk hP hk1
    refine va_calli (va_runV (As := [.int (s_X1_number nC nR nf co ro)]) (rest := []) ⟨hx, hb, hml, hown, hts⟩ (c_X1_higherThan l D cI cZ cJ cD qf qx qy qz qu nC nR nf fx fy fz (s_X1_number nC nR nf co ro) hN (z_numin hN hC hR c11)) (cwV 1 hts gX1_panelsAbove_X1_higherThan rfl rfl rfl (by decide +kernel) ⟨Nat.le_of_ble_eq_true rfl, Nat.le_of_ble_eq_true rfl⟩) ⟨zblind, va_recv hK hP (ci := 1) (q0 := 0) rfl rfl, (fun U hU hW => ⟨rfl, by rw [hU]; exact hP.sub (ws' := [(qf, .inr (1, [.ref qx, .ref qy, .ref qz, .ref qu, .int (nI nC), .int (nI nR), .int nf])), (qx, .inl (cI, 36, .inl fx)), (qy, .inl (cI, 36, .inl fy)), (qz, .inl (cI, 36, .inl fz))]) [0, 1, 2, 3] rfl, va_K.moved hW.alike hK⟩)⟩ rfl rfl hl.1 rfl (lv_room (Nat.le_of_ble_eq_true rfl)) dX1_panelsAbove_16 ⟨Nat.le_of_ble_eq_true rfl, Nat.le_of_ble_eq_true rfl⟩) hS (fun q _ h => h.elim) (fun q h => h.elim) (fun r13 u t H locs ht hvm hw hB hz1 hk1 hS => ?_)
    rw [hw]
    have hP := zk hP hk1
    refine lv_goto (tgt := 23) hx hb dX1_panelsAbove_19 (by decide) ?_
    exact K9 _ (if_neg c11).symm _ _ hP hS _ (lv_sub hl [0, 1, 2] rfl)
def s_X1_liesFaceUp (nC : Nat) (nR : Nat) (nf : Int32) (fu : Nat → Int32) (co : Int32) (ro : Int32) : Int32 := (if (s_X1_hasPanel nC nR nf co ro) = 0 then 0 else (if (fu (s_X1_number nC nR nf co ro).toNatClampNeg) = 0 then 0 else 1))
abbrev rm_X1_liesFaceUp : Room := { frames := 1, cells := 0, slots := 0, locals := 22 }
abbrev Qc_X1_liesFaceUp (D : va_G) (cI cZ cJ cD : ClassId) (qf : Nat) (qx : Nat) (qy : Nat) (qz : Nat) (qu : Nat) (nC : Nat) (nR : Nat) (nf : Int32) (fu : Nat → Int32) (co : Int32) (ro : Int32) : Array Value → State → Outcome → State → Prop := va_Qi (fun (r : Int32) (_ : Unit) => r = s_X1_liesFaceUp nC nR nf fu co ro) (fun _ _ => True) (fun _ : Nat => False)
set_option maxHeartbeats 4000000 in
set_option maxRecDepth 100000 in
theorem c_X1_liesFaceUp (l : Launch) (D : va_G) (cI cZ cJ cD : ClassId) (qf : Nat) (qx : Nat) (qy : Nat) (qz : Nat) (qu : Nat) (nC : Nat) (nR : Nat) (nf : Int32) (fu : Nat → Int32) (co : Int32) (ro : Int32) (hN : nC * nR ≤ 36) (hC : nC ≤ 36) (hR : nR ≤ 36) : Met l yX1_liesFaceUp wsX1_liesFaceUp rm_X1_liesFaceUp (va_Pc [.ref qf, .int co, .int ro] (zPre D cI cZ cJ cD [(qf, .inr (1, [.ref qx, .ref qy, .ref qz, .ref qu, .int (nI nC), .int (nI nR), .int nf])), (qu, .inl (cZ, 36, .inl fu))])) (Qc_X1_liesFaceUp D cI cZ cJ cD qf qx qy qz qu nC nR nf fu co ro ) 0 0 (fun _ : Nat => False) := by
  refine Met.ofW (cc := cX1_liesFaceUp) (maxL := 3) (ret := (some .boolean)) (by decide) rfl ?_
  intro p e s m args below meth c s₁ B hml hv
  obtain ⟨rfl, hP, hK⟩ := hv
  have hx := B.exec
  have hb := B.bytes
  have hr := B.returns
  have hts := atoms_spec (ws := wsX1_liesFaceUp) B.pre
  have hown : s.vm.findClass RX1 = some m.cls := findClass_of_methodNamed B.named
  have hlocks := B.notSynchronized
  have hS : va_S (fun _ : Nat => False) s.heap s.heap [] := va_S.rf
  have hl := lv_entry ([.ref qf, .int co, .int ro]) (n := 3) (Nat.le_of_ble_eq_true rfl)
  rw [lg_entry_eq]
  generalize (lg_sl ([.ref qf, .int co, .int ro]) ++ List.replicate (3 - (lg_sl ([.ref qf, .int co, .int ro])).length) Slot.unset).toArray = ls at hl ⊢
  have hl : lv_has ls 3 [(0, .ref qf), (1, .int co), (2, .int ro)] := hl
  have hP : va_P D vwCl [(qf, .inr (1, [.ref qx, .ref qy, .ref qz, .ref qu, .int (nI nC), .int (nI nR), .int nf])), (qu, .inl (cZ, 36, .inl fu))] s.heap := hP
  have hP := hP
  refine lv_aload_n hx hb dX1_liesFaceUp_0 rfl (lv_at hl 0 rfl) ?_
  refine lv_iload_n hx hb dX1_liesFaceUp_1 rfl (lv_at hl 1 rfl) ?_
  refine lv_iload_n hx hb dX1_liesFaceUp_2 rfl (lv_at hl 2 rfl) ?_
  refine va_calli (va_runV (As := [.int co, .int ro]) (rest := []) ⟨hx, hb, hml, hown, hts⟩ (c_X1_hasPanel l D cI cZ cJ cD qf qx qy qz qu nC nR nf co ro ) (cwV 2 hts gX1_liesFaceUp_X1_hasPanel rfl rfl rfl (by decide +kernel) ⟨Nat.le_of_ble_eq_true rfl, Nat.le_of_ble_eq_true rfl⟩) ⟨zblind, va_recv hK hP (ci := 1) (q0 := 0) rfl rfl, (fun U hU hW => ⟨rfl, by rw [hU]; exact hP.sub (ws' := [(qf, .inr (1, [.ref qx, .ref qy, .ref qz, .ref qu, .int (nI nC), .int (nI nR), .int nf]))]) [0] rfl, va_K.moved hW.alike hK⟩)⟩ rfl rfl hl.1 rfl (lv_room (Nat.le_of_ble_eq_true rfl)) dX1_liesFaceUp_3 ⟨Nat.le_of_ble_eq_true rfl, Nat.le_of_ble_eq_true rfl⟩) hS (fun q _ h => h.elim) (fun q h => h.elim) (fun r7 u t H locs ht hvm hw hB hz1 hk1 hS => ?_)
  rw [hw]
  have hP := zk hP hk1
  have K9 : ∀ v9_0 : Int32, v9_0 = (if (s_X1_hasPanel nC nR nf co ro) = 0 then 0 else (if (fu (s_X1_number nC nR nf co ro).toNatClampNeg) = 0 then 0 else 1)) → ∀ (H : Heap) (locs : List Loc), va_P D vwCl [(qf, .inr (1, [.ref qx, .ref qy, .ref qz, .ref qu, .int (nI nC), .int (nI nR), .int nf])), (qu, .inl (cZ, 36, .inl fu))] H → va_S (fun _ : Nat => False) s.heap H locs → ∀ (ls : Array Slot), lv_has ls 3 [(0, .ref qf), (1, .int co), (2, .int ro)] → W p l e (headSpec wsX1_liesFaceUp rm_X1_liesFaceUp).room s m ([.ref qf, .int co, .int ro]).toArray below meth c H locs 0 0 (MQ below (Qc_X1_liesFaceUp D cI cZ cJ cD qf qx qy qz qu nC nR nf fu co ro) ([.ref qf, .int co, .int ro]).toArray s 0 0 (fun _ : Nat => False)) (F0 m 28 ls [.int v9_0]) := by
    intro v9_0 hv9_0 H locs hP hS ls hl
    subst hv9_0
    have e10 : s_X1_liesFaceUp nC nR nf fu co ro = (if (s_X1_hasPanel nC nR nf co ro) = 0 then 0 else (if (fu (s_X1_number nC nR nf co ro).toNatClampNeg) = 0 then 0 else 1)) := rfl
    exact W.zret (v := (if (s_X1_hasPanel nC nR nf co ro) = 0 then 0 else (if (fu (s_X1_number nC nR nf co ro).toNatClampNeg) = 0 then 0 else 1))) hx hb hr (z_b (by (repeat' split) <;> simp)) (fun t ht hW => ⟨⟨_, (), rfl, e10.symm, trivial⟩, hS.F ht⟩) hS.2.2 dX1_liesFaceUp_28
  refine lv_if_eq (tgt := 27) hx hb dX1_liesFaceUp_6 (by decide) (fun c11 => ?_) (fun c11 => ?_)
  · refine lv_iconst (v := 0) hx hb dX1_liesFaceUp_27 (by decide) ?_
    exact K9 _ (if_pos c11).symm _ _ hP hS _ (lv_sub hl [0, 1, 2] rfl)
  · refine lv_aload_n hx hb dX1_liesFaceUp_9 rfl (lv_at hl 0 rfl) ?_
    refine va_get (D := D) (ci := 1) (v := .ref qu) (C := RX1) (T := TX1) (N := 7) hx hb hts (fun w h => List.mem_cons_of_mem _ (List.mem_append_right _ h)) hown hK hP 0 rfl rfl 3 (by decide) (hts (.fieldLink RX1 21 "AtlasFolder$FoldedSheet" "faceUp" "[Z") (List.mem_cons_of_mem _ (List.mem_append_left _ (List.mem_of_getElem? (i := 0) rfl)))) (fun _ h9 => h9) rfl dX1_liesFaceUp_10 ?_
    refine lv_aload_n hx hb dX1_liesFaceUp_13 rfl (lv_at hl 0 rfl) ?_
    refine lv_iload_n hx hb dX1_liesFaceUp_14 rfl (lv_at hl 1 rfl) ?_
    refine lv_iload_n hx hb dX1_liesFaceUp_15 rfl (lv_at hl 2 rfl) ?_
    refine va_calli (va_runV (As := [.int co, .int ro]) (rest := [.ref qu]) ⟨hx, hb, hml, hown, hts⟩ (c_X1_number l D cI cZ cJ cD qf qx qy qz qu nC nR nf co ro ) (cwV 2 hts gX1_liesFaceUp_X1_number rfl rfl rfl (by decide +kernel) ⟨Nat.le_of_ble_eq_true rfl, Nat.le_of_ble_eq_true rfl⟩) ⟨zblind, va_recv hK hP (ci := 1) (q0 := 0) rfl rfl, (fun U hU hW => ⟨rfl, by rw [hU]; exact hP.sub (ws' := [(qf, .inr (1, [.ref qx, .ref qy, .ref qz, .ref qu, .int (nI nC), .int (nI nR), .int nf]))]) [0] rfl, va_K.moved hW.alike hK⟩)⟩ rfl rfl hl.1 rfl (lv_room (Nat.le_of_ble_eq_true rfl)) dX1_liesFaceUp_16 ⟨Nat.le_of_ble_eq_true rfl, Nat.le_of_ble_eq_true rfl⟩) hS (fun q _ h => h.elim) (fun q h => h.elim) (fun r12 u t H locs ht hvm hw hB hz1 hk1 hS => ?_)
    rw [hw]
    have hP := zk hP hk1
    refine va_zald hx hb hK hP 1 1 rfl rfl (z_numin hN hC hR c11) dX1_liesFaceUp_19 ?_
    refine lv_if_eq (tgt := 27) hx hb dX1_liesFaceUp_20 (by decide) (fun c13 => ?_) (fun c13 => ?_)
    · refine lv_iconst (v := 0) hx hb dX1_liesFaceUp_27 (by decide) ?_
      exact K9 _ ((if_neg c11).trans (if_pos c13)).symm _ _ hP hS _ (lv_sub hl [0, 1, 2] rfl)
    · refine lv_iconst (v := 1) hx hb dX1_liesFaceUp_23 (by decide) ?_
      refine lv_goto (tgt := 28) hx hb dX1_liesFaceUp_24 (by decide) ?_
      exact K9 _ ((if_neg c11).trans (if_neg c13)).symm _ _ hP hS _ (lv_sub hl [0, 1, 2] rfl)
end
section
/-- the first m places anew -/
def zg (f g : Nat → Int32) (m : Nat) : Nat → Int32 := fun p => if p < m then g p else f p
theorem zg_0 (f g : Nat → Int32) : zg f g 0 = f := funext fun p => if_neg (Nat.not_lt_zero p)
theorem zg_put {f g : Nat → Int32} {m : Nat} {i x : Int32} (hi : i.toNatClampNeg = m) (hx : x = g m) : upd (zg f g m) i.toNatClampNeg x = zg f g (m + 1) := by
  funext p
  rw [hi, hx]
  unfold upd zg
  by_cases h : p = m
  · rw [if_pos h, if_pos (by omega), h]
  · rw [if_neg h]
    by_cases h2 : p < m
    · rw [if_pos h2, if_pos (by omega)]
    · rw [if_neg h2, if_neg (by omega)]
theorem z_nmb (nC nR c r : Nat) (nf : Int32) : s_X1_number nC nR nf (nI c) (nI r) = nI (c * nR + r) := by
  unfold s_X1_number
  rw [pk_mul, nI_add]
theorem z_idx {nC nR c r : Nat} (hc : c < nC) (hr : r < nR) : c * nR + r < nC * nR := by
  have : (c + 1) * nR ≤ nC * nR := Nat.mul_le_mul_right nR hc
  rw [Nat.succ_mul] at this
  omega
theorem z_ncl {nC nR c r : Nat} {nf : Int32} (hN : nC * nR ≤ 36) (hc : c < nC) (hr : r < nR) : (s_X1_number nC nR nf (nI c) (nI r)).toNatClampNeg = c * nR + r := by
  rw [z_nmb, nI_clamp (by have := z_idx hc hr; omega)]
theorem z_nin {nC nR c r : Nat} {nf : Int32} (hN : nC * nR ≤ 36) (hc : c < nC) (hr : r < nR) : vp_in (s_X1_number nC nR nf (nI c) (nI r)) 36 := by
  rw [z_nmb]
  exact vp_in_nI (by have := z_idx hc hr; omega) (by omega)
theorem z_dv {nR c r : Nat} (hr : r < nR) : (c * nR + r) / nR = c := by
  rw [Nat.mul_comm, Nat.mul_add_div (by omega), Nat.div_eq_of_lt hr, Nat.add_zero]
theorem z_md {nR c r : Nat} (hr : r < nR) : (c * nR + r) % nR = r := by
  rw [Nat.mul_comm, Nat.mul_add_mod, Nat.mod_eq_of_lt hr]
/-- where before holds, below m, anew -/
def zt (f : Nat → Int32) (b : Int32) (g fz : Nat → Int32) (k : Nat) : Nat → Int32 := fun p => if p < k ∧ f p < b then g p else fz p
theorem zt_0 (f : Nat → Int32) (b : Int32) (g fz : Nat → Int32) : zt f b g fz 0 = fz := funext fun p => if_neg (fun h => Nat.not_lt_zero p h.1)
theorem zt_at (f : Nat → Int32) (b : Int32) (g fz : Nat → Int32) {k : Nat} (hk : k < 36) : zt f b g fz k (nI k).toNatClampNeg = fz k := by
  rw [nI_clamp (by omega)]
  exact if_neg (fun h => Nat.lt_irrefl k h.1)
theorem zt_skip {f : Nat → Int32} {b : Int32} (g fz : Nat → Int32) {k : Nat} (h : ¬ f k < b) : zt f b g fz k = zt f b g fz (k + 1) := by
  funext p
  unfold zt
  by_cases e : p = k
  · rw [if_neg (fun q => by omega), if_neg (fun q => h (e ▸ q.2))]
  · by_cases q : p < k ∧ f p < b
    · rw [if_pos q, if_pos ⟨by omega, q.2⟩]
    · rw [if_neg q, if_neg (fun q2 => q ⟨by omega, q2.2⟩)]
theorem zt_put {f : Nat → Int32} {b : Int32} {g fz : Nat → Int32} {k : Nat} {x : Int32} (hk : k < 36) (h : f k < b) (hx : x = g k) : upd (zt f b g fz k) (nI k).toNatClampNeg x = zt f b g fz (k + 1) := by
  funext p
  rw [nI_clamp (by omega), hx]
  unfold upd zt
  by_cases e : p = k
  · rw [if_pos e, e, if_pos ⟨by omega, h⟩]
  · rw [if_neg e]
    by_cases q : p < k ∧ f p < b
    · rw [if_pos q, if_pos ⟨by omega, q.2⟩]
    · rw [if_neg q, if_neg (fun q2 => q ⟨by omega, q2.2⟩)]
theorem zt_lt {f : Nat → Int32} {b : Int32} {g fz : Nat → Int32} {k : Nat} (hk : k < 36) (h : ¬ b ≤ zt f b g fz k (nI k).toNatClampNeg) : fz k < b := by
  rw [zt_at f b g fz hk] at h
  exact Int32.not_le.mp h
theorem zt_ge {f : Nat → Int32} {b : Int32} {g fz : Nat → Int32} {k : Nat} (hk : k < 36) (h : b ≤ zt f b g fz k (nI k).toNatClampNeg) : ¬ fz k < b := by
  rw [zt_at f b g fz hk] at h
  exact Int32.not_lt.mpr h
theorem z_b01 {v : Int32} (h : v = 0 ∨ v = 1) : vp_nar .boolean v = v := by
  rcases h with rfl | rfl <;> rfl
theorem z_nlt {k n : Nat} (hn : k < 2 ^ 31) (h : ¬ nI n ≤ nI k) : k < n := by
  rcases Nat.lt_or_ge k n with q | q
  · exact q
  · exact absurd (nI_le q hn) h
theorem z_nge {k n : Nat} (hn : n < 2 ^ 31) (hk : k ≤ n) (h : nI n ≤ nI k) : k = n := by
  have := (nI_leI hn (by omega)).mp h
  omega
def s_X1_spread (nC : Nat) (nR : Nat) (nf : Int32) (fx : Nat → Int32) (fy : Nat → Int32) (fz : Nat → Int32) (fu : Nat → Int32) : Int32 := nf
def n_X1_spread_qf_6 (nC : Nat) (nR : Nat) (nf : Int32) (fx : Nat → Int32) (fy : Nat → Int32) (fz : Nat → Int32) (fu : Nat → Int32) : Int32 := 0
def n_X1_spread_qx (nC : Nat) (nR : Nat) (nf : Int32) (fx : Nat → Int32) (fy : Nat → Int32) (fz : Nat → Int32) (fu : Nat → Int32) : Nat → Int32 := zg fx (fun p => nI (p / nR)) (nC * nR)
def n_X1_spread_qy (nC : Nat) (nR : Nat) (nf : Int32) (fx : Nat → Int32) (fy : Nat → Int32) (fz : Nat → Int32) (fu : Nat → Int32) : Nat → Int32 := zg fy (fun p => nI (p % nR)) (nC * nR)
def n_X1_spread_qz (nC : Nat) (nR : Nat) (nf : Int32) (fx : Nat → Int32) (fy : Nat → Int32) (fz : Nat → Int32) (fu : Nat → Int32) : Nat → Int32 := zg fz (fun _ => 0) (nC * nR)
def n_X1_spread_qu (nC : Nat) (nR : Nat) (nf : Int32) (fx : Nat → Int32) (fy : Nat → Int32) (fz : Nat → Int32) (fu : Nat → Int32) : Nat → Int32 := zg fu (fun _ => 1) (nC * nR)
abbrev rm_X1_spread : Room := { frames := 1, cells := 0, slots := 0, locals := 22 }
abbrev Qc_X1_spread (D : va_G) (cI cZ cJ cD : ClassId) (qf : Nat) (qx : Nat) (qy : Nat) (qz : Nat) (qu : Nat) (nC : Nat) (nR : Nat) (nf : Int32) (fx : Nat → Int32) (fy : Nat → Int32) (fz : Nat → Int32) (fu : Nat → Int32) (A : Nat → Prop) : Array Value → State → Outcome → State → Prop := va_Qi (fun (r : Int32) (_ : Unit) => r = s_X1_spread nC nR nf fx fy fz fu) (zPost D cI cZ cJ cD A [(qf, .inr (1, [.ref qx, .ref qy, .ref qz, .ref qu, .int (nI nC), .int (nI nR), .int (n_X1_spread_qf_6 nC nR nf fx fy fz fu)])), (qx, .inl (cI, 36, .inl (n_X1_spread_qx nC nR nf fx fy fz fu))), (qy, .inl (cI, 36, .inl (n_X1_spread_qy nC nR nf fx fy fz fu))), (qz, .inl (cI, 36, .inl (n_X1_spread_qz nC nR nf fx fy fz fu))), (qu, .inl (cZ, 36, .inl (n_X1_spread_qu nC nR nf fx fy fz fu)))]) A
set_option maxHeartbeats 4000000 in
set_option maxRecDepth 100000 in
theorem c_X1_spread (l : Launch) (D : va_G) (cI cZ cJ cD : ClassId) (qf : Nat) (qx : Nat) (qy : Nat) (qz : Nat) (qu : Nat) (nC : Nat) (nR : Nat) (nf : Int32) (fx : Nat → Int32) (fy : Nat → Int32) (fz : Nat → Int32) (fu : Nat → Int32) (sz : Nat) (hN : nC * nR ≤ 36) (hC : nC ≤ 36) (hR : nR ≤ 36) : Met l yX1_spread wsX1_spread rm_X1_spread (va_Pc [.ref qf] (zPreW D cI cZ cJ cD [(qf, .inr (1, [.ref qx, .ref qy, .ref qz, .ref qu, .int (nI nC), .int (nI nR), .int nf])), (qx, .inl (cI, 36, .inl fx)), (qy, .inl (cI, 36, .inl fy)), (qz, .inl (cI, 36, .inl fz)), (qu, .inl (cZ, 36, .inl fu))] sz)) (Qc_X1_spread D cI cZ cJ cD qf qx qy qz qu nC nR nf fx fy fz fu (va_A [(qf, .inr (1, [.ref qx, .ref qy, .ref qz, .ref qu, .int (nI nC), .int (nI nR), .int nf])), (qx, .inl (cI, 36, .inl fx)), (qy, .inl (cI, 36, .inl fy)), (qz, .inl (cI, 36, .inl fz)), (qu, .inl (cZ, 36, .inl fu))] sz)) 0 0 (va_A [(qf, .inr (1, [.ref qx, .ref qy, .ref qz, .ref qu, .int (nI nC), .int (nI nR), .int nf])), (qx, .inl (cI, 36, .inl fx)), (qy, .inl (cI, 36, .inl fy)), (qz, .inl (cI, 36, .inl fz)), (qu, .inl (cZ, 36, .inl fu))] sz) := by
  refine Met.ofW (cc := cX1_spread) (maxL := 4) (ret := (some .int)) (by decide) rfl ?_
  intro p e s m args below meth c s₁ B hml hv
  obtain ⟨rfl, hsz, hP, hK, hD0⟩ := hv
  have hx := B.exec
  have hb := B.bytes
  have hr := B.returns
  have hts := atoms_spec (ws := wsX1_spread) B.pre
  have hown : s.vm.findClass RX1 = some m.cls := findClass_of_methodNamed B.named
  have hlocks := B.notSynchronized
  subst hsz
  have hD := hD0.self (sz := s.heap.size)
  generalize hAe : va_A [(qf, .inr (1, [.ref qx, .ref qy, .ref qz, .ref qu, .int (nI nC), .int (nI nR), .int nf])), (qx, .inl (cI, 36, .inl fx)), (qy, .inl (cI, 36, .inl fy)), (qz, .inl (cI, 36, .inl fz)), (qu, .inl (cZ, 36, .inl fu))] s.heap.size = A at hD ⊢
  have hA : ∀ q : Nat, s.heap.size ≤ q → A q := fun q h => by rw [← hAe]; exact Or.inr h
  have hS : va_S A s.heap s.heap [] := va_S.rf
  have hl := lv_entry ([.ref qf]) (n := 4) (Nat.le_of_ble_eq_true rfl)
  rw [lg_entry_eq]
  generalize (lg_sl ([.ref qf]) ++ List.replicate (4 - (lg_sl ([.ref qf])).length) Slot.unset).toArray = ls at hl ⊢
  have hl : lv_has ls 4 [(0, .ref qf)] := hl
  have hP : va_P D vwCl [(qf, .inr (1, [.ref qx, .ref qy, .ref qz, .ref qu, .int (nI nC), .int (nI nR), .int nf])), (qx, .inl (cI, 36, .inl fx)), (qy, .inl (cI, 36, .inl fy)), (qz, .inl (cI, 36, .inl fz)), (qu, .inl (cZ, 36, .inl fu))] s.heap := hP
  have hP := hP
  refine lv_iconst (v := 0) hx hb dX1_spread_0 (by decide) ?_
  refine lv_istore_n (lv' := [(1, .int 0), (0, .ref qf)]) hx hb dX1_spread_1 rfl hl (by decide) rfl (fun ls hl => ?_)
  have X1 : ∀ (H : Heap) (locs : List Loc), va_P D vwCl [(qf, .inr (1, [.ref qx, .ref qy, .ref qz, .ref qu, .int (nI nC), .int (nI nR), .int nf])), (qx, .inl (cI, 36, .inl (zg fx (fun p => nI (p / nR)) (nC * nR)))), (qy, .inl (cI, 36, .inl (zg fy (fun p => nI (p % nR)) (nC * nR)))), (qz, .inl (cI, 36, .inl (zg fz (fun _ => 0) (nC * nR)))), (qu, .inl (cZ, 36, .inl (zg fu (fun _ => 1) (nC * nR))))] H → va_D A [(qf, .inr (1, [.ref qx, .ref qy, .ref qz, .ref qu, .int (nI nC), .int (nI nR), .int nf])), (qx, .inl (cI, 36, .inl (zg fx (fun p => nI (p / nR)) (nC * nR)))), (qy, .inl (cI, 36, .inl (zg fy (fun p => nI (p % nR)) (nC * nR)))), (qz, .inl (cI, 36, .inl (zg fz (fun _ => 0) (nC * nR)))), (qu, .inl (cZ, 36, .inl (zg fu (fun _ => 1) (nC * nR))))] → va_S A s.heap H locs → ∀ (ls : Array Slot), lv_has ls 4 [(0, .ref qf)] → W p l e (headSpec wsX1_spread rm_X1_spread).room s m ([.ref qf]).toArray below meth c H locs 0 0 (MQ below (Qc_X1_spread D cI cZ cJ cD qf qx qy qz qu nC nR nf fx fy fz fu A) ([.ref qf]).toArray s 0 0 A) (F0 m 67 ls []) := by
    intro  H locs hP hD hS ls hl
    refine lv_aload_n hx hb dX1_spread_67 rfl (lv_at hl 0 rfl) ?_
    refine va_get (D := D) (ci := 1) (v := .int nf) (C := RX1) (T := TX1) (N := 7) hx hb hts (fun w h => List.mem_cons_of_mem _ (List.mem_append_right _ h)) hown hK hP 0 rfl rfl 6 (by decide) (hts (.fieldLink RX1 44 "AtlasFolder$FoldedSheet" "folds" "I") (List.mem_cons_of_mem _ (List.mem_append_left _ (List.mem_of_getElem? (i := 6) rfl)))) (fun _ h9 => h9) rfl dX1_spread_68 ?_
    refine lv_istore_n (lv' := [(1, .int nf), (0, .ref qf)]) hx hb dX1_spread_71 rfl hl (by decide) rfl (fun ls hl => ?_)
    refine lv_aload_n hx hb dX1_spread_72 rfl (lv_at hl 1 rfl) ?_
    refine lv_iconst (v := 0) hx hb dX1_spread_73 (by decide) ?_
    refine va_put (D := D) (ci := 1) (v := .int 0) (ty := .int) (C := RX1) (T := TX1) (N := 7) hx hb hts (fun w h => List.mem_cons_of_mem _ (List.mem_append_right _ h)) tyX1 tyX1_ok nmX1 hown hK hP hD hS 0 rfl rfl 6 (by decide) (hts (.fieldLink RX1 44 "AtlasFolder$FoldedSheet" "folds" "I") (List.mem_cons_of_mem _ (List.mem_append_left _ (List.mem_of_getElem? (i := 6) rfl)))) (fun _ h9 => h9) rfl (by decide +kernel) rfl rfl (Nat.le_of_ble_eq_true rfl) dX1_spread_74 (fun H locs hP hD hS => ?_)
    have hP : va_P D vwCl [(qf, .inr (1, [.ref qx, .ref qy, .ref qz, .ref qu, .int (nI nC), .int (nI nR), .int 0])), (qx, .inl (cI, 36, .inl (zg fx (fun p => nI (p / nR)) (nC * nR)))), (qy, .inl (cI, 36, .inl (zg fy (fun p => nI (p % nR)) (nC * nR)))), (qz, .inl (cI, 36, .inl (zg fz (fun _ => 0) (nC * nR)))), (qu, .inl (cZ, 36, .inl (zg fu (fun _ => 1) (nC * nR))))] H := hP
    have hD : va_D A [(qf, .inr (1, [.ref qx, .ref qy, .ref qz, .ref qu, .int (nI nC), .int (nI nR), .int 0])), (qx, .inl (cI, 36, .inl (zg fx (fun p => nI (p / nR)) (nC * nR)))), (qy, .inl (cI, 36, .inl (zg fy (fun p => nI (p % nR)) (nC * nR)))), (qz, .inl (cI, 36, .inl (zg fz (fun _ => 0) (nC * nR)))), (qu, .inl (cZ, 36, .inl (zg fu (fun _ => 1) (nC * nR))))] := hD
    refine lv_iload_n hx hb dX1_spread_77 rfl (lv_at hl 0 rfl) ?_
    have e2 : s_X1_spread nC nR nf fx fy fz fu = nf := rfl
    have e3 : n_X1_spread_qf_6 nC nR nf fx fy fz fu = 0 := rfl
    have e4 : n_X1_spread_qx nC nR nf fx fy fz fu = zg fx (fun p => nI (p / nR)) (nC * nR) := rfl
    have e5 : n_X1_spread_qy nC nR nf fx fy fz fu = zg fy (fun p => nI (p % nR)) (nC * nR) := rfl
    have e6 : n_X1_spread_qz nC nR nf fx fy fz fu = zg fz (fun _ => 0) (nC * nR) := rfl
    have e7 : n_X1_spread_qu nC nR nf fx fy fz fu = zg fu (fun _ => 1) (nC * nR) := rfl
    exact W.iret (v := nf) hx hb hr (fun t ht hW => ⟨⟨_, (), rfl, e2.symm, ⟨(by rw [e3, e4, e5, e6, e7]; rw [ht]; exact hP), va_K.moved hW.alike hK, (by rw [e3, e4, e5, e6, e7]; exact hD)⟩⟩, hS.F ht⟩) hS.2.2 dX1_spread_78
  have L1 : ∀ (n1 : Nat) (ic : Nat), (ic ≤ nC) → (nC < ic + n1) → ∀ (H : Heap) (locs : List Loc), va_P D vwCl [(qf, .inr (1, [.ref qx, .ref qy, .ref qz, .ref qu, .int (nI nC), .int (nI nR), .int nf])), (qx, .inl (cI, 36, .inl (zg fx (fun p => nI (p / nR)) (ic * nR)))), (qy, .inl (cI, 36, .inl (zg fy (fun p => nI (p % nR)) (ic * nR)))), (qz, .inl (cI, 36, .inl (zg fz (fun _ => 0) (ic * nR)))), (qu, .inl (cZ, 36, .inl (zg fu (fun _ => 1) (ic * nR))))] H → va_D A [(qf, .inr (1, [.ref qx, .ref qy, .ref qz, .ref qu, .int (nI nC), .int (nI nR), .int nf])), (qx, .inl (cI, 36, .inl (zg fx (fun p => nI (p / nR)) (ic * nR)))), (qy, .inl (cI, 36, .inl (zg fy (fun p => nI (p % nR)) (ic * nR)))), (qz, .inl (cI, 36, .inl (zg fz (fun _ => 0) (ic * nR)))), (qu, .inl (cZ, 36, .inl (zg fu (fun _ => 1) (ic * nR))))] → va_S A s.heap H locs → ∀ (ls : Array Slot), lv_has ls 4 [(1, .int (nI ic)), (0, .ref qf)] → W p l e (headSpec wsX1_spread rm_X1_spread).room s m ([.ref qf]).toArray below meth c H locs 0 0 (MQ below (Qc_X1_spread D cI cZ cJ cD qf qx qy qz qu nC nR nf fx fy fz fu A) ([.ref qf]).toArray s 0 0 A) (F0 m 2 ls []) := by
    intro n1
    induction n1 with
    | zero =>
      intro ic hc hf1
      exact absurd hf1 (by omega)
    | succ n1 ih1 =>
      intro ic hc hf1 H locs hP hD hS ls hl
      refine lv_iload_n hx hb dX1_spread_2 rfl (lv_at hl 0 rfl) ?_
      refine lv_aload_n hx hb dX1_spread_3 rfl (lv_at hl 1 rfl) ?_
      refine va_get (D := D) (ci := 1) (v := .int (nI nC)) (C := RX1) (T := TX1) (N := 7) hx hb hts (fun w h => List.mem_cons_of_mem _ (List.mem_append_right _ h)) hown hK hP 0 rfl rfl 4 (by decide) (hts (.fieldLink RX1 29 "AtlasFolder$FoldedSheet" "columns" "I") (List.mem_cons_of_mem _ (List.mem_append_left _ (List.mem_of_getElem? (i := 0) rfl)))) (fun _ h9 => h9) rfl dX1_spread_4 ?_
      refine lv_icmp_ge (tgt := 67) hx hb dX1_spread_7 (by decide) (fun c8 => ?_) (fun c8 => ?_)
      · have hc9 : ic = nC := z_nge (by omega) hc c8
        subst hc9
        exact X1  _ _ hP hD hS _ (lv_sub hl [1] rfl)
      · refine lv_iconst (v := 0) hx hb dX1_spread_10 (by decide) ?_
        refine lv_istore_n (lv' := [(2, .int 0), (1, .int (nI ic)), (0, .ref qf)]) hx hb dX1_spread_11 rfl hl (by decide) rfl (fun ls hl => ?_)
        have L9 : ∀ (n9 : Nat) (r : Nat), (r ≤ nR) → (nR < r + n9) → ∀ (H : Heap) (locs : List Loc), va_P D vwCl [(qf, .inr (1, [.ref qx, .ref qy, .ref qz, .ref qu, .int (nI nC), .int (nI nR), .int nf])), (qx, .inl (cI, 36, .inl (zg fx (fun p => nI (p / nR)) (ic * nR + r)))), (qy, .inl (cI, 36, .inl (zg fy (fun p => nI (p % nR)) (ic * nR + r)))), (qz, .inl (cI, 36, .inl (zg fz (fun _ => 0) (ic * nR + r)))), (qu, .inl (cZ, 36, .inl (zg fu (fun _ => 1) (ic * nR + r))))] H → va_D A [(qf, .inr (1, [.ref qx, .ref qy, .ref qz, .ref qu, .int (nI nC), .int (nI nR), .int nf])), (qx, .inl (cI, 36, .inl (zg fx (fun p => nI (p / nR)) (ic * nR + r)))), (qy, .inl (cI, 36, .inl (zg fy (fun p => nI (p % nR)) (ic * nR + r)))), (qz, .inl (cI, 36, .inl (zg fz (fun _ => 0) (ic * nR + r)))), (qu, .inl (cZ, 36, .inl (zg fu (fun _ => 1) (ic * nR + r))))] → va_S A s.heap H locs → ∀ (ls : Array Slot), lv_has ls 4 [(2, .int (nI r)), (1, .int (nI ic)), (0, .ref qf)] → W p l e (headSpec wsX1_spread rm_X1_spread).room s m ([.ref qf]).toArray below meth c H locs 0 0 (MQ below (Qc_X1_spread D cI cZ cJ cD qf qx qy qz qu nC nR nf fx fy fz fu A) ([.ref qf]).toArray s 0 0 A) (F0 m 12 ls []) := by
          intro n9
          induction n9 with
          | zero =>
            intro r hr hf9
            exact absurd hf9 (by omega)
          | succ n9 ih9 =>
            intro r hr hf9 H locs hP hD hS ls hl
            refine lv_iload_n hx hb dX1_spread_12 rfl (lv_at hl 0 rfl) ?_
            refine lv_aload_n hx hb dX1_spread_13 rfl (lv_at hl 2 rfl) ?_
            refine va_get (D := D) (ci := 1) (v := .int (nI nR)) (C := RX1) (T := TX1) (N := 7) hx hb hts (fun w h => List.mem_cons_of_mem _ (List.mem_append_right _ h)) hown hK hP 0 rfl rfl 5 (by decide) (hts (.fieldLink RX1 33 "AtlasFolder$FoldedSheet" "rows" "I") (List.mem_cons_of_mem _ (List.mem_append_left _ (List.mem_of_getElem? (i := 1) rfl)))) (fun _ h9 => h9) rfl dX1_spread_14 ?_
            refine lv_icmp_ge (tgt := 61) hx hb dX1_spread_17 (by decide) (fun c10 => ?_) (fun c10 => ?_)
            · refine lv_iinc (v := nI (ic + 1)) (lv' := [(1, .int (nI (ic + 1))), (2, .int (nI r)), (0, .ref qf)]) hx hb dX1_spread_61 hl (k := 1) rfl (nI_succ ic).symm (by decide) rfl (fun ls hl => ?_)
              refine lv_goto (tgt := 2) hx hb dX1_spread_64 (by decide) ?_
              have hr9 : r = nR := z_nge (by omega) hr c10
              subst hr9
              have hc8 : ic < nC := z_nlt (by omega) c8
              have e9 : ic * r + r = (ic + 1) * r := (Nat.succ_mul ic r).symm
              rw [e9] at hP hD
              exact ih1 (ic + 1) (by omega) (by omega) _ _ hP hD hS _ (lv_sub hl [0, 2] rfl)
            · refine lv_aload_n hx hb dX1_spread_20 rfl (lv_at hl 2 rfl) ?_
              refine lv_iload_n hx hb dX1_spread_21 rfl (lv_at hl 1 rfl) ?_
              refine lv_iload_n hx hb dX1_spread_22 rfl (lv_at hl 0 rfl) ?_
              refine va_calli (va_runV (As := [.int (nI ic), .int (nI r)]) (rest := []) ⟨hx, hb, hml, hown, hts⟩ (c_X1_number l D cI cZ cJ cD qf qx qy qz qu nC nR nf (nI ic) (nI r) ) (cwV 2 hts gX1_spread_X1_number rfl rfl rfl (by decide +kernel) ⟨Nat.le_of_ble_eq_true rfl, Nat.le_of_ble_eq_true rfl⟩) ⟨zblind, va_recv hK hP (ci := 1) (q0 := 0) rfl rfl, (fun U hU hW => ⟨rfl, by rw [hU]; exact hP.sub (ws' := [(qf, .inr (1, [.ref qx, .ref qy, .ref qz, .ref qu, .int (nI nC), .int (nI nR), .int nf]))]) [0] rfl, va_K.moved hW.alike hK⟩)⟩ rfl rfl hl.1 rfl (lv_room (Nat.le_of_ble_eq_true rfl)) dX1_spread_23 ⟨Nat.le_of_ble_eq_true rfl, Nat.le_of_ble_eq_true rfl⟩) hS (fun q _ h => h.elim) (fun q h => h.elim) (fun r11 u t H locs ht hvm hw hB hz1 hk1 hS => ?_)
              rw [hw]
              have hP := zk hP hk1
              refine lv_istore_n (lv' := [(3, .int (s_X1_number nC nR nf (nI ic) (nI r))), (2, .int (nI r)), (1, .int (nI ic)), (0, .ref qf)]) hx hb dX1_spread_26 rfl hl (by decide) rfl (fun ls hl => ?_)
              refine lv_aload_n hx hb dX1_spread_27 rfl (lv_at hl 3 rfl) ?_
              refine va_get (D := D) (ci := 1) (v := .ref qx) (C := RX1) (T := TX1) (N := 7) hx hb hts (fun w h => List.mem_cons_of_mem _ (List.mem_append_right _ h)) hown hK hP 0 rfl rfl 0 (by decide) (hts (.fieldLink RX1 9 "AtlasFolder$FoldedSheet" "columnPlaces" "[I") (List.mem_cons_of_mem _ (List.mem_append_left _ (List.mem_of_getElem? (i := 2) rfl)))) (fun _ h9 => h9) rfl dX1_spread_28 ?_
              refine lv_iload_n hx hb dX1_spread_31 rfl (lv_at hl 0 rfl) ?_
              refine lv_iload_n hx hb dX1_spread_32 rfl (lv_at hl 2 rfl) ?_
              refine va_iast hx hb hK hP hD hS 1 0 rfl rfl (z_nin hN (z_nlt (by omega) c8) (z_nlt (by omega) c10)) dX1_spread_33 (fun H locs hP hD hS => ?_)
              have hP : va_P D vwCl [(qf, .inr (1, [.ref qx, .ref qy, .ref qz, .ref qu, .int (nI nC), .int (nI nR), .int nf])), (qx, .inl (cI, 36, .inl (upd (zg fx (fun p => nI (p / nR)) (ic * nR + r)) (s_X1_number nC nR nf (nI ic) (nI r)).toNatClampNeg (nI ic)))), (qy, .inl (cI, 36, .inl (zg fy (fun p => nI (p % nR)) (ic * nR + r)))), (qz, .inl (cI, 36, .inl (zg fz (fun _ => 0) (ic * nR + r)))), (qu, .inl (cZ, 36, .inl (zg fu (fun _ => 1) (ic * nR + r))))] H := hP
              have hD : va_D A [(qf, .inr (1, [.ref qx, .ref qy, .ref qz, .ref qu, .int (nI nC), .int (nI nR), .int nf])), (qx, .inl (cI, 36, .inl (upd (zg fx (fun p => nI (p / nR)) (ic * nR + r)) (s_X1_number nC nR nf (nI ic) (nI r)).toNatClampNeg (nI ic)))), (qy, .inl (cI, 36, .inl (zg fy (fun p => nI (p % nR)) (ic * nR + r)))), (qz, .inl (cI, 36, .inl (zg fz (fun _ => 0) (ic * nR + r)))), (qu, .inl (cZ, 36, .inl (zg fu (fun _ => 1) (ic * nR + r))))] := hD
              refine lv_aload_n hx hb dX1_spread_34 rfl (lv_at hl 3 rfl) ?_
              refine va_get (D := D) (ci := 1) (v := .ref qy) (C := RX1) (T := TX1) (N := 7) hx hb hts (fun w h => List.mem_cons_of_mem _ (List.mem_append_right _ h)) hown hK hP 0 rfl rfl 1 (by decide) (hts (.fieldLink RX1 15 "AtlasFolder$FoldedSheet" "rowPlaces" "[I") (List.mem_cons_of_mem _ (List.mem_append_left _ (List.mem_of_getElem? (i := 3) rfl)))) (fun _ h9 => h9) rfl dX1_spread_35 ?_
              refine lv_iload_n hx hb dX1_spread_38 rfl (lv_at hl 0 rfl) ?_
              refine lv_iload_n hx hb dX1_spread_39 rfl (lv_at hl 1 rfl) ?_
              refine va_iast hx hb hK hP hD hS 2 0 rfl rfl (z_nin hN (z_nlt (by omega) c8) (z_nlt (by omega) c10)) dX1_spread_40 (fun H locs hP hD hS => ?_)
              have hP : va_P D vwCl [(qf, .inr (1, [.ref qx, .ref qy, .ref qz, .ref qu, .int (nI nC), .int (nI nR), .int nf])), (qx, .inl (cI, 36, .inl (upd (zg fx (fun p => nI (p / nR)) (ic * nR + r)) (s_X1_number nC nR nf (nI ic) (nI r)).toNatClampNeg (nI ic)))), (qy, .inl (cI, 36, .inl (upd (zg fy (fun p => nI (p % nR)) (ic * nR + r)) (s_X1_number nC nR nf (nI ic) (nI r)).toNatClampNeg (nI r)))), (qz, .inl (cI, 36, .inl (zg fz (fun _ => 0) (ic * nR + r)))), (qu, .inl (cZ, 36, .inl (zg fu (fun _ => 1) (ic * nR + r))))] H := hP
              have hD : va_D A [(qf, .inr (1, [.ref qx, .ref qy, .ref qz, .ref qu, .int (nI nC), .int (nI nR), .int nf])), (qx, .inl (cI, 36, .inl (upd (zg fx (fun p => nI (p / nR)) (ic * nR + r)) (s_X1_number nC nR nf (nI ic) (nI r)).toNatClampNeg (nI ic)))), (qy, .inl (cI, 36, .inl (upd (zg fy (fun p => nI (p % nR)) (ic * nR + r)) (s_X1_number nC nR nf (nI ic) (nI r)).toNatClampNeg (nI r)))), (qz, .inl (cI, 36, .inl (zg fz (fun _ => 0) (ic * nR + r)))), (qu, .inl (cZ, 36, .inl (zg fu (fun _ => 1) (ic * nR + r))))] := hD
              refine lv_aload_n hx hb dX1_spread_41 rfl (lv_at hl 3 rfl) ?_
              refine va_get (D := D) (ci := 1) (v := .ref qz) (C := RX1) (T := TX1) (N := 7) hx hb hts (fun w h => List.mem_cons_of_mem _ (List.mem_append_right _ h)) hown hK hP 0 rfl rfl 2 (by decide) (hts (.fieldLink RX1 18 "AtlasFolder$FoldedSheet" "layers" "[I") (List.mem_cons_of_mem _ (List.mem_append_left _ (List.mem_of_getElem? (i := 4) rfl)))) (fun _ h9 => h9) rfl dX1_spread_42 ?_
              refine lv_iload_n hx hb dX1_spread_45 rfl (lv_at hl 0 rfl) ?_
              refine lv_iconst (v := 0) hx hb dX1_spread_46 (by decide) ?_
              refine va_iast hx hb hK hP hD hS 3 0 rfl rfl (z_nin hN (z_nlt (by omega) c8) (z_nlt (by omega) c10)) dX1_spread_47 (fun H locs hP hD hS => ?_)
              have hP : va_P D vwCl [(qf, .inr (1, [.ref qx, .ref qy, .ref qz, .ref qu, .int (nI nC), .int (nI nR), .int nf])), (qx, .inl (cI, 36, .inl (upd (zg fx (fun p => nI (p / nR)) (ic * nR + r)) (s_X1_number nC nR nf (nI ic) (nI r)).toNatClampNeg (nI ic)))), (qy, .inl (cI, 36, .inl (upd (zg fy (fun p => nI (p % nR)) (ic * nR + r)) (s_X1_number nC nR nf (nI ic) (nI r)).toNatClampNeg (nI r)))), (qz, .inl (cI, 36, .inl (upd (zg fz (fun _ => 0) (ic * nR + r)) (s_X1_number nC nR nf (nI ic) (nI r)).toNatClampNeg 0))), (qu, .inl (cZ, 36, .inl (zg fu (fun _ => 1) (ic * nR + r))))] H := hP
              have hD : va_D A [(qf, .inr (1, [.ref qx, .ref qy, .ref qz, .ref qu, .int (nI nC), .int (nI nR), .int nf])), (qx, .inl (cI, 36, .inl (upd (zg fx (fun p => nI (p / nR)) (ic * nR + r)) (s_X1_number nC nR nf (nI ic) (nI r)).toNatClampNeg (nI ic)))), (qy, .inl (cI, 36, .inl (upd (zg fy (fun p => nI (p % nR)) (ic * nR + r)) (s_X1_number nC nR nf (nI ic) (nI r)).toNatClampNeg (nI r)))), (qz, .inl (cI, 36, .inl (upd (zg fz (fun _ => 0) (ic * nR + r)) (s_X1_number nC nR nf (nI ic) (nI r)).toNatClampNeg 0))), (qu, .inl (cZ, 36, .inl (zg fu (fun _ => 1) (ic * nR + r))))] := hD
              refine lv_aload_n hx hb dX1_spread_48 rfl (lv_at hl 3 rfl) ?_
              refine va_get (D := D) (ci := 1) (v := .ref qu) (C := RX1) (T := TX1) (N := 7) hx hb hts (fun w h => List.mem_cons_of_mem _ (List.mem_append_right _ h)) hown hK hP 0 rfl rfl 3 (by decide) (hts (.fieldLink RX1 21 "AtlasFolder$FoldedSheet" "faceUp" "[Z") (List.mem_cons_of_mem _ (List.mem_append_left _ (List.mem_of_getElem? (i := 5) rfl)))) (fun _ h9 => h9) rfl dX1_spread_49 ?_
              refine lv_iload_n hx hb dX1_spread_52 rfl (lv_at hl 0 rfl) ?_
              refine lv_iconst (v := 1) hx hb dX1_spread_53 (by decide) ?_
              refine va_zast hx hb hK hP hD hS 4 1 rfl rfl (z_nin hN (z_nlt (by omega) c8) (z_nlt (by omega) c10)) dX1_spread_54 (fun H locs hP hD hS => ?_)
              have hP : va_P D vwCl [(qf, .inr (1, [.ref qx, .ref qy, .ref qz, .ref qu, .int (nI nC), .int (nI nR), .int nf])), (qx, .inl (cI, 36, .inl (upd (zg fx (fun p => nI (p / nR)) (ic * nR + r)) (s_X1_number nC nR nf (nI ic) (nI r)).toNatClampNeg (nI ic)))), (qy, .inl (cI, 36, .inl (upd (zg fy (fun p => nI (p % nR)) (ic * nR + r)) (s_X1_number nC nR nf (nI ic) (nI r)).toNatClampNeg (nI r)))), (qz, .inl (cI, 36, .inl (upd (zg fz (fun _ => 0) (ic * nR + r)) (s_X1_number nC nR nf (nI ic) (nI r)).toNatClampNeg 0))), (qu, .inl (cZ, 36, .inl (upd (zg fu (fun _ => 1) (ic * nR + r)) (s_X1_number nC nR nf (nI ic) (nI r)).toNatClampNeg (vp_nar .boolean 1))))] H := hP
              have hD : va_D A [(qf, .inr (1, [.ref qx, .ref qy, .ref qz, .ref qu, .int (nI nC), .int (nI nR), .int nf])), (qx, .inl (cI, 36, .inl (upd (zg fx (fun p => nI (p / nR)) (ic * nR + r)) (s_X1_number nC nR nf (nI ic) (nI r)).toNatClampNeg (nI ic)))), (qy, .inl (cI, 36, .inl (upd (zg fy (fun p => nI (p % nR)) (ic * nR + r)) (s_X1_number nC nR nf (nI ic) (nI r)).toNatClampNeg (nI r)))), (qz, .inl (cI, 36, .inl (upd (zg fz (fun _ => 0) (ic * nR + r)) (s_X1_number nC nR nf (nI ic) (nI r)).toNatClampNeg 0))), (qu, .inl (cZ, 36, .inl (upd (zg fu (fun _ => 1) (ic * nR + r)) (s_X1_number nC nR nf (nI ic) (nI r)).toNatClampNeg (vp_nar .boolean 1))))] := hD
              refine lv_iinc (v := nI (r + 1)) (lv' := [(2, .int (nI (r + 1))), (3, .int (s_X1_number nC nR nf (nI ic) (nI r))), (1, .int (nI ic)), (0, .ref qf)]) hx hb dX1_spread_55 hl (k := 1) rfl (nI_succ r).symm (by decide) rfl (fun ls hl => ?_)
              refine lv_goto (tgt := 12) hx hb dX1_spread_58 (by decide) ?_
              have hr8 : r < nR := z_nlt (by omega) c10
              have hc8 : ic < nC := z_nlt (by omega) c8
              have e_qx : upd (zg fx (fun p => nI (p / nR)) (ic * nR + r)) (s_X1_number nC nR nf (nI ic) (nI r)).toNatClampNeg (nI ic) = zg fx (fun p => nI (p / nR)) (ic * nR + (r + 1)) := zg_put (z_ncl hN hc8 hr8) (by rw [z_dv hr8])
              have e_qy : upd (zg fy (fun p => nI (p % nR)) (ic * nR + r)) (s_X1_number nC nR nf (nI ic) (nI r)).toNatClampNeg (nI r) = zg fy (fun p => nI (p % nR)) (ic * nR + (r + 1)) := zg_put (z_ncl hN hc8 hr8) (by rw [z_md hr8])
              have e_qz : upd (zg fz (fun _ => 0) (ic * nR + r)) (s_X1_number nC nR nf (nI ic) (nI r)).toNatClampNeg 0 = zg fz (fun _ => 0) (ic * nR + (r + 1)) := zg_put (z_ncl hN hc8 hr8) rfl
              have e_qu : upd (zg fu (fun _ => 1) (ic * nR + r)) (s_X1_number nC nR nf (nI ic) (nI r)).toNatClampNeg (vp_nar .boolean 1) = zg fu (fun _ => 1) (ic * nR + (r + 1)) := zg_put (z_ncl hN hc8 hr8) rfl
              rw [e_qx, e_qy, e_qz, e_qu] at hP hD
              exact ih9 (r + 1) (by omega) (by omega) _ _ hP hD hS _ (lv_sub hl [0, 2, 3] rfl)
        rw [← Nat.add_zero (ic * nR)] at hP hD
        exact L9 (nR + 1) 0 (by omega) (by omega) _ _ hP hD hS _ (zlv (lv_sub (l' := [(2, .int 0), (1, .int (nI ic)), (0, .ref qf)]) hl [0, 1, 2] rfl) (by rfl))
  have e0x := zg_0 fx (fun p => nI (p / nR))
  have e0y := zg_0 fy (fun p => nI (p % nR))
  have e0z := zg_0 fz (fun _ => 0)
  have e0u := zg_0 fu (fun _ => 1)
  rw [← Nat.zero_mul nR] at e0x e0y e0z e0u
  rw [← e0x, ← e0y, ← e0z, ← e0u] at hP hD
  exact L1 (nC + 1) 0 (by omega) (by omega) _ _ hP hD hS _ (zlv (lv_sub (l' := [(1, .int 0), (0, .ref qf)]) hl [0, 1] rfl) (by rfl))
def n_X1_layOut_qf_4 (nC : Nat) (nR : Nat) (nf : Int32) (fx : Nat → Int32) (fy : Nat → Int32) (fz : Nat → Int32) (fu : Nat → Int32) (mC : Nat) (mR : Nat) : Int32 := nI mC
def n_X1_layOut_qf_5 (nC : Nat) (nR : Nat) (nf : Int32) (fx : Nat → Int32) (fy : Nat → Int32) (fz : Nat → Int32) (fu : Nat → Int32) (mC : Nat) (mR : Nat) : Int32 := nI mR
def n_X1_layOut_qf_6 (nC : Nat) (nR : Nat) (nf : Int32) (fx : Nat → Int32) (fy : Nat → Int32) (fz : Nat → Int32) (fu : Nat → Int32) (mC : Nat) (mR : Nat) : Int32 := n_X1_spread_qf_6 mC mR nf fx fy fz fu
def n_X1_layOut_qx (nC : Nat) (nR : Nat) (nf : Int32) (fx : Nat → Int32) (fy : Nat → Int32) (fz : Nat → Int32) (fu : Nat → Int32) (mC : Nat) (mR : Nat) : Nat → Int32 := n_X1_spread_qx mC mR nf fx fy fz fu
def n_X1_layOut_qy (nC : Nat) (nR : Nat) (nf : Int32) (fx : Nat → Int32) (fy : Nat → Int32) (fz : Nat → Int32) (fu : Nat → Int32) (mC : Nat) (mR : Nat) : Nat → Int32 := n_X1_spread_qy mC mR nf fx fy fz fu
def n_X1_layOut_qz (nC : Nat) (nR : Nat) (nf : Int32) (fx : Nat → Int32) (fy : Nat → Int32) (fz : Nat → Int32) (fu : Nat → Int32) (mC : Nat) (mR : Nat) : Nat → Int32 := n_X1_spread_qz mC mR nf fx fy fz fu
def n_X1_layOut_qu (nC : Nat) (nR : Nat) (nf : Int32) (fx : Nat → Int32) (fy : Nat → Int32) (fz : Nat → Int32) (fu : Nat → Int32) (mC : Nat) (mR : Nat) : Nat → Int32 := n_X1_spread_qu mC mR nf fx fy fz fu
abbrev rm_X1_layOut : Room := { frames := 2, cells := 0, slots := 0, locals := 45 }
abbrev Qc_X1_layOut (D : va_G) (cI cZ cJ cD : ClassId) (qf : Nat) (qx : Nat) (qy : Nat) (qz : Nat) (qu : Nat) (nC : Nat) (nR : Nat) (nf : Int32) (fx : Nat → Int32) (fy : Nat → Int32) (fz : Nat → Int32) (fu : Nat → Int32) (mC : Nat) (mR : Nat) (A : Nat → Prop) : Array Value → State → Outcome → State → Prop := va_Qv (fun _ : Unit => True) (zPost D cI cZ cJ cD A [(qf, .inr (1, [.ref qx, .ref qy, .ref qz, .ref qu, .int (n_X1_layOut_qf_4 nC nR nf fx fy fz fu mC mR), .int (n_X1_layOut_qf_5 nC nR nf fx fy fz fu mC mR), .int (n_X1_layOut_qf_6 nC nR nf fx fy fz fu mC mR)])), (qx, .inl (cI, 36, .inl (n_X1_layOut_qx nC nR nf fx fy fz fu mC mR))), (qy, .inl (cI, 36, .inl (n_X1_layOut_qy nC nR nf fx fy fz fu mC mR))), (qz, .inl (cI, 36, .inl (n_X1_layOut_qz nC nR nf fx fy fz fu mC mR))), (qu, .inl (cZ, 36, .inl (n_X1_layOut_qu nC nR nf fx fy fz fu mC mR)))]) A
set_option maxHeartbeats 4000000 in
set_option maxRecDepth 100000 in
theorem c_X1_layOut (l : Launch) (D : va_G) (cI cZ cJ cD : ClassId) (qf : Nat) (qx : Nat) (qy : Nat) (qz : Nat) (qu : Nat) (nC : Nat) (nR : Nat) (nf : Int32) (fx : Nat → Int32) (fy : Nat → Int32) (fz : Nat → Int32) (fu : Nat → Int32) (mC : Nat) (mR : Nat) (sz : Nat) (hN : mC * mR ≤ 36) (hC : mC ≤ 36) (hR : mR ≤ 36) : Met l yX1_layOut wsX1_layOut rm_X1_layOut (va_Pc [.ref qf, .int (nI mC), .int (nI mR)] (zPreW D cI cZ cJ cD [(qf, .inr (1, [.ref qx, .ref qy, .ref qz, .ref qu, .int (nI nC), .int (nI nR), .int nf])), (qx, .inl (cI, 36, .inl fx)), (qy, .inl (cI, 36, .inl fy)), (qz, .inl (cI, 36, .inl fz)), (qu, .inl (cZ, 36, .inl fu))] sz)) (Qc_X1_layOut D cI cZ cJ cD qf qx qy qz qu nC nR nf fx fy fz fu mC mR (va_A [(qf, .inr (1, [.ref qx, .ref qy, .ref qz, .ref qu, .int (nI nC), .int (nI nR), .int nf])), (qx, .inl (cI, 36, .inl fx)), (qy, .inl (cI, 36, .inl fy)), (qz, .inl (cI, 36, .inl fz)), (qu, .inl (cZ, 36, .inl fu))] sz)) 0 0 (va_A [(qf, .inr (1, [.ref qx, .ref qy, .ref qz, .ref qu, .int (nI nC), .int (nI nR), .int nf])), (qx, .inl (cI, 36, .inl fx)), (qy, .inl (cI, 36, .inl fy)), (qz, .inl (cI, 36, .inl fz)), (qu, .inl (cZ, 36, .inl fu))] sz) := by
  refine Met.ofW (cc := cX1_layOut) (maxL := 3) (ret := none) (by decide) rfl ?_
  intro p e s m args below meth c s₁ B hml hv
  obtain ⟨rfl, hsz, hP, hK, hD0⟩ := hv
  have hx := B.exec
  have hb := B.bytes
  have hr := B.returns
  have hts := atoms_spec (ws := wsX1_layOut) B.pre
  have hown : s.vm.findClass RX1 = some m.cls := findClass_of_methodNamed B.named
  have hlocks := B.notSynchronized
  subst hsz
  have hD := hD0.self (sz := s.heap.size)
  generalize hAe : va_A [(qf, .inr (1, [.ref qx, .ref qy, .ref qz, .ref qu, .int (nI nC), .int (nI nR), .int nf])), (qx, .inl (cI, 36, .inl fx)), (qy, .inl (cI, 36, .inl fy)), (qz, .inl (cI, 36, .inl fz)), (qu, .inl (cZ, 36, .inl fu))] s.heap.size = A at hD ⊢
  have hA : ∀ q : Nat, s.heap.size ≤ q → A q := fun q h => by rw [← hAe]; exact Or.inr h
  have hS : va_S A s.heap s.heap [] := va_S.rf
  have hl := lv_entry ([.ref qf, .int (nI mC), .int (nI mR)]) (n := 3) (Nat.le_of_ble_eq_true rfl)
  rw [lg_entry_eq]
  generalize (lg_sl ([.ref qf, .int (nI mC), .int (nI mR)]) ++ List.replicate (3 - (lg_sl ([.ref qf, .int (nI mC), .int (nI mR)])).length) Slot.unset).toArray = ls at hl ⊢
  have hl : lv_has ls 3 [(0, .ref qf), (1, .int (nI mC)), (2, .int (nI mR))] := hl
  have hP : va_P D vwCl [(qf, .inr (1, [.ref qx, .ref qy, .ref qz, .ref qu, .int (nI nC), .int (nI nR), .int nf])), (qx, .inl (cI, 36, .inl fx)), (qy, .inl (cI, 36, .inl fy)), (qz, .inl (cI, 36, .inl fz)), (qu, .inl (cZ, 36, .inl fu))] s.heap := hP
  have hP := hP
  refine lv_aload_n hx hb dX1_layOut_0 rfl (lv_at hl 0 rfl) ?_
  refine lv_iload_n hx hb dX1_layOut_1 rfl (lv_at hl 1 rfl) ?_
  refine va_put (D := D) (ci := 1) (v := .int (nI mC)) (ty := .int) (C := RX1) (T := TX1) (N := 7) hx hb hts (fun w h => List.mem_cons_of_mem _ (List.mem_append_right _ h)) tyX1 tyX1_ok nmX1 hown hK hP hD hS 0 rfl rfl 4 (by decide) (hts (.fieldLink RX1 29 "AtlasFolder$FoldedSheet" "columns" "I") (List.mem_cons_of_mem _ (List.mem_append_left _ (List.mem_of_getElem? (i := 0) rfl)))) (fun _ h9 => h9) rfl (by decide +kernel) rfl rfl (Nat.le_of_ble_eq_true rfl) dX1_layOut_2 (fun H locs hP hD hS => ?_)
  have hP : va_P D vwCl [(qf, .inr (1, [.ref qx, .ref qy, .ref qz, .ref qu, .int (nI mC), .int (nI nR), .int nf])), (qx, .inl (cI, 36, .inl fx)), (qy, .inl (cI, 36, .inl fy)), (qz, .inl (cI, 36, .inl fz)), (qu, .inl (cZ, 36, .inl fu))] H := hP
  have hD : va_D A [(qf, .inr (1, [.ref qx, .ref qy, .ref qz, .ref qu, .int (nI mC), .int (nI nR), .int nf])), (qx, .inl (cI, 36, .inl fx)), (qy, .inl (cI, 36, .inl fy)), (qz, .inl (cI, 36, .inl fz)), (qu, .inl (cZ, 36, .inl fu))] := hD
  refine lv_aload_n hx hb dX1_layOut_5 rfl (lv_at hl 0 rfl) ?_
  refine lv_iload_n hx hb dX1_layOut_6 rfl (lv_at hl 2 rfl) ?_
  refine va_put (D := D) (ci := 1) (v := .int (nI mR)) (ty := .int) (C := RX1) (T := TX1) (N := 7) hx hb hts (fun w h => List.mem_cons_of_mem _ (List.mem_append_right _ h)) tyX1 tyX1_ok nmX1 hown hK hP hD hS 0 rfl rfl 5 (by decide) (hts (.fieldLink RX1 33 "AtlasFolder$FoldedSheet" "rows" "I") (List.mem_cons_of_mem _ (List.mem_append_left _ (List.mem_of_getElem? (i := 1) rfl)))) (fun _ h9 => h9) rfl (by decide +kernel) rfl rfl (Nat.le_of_ble_eq_true rfl) dX1_layOut_7 (fun H locs hP hD hS => ?_)
  have hP : va_P D vwCl [(qf, .inr (1, [.ref qx, .ref qy, .ref qz, .ref qu, .int (nI mC), .int (nI mR), .int nf])), (qx, .inl (cI, 36, .inl fx)), (qy, .inl (cI, 36, .inl fy)), (qz, .inl (cI, 36, .inl fz)), (qu, .inl (cZ, 36, .inl fu))] H := hP
  have hD : va_D A [(qf, .inr (1, [.ref qx, .ref qy, .ref qz, .ref qu, .int (nI mC), .int (nI mR), .int nf])), (qx, .inl (cI, 36, .inl fx)), (qy, .inl (cI, 36, .inl fy)), (qz, .inl (cI, 36, .inl fz)), (qu, .inl (cZ, 36, .inl fu))] := hD
  refine lv_aload_n hx hb dX1_layOut_10 rfl (lv_at hl 0 rfl) ?_
  have hPc := hP.sub (ws' := [(qf, .inr (1, [.ref qx, .ref qy, .ref qz, .ref qu, .int (nI mC), .int (nI mR), .int nf])), (qx, .inl (cI, 36, .inl fx)), (qy, .inl (cI, 36, .inl fy)), (qz, .inl (cI, 36, .inl fz)), (qu, .inl (cZ, 36, .inl fu))]) [0, 1, 2, 3, 4] rfl
  have hDc := hD.sub (ws' := [(qf, .inr (1, [.ref qx, .ref qy, .ref qz, .ref qu, .int (nI mC), .int (nI mR), .int nf])), (qx, .inl (cI, 36, .inl fx)), (qy, .inl (cI, 36, .inl fy)), (qz, .inl (cI, 36, .inl fz)), (qu, .inl (cZ, 36, .inl fu))]) [0, 1, 2, 3, 4] (by decide) rfl
  have hFc := va_free (wc := [(qf, .inr (1, [.ref qx, .ref qy, .ref qz, .ref qu, .int (nI mC), .int (nI mR), .int nf])), (qx, .inl (cI, 36, .inl fx)), (qy, .inl (cI, 36, .inl fy)), (qz, .inl (cI, 36, .inl fz)), (qu, .inl (cZ, 36, .inl fu))]) hD hS hA [0, 1, 2, 3, 4] rfl
  refine va_calli (va_runV (As := []) (rest := []) ⟨hx, hb, hml, hown, hts⟩ (c_X1_spread l D cI cZ cJ cD qf qx qy qz qu mC mR nf fx fy fz fu H.size hN hC hR) (cwV 0 hts gX1_layOut_X1_spread rfl rfl rfl (by decide +kernel) ⟨Nat.le_of_ble_eq_true rfl, Nat.le_of_ble_eq_true rfl⟩) ⟨zblindW, va_recv hK hP (ci := 1) (q0 := 0) rfl rfl, (fun U hU hW => ⟨rfl, by rw [hU], by rw [hU]; exact hPc, va_K.moved hW.alike hK, hDc.weaken (fun _ _ _ _ => trivial)⟩)⟩ rfl rfl hl.1 rfl (lv_room (Nat.le_of_ble_eq_true rfl)) dX1_layOut_11 ⟨Nat.le_of_ble_eq_true rfl, Nat.le_of_ble_eq_true rfl⟩) hS (fun q _ h => hFc q h) hFc (fun r2 u t H locs ht hvm hw hB hz1 hk1 hS => ?_)
  rw [hw]
  obtain ⟨hP1, hK1, hD1⟩ := hB
  rw [ht] at hP1
  obtain ⟨hP, hD⟩ := va_join (wr := []) (w1 := [(qf, .inr (1, [.ref qx, .ref qy, .ref qz, .ref qu, .int (nI mC), .int (nI mR), .int (n_X1_spread_qf_6 mC mR nf fx fy fz fu)])), (qx, .inl (cI, 36, .inl (n_X1_spread_qx mC mR nf fx fy fz fu))), (qy, .inl (cI, 36, .inl (n_X1_spread_qy mC mR nf fx fy fz fu))), (qz, .inl (cI, 36, .inl (n_X1_spread_qz mC mR nf fx fy fz fu))), (qu, .inl (cZ, 36, .inl (n_X1_spread_qu mC mR nf fx fy fz fu)))]) hP hD [0, 1, 2, 3, 4] [] rfl rfl (by decide) (by decide) hk1 hFc hP1 hD1
  have hP := hP.sub (ws' := [(qf, .inr (1, [.ref qx, .ref qy, .ref qz, .ref qu, .int (nI mC), .int (nI mR), .int (n_X1_spread_qf_6 mC mR nf fx fy fz fu)])), (qx, .inl (cI, 36, .inl (n_X1_spread_qx mC mR nf fx fy fz fu))), (qy, .inl (cI, 36, .inl (n_X1_spread_qy mC mR nf fx fy fz fu))), (qz, .inl (cI, 36, .inl (n_X1_spread_qz mC mR nf fx fy fz fu))), (qu, .inl (cZ, 36, .inl (n_X1_spread_qu mC mR nf fx fy fz fu)))]) [0, 1, 2, 3, 4] rfl
  have hD := hD.sub (ws' := [(qf, .inr (1, [.ref qx, .ref qy, .ref qz, .ref qu, .int (nI mC), .int (nI mR), .int (n_X1_spread_qf_6 mC mR nf fx fy fz fu)])), (qx, .inl (cI, 36, .inl (n_X1_spread_qx mC mR nf fx fy fz fu))), (qy, .inl (cI, 36, .inl (n_X1_spread_qy mC mR nf fx fy fz fu))), (qz, .inl (cI, 36, .inl (n_X1_spread_qz mC mR nf fx fy fz fu))), (qu, .inl (cZ, 36, .inl (n_X1_spread_qu mC mR nf fx fy fz fu)))]) [0, 1, 2, 3, 4] (by decide) rfl
  refine lv_pop hx hb dX1_layOut_14 rfl ?_
  have e3 : n_X1_layOut_qf_4 nC nR nf fx fy fz fu mC mR = nI mC := rfl
  have e4 : n_X1_layOut_qf_5 nC nR nf fx fy fz fu mC mR = nI mR := rfl
  have e5 : n_X1_layOut_qf_6 nC nR nf fx fy fz fu mC mR = n_X1_spread_qf_6 mC mR nf fx fy fz fu := rfl
  have e6 : n_X1_layOut_qx nC nR nf fx fy fz fu mC mR = n_X1_spread_qx mC mR nf fx fy fz fu := rfl
  have e7 : n_X1_layOut_qy nC nR nf fx fy fz fu mC mR = n_X1_spread_qy mC mR nf fx fy fz fu := rfl
  have e8 : n_X1_layOut_qz nC nR nf fx fy fz fu mC mR = n_X1_spread_qz mC mR nf fx fy fz fu := rfl
  have e9 : n_X1_layOut_qu nC nR nf fx fy fz fu mC mR = n_X1_spread_qu mC mR nf fx fy fz fu := rfl
  exact W.vret hx hb hr (fun t ht hW => ⟨⟨(), rfl, trivial, ⟨(by rw [e3, e4, e5, e6, e7, e8, e9]; rw [ht]; exact hP), va_K.moved hW.alike hK, (by rw [e3, e4, e5, e6, e7, e8, e9]; exact hD)⟩⟩, hS.F ht⟩) hS.2.2 dX1_layOut_15
def s_X1_turnOver (nC : Nat) (nR : Nat) (nf : Int32) (f : Nat → Int32) (fz : Nat → Int32) (fu : Nat → Int32) (b : Int32) : Int32 := (if (s_X1_placesBelow nC nR nf f b) = 0 then 0 else (if (s_X1_placesBelow nC nR nf f b) = (s_X1_panels nC nR nf) then 0 else s_X1_placesBelow nC nR nf f b))
def n_X1_turnOver_qf_6 (nC : Nat) (nR : Nat) (nf : Int32) (f : Nat → Int32) (fz : Nat → Int32) (fu : Nat → Int32) (b : Int32) : Int32 := (if (s_X1_placesBelow nC nR nf f b) = 0 then nf else (if (s_X1_placesBelow nC nR nf f b) = (s_X1_panels nC nR nf) then nf else nf + 1))
def n_X1_turnOver_qa (nC : Nat) (nR : Nat) (nf : Int32) (f : Nat → Int32) (fz : Nat → Int32) (fu : Nat → Int32) (b : Int32) : Nat → Int32 := (if (s_X1_placesBelow nC nR nf f b) = 0 then f else (if (s_X1_placesBelow nC nR nf f b) = (s_X1_panels nC nR nf) then f else zt f b (fun p => 2 * b - 1 - f p) f (nC * nR)))
def n_X1_turnOver_qz (nC : Nat) (nR : Nat) (nf : Int32) (f : Nat → Int32) (fz : Nat → Int32) (fu : Nat → Int32) (b : Int32) : Nat → Int32 := (if (s_X1_placesBelow nC nR nf f b) = 0 then fz else (if (s_X1_placesBelow nC nR nf f b) = (s_X1_panels nC nR nf) then fz else zt f b (fun p => 2 * (s_X1_highestLayer nC nR nf fz) + 1 - fz p) fz (nC * nR)))
def n_X1_turnOver_qu (nC : Nat) (nR : Nat) (nf : Int32) (f : Nat → Int32) (fz : Nat → Int32) (fu : Nat → Int32) (b : Int32) : Nat → Int32 := (if (s_X1_placesBelow nC nR nf f b) = 0 then fu else (if (s_X1_placesBelow nC nR nf f b) = (s_X1_panels nC nR nf) then fu else zt f b (fun p => if fu p = 0 then 1 else 0) fu (nC * nR)))
abbrev rm_X1_turnOver : Room := { frames := 2, cells := 0, slots := 0, locals := 44 }
abbrev Qc_X1_turnOver (D : va_G) (cI cZ cJ cD : ClassId) (qf : Nat) (qx : Nat) (qy : Nat) (qz : Nat) (qu : Nat) (nC : Nat) (nR : Nat) (nf : Int32) (qa : Nat) (f : Nat → Int32) (fz : Nat → Int32) (fu : Nat → Int32) (b : Int32) (A : Nat → Prop) : Array Value → State → Outcome → State → Prop := va_Qi (fun (r : Int32) (_ : Unit) => r = s_X1_turnOver nC nR nf f fz fu b) (zPost D cI cZ cJ cD A [(qf, .inr (1, [.ref qx, .ref qy, .ref qz, .ref qu, .int (nI nC), .int (nI nR), .int (n_X1_turnOver_qf_6 nC nR nf f fz fu b)])), (qa, .inl (cI, 36, .inl (n_X1_turnOver_qa nC nR nf f fz fu b))), (qz, .inl (cI, 36, .inl (n_X1_turnOver_qz nC nR nf f fz fu b))), (qu, .inl (cZ, 36, .inl (n_X1_turnOver_qu nC nR nf f fz fu b)))]) A
set_option maxHeartbeats 4000000 in
set_option maxRecDepth 100000 in
theorem c_X1_turnOver (l : Launch) (D : va_G) (cI cZ cJ cD : ClassId) (qf : Nat) (qx : Nat) (qy : Nat) (qz : Nat) (qu : Nat) (nC : Nat) (nR : Nat) (nf : Int32) (qa : Nat) (f : Nat → Int32) (fz : Nat → Int32) (fu : Nat → Int32) (b : Int32) (sz : Nat) (hN : nC * nR ≤ 36) : Met l yX1_turnOver wsX1_turnOver rm_X1_turnOver (va_Pc [.ref qf, .ref qa, .int b] (zPreW D cI cZ cJ cD [(qf, .inr (1, [.ref qx, .ref qy, .ref qz, .ref qu, .int (nI nC), .int (nI nR), .int nf])), (qa, .inl (cI, 36, .inl f)), (qz, .inl (cI, 36, .inl fz)), (qu, .inl (cZ, 36, .inl fu))] sz)) (Qc_X1_turnOver D cI cZ cJ cD qf qx qy qz qu nC nR nf qa f fz fu b (va_A [(qf, .inr (1, [.ref qx, .ref qy, .ref qz, .ref qu, .int (nI nC), .int (nI nR), .int nf])), (qa, .inl (cI, 36, .inl f)), (qz, .inl (cI, 36, .inl fz)), (qu, .inl (cZ, 36, .inl fu))] sz)) 0 0 (va_A [(qf, .inr (1, [.ref qx, .ref qy, .ref qz, .ref qu, .int (nI nC), .int (nI nR), .int nf])), (qa, .inl (cI, 36, .inl f)), (qz, .inl (cI, 36, .inl fz)), (qu, .inl (cZ, 36, .inl fu))] sz) := by
  refine Met.ofW (cc := cX1_turnOver) (maxL := 6) (ret := (some .int)) (by decide) rfl ?_
  intro p e s m args below meth c s₁ B hml hv
  obtain ⟨rfl, hsz, hP, hK, hD0⟩ := hv
  have hx := B.exec
  have hb := B.bytes
  have hr := B.returns
  have hts := atoms_spec (ws := wsX1_turnOver) B.pre
  have hown : s.vm.findClass RX1 = some m.cls := findClass_of_methodNamed B.named
  have hlocks := B.notSynchronized
  subst hsz
  have hD := hD0.self (sz := s.heap.size)
  generalize hAe : va_A [(qf, .inr (1, [.ref qx, .ref qy, .ref qz, .ref qu, .int (nI nC), .int (nI nR), .int nf])), (qa, .inl (cI, 36, .inl f)), (qz, .inl (cI, 36, .inl fz)), (qu, .inl (cZ, 36, .inl fu))] s.heap.size = A at hD ⊢
  have hA : ∀ q : Nat, s.heap.size ≤ q → A q := fun q h => by rw [← hAe]; exact Or.inr h
  have hS : va_S A s.heap s.heap [] := va_S.rf
  have hl := lv_entry ([.ref qf, .ref qa, .int b]) (n := 6) (Nat.le_of_ble_eq_true rfl)
  rw [lg_entry_eq]
  generalize (lg_sl ([.ref qf, .ref qa, .int b]) ++ List.replicate (6 - (lg_sl ([.ref qf, .ref qa, .int b])).length) Slot.unset).toArray = ls at hl ⊢
  have hl : lv_has ls 6 [(0, .ref qf), (1, .ref qa), (2, .int b)] := hl
  have hP : va_P D vwCl [(qf, .inr (1, [.ref qx, .ref qy, .ref qz, .ref qu, .int (nI nC), .int (nI nR), .int nf])), (qa, .inl (cI, 36, .inl f)), (qz, .inl (cI, 36, .inl fz)), (qu, .inl (cZ, 36, .inl fu))] s.heap := hP
  have hP := hP
  refine lv_aload_n hx hb dX1_turnOver_0 rfl (lv_at hl 0 rfl) ?_
  refine lv_aload_n hx hb dX1_turnOver_1 rfl (lv_at hl 1 rfl) ?_
  refine lv_iload_n hx hb dX1_turnOver_2 rfl (lv_at hl 2 rfl) ?_
  refine va_calli (va_runV (As := [.ref qa, .int b]) (rest := []) ⟨hx, hb, hml, hown, hts⟩ (c_X1_placesBelow l D cI cZ cJ cD qf qx qy qz qu nC nR nf qa f b (by assumption)) (cwV 2 hts gX1_turnOver_X1_placesBelow rfl rfl rfl (by decide +kernel) ⟨Nat.le_of_ble_eq_true rfl, Nat.le_of_ble_eq_true rfl⟩) ⟨zblind, va_recv hK hP (ci := 1) (q0 := 0) rfl rfl, (fun U hU hW => ⟨rfl, by rw [hU]; exact hP.sub (ws' := [(qf, .inr (1, [.ref qx, .ref qy, .ref qz, .ref qu, .int (nI nC), .int (nI nR), .int nf])), (qa, .inl (cI, 36, .inl f))]) [0, 1] rfl, va_K.moved hW.alike hK⟩)⟩ rfl rfl hl.1 rfl (lv_room (Nat.le_of_ble_eq_true rfl)) dX1_turnOver_3 ⟨Nat.le_of_ble_eq_true rfl, Nat.le_of_ble_eq_true rfl⟩) hS (fun q _ h => h.elim) (fun q h => h.elim) (fun r6 u t H locs ht hvm hw hB hz1 hk1 hS => ?_)
  rw [hw]
  have hP := zk hP hk1
  refine lv_istore_n (lv' := [(3, .int (s_X1_placesBelow nC nR nf f b)), (0, .ref qf), (1, .ref qa), (2, .int b)]) hx hb dX1_turnOver_6 rfl hl (by decide) rfl (fun ls hl => ?_)
  refine lv_iload_n hx hb dX1_turnOver_7 rfl (lv_at hl 0 rfl) ?_
  refine lv_if_eq (tgt := 19) hx hb dX1_turnOver_8 (by decide) (fun c7 => ?_) (fun c7 => ?_)
  · refine lv_iconst (v := 0) hx hb dX1_turnOver_19 (by decide) ?_
    have e8 : s_X1_turnOver nC nR nf f fz fu b = 0 := by
      unfold s_X1_turnOver
      exact (if_pos c7)
    have e9 : n_X1_turnOver_qf_6 nC nR nf f fz fu b = nf := by
      unfold n_X1_turnOver_qf_6
      exact (if_pos c7)
    have e10 : n_X1_turnOver_qa nC nR nf f fz fu b = f := by
      unfold n_X1_turnOver_qa
      exact (if_pos c7)
    have e11 : n_X1_turnOver_qz nC nR nf f fz fu b = fz := by
      unfold n_X1_turnOver_qz
      exact (if_pos c7)
    have e12 : n_X1_turnOver_qu nC nR nf f fz fu b = fu := by
      unfold n_X1_turnOver_qu
      exact (if_pos c7)
    exact W.iret (v := 0) hx hb hr (fun t ht hW => ⟨⟨_, (), rfl, e8.symm, ⟨(by rw [e9, e10, e11, e12]; rw [ht]; exact hP), va_K.moved hW.alike hK, (by rw [e9, e10, e11, e12]; exact hD)⟩⟩, hS.F ht⟩) hS.2.2 dX1_turnOver_20
  · refine lv_iload_n hx hb dX1_turnOver_11 rfl (lv_at hl 0 rfl) ?_
    refine lv_aload_n hx hb dX1_turnOver_12 rfl (lv_at hl 1 rfl) ?_
    refine va_calli (va_runV (As := []) (rest := [.int (s_X1_placesBelow nC nR nf f b)]) ⟨hx, hb, hml, hown, hts⟩ (c_X1_panels l D cI cZ cJ cD qf qx qy qz qu nC nR nf ) (cwV 0 hts gX1_turnOver_X1_panels rfl rfl rfl (by decide +kernel) ⟨Nat.le_of_ble_eq_true rfl, Nat.le_of_ble_eq_true rfl⟩) ⟨zblind, va_recv hK hP (ci := 1) (q0 := 0) rfl rfl, (fun U hU hW => ⟨rfl, by rw [hU]; exact hP.sub (ws' := [(qf, .inr (1, [.ref qx, .ref qy, .ref qz, .ref qu, .int (nI nC), .int (nI nR), .int nf]))]) [0] rfl, va_K.moved hW.alike hK⟩)⟩ rfl rfl hl.1 rfl (lv_room (Nat.le_of_ble_eq_true rfl)) dX1_turnOver_13 ⟨Nat.le_of_ble_eq_true rfl, Nat.le_of_ble_eq_true rfl⟩) hS (fun q _ h => h.elim) (fun q h => h.elim) (fun r13 u t H locs ht hvm hw hB hz1 hk1 hS => ?_)
    rw [hw]
    have hP := zk hP hk1
    refine lv_icmp_ne (tgt := 21) hx hb dX1_turnOver_16 (by decide) (fun c14 => ?_) (fun c14 => ?_)
    · refine lv_aload_n hx hb dX1_turnOver_21 rfl (lv_at hl 1 rfl) ?_
      refine va_calli (va_runV (As := []) (rest := []) ⟨hx, hb, hml, hown, hts⟩ (c_X1_highestLayer l D cI cZ cJ cD qf qx qy qz qu nC nR nf fz (by assumption)) (cwV 0 hts gX1_turnOver_X1_highestLayer rfl rfl rfl (by decide +kernel) ⟨Nat.le_of_ble_eq_true rfl, Nat.le_of_ble_eq_true rfl⟩) ⟨zblind, va_recv hK hP (ci := 1) (q0 := 0) rfl rfl, (fun U hU hW => ⟨rfl, by rw [hU]; exact hP.sub (ws' := [(qf, .inr (1, [.ref qx, .ref qy, .ref qz, .ref qu, .int (nI nC), .int (nI nR), .int nf])), (qz, .inl (cI, 36, .inl fz))]) [0, 2] rfl, va_K.moved hW.alike hK⟩)⟩ rfl rfl hl.1 rfl (lv_room (Nat.le_of_ble_eq_true rfl)) dX1_turnOver_22 ⟨Nat.le_of_ble_eq_true rfl, Nat.le_of_ble_eq_true rfl⟩) hS (fun q _ h => h.elim) (fun q h => h.elim) (fun r15 u t H locs ht hvm hw hB hz1 hk1 hS => ?_)
      rw [hw]
      have hP := zk hP hk1
      refine lv_istore (lv' := [(4, .int (s_X1_highestLayer nC nR nf fz)), (3, .int (s_X1_placesBelow nC nR nf f b)), (0, .ref qf), (1, .ref qa), (2, .int b)]) hx hb dX1_turnOver_25 hl (by decide) rfl (fun ls hl => ?_)
      refine lv_iconst (v := 0) hx hb dX1_turnOver_27 (by decide) ?_
      refine lv_istore (lv' := [(5, .int 0), (4, .int (s_X1_highestLayer nC nR nf fz)), (3, .int (s_X1_placesBelow nC nR nf f b)), (0, .ref qf), (1, .ref qa), (2, .int b)]) hx hb dX1_turnOver_28 hl (by decide) rfl (fun ls hl => ?_)
      have X16 : ∀ (H : Heap) (locs : List Loc), va_P D vwCl [(qf, .inr (1, [.ref qx, .ref qy, .ref qz, .ref qu, .int (nI nC), .int (nI nR), .int nf])), (qa, .inl (cI, 36, .inl (zt f b (fun p => 2 * b - 1 - f p) f (nC * nR)))), (qz, .inl (cI, 36, .inl (zt f b (fun p => 2 * (s_X1_highestLayer nC nR nf fz) + 1 - fz p) fz (nC * nR)))), (qu, .inl (cZ, 36, .inl (zt f b (fun p => if fu p = 0 then 1 else 0) fu (nC * nR))))] H → va_D A [(qf, .inr (1, [.ref qx, .ref qy, .ref qz, .ref qu, .int (nI nC), .int (nI nR), .int nf])), (qa, .inl (cI, 36, .inl (zt f b (fun p => 2 * b - 1 - f p) f (nC * nR)))), (qz, .inl (cI, 36, .inl (zt f b (fun p => 2 * (s_X1_highestLayer nC nR nf fz) + 1 - fz p) fz (nC * nR)))), (qu, .inl (cZ, 36, .inl (zt f b (fun p => if fu p = 0 then 1 else 0) fu (nC * nR))))] → va_S A s.heap H locs → ∀ (ls : Array Slot), lv_has ls 6 [(4, .int (s_X1_highestLayer nC nR nf fz)), (3, .int (s_X1_placesBelow nC nR nf f b)), (0, .ref qf), (1, .ref qa), (2, .int b)] → W p l e (headSpec wsX1_turnOver rm_X1_turnOver).room s m ([.ref qf, .ref qa, .int b]).toArray below meth c H locs 0 0 (MQ below (Qc_X1_turnOver D cI cZ cJ cD qf qx qy qz qu nC nR nf qa f fz fu b A) ([.ref qf, .ref qa, .int b]).toArray s 0 0 A) (F0 m 110 ls []) := by
        intro  H locs hP hD hS ls hl
        refine lv_aload_n hx hb dX1_turnOver_110 rfl (lv_at hl 2 rfl) ?_
        refine lv_dup hx hb dX1_turnOver_111 rfl ?_
        refine va_get (D := D) (ci := 1) (v := .int nf) (C := RX1) (T := TX1) (N := 7) hx hb hts (fun w h => List.mem_cons_of_mem _ (List.mem_append_right _ h)) hown hK hP 0 rfl rfl 6 (by decide) (hts (.fieldLink RX1 44 "AtlasFolder$FoldedSheet" "folds" "I") (List.mem_cons_of_mem _ (List.mem_append_left _ (List.mem_of_getElem? (i := 2) rfl)))) (fun _ h9 => h9) rfl dX1_turnOver_112 ?_
        refine lv_iconst (v := 1) hx hb dX1_turnOver_115 (by decide) ?_
        refine lv_iadd hx hb dX1_turnOver_116 ?_
        refine va_put (D := D) (ci := 1) (v := .int (nf + 1)) (ty := .int) (C := RX1) (T := TX1) (N := 7) hx hb hts (fun w h => List.mem_cons_of_mem _ (List.mem_append_right _ h)) tyX1 tyX1_ok nmX1 hown hK hP hD hS 0 rfl rfl 6 (by decide) (hts (.fieldLink RX1 44 "AtlasFolder$FoldedSheet" "folds" "I") (List.mem_cons_of_mem _ (List.mem_append_left _ (List.mem_of_getElem? (i := 2) rfl)))) (fun _ h9 => h9) rfl (by decide +kernel) rfl rfl (Nat.le_of_ble_eq_true rfl) dX1_turnOver_117 (fun H locs hP hD hS => ?_)
        have hP : va_P D vwCl [(qf, .inr (1, [.ref qx, .ref qy, .ref qz, .ref qu, .int (nI nC), .int (nI nR), .int (nf + 1)])), (qa, .inl (cI, 36, .inl (zt f b (fun p => 2 * b - 1 - f p) f (nC * nR)))), (qz, .inl (cI, 36, .inl (zt f b (fun p => 2 * (s_X1_highestLayer nC nR nf fz) + 1 - fz p) fz (nC * nR)))), (qu, .inl (cZ, 36, .inl (zt f b (fun p => if fu p = 0 then 1 else 0) fu (nC * nR))))] H := hP
        have hD : va_D A [(qf, .inr (1, [.ref qx, .ref qy, .ref qz, .ref qu, .int (nI nC), .int (nI nR), .int (nf + 1)])), (qa, .inl (cI, 36, .inl (zt f b (fun p => 2 * b - 1 - f p) f (nC * nR)))), (qz, .inl (cI, 36, .inl (zt f b (fun p => 2 * (s_X1_highestLayer nC nR nf fz) + 1 - fz p) fz (nC * nR)))), (qu, .inl (cZ, 36, .inl (zt f b (fun p => if fu p = 0 then 1 else 0) fu (nC * nR))))] := hD
        refine lv_iload_n hx hb dX1_turnOver_120 rfl (lv_at hl 1 rfl) ?_
        have e17 : s_X1_turnOver nC nR nf f fz fu b = s_X1_placesBelow nC nR nf f b := by
          unfold s_X1_turnOver
          exact ((if_neg c7).trans (if_neg c14))
        have e18 : n_X1_turnOver_qf_6 nC nR nf f fz fu b = nf + 1 := by
          unfold n_X1_turnOver_qf_6
          exact ((if_neg c7).trans (if_neg c14))
        have e19 : n_X1_turnOver_qa nC nR nf f fz fu b = zt f b (fun p => 2 * b - 1 - f p) f (nC * nR) := by
          unfold n_X1_turnOver_qa
          exact ((if_neg c7).trans (if_neg c14))
        have e20 : n_X1_turnOver_qz nC nR nf f fz fu b = zt f b (fun p => 2 * (s_X1_highestLayer nC nR nf fz) + 1 - fz p) fz (nC * nR) := by
          unfold n_X1_turnOver_qz
          exact ((if_neg c7).trans (if_neg c14))
        have e21 : n_X1_turnOver_qu nC nR nf f fz fu b = zt f b (fun p => if fu p = 0 then 1 else 0) fu (nC * nR) := by
          unfold n_X1_turnOver_qu
          exact ((if_neg c7).trans (if_neg c14))
        exact W.iret (v := (s_X1_placesBelow nC nR nf f b)) hx hb hr (fun t ht hW => ⟨⟨_, (), rfl, e17.symm, ⟨(by rw [e18, e19, e20, e21]; rw [ht]; exact hP), va_K.moved hW.alike hK, (by rw [e18, e19, e20, e21]; exact hD)⟩⟩, hS.F ht⟩) hS.2.2 dX1_turnOver_121
      have L16 : ∀ (n16 : Nat) (k : Nat), (k ≤ nC * nR) → (nC * nR < k + n16) → ∀ (H : Heap) (locs : List Loc), va_P D vwCl [(qf, .inr (1, [.ref qx, .ref qy, .ref qz, .ref qu, .int (nI nC), .int (nI nR), .int nf])), (qa, .inl (cI, 36, .inl (zt f b (fun p => 2 * b - 1 - f p) f k))), (qz, .inl (cI, 36, .inl (zt f b (fun p => 2 * (s_X1_highestLayer nC nR nf fz) + 1 - fz p) fz k))), (qu, .inl (cZ, 36, .inl (zt f b (fun p => if fu p = 0 then 1 else 0) fu k)))] H → va_D A [(qf, .inr (1, [.ref qx, .ref qy, .ref qz, .ref qu, .int (nI nC), .int (nI nR), .int nf])), (qa, .inl (cI, 36, .inl (zt f b (fun p => 2 * b - 1 - f p) f k))), (qz, .inl (cI, 36, .inl (zt f b (fun p => 2 * (s_X1_highestLayer nC nR nf fz) + 1 - fz p) fz k))), (qu, .inl (cZ, 36, .inl (zt f b (fun p => if fu p = 0 then 1 else 0) fu k)))] → va_S A s.heap H locs → ∀ (ls : Array Slot), lv_has ls 6 [(5, .int (nI k)), (4, .int (s_X1_highestLayer nC nR nf fz)), (3, .int (s_X1_placesBelow nC nR nf f b)), (0, .ref qf), (1, .ref qa), (2, .int b)] → W p l e (headSpec wsX1_turnOver rm_X1_turnOver).room s m ([.ref qf, .ref qa, .int b]).toArray below meth c H locs 0 0 (MQ below (Qc_X1_turnOver D cI cZ cJ cD qf qx qy qz qu nC nR nf qa f fz fu b A) ([.ref qf, .ref qa, .int b]).toArray s 0 0 A) (F0 m 30 ls []) := by
        intro n16
        induction n16 with
        | zero =>
          intro k hk hf16
          exact absurd hf16 (by omega)
        | succ n16 ih16 =>
          intro k hk hf16 H locs hP hD hS ls hl
          refine lv_iload hx hb dX1_turnOver_30 (lv_at hl 0 rfl) ?_
          refine lv_aload_n hx hb dX1_turnOver_32 rfl (lv_at hl 3 rfl) ?_
          refine va_calli (va_runV (As := []) (rest := [.int (nI k)]) ⟨hx, hb, hml, hown, hts⟩ (c_X1_panels l D cI cZ cJ cD qf qx qy qz qu nC nR nf ) (cwV 0 hts gX1_turnOver_X1_panels rfl rfl rfl (by decide +kernel) ⟨Nat.le_of_ble_eq_true rfl, Nat.le_of_ble_eq_true rfl⟩) ⟨zblind, va_recv hK hP (ci := 1) (q0 := 0) rfl rfl, (fun U hU hW => ⟨rfl, by rw [hU]; exact hP.sub (ws' := [(qf, .inr (1, [.ref qx, .ref qy, .ref qz, .ref qu, .int (nI nC), .int (nI nR), .int nf]))]) [0] rfl, va_K.moved hW.alike hK⟩)⟩ rfl rfl hl.1 rfl (lv_room (Nat.le_of_ble_eq_true rfl)) dX1_turnOver_33 ⟨Nat.le_of_ble_eq_true rfl, Nat.le_of_ble_eq_true rfl⟩) hS (fun q _ h => h.elim) (fun q h => h.elim) (fun r22 u t H locs ht hvm hw hB hz1 hk1 hS => ?_)
          rw [hw]
          have hP := zk hP hk1
          refine lv_icmp_ge (tgt := 110) hx hb dX1_turnOver_36 (by decide) (fun c23 => ?_) (fun c23 => ?_)
          · have hk9 : nC * nR ≤ k := z_pge hN hk c23
            have ek9 : k = nC * nR := by omega
            subst ek9
            exact X16  _ _ hP hD hS _ (lv_sub hl [1, 2, 3, 4, 5] rfl)
          · refine lv_aload_n hx hb dX1_turnOver_39 rfl (lv_at hl 4 rfl) ?_
            refine lv_iload hx hb dX1_turnOver_40 (lv_at hl 0 rfl) ?_
            refine va_iald hx hb hK hP 1 0 rfl rfl (z_pin hN hk c23) dX1_turnOver_42 ?_
            refine lv_iload_n hx hb dX1_turnOver_43 rfl (lv_at hl 5 rfl) ?_
            refine lv_icmp_ge (tgt := 104) hx hb dX1_turnOver_44 (by decide) (fun c24 => ?_) (fun c24 => ?_)
            · refine lv_iinc (v := nI (k + 1)) (lv' := [(5, .int (nI (k + 1))), (4, .int (s_X1_highestLayer nC nR nf fz)), (3, .int (s_X1_placesBelow nC nR nf f b)), (0, .ref qf), (1, .ref qa), (2, .int b)]) hx hb dX1_turnOver_104 hl (k := 0) rfl (nI_succ k).symm (by decide) rfl (fun ls hl => ?_)
              refine lv_goto (tgt := 30) hx hb dX1_turnOver_107 (by decide) ?_
              have hk8 : k < nC * nR := z_plt hN hk c23
              have hk36 : k < 36 := by omega
              have hs8 := zt_ge hk36 c24
              rw [zt_skip (fun p => 2 * b - 1 - f p) f hs8, zt_skip (fun p => 2 * (s_X1_highestLayer nC nR nf fz) + 1 - fz p) fz hs8, zt_skip (fun p => if fu p = 0 then 1 else 0) fu hs8] at hP hD
              exact ih16 (k + 1) (by omega) (by omega) _ _ hP hD hS _ (lv_sub hl [0, 1, 2, 3, 4, 5] rfl)
            · refine lv_aload_n hx hb dX1_turnOver_47 rfl (lv_at hl 4 rfl) ?_
              refine lv_iload hx hb dX1_turnOver_48 (lv_at hl 0 rfl) ?_
              refine lv_iconst (v := 2) hx hb dX1_turnOver_50 (by decide) ?_
              refine lv_iload_n hx hb dX1_turnOver_51 rfl (lv_at hl 5 rfl) ?_
              refine lv_imul hx hb dX1_turnOver_52 ?_
              refine lv_iconst (v := 1) hx hb dX1_turnOver_53 (by decide) ?_
              refine lv_isub hx hb dX1_turnOver_54 ?_
              refine lv_aload_n hx hb dX1_turnOver_55 rfl (lv_at hl 4 rfl) ?_
              refine lv_iload hx hb dX1_turnOver_56 (lv_at hl 0 rfl) ?_
              refine va_iald hx hb hK hP 1 0 rfl rfl (z_pin hN hk c23) dX1_turnOver_58 ?_
              refine lv_isub hx hb dX1_turnOver_59 ?_
              refine va_iast hx hb hK hP hD hS 1 0 rfl rfl (z_pin hN hk c23) dX1_turnOver_60 (fun H locs hP hD hS => ?_)
              have hP : va_P D vwCl [(qf, .inr (1, [.ref qx, .ref qy, .ref qz, .ref qu, .int (nI nC), .int (nI nR), .int nf])), (qa, .inl (cI, 36, .inl (upd (zt f b (fun p => 2 * b - 1 - f p) f k) (nI k).toNatClampNeg (((2 * b) - 1) - ((zt f b (fun p => 2 * b - 1 - f p) f k) (nI k).toNatClampNeg))))), (qz, .inl (cI, 36, .inl (zt f b (fun p => 2 * (s_X1_highestLayer nC nR nf fz) + 1 - fz p) fz k))), (qu, .inl (cZ, 36, .inl (zt f b (fun p => if fu p = 0 then 1 else 0) fu k)))] H := hP
              have hD : va_D A [(qf, .inr (1, [.ref qx, .ref qy, .ref qz, .ref qu, .int (nI nC), .int (nI nR), .int nf])), (qa, .inl (cI, 36, .inl (upd (zt f b (fun p => 2 * b - 1 - f p) f k) (nI k).toNatClampNeg (((2 * b) - 1) - ((zt f b (fun p => 2 * b - 1 - f p) f k) (nI k).toNatClampNeg))))), (qz, .inl (cI, 36, .inl (zt f b (fun p => 2 * (s_X1_highestLayer nC nR nf fz) + 1 - fz p) fz k))), (qu, .inl (cZ, 36, .inl (zt f b (fun p => if fu p = 0 then 1 else 0) fu k)))] := hD
              refine lv_aload_n hx hb dX1_turnOver_61 rfl (lv_at hl 3 rfl) ?_
              refine va_get (D := D) (ci := 1) (v := .ref qz) (C := RX1) (T := TX1) (N := 7) hx hb hts (fun w h => List.mem_cons_of_mem _ (List.mem_append_right _ h)) hown hK hP 0 rfl rfl 2 (by decide) (hts (.fieldLink RX1 18 "AtlasFolder$FoldedSheet" "layers" "[I") (List.mem_cons_of_mem _ (List.mem_append_left _ (List.mem_of_getElem? (i := 0) rfl)))) (fun _ h9 => h9) rfl dX1_turnOver_62 ?_
              refine lv_iload hx hb dX1_turnOver_65 (lv_at hl 0 rfl) ?_
              refine lv_iconst (v := 2) hx hb dX1_turnOver_67 (by decide) ?_
              refine lv_iload hx hb dX1_turnOver_68 (lv_at hl 1 rfl) ?_
              refine lv_imul hx hb dX1_turnOver_70 ?_
              refine lv_iconst (v := 1) hx hb dX1_turnOver_71 (by decide) ?_
              refine lv_iadd hx hb dX1_turnOver_72 ?_
              refine lv_aload_n hx hb dX1_turnOver_73 rfl (lv_at hl 3 rfl) ?_
              refine va_get (D := D) (ci := 1) (v := .ref qz) (C := RX1) (T := TX1) (N := 7) hx hb hts (fun w h => List.mem_cons_of_mem _ (List.mem_append_right _ h)) hown hK hP 0 rfl rfl 2 (by decide) (hts (.fieldLink RX1 18 "AtlasFolder$FoldedSheet" "layers" "[I") (List.mem_cons_of_mem _ (List.mem_append_left _ (List.mem_of_getElem? (i := 0) rfl)))) (fun _ h9 => h9) rfl dX1_turnOver_74 ?_
              refine lv_iload hx hb dX1_turnOver_77 (lv_at hl 0 rfl) ?_
              refine va_iald hx hb hK hP 2 0 rfl rfl (z_pin hN hk c23) dX1_turnOver_79 ?_
              refine lv_isub hx hb dX1_turnOver_80 ?_
              refine va_iast hx hb hK hP hD hS 2 0 rfl rfl (z_pin hN hk c23) dX1_turnOver_81 (fun H locs hP hD hS => ?_)
              have hP : va_P D vwCl [(qf, .inr (1, [.ref qx, .ref qy, .ref qz, .ref qu, .int (nI nC), .int (nI nR), .int nf])), (qa, .inl (cI, 36, .inl (upd (zt f b (fun p => 2 * b - 1 - f p) f k) (nI k).toNatClampNeg (((2 * b) - 1) - ((zt f b (fun p => 2 * b - 1 - f p) f k) (nI k).toNatClampNeg))))), (qz, .inl (cI, 36, .inl (upd (zt f b (fun p => 2 * (s_X1_highestLayer nC nR nf fz) + 1 - fz p) fz k) (nI k).toNatClampNeg (((2 * (s_X1_highestLayer nC nR nf fz)) + 1) - ((zt f b (fun p => 2 * (s_X1_highestLayer nC nR nf fz) + 1 - fz p) fz k) (nI k).toNatClampNeg))))), (qu, .inl (cZ, 36, .inl (zt f b (fun p => if fu p = 0 then 1 else 0) fu k)))] H := hP
              have hD : va_D A [(qf, .inr (1, [.ref qx, .ref qy, .ref qz, .ref qu, .int (nI nC), .int (nI nR), .int nf])), (qa, .inl (cI, 36, .inl (upd (zt f b (fun p => 2 * b - 1 - f p) f k) (nI k).toNatClampNeg (((2 * b) - 1) - ((zt f b (fun p => 2 * b - 1 - f p) f k) (nI k).toNatClampNeg))))), (qz, .inl (cI, 36, .inl (upd (zt f b (fun p => 2 * (s_X1_highestLayer nC nR nf fz) + 1 - fz p) fz k) (nI k).toNatClampNeg (((2 * (s_X1_highestLayer nC nR nf fz)) + 1) - ((zt f b (fun p => 2 * (s_X1_highestLayer nC nR nf fz) + 1 - fz p) fz k) (nI k).toNatClampNeg))))), (qu, .inl (cZ, 36, .inl (zt f b (fun p => if fu p = 0 then 1 else 0) fu k)))] := hD
              refine lv_aload_n hx hb dX1_turnOver_82 rfl (lv_at hl 3 rfl) ?_
              refine va_get (D := D) (ci := 1) (v := .ref qu) (C := RX1) (T := TX1) (N := 7) hx hb hts (fun w h => List.mem_cons_of_mem _ (List.mem_append_right _ h)) hown hK hP 0 rfl rfl 3 (by decide) (hts (.fieldLink RX1 21 "AtlasFolder$FoldedSheet" "faceUp" "[Z") (List.mem_cons_of_mem _ (List.mem_append_left _ (List.mem_of_getElem? (i := 1) rfl)))) (fun _ h9 => h9) rfl dX1_turnOver_83 ?_
              refine lv_iload hx hb dX1_turnOver_86 (lv_at hl 0 rfl) ?_
              refine lv_aload_n hx hb dX1_turnOver_88 rfl (lv_at hl 3 rfl) ?_
              refine va_get (D := D) (ci := 1) (v := .ref qu) (C := RX1) (T := TX1) (N := 7) hx hb hts (fun w h => List.mem_cons_of_mem _ (List.mem_append_right _ h)) hown hK hP 0 rfl rfl 3 (by decide) (hts (.fieldLink RX1 21 "AtlasFolder$FoldedSheet" "faceUp" "[Z") (List.mem_cons_of_mem _ (List.mem_append_left _ (List.mem_of_getElem? (i := 1) rfl)))) (fun _ h9 => h9) rfl dX1_turnOver_89 ?_
              refine lv_iload hx hb dX1_turnOver_92 (lv_at hl 0 rfl) ?_
              refine va_zald hx hb hK hP 3 1 rfl rfl (z_pin hN hk c23) dX1_turnOver_94 ?_
              have K26 : ∀ v26_0 : Int32, v26_0 = (if ((zt f b (fun p => if fu p = 0 then 1 else 0) fu k) (nI k).toNatClampNeg) = 0 then 1 else 0) → ∀ (H : Heap) (locs : List Loc), va_P D vwCl [(qf, .inr (1, [.ref qx, .ref qy, .ref qz, .ref qu, .int (nI nC), .int (nI nR), .int nf])), (qa, .inl (cI, 36, .inl (upd (zt f b (fun p => 2 * b - 1 - f p) f k) (nI k).toNatClampNeg (((2 * b) - 1) - ((zt f b (fun p => 2 * b - 1 - f p) f k) (nI k).toNatClampNeg))))), (qz, .inl (cI, 36, .inl (upd (zt f b (fun p => 2 * (s_X1_highestLayer nC nR nf fz) + 1 - fz p) fz k) (nI k).toNatClampNeg (((2 * (s_X1_highestLayer nC nR nf fz)) + 1) - ((zt f b (fun p => 2 * (s_X1_highestLayer nC nR nf fz) + 1 - fz p) fz k) (nI k).toNatClampNeg))))), (qu, .inl (cZ, 36, .inl (zt f b (fun p => if fu p = 0 then 1 else 0) fu k)))] H → va_D A [(qf, .inr (1, [.ref qx, .ref qy, .ref qz, .ref qu, .int (nI nC), .int (nI nR), .int nf])), (qa, .inl (cI, 36, .inl (upd (zt f b (fun p => 2 * b - 1 - f p) f k) (nI k).toNatClampNeg (((2 * b) - 1) - ((zt f b (fun p => 2 * b - 1 - f p) f k) (nI k).toNatClampNeg))))), (qz, .inl (cI, 36, .inl (upd (zt f b (fun p => 2 * (s_X1_highestLayer nC nR nf fz) + 1 - fz p) fz k) (nI k).toNatClampNeg (((2 * (s_X1_highestLayer nC nR nf fz)) + 1) - ((zt f b (fun p => 2 * (s_X1_highestLayer nC nR nf fz) + 1 - fz p) fz k) (nI k).toNatClampNeg))))), (qu, .inl (cZ, 36, .inl (zt f b (fun p => if fu p = 0 then 1 else 0) fu k)))] → va_S A s.heap H locs → ∀ (ls : Array Slot), lv_has ls 6 [(5, .int (nI k)), (4, .int (s_X1_highestLayer nC nR nf fz)), (3, .int (s_X1_placesBelow nC nR nf f b)), (0, .ref qf), (1, .ref qa), (2, .int b)] → W p l e (headSpec wsX1_turnOver rm_X1_turnOver).room s m ([.ref qf, .ref qa, .int b]).toArray below meth c H locs 0 0 (MQ below (Qc_X1_turnOver D cI cZ cJ cD qf qx qy qz qu nC nR nf qa f fz fu b A) ([.ref qf, .ref qa, .int b]).toArray s 0 0 A) (F0 m 103 ls [.int v26_0, .int (nI k), .ref qu]) := by
                intro v26_0 hv26_0 H locs hP hD hS ls hl
                subst hv26_0
                refine va_zast hx hb hK hP hD hS 3 1 rfl rfl (z_pin hN hk c23) dX1_turnOver_103 (fun H locs hP hD hS => ?_)
                have hP : va_P D vwCl [(qf, .inr (1, [.ref qx, .ref qy, .ref qz, .ref qu, .int (nI nC), .int (nI nR), .int nf])), (qa, .inl (cI, 36, .inl (upd (zt f b (fun p => 2 * b - 1 - f p) f k) (nI k).toNatClampNeg (((2 * b) - 1) - ((zt f b (fun p => 2 * b - 1 - f p) f k) (nI k).toNatClampNeg))))), (qz, .inl (cI, 36, .inl (upd (zt f b (fun p => 2 * (s_X1_highestLayer nC nR nf fz) + 1 - fz p) fz k) (nI k).toNatClampNeg (((2 * (s_X1_highestLayer nC nR nf fz)) + 1) - ((zt f b (fun p => 2 * (s_X1_highestLayer nC nR nf fz) + 1 - fz p) fz k) (nI k).toNatClampNeg))))), (qu, .inl (cZ, 36, .inl (upd (zt f b (fun p => if fu p = 0 then 1 else 0) fu k) (nI k).toNatClampNeg (vp_nar .boolean (if ((zt f b (fun p => if fu p = 0 then 1 else 0) fu k) (nI k).toNatClampNeg) = 0 then 1 else 0)))))] H := hP
                have hD : va_D A [(qf, .inr (1, [.ref qx, .ref qy, .ref qz, .ref qu, .int (nI nC), .int (nI nR), .int nf])), (qa, .inl (cI, 36, .inl (upd (zt f b (fun p => 2 * b - 1 - f p) f k) (nI k).toNatClampNeg (((2 * b) - 1) - ((zt f b (fun p => 2 * b - 1 - f p) f k) (nI k).toNatClampNeg))))), (qz, .inl (cI, 36, .inl (upd (zt f b (fun p => 2 * (s_X1_highestLayer nC nR nf fz) + 1 - fz p) fz k) (nI k).toNatClampNeg (((2 * (s_X1_highestLayer nC nR nf fz)) + 1) - ((zt f b (fun p => 2 * (s_X1_highestLayer nC nR nf fz) + 1 - fz p) fz k) (nI k).toNatClampNeg))))), (qu, .inl (cZ, 36, .inl (upd (zt f b (fun p => if fu p = 0 then 1 else 0) fu k) (nI k).toNatClampNeg (vp_nar .boolean (if ((zt f b (fun p => if fu p = 0 then 1 else 0) fu k) (nI k).toNatClampNeg) = 0 then 1 else 0)))))] := hD
                refine lv_iinc (v := nI (k + 1)) (lv' := [(5, .int (nI (k + 1))), (4, .int (s_X1_highestLayer nC nR nf fz)), (3, .int (s_X1_placesBelow nC nR nf f b)), (0, .ref qf), (1, .ref qa), (2, .int b)]) hx hb dX1_turnOver_104 hl (k := 0) rfl (nI_succ k).symm (by decide) rfl (fun ls hl => ?_)
                refine lv_goto (tgt := 30) hx hb dX1_turnOver_107 (by decide) ?_
                have hk8 : k < nC * nR := z_plt hN hk c23
                have hk36 : k < 36 := by omega
                have hs8 := zt_lt hk36 c24
                have e_qa : upd (zt f b (fun p => 2 * b - 1 - f p) f k) (nI k).toNatClampNeg (((2 * b) - 1) - ((zt f b (fun p => 2 * b - 1 - f p) f k) (nI k).toNatClampNeg)) = zt f b (fun p => 2 * b - 1 - f p) f (k + 1) := zt_put hk36 hs8 (by rw [zt_at f b (fun p => 2 * b - 1 - f p) f hk36])
                have e_qz : upd (zt f b (fun p => 2 * (s_X1_highestLayer nC nR nf fz) + 1 - fz p) fz k) (nI k).toNatClampNeg (((2 * (s_X1_highestLayer nC nR nf fz)) + 1) - ((zt f b (fun p => 2 * (s_X1_highestLayer nC nR nf fz) + 1 - fz p) fz k) (nI k).toNatClampNeg)) = zt f b (fun p => 2 * (s_X1_highestLayer nC nR nf fz) + 1 - fz p) fz (k + 1) := zt_put hk36 hs8 (by rw [zt_at f b (fun p => 2 * (s_X1_highestLayer nC nR nf fz) + 1 - fz p) fz hk36])
                have e_qu : upd (zt f b (fun p => if fu p = 0 then 1 else 0) fu k) (nI k).toNatClampNeg (vp_nar .boolean (if ((zt f b (fun p => if fu p = 0 then 1 else 0) fu k) (nI k).toNatClampNeg) = 0 then 1 else 0)) = zt f b (fun p => if fu p = 0 then 1 else 0) fu (k + 1) := zt_put hk36 hs8 (by rw [zt_at f b (fun p => if fu p = 0 then 1 else 0) fu hk36]; exact z_b01 (by split <;> simp))
                rw [e_qa, e_qz, e_qu] at hP hD
                exact ih16 (k + 1) (by omega) (by omega) _ _ hP hD hS _ (lv_sub hl [0, 1, 2, 3, 4, 5] rfl)
              refine lv_if_ne (tgt := 102) hx hb dX1_turnOver_95 (by decide) (fun c27 => ?_) (fun c27 => ?_)
              · refine lv_iconst (v := 0) hx hb dX1_turnOver_102 (by decide) ?_
                exact K26 _ (if_neg c27).symm _ _ hP hD hS _ (lv_sub hl [0, 1, 2, 3, 4, 5] rfl)
              · refine lv_iconst (v := 1) hx hb dX1_turnOver_98 (by decide) ?_
                refine lv_goto (tgt := 103) hx hb dX1_turnOver_99 (by decide) ?_
                exact K26 _ (if_pos c27).symm _ _ hP hD hS _ (lv_sub hl [0, 1, 2, 3, 4, 5] rfl)
      rw [← zt_0 f b (fun p => 2 * b - 1 - f p) f, ← zt_0 f b (fun p => 2 * (s_X1_highestLayer nC nR nf fz) + 1 - fz p) fz, ← zt_0 f b (fun p => if fu p = 0 then 1 else 0) fu] at hP hD
      exact L16 (nC * nR + 1) 0 (by omega) (by omega) _ _ hP hD hS _ (zlv (lv_sub (l' := [(5, .int 0), (4, .int (s_X1_highestLayer nC nR nf fz)), (3, .int (s_X1_placesBelow nC nR nf f b)), (0, .ref qf), (1, .ref qa), (2, .int b)]) hl [0, 1, 2, 3, 4, 5] rfl) (by rfl))
    · refine lv_iconst (v := 0) hx hb dX1_turnOver_19 (by decide) ?_
      have e28 : s_X1_turnOver nC nR nf f fz fu b = 0 := by
        unfold s_X1_turnOver
        exact ((if_neg c7).trans (if_pos c14))
      have e29 : n_X1_turnOver_qf_6 nC nR nf f fz fu b = nf := by
        unfold n_X1_turnOver_qf_6
        exact ((if_neg c7).trans (if_pos c14))
      have e30 : n_X1_turnOver_qa nC nR nf f fz fu b = f := by
        unfold n_X1_turnOver_qa
        exact ((if_neg c7).trans (if_pos c14))
      have e31 : n_X1_turnOver_qz nC nR nf f fz fu b = fz := by
        unfold n_X1_turnOver_qz
        exact ((if_neg c7).trans (if_pos c14))
      have e32 : n_X1_turnOver_qu nC nR nf f fz fu b = fu := by
        unfold n_X1_turnOver_qu
        exact ((if_neg c7).trans (if_pos c14))
      exact W.iret (v := 0) hx hb hr (fun t ht hW => ⟨⟨_, (), rfl, e28.symm, ⟨(by rw [e29, e30, e31, e32]; rw [ht]; exact hP), va_K.moved hW.alike hK, (by rw [e29, e30, e31, e32]; exact hD)⟩⟩, hS.F ht⟩) hS.2.2 dX1_turnOver_20
def s_X1_turnOverColumns (nC : Nat) (nR : Nat) (nf : Int32) (fx : Nat → Int32) (fz : Nat → Int32) (fu : Nat → Int32) (b : Int32) : Int32 := s_X1_turnOver nC nR nf fx fz fu b
def n_X1_turnOverColumns_qf_6 (nC : Nat) (nR : Nat) (nf : Int32) (fx : Nat → Int32) (fz : Nat → Int32) (fu : Nat → Int32) (b : Int32) : Int32 := n_X1_turnOver_qf_6 nC nR nf fx fz fu b
def n_X1_turnOverColumns_qx (nC : Nat) (nR : Nat) (nf : Int32) (fx : Nat → Int32) (fz : Nat → Int32) (fu : Nat → Int32) (b : Int32) : Nat → Int32 := n_X1_turnOver_qa nC nR nf fx fz fu b
def n_X1_turnOverColumns_qz (nC : Nat) (nR : Nat) (nf : Int32) (fx : Nat → Int32) (fz : Nat → Int32) (fu : Nat → Int32) (b : Int32) : Nat → Int32 := n_X1_turnOver_qz nC nR nf fx fz fu b
def n_X1_turnOverColumns_qu (nC : Nat) (nR : Nat) (nf : Int32) (fx : Nat → Int32) (fz : Nat → Int32) (fu : Nat → Int32) (b : Int32) : Nat → Int32 := n_X1_turnOver_qu nC nR nf fx fz fu b
abbrev rm_X1_turnOverColumns : Room := { frames := 3, cells := 0, slots := 0, locals := 69 }
abbrev Qc_X1_turnOverColumns (D : va_G) (cI cZ cJ cD : ClassId) (qf : Nat) (qx : Nat) (qy : Nat) (qz : Nat) (qu : Nat) (nC : Nat) (nR : Nat) (nf : Int32) (fx : Nat → Int32) (fz : Nat → Int32) (fu : Nat → Int32) (b : Int32) (A : Nat → Prop) : Array Value → State → Outcome → State → Prop := va_Qi (fun (r : Int32) (_ : Unit) => r = s_X1_turnOverColumns nC nR nf fx fz fu b) (zPost D cI cZ cJ cD A [(qf, .inr (1, [.ref qx, .ref qy, .ref qz, .ref qu, .int (nI nC), .int (nI nR), .int (n_X1_turnOverColumns_qf_6 nC nR nf fx fz fu b)])), (qx, .inl (cI, 36, .inl (n_X1_turnOverColumns_qx nC nR nf fx fz fu b))), (qz, .inl (cI, 36, .inl (n_X1_turnOverColumns_qz nC nR nf fx fz fu b))), (qu, .inl (cZ, 36, .inl (n_X1_turnOverColumns_qu nC nR nf fx fz fu b)))]) A
set_option maxHeartbeats 4000000 in
set_option maxRecDepth 100000 in
theorem c_X1_turnOverColumns (l : Launch) (D : va_G) (cI cZ cJ cD : ClassId) (qf : Nat) (qx : Nat) (qy : Nat) (qz : Nat) (qu : Nat) (nC : Nat) (nR : Nat) (nf : Int32) (fx : Nat → Int32) (fz : Nat → Int32) (fu : Nat → Int32) (b : Int32) (sz : Nat) (hN : nC * nR ≤ 36) : Met l yX1_turnOverColumns wsX1_turnOverColumns rm_X1_turnOverColumns (va_Pc [.ref qf, .int b] (zPreW D cI cZ cJ cD [(qf, .inr (1, [.ref qx, .ref qy, .ref qz, .ref qu, .int (nI nC), .int (nI nR), .int nf])), (qx, .inl (cI, 36, .inl fx)), (qz, .inl (cI, 36, .inl fz)), (qu, .inl (cZ, 36, .inl fu))] sz)) (Qc_X1_turnOverColumns D cI cZ cJ cD qf qx qy qz qu nC nR nf fx fz fu b (va_A [(qf, .inr (1, [.ref qx, .ref qy, .ref qz, .ref qu, .int (nI nC), .int (nI nR), .int nf])), (qx, .inl (cI, 36, .inl fx)), (qz, .inl (cI, 36, .inl fz)), (qu, .inl (cZ, 36, .inl fu))] sz)) 0 0 (va_A [(qf, .inr (1, [.ref qx, .ref qy, .ref qz, .ref qu, .int (nI nC), .int (nI nR), .int nf])), (qx, .inl (cI, 36, .inl fx)), (qz, .inl (cI, 36, .inl fz)), (qu, .inl (cZ, 36, .inl fu))] sz) := by
  refine Met.ofW (cc := cX1_turnOverColumns) (maxL := 2) (ret := (some .int)) (by decide) rfl ?_
  intro p e s m args below meth c s₁ B hml hv
  obtain ⟨rfl, hsz, hP, hK, hD0⟩ := hv
  have hx := B.exec
  have hb := B.bytes
  have hr := B.returns
  have hts := atoms_spec (ws := wsX1_turnOverColumns) B.pre
  have hown : s.vm.findClass RX1 = some m.cls := findClass_of_methodNamed B.named
  have hlocks := B.notSynchronized
  subst hsz
  have hD := hD0.self (sz := s.heap.size)
  generalize hAe : va_A [(qf, .inr (1, [.ref qx, .ref qy, .ref qz, .ref qu, .int (nI nC), .int (nI nR), .int nf])), (qx, .inl (cI, 36, .inl fx)), (qz, .inl (cI, 36, .inl fz)), (qu, .inl (cZ, 36, .inl fu))] s.heap.size = A at hD ⊢
  have hA : ∀ q : Nat, s.heap.size ≤ q → A q := fun q h => by rw [← hAe]; exact Or.inr h
  have hS : va_S A s.heap s.heap [] := va_S.rf
  have hl := lv_entry ([.ref qf, .int b]) (n := 2) (Nat.le_of_ble_eq_true rfl)
  rw [lg_entry_eq]
  generalize (lg_sl ([.ref qf, .int b]) ++ List.replicate (2 - (lg_sl ([.ref qf, .int b])).length) Slot.unset).toArray = ls at hl ⊢
  have hl : lv_has ls 2 [(0, .ref qf), (1, .int b)] := hl
  have hP : va_P D vwCl [(qf, .inr (1, [.ref qx, .ref qy, .ref qz, .ref qu, .int (nI nC), .int (nI nR), .int nf])), (qx, .inl (cI, 36, .inl fx)), (qz, .inl (cI, 36, .inl fz)), (qu, .inl (cZ, 36, .inl fu))] s.heap := hP
  have hP := hP
  refine lv_aload_n hx hb dX1_turnOverColumns_0 rfl (lv_at hl 0 rfl) ?_
  refine lv_aload_n hx hb dX1_turnOverColumns_1 rfl (lv_at hl 0 rfl) ?_
  refine va_get (D := D) (ci := 1) (v := .ref qx) (C := RX1) (T := TX1) (N := 7) hx hb hts (fun w h => List.mem_cons_of_mem _ (List.mem_append_right _ h)) hown hK hP 0 rfl rfl 0 (by decide) (hts (.fieldLink RX1 9 "AtlasFolder$FoldedSheet" "columnPlaces" "[I") (List.mem_cons_of_mem _ (List.mem_append_left _ (List.mem_append_left _ (List.mem_of_getElem? (i := 0) rfl))))) (fun _ h9 => h9) rfl dX1_turnOverColumns_2 ?_
  refine lv_iload_n hx hb dX1_turnOverColumns_5 rfl (lv_at hl 1 rfl) ?_
  have hPc := hP.sub (ws' := [(qf, .inr (1, [.ref qx, .ref qy, .ref qz, .ref qu, .int (nI nC), .int (nI nR), .int nf])), (qx, .inl (cI, 36, .inl fx)), (qz, .inl (cI, 36, .inl fz)), (qu, .inl (cZ, 36, .inl fu))]) [0, 1, 2, 3] rfl
  have hDc := hD.sub (ws' := [(qf, .inr (1, [.ref qx, .ref qy, .ref qz, .ref qu, .int (nI nC), .int (nI nR), .int nf])), (qx, .inl (cI, 36, .inl fx)), (qz, .inl (cI, 36, .inl fz)), (qu, .inl (cZ, 36, .inl fu))]) [0, 1, 2, 3] (by decide) rfl
  have hFc := va_free (wc := [(qf, .inr (1, [.ref qx, .ref qy, .ref qz, .ref qu, .int (nI nC), .int (nI nR), .int nf])), (qx, .inl (cI, 36, .inl fx)), (qz, .inl (cI, 36, .inl fz)), (qu, .inl (cZ, 36, .inl fu))]) hD hS hA [0, 1, 2, 3] rfl
  refine va_calli (va_runV (As := [.ref qx, .int b]) (rest := []) ⟨hx, hb, hml, hown, hts⟩ (c_X1_turnOver l D cI cZ cJ cD qf qx qy qz qu nC nR nf qx fx fz fu b s.heap.size (by assumption)) (cwV 2 hts gX1_turnOverColumns_X1_turnOver rfl rfl rfl (by decide +kernel) ⟨Nat.le_of_ble_eq_true rfl, Nat.le_of_ble_eq_true rfl⟩) ⟨zblindW, va_recv hK hP (ci := 1) (q0 := 0) rfl rfl, (fun U hU hW => ⟨rfl, by rw [hU], by rw [hU]; exact hPc, va_K.moved hW.alike hK, hDc.weaken (fun _ _ _ _ => trivial)⟩)⟩ rfl rfl hl.1 rfl (lv_room (Nat.le_of_ble_eq_true rfl)) dX1_turnOverColumns_6 ⟨Nat.le_of_ble_eq_true rfl, Nat.le_of_ble_eq_true rfl⟩) hS (fun q _ h => hFc q h) hFc (fun r2 u t H locs ht hvm hw hB hz1 hk1 hS => ?_)
  rw [hw]
  obtain ⟨hP1, hK1, hD1⟩ := hB
  rw [ht] at hP1
  obtain ⟨hP, hD⟩ := va_join (wr := []) (w1 := [(qf, .inr (1, [.ref qx, .ref qy, .ref qz, .ref qu, .int (nI nC), .int (nI nR), .int (n_X1_turnOver_qf_6 nC nR nf fx fz fu b)])), (qx, .inl (cI, 36, .inl (n_X1_turnOver_qa nC nR nf fx fz fu b))), (qz, .inl (cI, 36, .inl (n_X1_turnOver_qz nC nR nf fx fz fu b))), (qu, .inl (cZ, 36, .inl (n_X1_turnOver_qu nC nR nf fx fz fu b)))]) hP hD [0, 1, 2, 3] [] rfl rfl (by decide) (by decide) hk1 hFc hP1 hD1
  have hP := hP.sub (ws' := [(qf, .inr (1, [.ref qx, .ref qy, .ref qz, .ref qu, .int (nI nC), .int (nI nR), .int (n_X1_turnOver_qf_6 nC nR nf fx fz fu b)])), (qx, .inl (cI, 36, .inl (n_X1_turnOver_qa nC nR nf fx fz fu b))), (qz, .inl (cI, 36, .inl (n_X1_turnOver_qz nC nR nf fx fz fu b))), (qu, .inl (cZ, 36, .inl (n_X1_turnOver_qu nC nR nf fx fz fu b)))]) [0, 1, 2, 3] rfl
  have hD := hD.sub (ws' := [(qf, .inr (1, [.ref qx, .ref qy, .ref qz, .ref qu, .int (nI nC), .int (nI nR), .int (n_X1_turnOver_qf_6 nC nR nf fx fz fu b)])), (qx, .inl (cI, 36, .inl (n_X1_turnOver_qa nC nR nf fx fz fu b))), (qz, .inl (cI, 36, .inl (n_X1_turnOver_qz nC nR nf fx fz fu b))), (qu, .inl (cZ, 36, .inl (n_X1_turnOver_qu nC nR nf fx fz fu b)))]) [0, 1, 2, 3] (by decide) rfl
  have e3 : s_X1_turnOverColumns nC nR nf fx fz fu b = s_X1_turnOver nC nR nf fx fz fu b := rfl
  have e4 : n_X1_turnOverColumns_qf_6 nC nR nf fx fz fu b = n_X1_turnOver_qf_6 nC nR nf fx fz fu b := rfl
  have e5 : n_X1_turnOverColumns_qx nC nR nf fx fz fu b = n_X1_turnOver_qa nC nR nf fx fz fu b := rfl
  have e6 : n_X1_turnOverColumns_qz nC nR nf fx fz fu b = n_X1_turnOver_qz nC nR nf fx fz fu b := rfl
  have e7 : n_X1_turnOverColumns_qu nC nR nf fx fz fu b = n_X1_turnOver_qu nC nR nf fx fz fu b := rfl
  exact W.iret (v := (s_X1_turnOver nC nR nf fx fz fu b)) hx hb hr (fun t ht hW => ⟨⟨_, (), rfl, e3.symm, ⟨(by rw [e4, e5, e6, e7]; rw [ht]; exact hP), va_K.moved hW.alike hK, (by rw [e4, e5, e6, e7]; exact hD)⟩⟩, hS.F ht⟩) hS.2.2 dX1_turnOverColumns_9
def s_X1_turnOverRows (nC : Nat) (nR : Nat) (nf : Int32) (fy : Nat → Int32) (fz : Nat → Int32) (fu : Nat → Int32) (b : Int32) : Int32 := s_X1_turnOver nC nR nf fy fz fu b
def n_X1_turnOverRows_qf_6 (nC : Nat) (nR : Nat) (nf : Int32) (fy : Nat → Int32) (fz : Nat → Int32) (fu : Nat → Int32) (b : Int32) : Int32 := n_X1_turnOver_qf_6 nC nR nf fy fz fu b
def n_X1_turnOverRows_qy (nC : Nat) (nR : Nat) (nf : Int32) (fy : Nat → Int32) (fz : Nat → Int32) (fu : Nat → Int32) (b : Int32) : Nat → Int32 := n_X1_turnOver_qa nC nR nf fy fz fu b
def n_X1_turnOverRows_qz (nC : Nat) (nR : Nat) (nf : Int32) (fy : Nat → Int32) (fz : Nat → Int32) (fu : Nat → Int32) (b : Int32) : Nat → Int32 := n_X1_turnOver_qz nC nR nf fy fz fu b
def n_X1_turnOverRows_qu (nC : Nat) (nR : Nat) (nf : Int32) (fy : Nat → Int32) (fz : Nat → Int32) (fu : Nat → Int32) (b : Int32) : Nat → Int32 := n_X1_turnOver_qu nC nR nf fy fz fu b
abbrev rm_X1_turnOverRows : Room := { frames := 3, cells := 0, slots := 0, locals := 69 }
abbrev Qc_X1_turnOverRows (D : va_G) (cI cZ cJ cD : ClassId) (qf : Nat) (qx : Nat) (qy : Nat) (qz : Nat) (qu : Nat) (nC : Nat) (nR : Nat) (nf : Int32) (fy : Nat → Int32) (fz : Nat → Int32) (fu : Nat → Int32) (b : Int32) (A : Nat → Prop) : Array Value → State → Outcome → State → Prop := va_Qi (fun (r : Int32) (_ : Unit) => r = s_X1_turnOverRows nC nR nf fy fz fu b) (zPost D cI cZ cJ cD A [(qf, .inr (1, [.ref qx, .ref qy, .ref qz, .ref qu, .int (nI nC), .int (nI nR), .int (n_X1_turnOverRows_qf_6 nC nR nf fy fz fu b)])), (qy, .inl (cI, 36, .inl (n_X1_turnOverRows_qy nC nR nf fy fz fu b))), (qz, .inl (cI, 36, .inl (n_X1_turnOverRows_qz nC nR nf fy fz fu b))), (qu, .inl (cZ, 36, .inl (n_X1_turnOverRows_qu nC nR nf fy fz fu b)))]) A
set_option maxHeartbeats 4000000 in
set_option maxRecDepth 100000 in
theorem c_X1_turnOverRows (l : Launch) (D : va_G) (cI cZ cJ cD : ClassId) (qf : Nat) (qx : Nat) (qy : Nat) (qz : Nat) (qu : Nat) (nC : Nat) (nR : Nat) (nf : Int32) (fy : Nat → Int32) (fz : Nat → Int32) (fu : Nat → Int32) (b : Int32) (sz : Nat) (hN : nC * nR ≤ 36) : Met l yX1_turnOverRows wsX1_turnOverRows rm_X1_turnOverRows (va_Pc [.ref qf, .int b] (zPreW D cI cZ cJ cD [(qf, .inr (1, [.ref qx, .ref qy, .ref qz, .ref qu, .int (nI nC), .int (nI nR), .int nf])), (qy, .inl (cI, 36, .inl fy)), (qz, .inl (cI, 36, .inl fz)), (qu, .inl (cZ, 36, .inl fu))] sz)) (Qc_X1_turnOverRows D cI cZ cJ cD qf qx qy qz qu nC nR nf fy fz fu b (va_A [(qf, .inr (1, [.ref qx, .ref qy, .ref qz, .ref qu, .int (nI nC), .int (nI nR), .int nf])), (qy, .inl (cI, 36, .inl fy)), (qz, .inl (cI, 36, .inl fz)), (qu, .inl (cZ, 36, .inl fu))] sz)) 0 0 (va_A [(qf, .inr (1, [.ref qx, .ref qy, .ref qz, .ref qu, .int (nI nC), .int (nI nR), .int nf])), (qy, .inl (cI, 36, .inl fy)), (qz, .inl (cI, 36, .inl fz)), (qu, .inl (cZ, 36, .inl fu))] sz) := by
  refine Met.ofW (cc := cX1_turnOverRows) (maxL := 2) (ret := (some .int)) (by decide) rfl ?_
  intro p e s m args below meth c s₁ B hml hv
  obtain ⟨rfl, hsz, hP, hK, hD0⟩ := hv
  have hx := B.exec
  have hb := B.bytes
  have hr := B.returns
  have hts := atoms_spec (ws := wsX1_turnOverRows) B.pre
  have hown : s.vm.findClass RX1 = some m.cls := findClass_of_methodNamed B.named
  have hlocks := B.notSynchronized
  subst hsz
  have hD := hD0.self (sz := s.heap.size)
  generalize hAe : va_A [(qf, .inr (1, [.ref qx, .ref qy, .ref qz, .ref qu, .int (nI nC), .int (nI nR), .int nf])), (qy, .inl (cI, 36, .inl fy)), (qz, .inl (cI, 36, .inl fz)), (qu, .inl (cZ, 36, .inl fu))] s.heap.size = A at hD ⊢
  have hA : ∀ q : Nat, s.heap.size ≤ q → A q := fun q h => by rw [← hAe]; exact Or.inr h
  have hS : va_S A s.heap s.heap [] := va_S.rf
  have hl := lv_entry ([.ref qf, .int b]) (n := 2) (Nat.le_of_ble_eq_true rfl)
  rw [lg_entry_eq]
  generalize (lg_sl ([.ref qf, .int b]) ++ List.replicate (2 - (lg_sl ([.ref qf, .int b])).length) Slot.unset).toArray = ls at hl ⊢
  have hl : lv_has ls 2 [(0, .ref qf), (1, .int b)] := hl
  have hP : va_P D vwCl [(qf, .inr (1, [.ref qx, .ref qy, .ref qz, .ref qu, .int (nI nC), .int (nI nR), .int nf])), (qy, .inl (cI, 36, .inl fy)), (qz, .inl (cI, 36, .inl fz)), (qu, .inl (cZ, 36, .inl fu))] s.heap := hP
  have hP := hP
  refine lv_aload_n hx hb dX1_turnOverRows_0 rfl (lv_at hl 0 rfl) ?_
  refine lv_aload_n hx hb dX1_turnOverRows_1 rfl (lv_at hl 0 rfl) ?_
  refine va_get (D := D) (ci := 1) (v := .ref qy) (C := RX1) (T := TX1) (N := 7) hx hb hts (fun w h => List.mem_cons_of_mem _ (List.mem_append_right _ h)) hown hK hP 0 rfl rfl 1 (by decide) (hts (.fieldLink RX1 15 "AtlasFolder$FoldedSheet" "rowPlaces" "[I") (List.mem_cons_of_mem _ (List.mem_append_left _ (List.mem_append_left _ (List.mem_of_getElem? (i := 0) rfl))))) (fun _ h9 => h9) rfl dX1_turnOverRows_2 ?_
  refine lv_iload_n hx hb dX1_turnOverRows_5 rfl (lv_at hl 1 rfl) ?_
  have hPc := hP.sub (ws' := [(qf, .inr (1, [.ref qx, .ref qy, .ref qz, .ref qu, .int (nI nC), .int (nI nR), .int nf])), (qy, .inl (cI, 36, .inl fy)), (qz, .inl (cI, 36, .inl fz)), (qu, .inl (cZ, 36, .inl fu))]) [0, 1, 2, 3] rfl
  have hDc := hD.sub (ws' := [(qf, .inr (1, [.ref qx, .ref qy, .ref qz, .ref qu, .int (nI nC), .int (nI nR), .int nf])), (qy, .inl (cI, 36, .inl fy)), (qz, .inl (cI, 36, .inl fz)), (qu, .inl (cZ, 36, .inl fu))]) [0, 1, 2, 3] (by decide) rfl
  have hFc := va_free (wc := [(qf, .inr (1, [.ref qx, .ref qy, .ref qz, .ref qu, .int (nI nC), .int (nI nR), .int nf])), (qy, .inl (cI, 36, .inl fy)), (qz, .inl (cI, 36, .inl fz)), (qu, .inl (cZ, 36, .inl fu))]) hD hS hA [0, 1, 2, 3] rfl
  refine va_calli (va_runV (As := [.ref qy, .int b]) (rest := []) ⟨hx, hb, hml, hown, hts⟩ (c_X1_turnOver l D cI cZ cJ cD qf qx qy qz qu nC nR nf qy fy fz fu b s.heap.size (by assumption)) (cwV 2 hts gX1_turnOverRows_X1_turnOver rfl rfl rfl (by decide +kernel) ⟨Nat.le_of_ble_eq_true rfl, Nat.le_of_ble_eq_true rfl⟩) ⟨zblindW, va_recv hK hP (ci := 1) (q0 := 0) rfl rfl, (fun U hU hW => ⟨rfl, by rw [hU], by rw [hU]; exact hPc, va_K.moved hW.alike hK, hDc.weaken (fun _ _ _ _ => trivial)⟩)⟩ rfl rfl hl.1 rfl (lv_room (Nat.le_of_ble_eq_true rfl)) dX1_turnOverRows_6 ⟨Nat.le_of_ble_eq_true rfl, Nat.le_of_ble_eq_true rfl⟩) hS (fun q _ h => hFc q h) hFc (fun r2 u t H locs ht hvm hw hB hz1 hk1 hS => ?_)
  rw [hw]
  obtain ⟨hP1, hK1, hD1⟩ := hB
  rw [ht] at hP1
  obtain ⟨hP, hD⟩ := va_join (wr := []) (w1 := [(qf, .inr (1, [.ref qx, .ref qy, .ref qz, .ref qu, .int (nI nC), .int (nI nR), .int (n_X1_turnOver_qf_6 nC nR nf fy fz fu b)])), (qy, .inl (cI, 36, .inl (n_X1_turnOver_qa nC nR nf fy fz fu b))), (qz, .inl (cI, 36, .inl (n_X1_turnOver_qz nC nR nf fy fz fu b))), (qu, .inl (cZ, 36, .inl (n_X1_turnOver_qu nC nR nf fy fz fu b)))]) hP hD [0, 1, 2, 3] [] rfl rfl (by decide) (by decide) hk1 hFc hP1 hD1
  have hP := hP.sub (ws' := [(qf, .inr (1, [.ref qx, .ref qy, .ref qz, .ref qu, .int (nI nC), .int (nI nR), .int (n_X1_turnOver_qf_6 nC nR nf fy fz fu b)])), (qy, .inl (cI, 36, .inl (n_X1_turnOver_qa nC nR nf fy fz fu b))), (qz, .inl (cI, 36, .inl (n_X1_turnOver_qz nC nR nf fy fz fu b))), (qu, .inl (cZ, 36, .inl (n_X1_turnOver_qu nC nR nf fy fz fu b)))]) [0, 1, 2, 3] rfl
  have hD := hD.sub (ws' := [(qf, .inr (1, [.ref qx, .ref qy, .ref qz, .ref qu, .int (nI nC), .int (nI nR), .int (n_X1_turnOver_qf_6 nC nR nf fy fz fu b)])), (qy, .inl (cI, 36, .inl (n_X1_turnOver_qa nC nR nf fy fz fu b))), (qz, .inl (cI, 36, .inl (n_X1_turnOver_qz nC nR nf fy fz fu b))), (qu, .inl (cZ, 36, .inl (n_X1_turnOver_qu nC nR nf fy fz fu b)))]) [0, 1, 2, 3] (by decide) rfl
  have e3 : s_X1_turnOverRows nC nR nf fy fz fu b = s_X1_turnOver nC nR nf fy fz fu b := rfl
  have e4 : n_X1_turnOverRows_qf_6 nC nR nf fy fz fu b = n_X1_turnOver_qf_6 nC nR nf fy fz fu b := rfl
  have e5 : n_X1_turnOverRows_qy nC nR nf fy fz fu b = n_X1_turnOver_qa nC nR nf fy fz fu b := rfl
  have e6 : n_X1_turnOverRows_qz nC nR nf fy fz fu b = n_X1_turnOver_qz nC nR nf fy fz fu b := rfl
  have e7 : n_X1_turnOverRows_qu nC nR nf fy fz fu b = n_X1_turnOver_qu nC nR nf fy fz fu b := rfl
  exact W.iret (v := (s_X1_turnOver nC nR nf fy fz fu b)) hx hb hr (fun t ht hW => ⟨⟨_, (), rfl, e3.symm, ⟨(by rw [e4, e5, e6, e7]; rw [ht]; exact hP), va_K.moved hW.alike hK, (by rw [e4, e5, e6, e7]; exact hD)⟩⟩, hS.F ht⟩) hS.2.2 dX1_turnOverRows_9
end
