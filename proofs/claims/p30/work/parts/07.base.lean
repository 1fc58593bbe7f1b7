/-! what the contracts share: a pure method's world, a writing method's, the throws' environment -/
abbrev zT (cI cZ cJ cD : ClassId) : List (ClassId × FieldType) := [(cI, .int), (cZ, .boolean)]
def zPre (D : va_G) (cI cZ cJ cD : ClassId) (ws : va_W) (U : State) : Prop := va_P D vwCl ws U.heap ∧ va_K D vwCl (zT cI cZ cJ cD) U
def zPreW (D : va_G) (cI cZ cJ cD : ClassId) (ws : va_W) (sz : Nat) (U : State) : Prop := U.heap.size = sz ∧ va_P D vwCl ws U.heap ∧ va_K D vwCl (zT cI cZ cJ cD) U ∧ va_D (fun _ => True) ws
def zPost (D : va_G) (cI cZ cJ cD : ClassId) (A : Nat → Prop) (ws : va_W) (_ : Unit) (t : State) : Prop := va_P D vwCl ws t.heap ∧ va_K D vwCl (zT cI cZ cJ cD) t ∧ va_D A ws
theorem zk {D : va_G} {cl : List vw_C} {ws : va_W} {H H1 : Heap} (hP : va_P D cl ws H) (hk : ∀ q : Nat, q < H.size → ¬ (fun _ : Nat => False) q → H1[q]? = H[q]?) : va_P D cl ws H1 := hP.kept (fun k q hq => hk q.1 ((hP k q hq).lt) (fun h => h))
theorem zkP {D : va_G} {cl : List vw_C} {ws : va_W} {H H1 : Heap} (hP : va_P D cl ws H) (hk : ∀ q : Nat, q < H.size → H1[q]? = H[q]?) : va_P D cl ws H1 := hP.kept (fun k q hq => hk q.1 ((hP k q hq).lt))
theorem zF {A : Nat → Prop} {s t : State} {H : Heap} {locs : List Loc} (hS : va_S A s.heap H locs) (hz : H.size ≤ t.heap.size) (hk : ∀ q : Nat, q < H.size → t.heap[q]? = H[q]?) : va_F A s t := ⟨Nat.le_trans hS.1 hz, fun q h1 h2 => (hk q (Nat.lt_of_lt_of_le h1 hS.1)).trans (hS.2.1 q h1 h2)⟩
theorem zblind {av : List Value} {D : va_G} {cI cZ cJ cD : ClassId} {ws : va_W} : FrameBlind (va_Pc av (zPre D cI cZ cJ cD ws)) := fun a U g mk h => ⟨h.1, h.2.1, va_K.moved (u := U) (U := U.calling g mk a) (Vm.Alike.refl U.vm) h.2.2⟩
theorem zblindW {av : List Value} {D : va_G} {cI cZ cJ cD : ClassId} {ws : va_W} {sz : Nat} : FrameBlind (va_Pc av (zPreW D cI cZ cJ cD ws sz)) := fun a U g mk h => ⟨h.1, h.2.1, h.2.2.1, va_K.moved (u := U) (U := U.calling g mk a) (Vm.Alike.refl U.vm) h.2.2.2.1, h.2.2.2.2⟩
def zE1 : String := "java/lang/IndexOutOfBoundsException"
def zE2 : String := "java/lang/IllegalArgumentException"
def zE3 : String := "java/lang/IllegalStateException"
def zX (E : String) (k : Nat) : Prop := (E = "java/lang/IndexOutOfBoundsException" ∧ k = 1) ∨ (E = "java/lang/IllegalArgumentException" ∧ k = 2) ∨ (E = "java/lang/IllegalStateException" ∧ k = 3)
theorem zX1 {k : Nat} (h : k = 1) : zX "java/lang/IndexOutOfBoundsException" k := Or.inl ⟨rfl, h⟩
theorem zX2 {k : Nat} (h : k = 2) : zX "java/lang/IllegalArgumentException" k := Or.inr (Or.inl ⟨rfl, h⟩)
theorem zX3 {k : Nat} (h : k = 3) : zX "java/lang/IllegalStateException" k := Or.inr (Or.inr ⟨rfl, h⟩)
theorem zX_ne {E : String} {k : Nat} (h : zX E k) : ¬ k = 0 := by
  rcases h with ⟨-, h⟩ | ⟨-, h⟩ | ⟨-, h⟩ <;> omega
/-- the texts of the class's throws, by their entries -/
def zStrs : List (Nat × String) := [(39, "the table has no such row"), (46, "width or height is out of its range"), (55, "the heights would not rise from 0"), (78, "height is out of its range"), (83, "all of the map is above that place"), (85, "south or north is out of its range"), (87, "west or east is out of its range"), (101, "truth is out of its range"), (122, "breadth does not divide 360"), (136, "columns or rows is out of its range"), (182, "there is no such latitude"), (184, "there is no such longitude"), (186, "there is no such band"), (191, "the sheet has no such column or row"), (193, "there are no panels on one side of the line")]
def zCs : List (String × String) := [("java/lang/IndexOutOfBoundsException", "java/lang/IndexOutOfBoundsException"), ("java/lang/IllegalArgumentException", "java/lang/IllegalArgumentException"), ("java/lang/IllegalStateException", "java/lang/IllegalStateException")]
def zNcs : List (String × String) := [("java/lang/IndexOutOfBoundsException", "java/lang/IllegalArgumentException"), ("java/lang/IndexOutOfBoundsException", "java/lang/IllegalStateException"), ("java/lang/IllegalArgumentException", "java/lang/IndexOutOfBoundsException"), ("java/lang/IllegalArgumentException", "java/lang/IllegalStateException"), ("java/lang/IllegalStateException", "java/lang/IndexOutOfBoundsException"), ("java/lang/IllegalStateException", "java/lang/IllegalArgumentException")]
def zDs : List MethodName := [⟨"java/lang/RuntimeException", "<init>", "(Ljava/lang/String;)V"⟩, ⟨"java/lang/Exception", "<init>", "(Ljava/lang/String;)V"⟩, ⟨"java/lang/Throwable", "<init>", "(Ljava/lang/String;)V"⟩]
def zTab (U : State) : Prop := (∀ q ∈ zStrs, ∃ a : Nat, vk_R RX4 q.1 q.2 a U) ∧ (∀ q ∈ zCs, va_Nw (.castable q.1 q.2) U) ∧ (∀ q ∈ zNcs, va_Nc q.1 q.2 U) ∧ (∀ y ∈ zDs, va_Nw (.declares y) U)
theorem zTab.warm {s U : State} (hW : s.WarmedH U.vm) (h : zTab s) : zTab U := ⟨fun q hq => (h.1 q hq).elim (fun a ha => ⟨a, vk_R.warm hW ha⟩), fun q hq => va_Nw.warmC hW (h.2.1 q hq), fun q hq => va_Nc.moved hW.alike (h.2.2.1 q hq), fun y hy => va_Nw.warmD hW (h.2.2.2 y hy)⟩
theorem zTab.same {u U : State} (hv : U.vm = u.vm) (h : zTab u) : zTab U := ⟨fun q hq => (h.1 q hq).elim (fun a ha => ⟨a, vk_R.same hv ha⟩), fun q hq => va_Nw.same rfl hv.symm (h.2.1 q hq), fun q hq => va_Nc.moved (by rw [hv]; exact Vm.Alike.refl _) (h.2.2.1 q hq), fun y hy => va_Nw.same rfl hv.symm (h.2.2.2 y hy)⟩
def zEnv (A : Nat → Prop) (U : State) (H : Heap) : Prop := vx_Zq Bundle.tN "UNASSIGNED_STACK" Bundle.steD A U H ∧ vx_Zq Bundle.tN "SUPPRESSED_SENTINEL" Bundle.listD A U H ∧ zTab U
theorem zEnv.go {A B : Nat → Prop} {s U : State} {H : Heap} {locs : List Loc} (h : zEnv A s s.heap) (hS : va_S A s.heap H locs) (hAB : ∀ q, B q → A q) (hU : U.heap = H) (hW : s.WarmedH U.vm) : zEnv B U U.heap := by
  rw [hU]
  exact ⟨((h.1.kept (fun a h1 h2 => hS.2.1 a h1 h2)).narrow hAB).moved hW.alike, ((h.2.1.kept (fun a h1 h2 => hS.2.1 a h1 h2)).narrow hAB).moved hW.alike, h.2.2.warm hW⟩
theorem zEnv.str {A : Nat → Prop} {U : State} {H : Heap} (h : zEnv A U H) (k : Nat) (tx : String) (hq : (k, tx) ∈ zStrs) : ∃ sa : Nat, vk_R RX4 k tx sa U := h.2.2.1 (k, tx) hq
def zPreE (D : va_G) (cI cZ cJ cD : ClassId) (ws : va_W) (U : State) : Prop := va_P D vwCl ws U.heap ∧ va_K D vwCl (zT cI cZ cJ cD) U ∧ zEnv (fun _ => False) U U.heap
def zPreWE (D : va_G) (cI cZ cJ cD : ClassId) (ws : va_W) (sz : Nat) (U : State) : Prop := U.heap.size = sz ∧ va_P D vwCl ws U.heap ∧ va_K D vwCl (zT cI cZ cJ cD) U ∧ va_D (fun _ => True) ws ∧ zEnv (va_A ws sz) U U.heap
theorem zEnv.calling {A : Nat → Prop} {U V : State} (hv : V.vm = U.vm) (hh : V.heap = U.heap) (h : zEnv A U U.heap) : zEnv A V V.heap := by
  rw [hh]
  have ha : U.vm.Alike V.vm := by rw [hv]; exact Vm.Alike.refl _
  exact ⟨h.1.moved ha, h.2.1.moved ha, h.2.2.same hv⟩
theorem zblindE {av : List Value} {D : va_G} {cI cZ cJ cD : ClassId} {ws : va_W} : FrameBlind (va_Pc av (zPreE D cI cZ cJ cD ws)) := fun a U g mk h => ⟨h.1, h.2.1, va_K.moved (u := U) (U := U.calling g mk a) (Vm.Alike.refl U.vm) h.2.2.1, h.2.2.2.calling rfl rfl⟩
theorem zblindWE {av : List Value} {D : va_G} {cI cZ cJ cD : ClassId} {ws : va_W} {sz : Nat} : FrameBlind (va_Pc av (zPreWE D cI cZ cJ cD ws sz)) := fun a U g mk h => ⟨h.1, h.2.1, h.2.2.1, va_K.moved (u := U) (U := U.calling g mk a) (Vm.Alike.refl U.vm) h.2.2.2.1, h.2.2.2.2.1, h.2.2.2.2.2.calling rfl rfl⟩
def zBad1 : List Cond := [.declares ⟨"java/lang/RuntimeException", "<init>", "(Ljava/lang/String;)V"⟩, .declares ⟨"java/lang/Exception", "<init>", "(Ljava/lang/String;)V"⟩, .declares ⟨"java/lang/Throwable", "<init>", "(Ljava/lang/String;)V"⟩, .castable "java/lang/IndexOutOfBoundsException" "java/lang/IndexOutOfBoundsException"]
def zBad2 : List Cond := [.declares ⟨"java/lang/RuntimeException", "<init>", "(Ljava/lang/String;)V"⟩, .declares ⟨"java/lang/Exception", "<init>", "(Ljava/lang/String;)V"⟩, .declares ⟨"java/lang/Throwable", "<init>", "(Ljava/lang/String;)V"⟩, .castable "java/lang/IllegalArgumentException" "java/lang/IllegalArgumentException"]
def zBad3 : List Cond := [.declares ⟨"java/lang/RuntimeException", "<init>", "(Ljava/lang/String;)V"⟩, .declares ⟨"java/lang/Exception", "<init>", "(Ljava/lang/String;)V"⟩, .declares ⟨"java/lang/Throwable", "<init>", "(Ljava/lang/String;)V"⟩, .castable "java/lang/IllegalStateException" "java/lang/IllegalStateException"]
theorem zEnv.bad1 {A : Nat → Prop} {U : State} {H : Heap} (h : zEnv A U H) (args : Array Value) : ∀ w ∈ zBad1, w.before args U = true := vx_c ((h.2.2.2.2.2 _ (List.mem_of_getElem? (i := 0) rfl)).use rfl) (vx_c ((h.2.2.2.2.2 _ (List.mem_of_getElem? (i := 1) rfl)).use rfl) (vx_c ((h.2.2.2.2.2 _ (List.mem_of_getElem? (i := 2) rfl)).use rfl) (vx_c ((h.2.2.2.1 ("java/lang/IndexOutOfBoundsException", "java/lang/IndexOutOfBoundsException") (List.mem_of_getElem? (i := 0) rfl)).use rfl) vx_n)))
theorem zEnv.bad2 {A : Nat → Prop} {U : State} {H : Heap} (h : zEnv A U H) (args : Array Value) : ∀ w ∈ zBad2, w.before args U = true := vx_c ((h.2.2.2.2.2 _ (List.mem_of_getElem? (i := 0) rfl)).use rfl) (vx_c ((h.2.2.2.2.2 _ (List.mem_of_getElem? (i := 1) rfl)).use rfl) (vx_c ((h.2.2.2.2.2 _ (List.mem_of_getElem? (i := 2) rfl)).use rfl) (vx_c ((h.2.2.2.1 ("java/lang/IllegalArgumentException", "java/lang/IllegalArgumentException") (List.mem_of_getElem? (i := 1) rfl)).use rfl) vx_n)))
theorem zEnv.bad3 {A : Nat → Prop} {U : State} {H : Heap} (h : zEnv A U H) (args : Array Value) : ∀ w ∈ zBad3, w.before args U = true := vx_c ((h.2.2.2.2.2 _ (List.mem_of_getElem? (i := 0) rfl)).use rfl) (vx_c ((h.2.2.2.2.2 _ (List.mem_of_getElem? (i := 1) rfl)).use rfl) (vx_c ((h.2.2.2.2.2 _ (List.mem_of_getElem? (i := 2) rfl)).use rfl) (vx_c ((h.2.2.2.1 ("java/lang/IllegalStateException", "java/lang/IllegalStateException") (List.mem_of_getElem? (i := 2) rfl)).use rfl) vx_n)))
theorem zbadOk1 : ∀ w ∈ (vx_atS RX4 41 "java/lang/IndexOutOfBoundsException" ["java/lang/RuntimeException", "java/lang/Exception"]).filter (fun w => !goodWord w), w ∈ zBad1 := by decide +kernel
theorem zbadOk2 : ∀ w ∈ (vx_atS RX4 48 "java/lang/IllegalArgumentException" ["java/lang/RuntimeException", "java/lang/Exception"]).filter (fun w => !goodWord w), w ∈ zBad2 := by decide +kernel
theorem zbadOk3 : ∀ w ∈ (vx_atS RX4 57 "java/lang/IllegalStateException" ["java/lang/RuntimeException", "java/lang/Exception"]).filter (fun w => !goodWord w), w ∈ zBad3 := by decide +kernel
/-! indexes -/
theorem z_in {x N : Int32} {n : Nat} (hN : N.toInt = (n : Int)) (h0 : ¬ x < 0) (h1 : ¬ N ≤ x) : vp_in x n := vp_in_iff.mpr (by
  rw [Int32.lt_iff_toInt_lt] at h0
  rw [Int32.le_iff_toInt_le] at h1
  have : (0 : Int32).toInt = 0 := rfl
  omega)
theorem z_in2 {x N : Int32} {n : Nat} (hN : N.toInt = (n : Int)) (h0 : ¬ x < 0) (h1 : x < N) : vp_in x n := vp_in_iff.mpr (by
  rw [Int32.lt_iff_toInt_lt] at h0 h1
  have : (0 : Int32).toInt = 0 := rfl
  omega)
theorem z_inc {x : Int32} {k n : Nat} (hk : x.toInt = (k : Int)) (h : k < n) : vp_in x n := vp_in_iff.mpr (by omega)
theorem z_b {v : Int32} (h : v = 0 ∨ v = 1) : narrow .boolean (.int v) = .int v := by
  rcases h with rfl | rfl <;> rfl
