/-! NoSuchElementException: its constructor hands on by the link 13 -/
def nsX : String := "java/util/NoSuchElementException"
def ns13 : ByteArray := ⟨#[0x2a, 0x2b, 0xb7, 0x00, 0x0d, 0xb1]⟩
theorem ns13_0 : decode ns13 0 = .ok (.aload_n 0, 1) := by decide +kernel
theorem ns13_1 : decode ns13 1 = .ok (.aload_n 1, 1) := by decide +kernel
theorem ns13_2 : decode ns13 2 = .ok (.invokespecial 13, 3) := by decide +kernel
theorem ns13_5 : decode ns13 5 = .ok (.return_, 1) := by decide +kernel
def nsOf : List Cond := [.methodLink RX11 145 (Jvm.Bundle.initS nsX), .instantiable nsX 6, .selects nsX Jvm.Bundle.tFill0 Jvm.Bundle.tFill0, .selects nsX Jvm.Bundle.tFill Jvm.Bundle.tFill,
   .lays nsX Jvm.Bundle.tN "cause" "Ljava/lang/Throwable;", .lays nsX Jvm.Bundle.tN "stackTrace" Jvm.Bundle.steD, .lays nsX Jvm.Bundle.tN "suppressedExceptions" Jvm.Bundle.listD, .lays nsX Jvm.Bundle.tN "detailMessage" "Ljava/lang/String;", .lays nsX Jvm.Bundle.tN "backtrace" "Ljava/lang/Object;",
   .fieldLink Jvm.Bundle.tN 198 Jvm.Bundle.tN "backtrace" "Ljava/lang/Object;", .lays Jvm.Bundle.tN Jvm.Bundle.tN "backtrace" "Ljava/lang/Object;"]
def nsSt : List Cond := [.isRef (.static Jvm.Bundle.tN "UNASSIGNED_STACK" Jvm.Bundle.steD), .isRef (.static Jvm.Bundle.tN "SUPPRESSED_SENTINEL" Jvm.Bundle.listD)]
def nsCh : List Cond := Jvm.Bundle.chainSAtoms "java/lang/RuntimeException" ["java/lang/Exception"]
def nsPs : List Cond := Jvm.Bundle.passSAtoms nsX "java/lang/RuntimeException" 13 ns13
def nsAll : List Cond := Jvm.Bundle.throwableAtoms ++ (Jvm.Bundle.throwableSAtoms ++ (nsPs ++ (nsCh ++ (nsOf ++ nsSt))))
section QNS
variable {p : Program} {l : Launch} {e : Env} {R : Room} {s : State} {m₀ : MethodId} {args : Array Value} {below : List Frame} {meth : Method} {c : Code} {T : State} {locs : List Loc} {cells slots : Nat}
set_option maxHeartbeats 1000000 in
/-- from the call of the constructor, with the new cell and the text on the stack, to the throw over the caller -/
theorem q_ctor (X : Stand p l e R s m₀ args below meth c T locs cells slots) (hexec : p.tables.exec = Jvm.exec) (htr : e.platform.stackTraces = false) (hown : s.vm.findClass RX11 = some m₀.cls) (h : ∀ w ∈ nsAll, w.before args s = true) (hlocs : ∀ x ∈ locs, ∀ cell, s.heap[x.base]? = some cell → cell.vm.isStatics = false)
    {a : Addr} {cX : ClassId} {kX : Class} (hfX : s.vm.findClass nsX = some cX) (hkX : s.vm.classes[cX]? = some kX) (hcell : T.heap[a]? = some (freshCell cX kX)) (hnew : s.heap.size ≤ a) {msg : Value} (hmsg : msg.isRef = true)
    {g : JFrame} (hg : g.method = m₀) (hsize : g.locals.size = c.maxLocals) (hlocked : g.locked = none) (hentered : g.entered = []) {rest : List Value} (hstack : g.stack = msg :: .ref a :: .ref a :: rest)
    (hd6 : decode c.code g.pc = .ok (.invokespecial 145, 3)) (hd9 : decode c.code (g.pc + 3) = .ok (.athrow, 1)) (hout : ∀ x ∈ c.exceptionTable.toList, covers x (g.pc + 3) = false)
    (hRf : 5 < R.frames) (hRl : 2 * g.monitorRoom + ((Value.ref a :: rest).map fun v => v.category).sum + 81 ≤ R.locals) (hlocks : meth.locks = false) :
    ∃ U : State, Steps p.tables e below (T.setTop g) U ∧ U.status = .running ∧ Ended U below (.threw a) ∧ s.WarmedH U.vm ∧ s.sameButNew ({ U with vm := s.vm } : State) locs cells slots ∧ ∃ ce, U.heap[a]? = some ce ∧ ce.vm = .none ∧ ce.cls = cX := by
  have p1 : e.platform.frameOwnsMonitors = true := by rw [X.admits.platform]
  have p2 : e.platform.finalization = false := by rw [X.admits.platform]
  have p3 : e.platform.magicAccessors = ({} : Platform).magicAccessors := by rw [X.admits.platform]
  have w1 : ∀ w ∈ Jvm.Bundle.throwableAtoms, w.before args s = true := fun w hw => h w (List.mem_append_left _ hw)
  have w2 : ∀ w ∈ Jvm.Bundle.throwableSAtoms, w.before args s = true := fun w hw => h w (List.mem_append_right _ (List.mem_append_left _ hw))
  have w3 : ∀ w ∈ nsPs, w.before args s = true := fun w hw => h w (List.mem_append_right _ (List.mem_append_right _ (List.mem_append_left _ hw)))
  have w4 : ∀ w ∈ nsCh, w.before args s = true := fun w hw => h w (List.mem_append_right _ (List.mem_append_right _ (List.mem_append_right _ (List.mem_append_left _ hw))))
  have w5 : ∀ w ∈ nsOf, w.before args s = true := fun w hw => h w (List.mem_append_right _ (List.mem_append_right _ (List.mem_append_right _ (List.mem_append_right _ (List.mem_append_left _ hw)))))
  have w6 : ∀ w ∈ nsSt, w.before args s = true := fun w hw => h w (List.mem_append_right _ (List.mem_append_right _ (List.mem_append_right _ (List.mem_append_right _ (List.mem_append_right _ hw)))))
  obtain ⟨TC, Z0, L, -, Y⟩ := Jvm.ThrowableC.of_atoms (args := args) p1 p2 p3 w1
  obtain ⟨Z, M, LZ, LM, hnZ⟩ := Jvm.Init0T.ofS_atoms (args := args) p3 L Y w2
  obtain ⟨P1, L1, hP1, hP1s⟩ := Jvm.PassC.ofS_atoms (args := args) (s := s) p3 (X := nsX) (Y := "java/lang/RuntimeException") (by decide +kernel) (by decide) ns13_0 ns13_1 ns13_2 ns13_5 w3
  obtain ⟨P2, Ps, hlen, L2, hL, hP2, hl2, hln⟩ := Jvm.Bundle.chainS (args := args) p3 hnZ ["java/lang/Exception"] "java/lang/RuntimeException" (by decide +kernel) (by decide +kernel) w4
  have hfd : s.vm.findClass nsX = some P1.m.cls := findClass_of_methodNamed hP1
  cases Option.some.inj (hfX.symm.trans hfd)
  obtain ⟨c1, kX', hc1, hk, hord, -, -, hn6⟩ := Cond.instantiable_spec (w5 (.instantiable nsX 6) (by simp [nsOf]))
  cases Option.some.inj (hc1.symm.trans hfd)
  cases Option.some.inj (hkX.symm.trans hk)
  have sel0 : selectMethod e.platform s.vm P1.m.cls TC.fill0 = .method TC.fill0 := by
    obtain ⟨c2, r2, m2, q1, q2, q3, q4, -⟩ := Cond.selects_spec (w5 (.selects nsX Jvm.Bundle.tFill0 Jvm.Bundle.tFill0) (by simp [nsOf]))
    cases Option.some.inj (q1.symm.trans hfd)
    cases Option.some.inj (q2.symm.trans (State.methodFound?_of_named Y.fill0 (by decide)))
    cases Option.some.inj (q3.symm.trans Y.fill0)
    rw [Launch.admits_selectMethod X.admits]; exact q4
  have selF : selectMethod e.platform s.vm P1.m.cls TC.fill = .method TC.fill := by
    obtain ⟨c2, r2, m2, q1, q2, q3, q4, -⟩ := Cond.selects_spec (w5 (.selects nsX Jvm.Bundle.tFill Jvm.Bundle.tFill) (by simp [nsOf]))
    cases Option.some.inj (q1.symm.trans hfd)
    cases Option.some.inj (q2.symm.trans (State.methodFound?_of_named Y.fill (by decide)))
    cases Option.some.inj (q3.symm.trans Y.fill)
    rw [Launch.admits_selectMethod X.admits]; exact q4
  obtain ⟨cs, hcs, hiss⟩ := Y.statics
  obtain ⟨u0, hu0⟩ := Cond.staticRefV Y.unassigned L.unassignedStatic L.statics hcs hiss (w6 (.isRef (.static Jvm.Bundle.tN "UNASSIGNED_STACK" Jvm.Bundle.steD)) (by simp [nsSt]))
  obtain ⟨u1, hu1⟩ := Cond.staticRefV Y.sentinel L.sentinelStatic L.statics hcs hiss (w6 (.isRef (.static Jvm.Bundle.tN "SUPPRESSED_SENTINEL" Jvm.Bundle.listD)) (by simp [nsSt]))
  obtain ⟨ci9, i9, fB, b1, b2, b3, b4, -, hnB, htB, hffB⟩ := Cond.ownField (t := .object "java/lang/Object") Y.found L.cls (by decide +kernel) (w5 (.fieldLink Jvm.Bundle.tN 198 Jvm.Bundle.tN "backtrace" "Ljava/lang/Object;") (by simp [nsOf])) (w5 (.lays Jvm.Bundle.tN Jvm.Bundle.tN "backtrace" "Ljava/lang/Object;") (by simp [nsOf])) e.platform p3
  obtain ⟨cT, hcT, heT, -, hkeep⟩ := X.same.2.2.2.2.2 TC.aS cs hcs
  have hcTh : T.heap[TC.aS]? = some cT := hcT
  have hoff : ∀ i, (⟨TC.aS, i⟩ : Loc) ∉ locs := fun i hm => by
    have := hlocs _ hm cs hcs
    rw [hiss] at this; cases this
  have hkn : cT.vm ≠ .unknown := by
    rw [heT]; intro hu
    rw [show cs.vm = .unknown from hu] at hiss
    cases hiss
  have hne : TC.aS ≠ a := Nat.ne_of_lt (Nat.lt_of_lt_of_le (Array.getElem?_eq_some_iff.mp hcs).1 hnew)
  obtain ⟨iM, hffM⟩ := Y.msg
  obtain ⟨tyC, dC, hdC, hdnC⟩ := Cond.laysAt hfd hk Y.cause (w5 (.lays nsX Jvm.Bundle.tN "cause" "Ljava/lang/Throwable;") (by simp [nsOf]))
  obtain ⟨tyS, dS, hdS, hdnS⟩ := Cond.laysAt hfd hk Y.stack (w5 (.lays nsX Jvm.Bundle.tN "stackTrace" Jvm.Bundle.steD) (by simp [nsOf]))
  obtain ⟨tyP, dP, hdP, hdnP⟩ := Cond.laysAt hfd hk Y.supp (w5 (.lays nsX Jvm.Bundle.tN "suppressedExceptions" Jvm.Bundle.listD) (by simp [nsOf]))
  obtain ⟨tyM, dM, hdM, hdnM⟩ := Cond.laysAt hfd hk hffM (w5 (.lays nsX Jvm.Bundle.tN "detailMessage" "Ljava/lang/String;") (by simp [nsOf]))
  obtain ⟨tyB, dB, hdB, hdnB⟩ := Cond.laysAt hfd hk hffB (w5 (.lays nsX Jvm.Bundle.tN "backtrace" "Ljava/lang/Object;") (by simp [nsOf]))
  have bC := Cond.laysApart hdB hdC hdnB hdnC (by rw [hnB, Y.causeName]; decide)
  have bS := Cond.laysApart hdB hdS hdnB hdnS (by rw [hnB, Y.stackName]; decide)
  have bP := Cond.laysApart hdB hdP hdnB hdnP (by rw [hnB, Y.suppName]; decide)
  have hskip : SkipFacts TC e.platform s (fun u => u) u0 ((preparedCellV TC.toThrowableT (freshCell P1.m.cls kX) a u0 u1).withEntry T.cur) := by
    refine ⟨{ ci198 := ci9, i198 := i9, fBack := fB }, ⟨b1, b2, b3, b4⟩, ?_, fun _ _ => rfl⟩
    have hz := fresh_default (c := P1.m.cls) tyB
    rw [htB] at hz
    simpa [preparedCellV, Cell.setSlot, Cell.withEntry, Array.getElem?_setIfInBounds, bC, bS, bP, bC.symm, bS.symm, bP.symm, defaultValue] using hz
  obtain ⟨tm, methC, cdC, kC, vm₁, hnC, -, -, -, -, -, -, -, hW₁, st1⟩ := Steps.initColdS (tb := p.tables) (e := e) (below := below) (s := s) (U := T) X.here hexec X.warmed p3 hown (t := Jvm.Bundle.initS nsX) rfl rfl (by decide)
    (w5 (.methodLink RX11 145 (Jvm.Bundle.initS nsX)) (by simp [nsOf])) (w3 (.instanceMethod (Jvm.Bundle.initS nsX)) (by simp [nsPs, Jvm.Bundle.passSAtoms])) (bytes := ns13) (maxL := 2) (w3 (.code (Jvm.Bundle.initS nsX) ns13 2 none) (by simp [nsPs, Jvm.Bundle.passSAtoms]))
    (f := g) hg (a := a) (msg := msg) (rest := .ref a :: rest) hstack hd6
  cases Option.some.inj (hnC.symm.trans hP1)
  have X₁ := X.noted hW₁
  obtain ⟨vm₂, X₂, st2⟩ := X₁.ctorMessageOffV hexec (g := { g with stack := .ref a :: rest }) hg hsize TC L Z LZ M LM (P1 :: P2 :: Ps)
    (fun P hP => by
      rcases List.mem_cons.mp hP with rfl | hP
      · exact L1
      · rcases List.mem_cons.mp hP with rfl | hP
        · exact L2
        · exact hL P hP) ⟨Option.some.inj (hP1s.symm.trans hP2), hl2, hln⟩ (u0 := u0) (sen := u1) (self := a) hmsg (cell := freshCell P1.m.cls kX) (cellS := cT)
    hcell (fun _ => by simp) (by simp) rfl rfl sel0 selF hcTh hne hkn (by rw [hkeep _ (hoff _)]; exact hu0) (by rw [hkeep _ (hoff _)]; exact hu1)
    (Takes.of_laid hk hord tyC (by rw [Y.causeType]; rfl)) (Takes.of_laid hk hord tyS (by rw [Y.stackType]; exact fits_refV_array _ u0)) (Takes.of_laid hk hord tyP (by rw [Y.suppType]; exact fits_refV_object _ u1))
    (Takes.of_laid hk hord tyM (by rw [Y.msgType]; exact fits_refV_object _ ⟨msg, hmsg⟩)) Y.objLocals hskip htr [] hd6
    (by simp only [List.length_cons, hlen, List.length_nil]; omega) (by simp only [List.length_cons, hlen, List.length_nil]; exact hRl)
  obtain ⟨hwalk, hrun, hended, hWU, hsame⟩ := X₂.athrowLeaves hexec (g := { g with stack := .ref a :: rest, pc := g.pc + 3 }) hg hlocked hentered hout (a := a) (rest := rest) rfl hd9
  have hlt : a < ((T.setVm vm₁).setVm vm₂).heap.size := (Array.getElem?_eq_some_iff.mp hcell).1
  have hU := heapAt_setCell_self (s := (T.setVm vm₁).setVm vm₂) (plainBareV TC.toThrowableT (freshCell P1.m.cls kX) a u0 u1 msg) hlt
  refine ⟨_, st1 _ (fun acts => ?_), hrun, hended, hWU, hsame.weaken (fun y hy hlt' => ?_) (Nat.le_refl _) (Nat.le_refl _), _, hU, rfl, rfl⟩
  · rw [doInvoke_state]
    exact st2 _ hwalk
  · rcases List.mem_append.mp hy with h1 | h1
    · exact h1
    · exfalso
      have hb : y.base = a := by
        simp only [List.mem_cons, List.not_mem_nil, or_false] at h1
        rcases h1 with rfl | rfl | rfl | rfl | rfl <;> rfl
      rw [hb] at hlt'
      exact Nat.not_lt.mpr hnew hlt'
end QNS
