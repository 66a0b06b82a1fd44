/-! a throw that this method's own table takes: the search over rows whose names are linked as they come, then the step to the handler -/
section QCA
variable {e : Env} {f : JFrame} {a : Addr}
/-- one row of the table that covers the place: it is the one, or the search goes on; the tables then know one link more -/
theorem q_row {s : State} {x : ExceptionTableEntry} {t : List ExceptionTableEntry} {k : ClassId} {cell : Cell} {Q : Handler → Pre} {E : CtlPost} {d : Bool} {acts : List Action} (hx : covers x f.pc = true) (h0 : x.catchType ≠ 0) (hl : s.vm.ClassLinks e.platform f.method.cls x.catchType k) (hcell : s.heap[a]? = some cell) (hobj : ∀ z, cell.vm ≠ .statics z) (h1 : ∃ z, s.vm.classes[cell.cls]? = some z) (h2 : ∃ z, s.vm.classes[k]? = some z) :
    wp (findHandler.go f a (x :: t)) Q E e d acts s ↔ if s.vm.assignable cell.cls k = true then Q (.found x.handlerPc) d acts (s.setVm (s.vm.noted f.method.cls x.catchType (.cls k))) else wp (findHandler.go f a t) Q E e d acts (s.setVm (s.vm.noted f.method.cls x.catchType (.cls k))) := by
  have al : s.vm.Alike (s.vm.noted f.method.cls x.catchType (.cls k)) := (Vm.Alike.refl s.vm).noted _ _ _
  obtain ⟨r1, r2⟩ := (resolveClass_links e.toSetting hl).op (op := VmOp.resolveClass f.method.cls x.catchType) rfl
  obtain ⟨z1, hz1⟩ := h1
  obtain ⟨z2, hz2⟩ := h2
  obtain ⟨y1, hy1, -⟩ := al.2.2 _ _ hz1
  obtain ⟨y2, hy2, -⟩ := al.2.2 _ _ hz2
  simp only [covers] at hx
  cases hb : s.vm.assignable cell.cls k with
  | true =>
    have hb2 : (s.vm.noted f.method.cls x.catchType (.cls k)).assignable cell.cls k = true := by rw [al.assignable]; exact hb
    simp [findHandler.go, hx, h0, r1, r2, hcell, hobj, hy1, hy2, hb2, VmOp.dirties, VmOp.acts]
  | false =>
    have hb2 : (s.vm.noted f.method.cls x.catchType (.cls k)).assignable cell.cls k = false := by rw [al.assignable]; exact hb
    simp [findHandler.go, hx, h0, r1, r2, hcell, hobj, hy1, hy2, hb2, VmOp.dirties, VmOp.acts]
/-- a row that covers the place and links to the class k -/
def q_Ln (e : Env) (s : State) (f : JFrame) (x : ExceptionTableEntry) (k : ClassId) : Prop := covers x f.pc = true ∧ x.catchType ≠ 0 ∧ s.vm.ClassLinks e.platform f.method.cls x.catchType k
theorem q_search {s : State} {cell : Cell} (hobj : ∀ z, cell.vm ≠ .statics z) (h1 : ∃ z, s.vm.classes[cell.cls]? = some z) {x : ExceptionTableEntry} {suf : List ExceptionTableEntry} {k : ClassId} (hx : q_Ln e s f x k) (hfit : s.vm.assignable cell.cls k = true) :
    ∀ (pre : List ExceptionTableEntry) (U : State), s.WarmedH U.vm → U.heap[a]? = some cell → (∀ z ∈ pre, ∃ k0, q_Ln e s f z k0 ∧ s.vm.assignable cell.cls k0 = false) →
      ∃ vm', s.WarmedH vm' ∧ ∀ (Q : Handler → Pre) (E : CtlPost) (d : Bool) (acts : List Action), wp (findHandler.go f a (pre ++ x :: suf)) Q E e d acts U ↔ Q (.found x.handlerPc) d acts (U.setVm vm') := by
  obtain ⟨z1, hz1⟩ := h1
  have fwd : ∀ (U : State), s.WarmedH U.vm → ∀ (y : ExceptionTableEntry) (k0 : ClassId), q_Ln e s f y k0 → U.vm.ClassLinks e.platform f.method.cls y.catchType k0 ∧ (∃ z, U.vm.classes[cell.cls]? = some z) ∧ (∃ z, U.vm.classes[k0]? = some z) ∧ s.WarmedH (U.vm.noted f.method.cls y.catchType (.cls k0)) := by
    intro U hW y k0 hy
    obtain ⟨dk, _, _, kt, hd, _, _, _, _, hkt, _, hready⟩ := hy.2.2.here
    obtain ⟨y1, hy1, -⟩ := hW.alike.2.2 _ _ hz1
    obtain ⟨y2, hy2, -⟩ := hW.alike.2.2 _ _ hkt
    exact ⟨hW.classLinks hy.2.2, ⟨y1, hy1⟩, ⟨y2, hy2⟩, hW.noted hd hready (State.rightAt_cls hy.2.2)⟩
  intro pre
  induction pre with
  | nil =>
    intro U hW hc _
    obtain ⟨g1, g2, g3, g4⟩ := fwd U hW x k hx
    refine ⟨_, g4, fun Q E d acts => ?_⟩
    rw [List.nil_append, q_row hx.1 hx.2.1 g1 hc hobj g2 g3, if_pos (by rw [hW.alike.assignable]; exact hfit)]
  | cons y ys ih =>
    intro U hW hc hp
    obtain ⟨k0, hy, hno⟩ := hp y List.mem_cons_self
    obtain ⟨g1, g2, g3, g4⟩ := fwd U hW y k0 hy
    obtain ⟨vm', r1, r2⟩ := ih (U.setVm (U.vm.noted f.method.cls y.catchType (.cls k0))) g4 hc (fun z hz => hp z (List.mem_cons_of_mem _ hz))
    refine ⟨vm', r1, fun Q E d acts => ?_⟩
    rw [List.cons_append, q_row hy.1 hy.2.1 g1 hc hobj g2 g3, if_neg (by rw [hW.alike.assignable, hno]; decide), r2]
    rfl
end QCA
section QCB
variable {p : Program} {l : Launch} {e : Env} {R : Room} {s : State} {m : MethodId} {args : Array Value} {below : List Frame} {meth : Method} {c : Code} {H : Heap} {locs : List Loc} {cells slots : Nat} {Q : State → Prop} {pc : Nat} {ls : Array Slot} {rest : List Value}
/-- the step: from the throw over the frame to the handler's place -/
theorem q_taken {T : State} (X : Stand p l e R s m args below meth c T locs cells slots) {g : JFrame} (hg : g.method = m) {q : Addr} {pc' : Nat} {vm' : Vm} (hW : s.WarmedH vm')
    (hfind : ∀ (Q : Handler → Pre) (E : CtlPost) (d : Bool) (acts : List Action), wp (findHandler g q) Q E e d acts ((T.setTop g).pushFrame (.throwing q)) ↔ Q (.found pc') d acts (((T.setTop g).pushFrame (.throwing q)).setVm vm')) {t : State}
    (hr : Steps p.tables e below ((T.setVm vm').setTop { g with pc := pc', stack := [.ref q] }) t) : Steps p.tables e below ((T.setTop g).pushFrame (.throwing q)) t := by
  subst hg
  obtain ⟨hgo, hab⟩ := X.here.throwing q
  refine Steps.head hgo hab ?_
  obtain ⟨g0, hg0⟩ := Option.isSome_iff_exists.mp X.here.top
  obtain ⟨r, hr0⟩ := State.topJava?_eq_some.mp hg0
  have hr1 : (T.setVm vm').frames = .java g0 :: r := hr0
  have hstep : (stepThrowing e ((T.setTop g).pushFrame (.throwing q)) q (.java g :: r)).1 = (((T.setTop g).pushFrame (.throwing q)).setVm vm').setFrames (.java { g with pc := pc', stack := [.ref q] } :: r) := by
    simp only [stepThrowing, searchFrame, vmDo]
    generalize hz : Sem.go _ e false [] _ = res
    obtain ⟨as, rfl, -⟩ := Sem.eq_ok_of hz (a := Handler.found pc') (s' := ((T.setTop g).pushFrame (.throwing q)).setVm vm') (acts' := []) (by simp [hfind _ _ _ _])
    rfl
  rw [stepThread_throwing (frames_entered X.here.top _), hr0, List.tail_cons, hstep]
  rw [State.setTop_of_frames _ hr1] at hr
  have e1 : (((T.setTop g).pushFrame (.throwing q)).setVm vm').setFrames (.java { g with pc := pc', stack := [.ref q] } :: r) = (T.setVm vm').setFrames (.java { g with pc := pc', stack := [.ref q] } :: r) := by
    rw [State.pushFrame, State.setTop_of_frames _ hr0]
    have e2 : ∀ (u : State) (F G : List Frame), ((u.setFrames F).setVm vm').setFrames G = (u.setVm vm').setFrames G := by
      intro u F G
      have e3 : (u.setFrames F).setVm vm' = (u.setVm vm').setFrames F := rfl
      rw [e3, State.setFrames_setFrames]
    rw [e2, e2]
  rw [e1]
  exact hr
/-- caught by the row x of this method's table, past rows that name other classes -/
theorem q_catch {own name E : String} {ce : Cell} {q : Addr} (hown : s.vm.findClass own = some m.cls) (pre : List ExceptionTableEntry) (x : ExceptionTableEntry) (suf : List ExceptionTableEntry) (hsplit : c.exceptionTable.toList = pre ++ x :: suf)
    (hpass : ∀ z ∈ pre, covers z pc = true ∧ z.catchType ≠ 0 ∧ ∃ nm : String, (Cond.classLink own z.catchType nm).before args s = true ∧ va_Nc E nm s) (hx : covers x pc = true) (h0 : x.catchType ≠ 0)
    (hlink : (Cond.classLink own x.catchType name).before args s = true) (hcast : (Cond.castable E name).before args s = true) (hcell : H[q]? = some ce) (hv : ce.vm = .none) (hcl : s.vm.findClass E = some ce.cls)
    (kk : W p l e R s m args below meth c H locs cells slots Q (F0 m x.handlerPc ls [.ref q])) : vx_W p l e R s m args below meth c H locs cells slots Q (F0 m pc ls rest) q := by
  intro T hT X
  have hpl : e.platform.magicAccessors = ({} : Platform).magicAccessors := by rw [X.admits.platform]
  obtain ⟨c3, c4, hc3, hc4, hasg⟩ := Cond.castable_spec hcast
  cases Option.some.inj (hc3.symm.trans hcl)
  obtain ⟨c5, hc5, hcl5⟩ := Cond.classLink_spec hown hlink e.platform hpl
  cases Option.some.inj (hc4.symm.trans hc5)
  obtain ⟨kE, hkE, -⟩ := Vm.findClass_spec hcl
  obtain ⟨vm', hW', hfind⟩ := q_search (e := e) (f := F0 m pc ls rest) (a := q) (s := s) (cell := ce) (fun z hz => by rw [hv] at hz; cases hz) ⟨kE, hkE⟩ (x := x) (suf := suf) ⟨hx, h0, hcl5⟩ hasg pre ((T.setTop (F0 m pc ls rest)).pushFrame (.throwing q)) X.warmed (by show T.heap[q]? = some ce; rw [hT]; exact hcell) (fun z hz => by
    obtain ⟨z1, z2, nm, z3, a8, b8, h1, h2, h3⟩ := hpass z hz
    obtain ⟨c6, hc6, hcl6⟩ := Cond.classLink_spec hown z3 e.platform hpl
    cases Option.some.inj (h1.symm.trans hcl)
    cases Option.some.inj (h2.symm.trans hc6)
    exact ⟨_, ⟨z1, z2, hcl6⟩, h3⟩)
  obtain ⟨t, a1, b1⟩ := kk (T.setVm vm') hT (X.noted hW')
  refine ⟨t, q_taken X (g := F0 m pc ls rest) rfl hW' (fun Q E d acts => ?_) a1, b1⟩
  rw [W.findHandler_eq (s := (T.setTop (F0 m pc ls rest)).pushFrame (.throwing q)) (f := F0 m pc ls rest) X.method' X.code, hsplit]
  exact hfind Q E d acts
end QCB
