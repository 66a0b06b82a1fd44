theorem ot_ret {S S' : St} {v r : Int32} (h : some (S, ((0 : Nat), v)) = some (S', ((0 : Nat), r))) : some (S, v) = some (S', r) := by
  have h1 := Option.some.inj h
  have h2 : S = S' := congrArg (fun z : St × Ot => z.1) h1
  have h3 : v = r := congrArg (fun z : St × Ot => z.2.2) h1
  rw [h2, h3]
def bc {α : Type} (x : Option (St × Ot)) (K : St → Int32 → Option α) (X : St → Nat → Option α) : Option α := match x with
  | none => none
  | some y => if y.2.1 = 0 then K y.1 y.2.2 else X y.1 y.2.1
theorem bc_some {α : Type} {x : Option (St × Ot)} {K : St → Int32 → Option α} {X : St → Nat → Option α} {y : α} (h : bc x K X = some y) : (∃ (S : St) (r : Int32), x = some (S, (0, r)) ∧ K S r = some y) ∨ (∃ (S : St) (k : Nat) (r : Int32), x = some (S, (k + 1, r)) ∧ X S (k + 1) = some y) := by
  match x, h with
  | some z, h =>
    have h : (if z.2.1 = 0 then K z.1 z.2.2 else X z.1 z.2.1) = some y := h
    by_cases hz : z.2.1 = 0
    · rw [if_pos hz] at h
      exact Or.inl ⟨z.1, z.2.2, by rw [← hz], h⟩
    · rw [if_neg hz] at h
      obtain ⟨k, hk⟩ : ∃ k, z.2.1 = k + 1 := ⟨z.2.1 - 1, by omega⟩
      exact Or.inr ⟨z.1, k, z.2.2, by rw [← hk], by rw [← hk]; exact h⟩
def RX (rm R : Room) (maxL : Nat) : Prop := rm.cells = 1 ∧ rm.slots = 6 ∧ rm.frames + 1 ≤ R.frames ∧ 8 + (maxL + 11) + rm.locals ≤ R.locals
def GCW (y : MethodName) (cc : ByteArray) (n : Nat) (ret : Option FieldType) (hh : List (Nat × Nat × Nat × Nat)) : List Cond := Cond.codeWith y cc n ret hh :: GW
theorem good_GCW {y : MethodName} {cc : ByteArray} {n : Nat} {r : Option FieldType} {hh : List (Nat × Nat × Nat × Nat)} (h : Cond.codeWith y cc n r hh ∈ lw_tbl) : GoodIn GW (GCW y cc n r hh) := by
  intro w hw
  rcases List.mem_cons.mp hw with rfl | hw
  · exact ⟨gw_of h rfl, good_of_word rfl⟩
  · exact ⟨hw, good_GW hw⟩
/-- of a static one with a table of its own -/
def MSW (y : MethodName) (bytes : ByteArray) (maxL : Nat) (ret : Option FieldType) (hh : List (Nat × Nat × Nat × Nat)) (n : Nat) : Prop :=
  Cond.codeWith y bytes maxL ret hh ∈ lw_tbl ∧ Cond.static y ∈ lw_tbl ∧ Cond.initialized y.cls ∈ lw_tbl ∧ (y.cls ≠ "java/lang/invoke/MethodHandle" ∧ y.cls ≠ "java/lang/invoke/VarHandle" ∧ (parseMethodDescriptor y.desc).map (fun d => d.parameters.length) = some n)
theorem MSW.good {y : MethodName} {bytes : ByteArray} {maxL : Nat} {ret : Option FieldType} {hh : List (Nat × Nat × Nat × Nat)} {n : Nat} (h : MSW y bytes maxL ret hh n) {own : String} {index : Nat} (hl : Cond.methodLink own index y ∈ lw_tbl) : GoodIn GW (va_wsS own index y (GCW y bytes maxL ret hh)) := by
  obtain ⟨h1, h2, h3, h5⟩ := h
  intro w hw
  rcases List.mem_append.mp hw with hw | hw
  · simp only [List.mem_cons, List.not_mem_nil, or_false] at hw
    rcases hw with rfl | rfl | rfl
    · exact ⟨gw_of hl rfl, good_of_word rfl⟩
    · exact ⟨gw_of h2 rfl, good_of_word rfl⟩
    · exact ⟨gw_of h3 rfl, good_of_word rfl⟩
  · exact good_GCW h1 w hw
section RXS
variable {p : Program} {l : Launch} {e : Env} {R : Room} {s : State} {m : MethodId} {args : Array Value} {below : List Frame} {meth : Method} {c : Code} {H : Heap} {locs : List Loc} {cells slots : Nat} {Q : State → Prop}
variable {cc : ByteArray} {pc nL : Nat} {ls : Array Slot} {rest st0 : List Value} {D : va_G} {cA : FieldType → ClassId} {ad : Nat → Nat} {base : Nat} {S S' : St} {own : String}
variable {y : MethodName} {bytes : ByteArray} {maxL n index : Nat} {ret : Option FieldType} {rm : Room} {Cn : String} {As : List Value} {q ci k : Nat} {ds : List Nat} {T : u_T} {N : Nat}
/-- a call that throws: the world behind it, and the throw over the frame -/
theorem r_xV (C : CX D cA base own cc nL p s m args c) (hw : WS D cA ad base s S H locs) (hM : vx_Met l y (GC y bytes maxL ret) rm (va_Pc (.ref (ad q) :: As) (wd D cA ad base S)) QF (XQ D cA ad base S' k) 1 6 (aB base)) (hY : MV y bytes maxL ret Cn n) (hl : Cond.methodLink own index y ∈ lw_tbl) (hR : RX rm R maxL) (hq : desc q = .inl (ci, ds)) (hqN : q < NC) (hc : vwCl[ci]? = some (Cn, T, N))
    (hn : As.length = n) (hsize : ls.size = nL) (hst : st0 = As.reverse ++ .ref (ad q) :: rest) (hroom : (rest.map fun v => v.category).sum ≤ 8) (hdg : decode cc pc = .ok (.invokevirtual index, 3)) (hcl : cells + 1 ≤ R.cells) (hsl : slots + 6 ≤ R.slots)
    (kx : ∀ (ce : Cell) (q9 : Addr) (H : Heap) (locs : List Loc), WS D cA ad base s S' H locs → H[q9]? = some ce → ce.vm = .none → s.vm.findClass (exN k) = some ce.cls → vx_W p l e R s m args below meth c H locs (cells + 1) (slots + 6) Q (F0 m pc ls rest) q9) :
    W p l e R s m args below meth c H locs cells slots Q (F0 m pc ls st0) := by
  obtain ⟨hx, hb, hml, hown, hts, hK, hbase⟩ := id C
  obtain ⟨r1, r2, r3, r4⟩ := hR
  have hrun := vx_runV (H := H) (locs := locs) (cells := cells) (slots := slots) (As := As) (rest := rest) (g := F0 m pc ls st0) (b := ad q) (e := e) (below := below) (meth := meth) ⟨hx, hb, hml, hown, hts⟩ hM (cwV n hts (hY.good hl) rfl r1 r2 hY.2.2.2.2 ⟨r3, r4⟩) ⟨wd_blind, va_recv hK hw.1 (ci := ci) (q0 := q) hc (by rw [wl_at hqN, cE_obj hq]), fun U hU hW => ⟨rfl, hw.pre C hU hW⟩⟩ rfl hn hsize hst (lv_room hroom) hdg ⟨hcl, hsl⟩
  refine vx_calli hrun hw.2.2 (fun _ _ h => h.elim) (fun _ h => h) (fun _ _ h => h) (fun E ce q9 u t H1 locs1 ht hvm hp hB hz hk hS hce hcv hcl9 => ?_) (fun r u t H1 locs1 ht hvm hp hB hz hk hS => hp.elim)
  cases hp
  obtain ⟨rfl, h1, h2, h3, h4⟩ := hB
  exact kx ce q9 H1 locs1 ⟨by rw [← ht]; exact h2, h3, hS⟩ hce hcv hcl9
/-- and no table here: it goes on to the caller -/
theorem r_out (C : CX D cA base own cc nL p s m args c) (hw : WS D cA ad base s S' H locs) (ht : ∀ x ∈ c.exceptionTable.toList, False) (hlocks : meth.locks = false) {ce : Cell} {q9 : Addr} (hce : H[q9]? = some ce) (hcv : ce.vm = .none) (hcl : s.vm.findClass (exN k) = some ce.cls) :
    vx_W p l e R s m args below meth c H locs 1 6 (vx_MQ below QF (XQ D cA ad base S' k) args s 1 6 (aB base)) (F0 m pc ls rest) q9 := by
  obtain ⟨hx, hb, hml, hown, hts, hK, hbase⟩ := id C
  refine vx_out (fun x hx => (ht x hx).elim) hlocks hce hcv hcl (fun t htt ha => ?_) hw.2.2.2.2 (Nat.le_refl _) (Nat.le_refl _)
  obtain ⟨hP, hD, hS⟩ := hw
  exact ⟨S', rfl, ⟨rfl, by rw [htt]; exact Nat.le_trans hbase.1 hS.1, by rw [htt]; exact hP, hD, va_K.moved ha hK⟩, hS.F htt⟩
/-- caught by a row of this method's table -/
theorem r_caught (C : CX D cA base own cc nL p s m args c) {ce : Cell} {q9 : Addr} {E : String} (hce : H[q9]? = some ce) (hcv : ce.vm = .none) (hcl : s.vm.findClass E = some ce.cls) (pre : List ExceptionTableEntry) (x : ExceptionTableEntry) (suf : List ExceptionTableEntry) (hsplit : c.exceptionTable.toList = pre ++ x :: suf) (nm : ExceptionTableEntry → String) (hE : E ∈ xcL) (hpass : ∀ z ∈ pre, covers z pc = true ∧ z.catchType ≠ 0 ∧ Cond.classLink own z.catchType (nm z) ∈ lw_tbl ∧ nm z ∈ xcL ∧ E ≠ nm z) (hx : covers x pc = true) (h0 : x.catchType ≠ 0) (hlink : Cond.classLink own x.catchType E ∈ lw_tbl)
    (kk : W p l e R s m args below meth c H locs cells slots Q (F0 m x.handlerPc ls [.ref q9])) : vx_W p l e R s m args below meth c H locs cells slots Q (F0 m pc ls rest) q9 := by
  obtain ⟨hx0, hb, hml, hown, hts, hK, hbase⟩ := id C
  obtain ⟨-, -, -, hdc, hcs, hnc, hst, hU, hN⟩ := id hbase.2
  exact q_catch hown pre x suf hsplit (fun z hz => by
    obtain ⟨a1, a2, a3, a4, a5⟩ := hpass z hz
    exact ⟨a1, a2, nm z, hts _ (gw_of a3 rfl), hnc _ hE _ a4 a5⟩) hx h0 (hts _ (gw_of hlink rfl)) ((hcs _ hE).use rfl) hce hcv hcl kk
/-- the context out of a body with a table -/
theorem CX.ofW {y : MethodName} {cc : ByteArray} {nL : Nat} {ret : Option FieldType} {hh : List (Nat × Nat × Nat × Nat)} {rm : Room} {s₁ : State} (hnc : y.cls = own) (B : BodyLoose p l y (headSpec (GCW y cc nL ret hh) rm) cc nL ret e s m args below meth c s₁) (hml : c.maxLocals = nL) (hd : wd D cA ad base S s) : CX D cA base own cc nL p s m args c ∧ WS D cA ad base s S s.heap [] ∧ c.exceptionTable.toList = tableOf hh := by
  obtain ⟨h1, h2, h3, h4⟩ := hd
  have hts := atoms_spec (ws := GCW y cc nL ret hh) B.pre
  subst hnc
  exact ⟨⟨B.exec, B.bytes, hml, findClass_of_methodNamed B.named, fun w hw => hts w (List.mem_cons_of_mem _ hw), h4.1, h1, h4.2⟩, ⟨h2, h3, va_S.rf⟩, vx_table (x := y) B (hts _ List.mem_cons_self)⟩
theorem r_runSW {hh : List (Nat × Nat × Nat × Nat)} {Qc : Array Value → State → Outcome → State → Prop} (C : CX D cA base own cc nL p s m args c) (hw : WS D cA ad base s S H locs) (hM : Met l y (GCW y bytes maxL ret hh) rm (va_Pc As (wd D cA ad base S)) Qc 1 6 (aB base)) (hY : MSW y bytes maxL ret hh n) (hl : Cond.methodLink own index y ∈ lw_tbl) (hR : RX rm R maxL)
    (hn : As.length = n) (hsize : ls.size = nL) (hst : st0 = As.reverse ++ rest) (hroom : (rest.map fun v => v.category).sum ≤ 8) (hdg : decode cc pc = .ok (.invokestatic index, 3)) (hcl : cells + 1 ≤ R.cells) (hsl : slots + 6 ≤ R.slots) :
    va_Run p l e R s m args below meth c H locs cells slots 1 6 (F0 m pc ls st0) rest (Qc As.toArray) (aB base) := by
  obtain ⟨hx, hb, hml, hown, hts, hK, hbase⟩ := id C
  obtain ⟨r1, r2, r3, r4⟩ := hR
  exact vx_runSW (As := As) (rest := rest) ⟨hx, hb, hml, hown, hts⟩ hM (vx_cwSW n hts (hY.good hl) rfl r1 r2 hY.2.2.2 ⟨r3, r4⟩) ⟨wd_blind, fun U hU hW => ⟨rfl, hw.pre C hU hW⟩⟩ rfl hn hsize hst (lv_room hroom) hdg ⟨hcl, hsl⟩
theorem r_biW {r : Int32} {a : Array Value} (hw : WS D cA ad base s S H locs) (hr : va_Run p l e R s m args below meth c H locs cells slots 1 6 (F0 m pc ls st0) rest (QI D cA ad base S' r a) (aB base))
    (kk : ∀ (H : Heap) (locs : List Loc), WS D cA ad base s S' H locs → W p l e R s m args below meth c H locs (cells + 1) (slots + 6) Q (F0 m (pc + 3) ls (.int r :: rest))) : W p l e R s m args below meth c H locs cells slots Q (F0 m pc ls st0) := by
  refine va_calli hr hw.2.2 (fun _ _ h => h) (fun _ h => h) (fun r' u t H1 locs1 ht hvm hp hB hz hk hS => ?_)
  obtain ⟨rfl, rfl⟩ := hp
  exact kk H1 locs1 (hw.back ht hB hS)
end RXS
