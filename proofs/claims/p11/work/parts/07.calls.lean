/-- what the tables say of a method that is called on an object -/
def MV (y : MethodName) (bytes : ByteArray) (maxL : Nat) (ret : Option FieldType) (Cn : String) (n : Nat) : Prop :=
  Cond.code y bytes maxL ret ∈ lw_tbl ∧ Cond.instanceMethod y ∈ lw_tbl ∧ Cond.selects Cn y y ∈ lw_tbl ∧ Cond.initialized Cn ∈ lw_tbl ∧ (y.cls = Cn ∧ y.cls ≠ "java/lang/invoke/MethodHandle" ∧ y.cls ≠ "java/lang/invoke/VarHandle" ∧ (parseMethodDescriptor y.desc).map (fun d => d.parameters.length) = some n)
/-- of a static one -/
def MS (y : MethodName) (bytes : ByteArray) (maxL : Nat) (ret : Option FieldType) (n : Nat) : Prop :=
  Cond.code y bytes maxL ret ∈ lw_tbl ∧ Cond.static y ∈ lw_tbl ∧ Cond.initialized y.cls ∈ lw_tbl ∧ (y.cls ≠ "java/lang/invoke/MethodHandle" ∧ y.cls ≠ "java/lang/invoke/VarHandle" ∧ (parseMethodDescriptor y.desc).map (fun d => d.parameters.length) = some n)
def RM (rm R : Room) (maxL : Nat) : Prop := rm.cells = 0 ∧ rm.slots = 0 ∧ rm.frames + 1 ≤ R.frames ∧ 8 + (maxL + 11) + rm.locals ≤ R.locals
theorem MV.good {y : MethodName} {bytes : ByteArray} {maxL : Nat} {ret : Option FieldType} {Cn : String} {n : Nat} (h : MV y bytes maxL ret Cn n) {own : String} {index : Nat} (hl : Cond.methodLink own index y ∈ lw_tbl) : GoodIn GW (wsV own index Cn y (GC y bytes maxL ret)) := by
  obtain ⟨h1, h2, h3, h4, h5⟩ := h
  intro w hw
  rcases List.mem_append.mp hw with hw | hw
  · simp only [List.mem_cons, List.not_mem_nil, or_false] at hw
    rcases hw with rfl | rfl | rfl | rfl
    · exact ⟨gw_of hl rfl, good_of_word rfl⟩
    · exact ⟨gw_of h2 rfl, good_of_word rfl⟩
    · exact ⟨gw_of h3 rfl, good_of_word rfl⟩
    · exact ⟨gw_of h4 rfl, good_of_word rfl⟩
  · exact good_GC h1 w hw
theorem MS.good {y : MethodName} {bytes : ByteArray} {maxL : Nat} {ret : Option FieldType} {n : Nat} (h : MS y bytes maxL ret n) {own : String} {index : Nat} (hl : Cond.methodLink own index y ∈ lw_tbl) : GoodIn GW (va_wsS own index y (GC y bytes maxL ret)) := by
  obtain ⟨h1, h2, h3, h5⟩ := h
  intro w hw
  rcases List.mem_append.mp hw with hw | hw
  · simp only [List.mem_cons, List.not_mem_nil, or_false] at hw
    rcases hw with rfl | rfl | rfl
    · exact ⟨gw_of hl rfl, good_of_word rfl⟩
    · exact ⟨gw_of h2 rfl, good_of_word rfl⟩
    · exact ⟨gw_of h3 rfl, good_of_word rfl⟩
  · exact good_GC h1 w hw
section RCS
variable {p : Program} {l : Launch} {e : Env} {R : Room} {s : State} {m : MethodId} {args : Array Value} {below : List Frame} {meth : Method} {c : Code} {H : Heap} {locs : List Loc} {cells slots : Nat} {Q : State → Prop}
variable {cc : ByteArray} {pc nL : Nat} {ls : Array Slot} {rest st0 : List Value} {D : va_G} {cA : FieldType → ClassId} {ad : Nat → Nat} {base : Nat} {S S' : St} {own : String}
variable {y : MethodName} {bytes : ByteArray} {maxL n index : Nat} {ret : Option FieldType} {rm : Room} {Qc : Array Value → State → Outcome → State → Prop} {Cn : String} {As : List Value} {q ci : Nat} {ds : List Nat} {T : u_T} {N : Nat}
theorem WS.pre (hw : WS D cA ad base s S H locs) (C : CX D cA base own cc nL p s m args c) {U : State} (hU : U.heap = H) (hW : s.WarmedH U.vm) : wd D cA ad base S U := by
  obtain ⟨hx0, hb, hml, hown, hts, hK, hbase⟩ := C
  obtain ⟨hP, hD, hS⟩ := hw
  exact ⟨by rw [hU]; exact Nat.le_trans hbase.1 hS.1, by rw [hU]; exact hP, hD, va_K.moved hW.alike hK, by rw [hU]; exact hbase.2.pre hW hS⟩
theorem r_runV (C : CX D cA base own cc nL p s m args c) (hw : WS D cA ad base s S H locs) (hM : Met l y (GC y bytes maxL ret) rm (va_Pc (.ref (ad q) :: As) (wd D cA ad base S)) Qc 0 0 (aB base)) (hY : MV y bytes maxL ret Cn n) (hl : Cond.methodLink own index y ∈ lw_tbl) (hR : RM rm R maxL) (hq : desc q = .inl (ci, ds)) (hqN : q < NC) (hc : vwCl[ci]? = some (Cn, T, N))
    (hn : As.length = n) (hsize : ls.size = nL) (hst : st0 = As.reverse ++ .ref (ad q) :: rest) (hroom : (rest.map fun v => v.category).sum ≤ 8) (hdg : decode cc pc = .ok (.invokevirtual index, 3)) (hcl : cells ≤ R.cells) (hsl : slots ≤ R.slots) :
    va_Run p l e R s m args below meth c H locs cells slots 0 0 (F0 m pc ls st0) rest (Qc (Value.ref (ad q) :: As).toArray) (aB base) := by
  obtain ⟨hx, hb, hml, hown, hts, hK, hbase⟩ := id C
  obtain ⟨r1, r2, r3, r4⟩ := hR
  refine va_runV (As := As) (rest := rest) ⟨hx, hb, hml, hown, hts⟩ hM (cwV n hts (hY.good hl) rfl r1 r2 hY.2.2.2.2 ⟨r3, r4⟩) ⟨wd_blind, ?_, fun U hU hW => ⟨rfl, hw.pre C hU hW⟩⟩ rfl hn hsize hst (lv_room hroom) hdg ⟨hcl, hsl⟩
  exact va_recv hK hw.1 (ci := ci) (q0 := q) hc (by rw [wl_at hqN, cE_obj hq])
theorem r_runS (C : CX D cA base own cc nL p s m args c) (hw : WS D cA ad base s S H locs) (hM : Met l y (GC y bytes maxL ret) rm (va_Pc As (wd D cA ad base S)) Qc 0 0 (aB base)) (hY : MS y bytes maxL ret n) (hl : Cond.methodLink own index y ∈ lw_tbl) (hR : RM rm R maxL)
    (hn : As.length = n) (hsize : ls.size = nL) (hst : st0 = As.reverse ++ rest) (hroom : (rest.map fun v => v.category).sum ≤ 8) (hdg : decode cc pc = .ok (.invokestatic index, 3)) (hcl : cells ≤ R.cells) (hsl : slots ≤ R.slots) :
    va_Run p l e R s m args below meth c H locs cells slots 0 0 (F0 m pc ls st0) rest (Qc As.toArray) (aB base) := by
  obtain ⟨hx, hb, hml, hown, hts, hK, hbase⟩ := id C
  obtain ⟨r1, r2, r3, r4⟩ := hR
  exact va_runS (As := As) (rest := rest) ⟨hx, hb, hml, hown, hts⟩ hM (va_cwS n hts (hY.good hl) rfl r1 r2 hY.2.2.2 ⟨r3, r4⟩) ⟨wd_blind, fun U hU hW => ⟨rfl, hw.pre C hU hW⟩⟩ rfl hn hsize hst (lv_room hroom) hdg ⟨hcl, hsl⟩
theorem r_runSN (C : CX D cA base own cc nL p s m args c) (hw : WS D cA ad base s S H locs) {host : String} (hM : Met l y (GC y bytes maxL ret) rm (va_Pc As (wd D cA ad base S)) Qc 0 0 (aB base)) (hY : MS y bytes maxL ret n) (hl : va_Nw (.methodLinkNest own index y host) s) (hR : RM rm R maxL)
    (hn : As.length = n) (hsize : ls.size = nL) (hst : st0 = As.reverse ++ rest) (hroom : (rest.map fun v => v.category).sum ≤ 8) (hdg : decode cc pc = .ok (.invokestatic index, 3)) (hcl : cells ≤ R.cells) (hsl : slots ≤ R.slots) :
    va_Run p l e R s m args below meth c H locs cells slots 0 0 (F0 m pc ls st0) rest (Qc As.toArray) (aB base) := by
  obtain ⟨hx, hb, hml, hown, hts, hK, hbase⟩ := id C
  obtain ⟨r1, r2, r3, r4⟩ := hR
  obtain ⟨h1, h2, h3, h5⟩ := id hY
  exact va_runSN (As := As) (rest := rest) ⟨hx, hb, hml, hown, hts⟩ hM ⟨va_cnB n hts (good_GC h1) rfl r1 r2 hl (hts _ (gw_of h3 rfl)) h5 ⟨r3, r4⟩, hts _ (gw_of h2 rfl), trivial⟩ ⟨wd_blind, fun U hU hW => ⟨rfl, hw.pre C hU hW⟩⟩ rfl hn hsize hst (lv_room hroom) hdg ⟨hcl, hsl⟩
/-- behind a call -/
theorem WS.back (hw : WS D cA ad base s S H locs) {t : State} {H1 : Heap} {locs1 : List Loc} (ht : t.heap = H1) (hb : wd D cA ad base S' t) (hS : va_S (aB base) s.heap H1 locs1) : WS D cA ad base s S' H1 locs1 := by
  obtain ⟨h1, h2, h3, h4⟩ := hb
  exact ⟨by rw [← ht]; exact h2, h3, hS⟩
theorem r_bi {r : Int32} {a : Array Value} (hw : WS D cA ad base s S H locs) (hr : va_Run p l e R s m args below meth c H locs cells slots 0 0 (F0 m pc ls st0) rest (QI D cA ad base S' r a) (aB base))
    (kk : ∀ (H : Heap) (locs : List Loc), WS D cA ad base s S' H locs → W p l e R s m args below meth c H locs cells slots Q (F0 m (pc + 3) ls (.int r :: rest))) : W p l e R s m args below meth c H locs cells slots Q (F0 m pc ls st0) := by
  refine va_calli hr hw.2.2 (fun _ _ h => h) (fun _ h => h) (fun r' u t H1 locs1 ht hvm hp hB hz hk hS => ?_)
  obtain ⟨rfl, rfl⟩ := hp
  exact kk H1 locs1 (hw.back ht hB hS)
theorem r_bl {r : Int64} {a : Array Value} (hw : WS D cA ad base s S H locs) (hr : va_Run p l e R s m args below meth c H locs cells slots 0 0 (F0 m pc ls st0) rest (QL D cA ad base S' r a) (aB base))
    (kk : ∀ (H : Heap) (locs : List Loc), WS D cA ad base s S' H locs → W p l e R s m args below meth c H locs cells slots Q (F0 m (pc + 3) ls (.long r :: rest))) : W p l e R s m args below meth c H locs cells slots Q (F0 m pc ls st0) := by
  refine va_calll hr hw.2.2 (fun _ _ h => h) (fun _ h => h) (fun r' u t H1 locs1 ht hvm hp hB hz hk hS => ?_)
  obtain ⟨rfl, rfl⟩ := hp
  exact kk H1 locs1 (hw.back ht hB hS)
theorem r_bv {a : Array Value} (hw : WS D cA ad base s S H locs) (hr : va_Run p l e R s m args below meth c H locs cells slots 0 0 (F0 m pc ls st0) rest (QV D cA ad base S' a) (aB base))
    (kk : ∀ (H : Heap) (locs : List Loc), WS D cA ad base s S' H locs → W p l e R s m args below meth c H locs cells slots Q (F0 m (pc + 3) ls rest)) : W p l e R s m args below meth c H locs cells slots Q (F0 m pc ls st0) := by
  refine va_callv hr hw.2.2 (fun _ _ h => h) (fun _ h => h) (fun u t H1 locs1 ht hvm hp hB hz hk hS => ?_)
  cases hp
  exact kk H1 locs1 (hw.back ht hB hS)
theorem r_br {q9 : Nat} {a : Array Value} (hw : WS D cA ad base s S H locs) (hr : va_Run p l e R s m args below meth c H locs cells slots 0 0 (F0 m pc ls st0) rest (QR D cA ad base S' q9 a) (aB base))
    (kk : ∀ (H : Heap) (locs : List Loc), WS D cA ad base s S' H locs → W p l e R s m args below meth c H locs cells slots Q (F0 m (pc + 3) ls (.ref (ad q9) :: rest))) : W p l e R s m args below meth c H locs cells slots Q (F0 m pc ls st0) := by
  refine va_callr hr hw.2.2 (fun _ _ h => h) (fun _ h => h) ?_
  intro u a9 t H1 locs1 ht hvm hp hB hz hk hS
  cases hp
  obtain ⟨rfl, hB⟩ := hB
  exact kk H1 locs1 (hw.back ht hB hS)
/-- the context out of a body -/
theorem CX.of {y : MethodName} {cc : ByteArray} {nL : Nat} {ret : Option FieldType} {rm : Room} {s₁ : State} (hnc : y.cls = own) (B : BodyLoose p l y (headSpec (GC y cc nL ret) rm) cc nL ret e s m args below meth c s₁) (hml : c.maxLocals = nL) (hd : wd D cA ad base S s) : CX D cA base own cc nL p s m args c ∧ WS D cA ad base s S s.heap [] := by
  obtain ⟨h1, h2, h3, h4⟩ := hd
  have hts := atoms_spec (ws := GC y cc nL ret) B.pre
  subst hnc
  exact ⟨⟨B.exec, B.bytes, hml, findClass_of_methodNamed B.named, fun w hw => hts w (List.mem_cons_of_mem _ hw), h4.1, h1, h4.2⟩, h2, h3, va_S.rf⟩
end RCS
