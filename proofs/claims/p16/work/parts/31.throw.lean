def nms : List String := ["java/lang/RuntimeException", "java/lang/Exception"]
def exN (k : Nat) : String := xcL.getD (k - 1) ""
def wx (D : va_G) (cA : FieldType → ClassId) (ad : Nat → Nat) (base : Nat) (S : St) (U : State) : Prop :=
  base ≤ U.heap.size ∧ va_P D vwCl (wl cA ad S) U.heap ∧ va_D (aB base) (wl cA ad S) ∧ va_K D vwCl (tysl cA) U
abbrev QF : Array Value → State → Outcome → State → Prop := va_Qi (fun (_ : Int32) (_ : St) => False) (fun _ _ => True) (fun _ => False)
abbrev XQ (D : va_G) (cA : FieldType → ClassId) (ad : Nat → Nat) (base : Nat) (S' : St) (k : Nat) : String → State → State → Prop := vx_X (fun (S'' : St) => S'' = S') (fun E S'' t => E = exN k ∧ wx D cA ad base S'' t) (aB base)
/-- outcomes: what was returned (0, v), or the number of what was thrown -/
abbrev Ot : Type := Nat × Int32
def bx (x : Option (St × Ot)) (K : St → Int32 → Option (St × Ot)) : Option (St × Ot) := match x with
  | none => none
  | some y => if y.2.1 = 0 then K y.1 y.2.2 else some y
theorem bx_some {x : Option (St × Ot)} {K : St → Int32 → Option (St × Ot)} {y : St × Ot} (h : bx x K = some y) : (∃ (S : St) (r : Int32), x = some (S, (0, r)) ∧ K S r = some y) ∨ (x = some y ∧ y.2.1 ≠ 0) := by
  match x, h with
  | some z, h =>
    have h : (if z.2.1 = 0 then K z.1 z.2.2 else some z) = some y := h
    by_cases hz : z.2.1 = 0
    · rw [if_pos hz] at h
      exact Or.inl ⟨z.1, z.2.2, by rw [← hz], h⟩
    · rw [if_neg hz] at h
      cases h
      exact Or.inr ⟨rfl, hz⟩
theorem bx_ret {x : Option (St × Ot)} {K : St → Int32 → Option (St × Ot)} {S' : St} {r : Int32} (h : bx x K = some (S', (0, r))) : ∃ (S : St) (r1 : Int32), x = some (S, (0, r1)) ∧ K S r1 = some (S', (0, r)) := by
  rcases bx_some h with h | h
  · exact h
  · exact absurd rfl h.2
theorem no_thr {S S' : St} {k : Nat} {v r : Int32} (h : some (S, (k + 1, v)) = some (S', ((0 : Nat), r))) : False := by
  have := Option.some.inj h
  have h2 : k + 1 = 0 := congrArg (fun z : St × Ot => z.2.1) this
  omega
theorem no_ret {S S' : St} {k : Nat} {v r : Int32} (h : some (S, ((0 : Nat), v)) = some (S', (k + 1, r))) : False := by
  have := Option.some.inj h
  have h2 : 0 = k + 1 := congrArg (fun z : St × Ot => z.2.1) this
  omega
def badL (cls : String) : List Cond := [.declares ⟨"java/lang/RuntimeException", "<init>", "(Ljava/lang/String;)V"⟩, .declares ⟨"java/lang/Exception", "<init>", "(Ljava/lang/String;)V"⟩, .declares ⟨"java/lang/Throwable", "<init>", "(Ljava/lang/String;)V"⟩, .castable cls cls]
/-- what the tables say of a throw site of the class, by the number of its constructor's link -/
def TX (ic : Nat) (cls : String) : Prop :=
  Jvm.Bundle.fit cls = true ∧ (∀ n ∈ nms, Jvm.Bundle.fit n = true) ∧ (∀ w ∈ (vx_atS RX11 ic cls nms).filter goodWord, w ∈ lw_tbl) ∧ (∀ w ∈ (vx_atS RX11 ic cls nms).filter (fun w => !goodWord w), w ∈ badL cls) ∧ (∀ w ∈ vx_atS RX11 ic cls nms, vx_ot w = true) ∧ Cond.initialized cls ∈ lw_tbl ∧ cls ∈ xcL
theorem txIAE : TX 112 "java/lang/IllegalArgumentException" := ⟨by decide +kernel, by decide +kernel, by decide +kernel, by decide +kernel, by decide +kernel, gw1_17, by decide⟩
theorem txUOE : TX 124 "java/lang/UnsupportedOperationException" := ⟨by decide +kernel, by decide +kernel, by decide +kernel, by decide +kernel, by decide +kernel, gw1_18, by decide⟩
theorem txIOB : TX 361 "java/lang/IndexOutOfBoundsException" := ⟨by decide +kernel, by decide +kernel, by decide +kernel, by decide +kernel, by decide +kernel, gw1_19, by decide⟩
theorem txISE : TX 282 "java/lang/IllegalStateException" := ⟨by decide +kernel, by decide +kernel, by decide +kernel, by decide +kernel, by decide +kernel, gw1_23, by decide⟩
section RTH
variable {p : Program} {l : Launch} {e : Env} {R : Room} {s : State} {m : MethodId} {args : Array Value} {below : List Frame} {meth : Method} {c : Code} {H : Heap} {locs : List Loc}
variable {cc : ByteArray} {pc nL : Nat} {ls : Array Slot} {rest : List Value} {D : va_G} {cA : FieldType → ClassId} {ad : Nat → Nat} {base : Nat} {S S' : St}
theorem WS.thrown (hw : WS D cA ad base s S H locs) (C : CX D cA base RX11 cc nL p s m args c) {t : State} (ha : s.vm.Alike t.vm) (hz : H.size ≤ t.heap.size) (hk : ∀ q : Nat, q < H.size → t.heap[q]? = H[q]?) : wx D cA ad base S t ∧ va_F (aB base) s t := by
  obtain ⟨hx0, hb, hml, hown, hts, hK, hbase⟩ := C
  obtain ⟨hP, hD, hS⟩ := hw
  refine ⟨⟨Nat.le_trans hbase.1 (Nat.le_trans hS.1 hz), hP.kept (fun k q hq => hk q.1 (hP k q hq).lt), hD, va_K.moved ha hK⟩, Nat.le_trans hS.1 hz, fun q h1 h2 => ?_⟩
  rw [hk q (Nat.lt_of_lt_of_le h1 hS.1)]
  exact hS.2.1 q h1 h2
theorem r_throw (C : CX D cA base RX11 cc nL p s m args c) (hw : WS D cA ad base s S H locs) (hlt : l.stackTraces = false) (ht : ∀ x ∈ c.exceptionTable.toList, False) (hlocks : meth.locks = false) (hsize : ls.size = nL) {cls text : String} {ik is ic k : Nat} {v r : Int32} (tx : TX ic cls) (hk : Cond.classLink RX11 ik cls ∈ lw_tbl) (hstr : (is, text) ∈ stL) (hek : exN (k + 1) = cls)
    (d0 : decode cc pc = .ok (.new ik, 3)) (d3 : decode cc (pc + 3) = .ok (.dup, 1)) (d4 : decode cc (pc + 4) = .ok (.ldc is, 2)) (d6 : decode cc (pc + 6) = .ok (.invokespecial ic, 3)) (d9 : decode cc (pc + 9) = .ok (.athrow, 1)) (hRf : 6 ≤ R.frames) (hRl : (rest.map fun v => v.category).sum + 82 ≤ R.locals) (hRc : 1 ≤ R.cells) (hRs : 6 ≤ R.slots) {k' : Nat} (hf : some (S, (k + 1, v)) = some (S', (k' + 1, r))) :
    W p l e R s m args below meth c H locs 0 0 (vx_MQ below QF (XQ D cA ad base S' (k' + 1)) args s 1 6 (aB base)) (F0 m pc ls rest) := by
  obtain ⟨hx, hb, hml, hown, hts, hK, hbase⟩ := id C
  obtain ⟨t1, t2, t3, t4, t5, t6, t7⟩ := tx
  obtain ⟨-, -, -, hdc, hcs, -, hst, hU, hN⟩ := id hbase.2
  obtain ⟨sa, hsa⟩ := hst _ hstr
  obtain ⟨rfl, rfl⟩ : S = S' ∧ k = k' := by
    have h1 := Option.some.inj hf
    refine ⟨congrArg (fun z : St × Ot => z.1) h1, ?_⟩
    have h2 : k + 1 = k' + 1 := congrArg (fun z : St × Ot => z.2.1) h1
    omega
  refine vx_throwS (names := nms) hx hb hlt hown t1 t2 (hts _ (gw_of hk rfl)) (hts _ (gw_of t6 rfl)) hsa (vx_hat (B := badL cls) (fun w hw => hts w (gw_of (t3 w hw) (List.mem_filter.mp hw).2)) t4 (vx_c ((hdc _ (by decide)).use rfl) (vx_c ((hdc _ (by decide)).use rfl) (vx_c ((hdc _ (by decide)).use rfl) (vx_c ((hcs _ t7).use rfl) vx_n))))) (List.forall_mem_cons.mpr ⟨rfl, List.forall_mem_cons.mpr ⟨rfl, t5⟩⟩) hU hN hw.2.2 (hsize.trans hml.symm) d0 d3 d4 d6 d9 (fun x hx => (ht x hx).elim) hRf (by rw [show nms.length = 2 from rfl]; exact hRl) (by omega) (by omega) hlocks (fun t ha hz hkp => ?_) hw.2.2.2.2 (by omega) (by omega)
  obtain ⟨h1, h2⟩ := hw.thrown C ha hz hkp
  exact ⟨S, rfl, ⟨hek.symm, h1⟩, h2⟩
theorem r_throwW (C : CX D cA base RX11 cc nL p s m args c) (hw : WS D cA ad base s S H locs) (hlt : l.stackTraces = false) (ht : ∀ x ∈ c.exceptionTable.toList, False) (hlocks : meth.locks = false) (hsize : ls.size = nL) {cls text : String} {ik is ic k : Nat} {v r : Int32} (tx : TX ic cls) (hk : Cond.classLink RX11 ik cls ∈ lw_tbl) (hstr : (is, text) ∈ stL) (hek : exN (k + 1) = cls)
    (d0 : decode cc pc = .ok (.new ik, 3)) (d3 : decode cc (pc + 3) = .ok (.dup, 1)) (d4 : decode cc (pc + 4) = .ok (.ldc_w is, 3)) (d6 : decode cc (pc + 7) = .ok (.invokespecial ic, 3)) (d9 : decode cc (pc + 10) = .ok (.athrow, 1)) (hRf : 6 ≤ R.frames) (hRl : (rest.map fun v => v.category).sum + 82 ≤ R.locals) (hRc : 1 ≤ R.cells) (hRs : 6 ≤ R.slots) {k' : Nat} (hf : some (S, (k + 1, v)) = some (S', (k' + 1, r))) :
    W p l e R s m args below meth c H locs 0 0 (vx_MQ below QF (XQ D cA ad base S' (k' + 1)) args s 1 6 (aB base)) (F0 m pc ls rest) := by
  obtain ⟨hx, hb, hml, hown, hts, hK, hbase⟩ := id C
  obtain ⟨t1, t2, t3, t4, t5, t6, t7⟩ := tx
  obtain ⟨-, -, -, hdc, hcs, -, hst, hU, hN⟩ := id hbase.2
  obtain ⟨sa, hsa⟩ := hst _ hstr
  obtain ⟨rfl, rfl⟩ : S = S' ∧ k = k' := by
    have h1 := Option.some.inj hf
    refine ⟨congrArg (fun z : St × Ot => z.1) h1, ?_⟩
    have h2 : k + 1 = k' + 1 := congrArg (fun z : St × Ot => z.2.1) h1
    omega
  refine vx_throwSW (names := nms) hx hb hlt hown t1 t2 (hts _ (gw_of hk rfl)) (hts _ (gw_of t6 rfl)) hsa (vx_hat (B := badL cls) (fun w hw => hts w (gw_of (t3 w hw) (List.mem_filter.mp hw).2)) t4 (vx_c ((hdc _ (by decide)).use rfl) (vx_c ((hdc _ (by decide)).use rfl) (vx_c ((hdc _ (by decide)).use rfl) (vx_c ((hcs _ t7).use rfl) vx_n))))) (List.forall_mem_cons.mpr ⟨rfl, List.forall_mem_cons.mpr ⟨rfl, t5⟩⟩) hU hN hw.2.2 (hsize.trans hml.symm) d0 d3 d4 d6 d9 (fun x hx => (ht x hx).elim) hRf (by rw [show nms.length = 2 from rfl]; exact hRl) (by omega) (by omega) hlocks (fun t ha hz hkp => ?_) hw.2.2.2.2 (by omega) (by omega)
  obtain ⟨h1, h2⟩ := hw.thrown C ha hz hkp
  exact ⟨S, rfl, ⟨hek.symm, h1⟩, h2⟩
end RTH
