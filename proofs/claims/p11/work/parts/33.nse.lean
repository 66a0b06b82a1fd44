theorem nsG : ∀ w ∈ (nsAll.filter vx_no).filter goodWord, w ∈ lw_tbl := by decide +kernel
theorem nsB : ∀ w ∈ (nsAll.filter vx_no).filter (fun w => !goodWord w), w ∈ badL nsX := by decide +kernel
theorem nsO : ∀ w ∈ nsAll.filter vx_no, vx_ot w = true := by decide +kernel
section RTN
variable {p : Program} {l : Launch} {e : Env} {R : Room} {s : State} {m : MethodId} {args : Array Value} {below : List Frame} {meth : Method} {c : Code} {H : Heap} {locs : List Loc}
variable {cc : ByteArray} {pc nL : Nat} {ls : Array Slot} {rest : List Value} {D : va_G} {cA : FieldType → ClassId} {ad : Nat → Nat} {base : Nat} {S S' : St}
theorem r_throwN (C : CX D cA base RX11 cc nL p s m args c) (hw : WS D cA ad base s S H locs) (hlt : l.stackTraces = false) (ht : ∀ x ∈ c.exceptionTable.toList, False) (hlocks : meth.locks = false) (hsize : ls.size = nL) {text : String} {ik is : Nat} {v r : Int32} (hk : Cond.classLink RX11 ik nsX ∈ lw_tbl) (hstr : (is, text) ∈ stL)
    (d0 : decode cc pc = .ok (.new ik, 3)) (d3 : decode cc (pc + 3) = .ok (.dup, 1)) (d4 : decode cc (pc + 4) = .ok (.ldc is, 2)) (d6 : decode cc (pc + 6) = .ok (.invokespecial 145, 3)) (d9 : decode cc (pc + 9) = .ok (.athrow, 1)) (hRf : 6 ≤ R.frames) (hRl : (rest.map fun v => v.category).sum + 82 ≤ R.locals) (hRc : 1 ≤ R.cells) (hRs : 6 ≤ R.slots) {k' : Nat} (hf : some (S, (3 + 1, v)) = some (S', (k' + 1, r))) :
    W p l e R s m args below meth c H locs 0 0 (vx_MQ below QF (XQ D cA ad base S' (k' + 1)) args s 1 6 (aB base)) (F0 m pc ls rest) := by
  obtain ⟨hx, hb, hml, hown, hts, hK, hbase⟩ := id C
  obtain ⟨-, -, -, hdc, hcs, -, hst, hU, hN⟩ := id hbase.2
  obtain ⟨sa, hsa⟩ := hst _ hstr
  obtain ⟨rfl, rfl⟩ : S = S' ∧ 3 = k' := by
    have h1 := Option.some.inj hf
    refine ⟨congrArg (fun z : St × Ot => z.1) h1, ?_⟩
    have h2 : 3 + 1 = k' + 1 := congrArg (fun z : St × Ot => z.2.1) h1
    omega
  intro T hT X
  have htr : e.platform.stackTraces = false := (show e.platform.stackTraces = l.stackTraces by rw [X.admits.platform]).trans hlt
  have Y := vx_rebase X (R' := { frames := R.frames, locals := R.locals, cells := 1, slots := 6 }) (Nat.le_refl _) (Nat.le_refl _) (by show 0 + 1 ≤ R.cells; omega) (by show 0 + 6 ≤ R.slots; omega)
  obtain ⟨u, hu⟩ : ∃ z, z = (T.setVm s.vm).setFrames (.invoking m args :: below) := ⟨_, rfl⟩
  rw [← hu] at Y
  have hvm : u.vm = s.vm := by rw [hu]; rfl
  have hhp : u.heap = H := by rw [hu]; exact hT
  have hW0 : s.WarmedH u.vm := by rw [hvm]; exact State.WarmedH.refl s
  have hall : ∀ w ∈ nsAll.filter vx_no, w.before args s = true := vx_hat (B := badL nsX) (fun w hw => hts w (gw_of (nsG w hw) (List.mem_filter.mp hw).2)) nsB (vx_c ((hdc _ (by decide)).use rfl) (vx_c ((hdc _ (by decide)).use rfl) (vx_c ((hdc _ (by decide)).use rfl) (vx_c ((hcs _ (by decide)).use rfl) vx_n))))
  have hU' : vx_Zq Jvm.Bundle.tN "UNASSIGNED_STACK" Jvm.Bundle.steD (aB base) u u.heap := by rw [hhp]; exact vx_Zq.moved hW0.alike (hU.kept hw.2.2.2.1)
  have hN' : vx_Zq Jvm.Bundle.tN "SUPPRESSED_SENTINEL" Jvm.Bundle.listD (aB base) u u.heap := by rw [hhp]; exact vx_Zq.moved hW0.alike (hN.kept hw.2.2.2.1)
  have hat : ∀ w ∈ nsAll, w.before args u = true := vx_own (fun w hw => vx_ot_at hW0 hvm.symm (nsO w hw) (hall w hw)) (vx_isRefq hU'.1) (vx_isRefq hN'.1) hU'.2.word hN'.2.word
  have hown' : u.vm.findClass RX11 = some m.cls := by rw [hvm]; exact hown
  have hk' : (Cond.classLink RX11 ik nsX).before args u = true := vx_ot_at hW0 hvm.symm rfl (hts _ (gw_of hk rfl))
  have hi' : (Cond.initialized nsX).before args u = true := vx_ot_at hW0 hvm.symm rfl (hts _ (gw_of gw1_20 rfl))
  have hins : (Cond.instantiable nsX 6).before args u = true := hat _ (by simp [nsAll, nsOf])
  obtain ⟨vm₁, cX, kX, hfX, hkX, -, -, X₁, st1⟩ := Y.newCold hx (own := RX11) (C := nsX) (index := ik) (n := 6) hown' hk' hins hi' (g := F0 m pc ls rest) rfl (by rw [hb]; exact d0) (Nat.le_refl _) (Nat.le_refl _)
  generalize hT1 : (T.setVm vm₁).pushCell { cls := cX, slots := kX.instanceTypes.map defaultValue, vm := .none } = T1 at X₁ st1
  have hcat : (Value.ref T.heap.size).category = 1 := rfl
  have hcellA : T1.heap[T.heap.size]? = some (freshCell cX kX) := by rw [← hT1]; exact State.heap_pushCell_size _ _
  have d3' : decode c.code (pc + 3) = .ok (.dup, 1) := by rw [hb]; exact d3
  have d4' : decode c.code (pc + 4) = .ok (.ldc is, 2) := by rw [hb]; exact d4
  have hstr' : vk_R RX11 is text sa u := vk_R.warm hW0 hsa
  obtain ⟨U, hsteps, hrun, hend, hWU, hsame, ce, hce, hcv, hcc⟩ := q_ctor X₁ hx htr hown' hat (fun x hx => nomatch hx) hfX hkX hcellA (by rw [hhp, hT]; exact Nat.le_refl _) (msg := .ref sa) rfl
    (g := { method := m, pc := pc + 6, locals := ls, stack := .ref sa :: .ref T.heap.size :: .ref T.heap.size :: rest, locked := none }) rfl (hsize.trans hml.symm) rfl rfl (rest := rest) rfl
    (by rw [hb]; exact d6) (by rw [hb]; exact d9) (fun x hx => (ht x hx).elim) hRf (by simp only [List.map_cons, List.sum_cons, hcat]; show 2 * 0 + _ + 81 ≤ R.locals; omega) hlocks
  obtain ⟨f1, f2⟩ := vx_frame hsame
  rw [hhp] at f1 f2
  have hWs : s.WarmedH U.vm := State.WarmedH.trans hW0 hWU
  have hsm : s.sameButNew ({ U with vm := s.vm } : State) locs 1 6 := by
    subst hu
    obtain ⟨e1, e2⟩ := hsame
    rw [State.setFrames_setFrames] at e1
    have h2 : (T.setVm s.vm).sameButNew ({ U with vm := s.vm } : State) [] (0 + 1) (0 + 6) := ⟨e1, e2⟩
    have h3 := X.same.trans h2
    rw [List.append_nil] at h3
    exact h3
  obtain ⟨g1, g2⟩ := hw.thrown C hWs.alike f1 (fun q hq => f2 q hq (fun z hz => nomatch hz))
  refine ⟨U, ?_, .threw T.heap.size, hrun, hend, Or.inr ⟨T.heap.size, rfl, nsX, ce, locs, ⟨S, rfl, ⟨rfl, g1⟩, g2⟩, hce, hcv, by rw [hcc, ← hvm]; exact hfX, hWs, hsm, hw.2.2.2.2⟩⟩
  refine st1 _ ?_
  show Steps p.tables e below (T1.setTop { method := m, pc := pc + 3, locals := ls, stack := .ref T.heap.size :: rest, locked := none }) _
  jvm_step X₁.here [X₁.here.top, hx, d3', Value.category]
  exact X₁.ldcString hx (own := RX11) (text := text) (index := is) (a := sa) hown' hstr'.1 hstr'.2
    (g := { method := m, pc := pc + 4, locals := ls, stack := .ref T.heap.size :: .ref T.heap.size :: rest, locked := none }) rfl d4' _ hsteps
theorem r_throwNW (C : CX D cA base RX11 cc nL p s m args c) (hw : WS D cA ad base s S H locs) (hlt : l.stackTraces = false) (ht : ∀ x ∈ c.exceptionTable.toList, False) (hlocks : meth.locks = false) (hsize : ls.size = nL) {text : String} {ik is : Nat} {v r : Int32} (hk : Cond.classLink RX11 ik nsX ∈ lw_tbl) (hstr : (is, text) ∈ stL)
    (d0 : decode cc pc = .ok (.new ik, 3)) (d3 : decode cc (pc + 3) = .ok (.dup, 1)) (d4 : decode cc (pc + 4) = .ok (.ldc_w is, 3)) (d6 : decode cc (pc + 7) = .ok (.invokespecial 145, 3)) (d9 : decode cc (pc + 10) = .ok (.athrow, 1)) (hRf : 6 ≤ R.frames) (hRl : (rest.map fun v => v.category).sum + 82 ≤ R.locals) (hRc : 1 ≤ R.cells) (hRs : 6 ≤ R.slots) {k' : Nat} (hf : some (S, (3 + 1, v)) = some (S', (k' + 1, r))) :
    W p l e R s m args below meth c H locs 0 0 (vx_MQ below QF (XQ D cA ad base S' (k' + 1)) args s 1 6 (aB base)) (F0 m pc ls rest) := by
  obtain ⟨hx, hb, hml, hown, hts, hK, hbase⟩ := id C
  obtain ⟨-, -, -, hdc, hcs, -, hst, hU, hN⟩ := id hbase.2
  obtain ⟨sa, hsa⟩ := hst _ hstr
  obtain ⟨rfl, rfl⟩ : S = S' ∧ 3 = k' := by
    have h1 := Option.some.inj hf
    refine ⟨congrArg (fun z : St × Ot => z.1) h1, ?_⟩
    have h2 : 3 + 1 = k' + 1 := congrArg (fun z : St × Ot => z.2.1) h1
    omega
  intro T hT X
  have htr : e.platform.stackTraces = false := (show e.platform.stackTraces = l.stackTraces by rw [X.admits.platform]).trans hlt
  have Y := vx_rebase X (R' := { frames := R.frames, locals := R.locals, cells := 1, slots := 6 }) (Nat.le_refl _) (Nat.le_refl _) (by show 0 + 1 ≤ R.cells; omega) (by show 0 + 6 ≤ R.slots; omega)
  obtain ⟨u, hu⟩ : ∃ z, z = (T.setVm s.vm).setFrames (.invoking m args :: below) := ⟨_, rfl⟩
  rw [← hu] at Y
  have hvm : u.vm = s.vm := by rw [hu]; rfl
  have hhp : u.heap = H := by rw [hu]; exact hT
  have hW0 : s.WarmedH u.vm := by rw [hvm]; exact State.WarmedH.refl s
  have hall : ∀ w ∈ nsAll.filter vx_no, w.before args s = true := vx_hat (B := badL nsX) (fun w hw => hts w (gw_of (nsG w hw) (List.mem_filter.mp hw).2)) nsB (vx_c ((hdc _ (by decide)).use rfl) (vx_c ((hdc _ (by decide)).use rfl) (vx_c ((hdc _ (by decide)).use rfl) (vx_c ((hcs _ (by decide)).use rfl) vx_n))))
  have hU' : vx_Zq Jvm.Bundle.tN "UNASSIGNED_STACK" Jvm.Bundle.steD (aB base) u u.heap := by rw [hhp]; exact vx_Zq.moved hW0.alike (hU.kept hw.2.2.2.1)
  have hN' : vx_Zq Jvm.Bundle.tN "SUPPRESSED_SENTINEL" Jvm.Bundle.listD (aB base) u u.heap := by rw [hhp]; exact vx_Zq.moved hW0.alike (hN.kept hw.2.2.2.1)
  have hat : ∀ w ∈ nsAll, w.before args u = true := vx_own (fun w hw => vx_ot_at hW0 hvm.symm (nsO w hw) (hall w hw)) (vx_isRefq hU'.1) (vx_isRefq hN'.1) hU'.2.word hN'.2.word
  have hown' : u.vm.findClass RX11 = some m.cls := by rw [hvm]; exact hown
  have hk' : (Cond.classLink RX11 ik nsX).before args u = true := vx_ot_at hW0 hvm.symm rfl (hts _ (gw_of hk rfl))
  have hi' : (Cond.initialized nsX).before args u = true := vx_ot_at hW0 hvm.symm rfl (hts _ (gw_of gw1_20 rfl))
  have hins : (Cond.instantiable nsX 6).before args u = true := hat _ (by simp [nsAll, nsOf])
  obtain ⟨vm₁, cX, kX, hfX, hkX, -, -, X₁, st1⟩ := Y.newCold hx (own := RX11) (C := nsX) (index := ik) (n := 6) hown' hk' hins hi' (g := F0 m pc ls rest) rfl (by rw [hb]; exact d0) (Nat.le_refl _) (Nat.le_refl _)
  generalize hT1 : (T.setVm vm₁).pushCell { cls := cX, slots := kX.instanceTypes.map defaultValue, vm := .none } = T1 at X₁ st1
  have hcat : (Value.ref T.heap.size).category = 1 := rfl
  have hcellA : T1.heap[T.heap.size]? = some (freshCell cX kX) := by rw [← hT1]; exact State.heap_pushCell_size _ _
  have d3' : decode c.code (pc + 3) = .ok (.dup, 1) := by rw [hb]; exact d3
  have d4' : decode c.code (pc + 4) = .ok (.ldc_w is, 3) := by rw [hb]; exact d4
  have hstr' : vk_R RX11 is text sa u := vk_R.warm hW0 hsa
  obtain ⟨U, hsteps, hrun, hend, hWU, hsame, ce, hce, hcv, hcc⟩ := q_ctor X₁ hx htr hown' hat (fun x hx => nomatch hx) hfX hkX hcellA (by rw [hhp, hT]; exact Nat.le_refl _) (msg := .ref sa) rfl
    (g := { method := m, pc := pc + 7, locals := ls, stack := .ref sa :: .ref T.heap.size :: .ref T.heap.size :: rest, locked := none }) rfl (hsize.trans hml.symm) rfl rfl (rest := rest) rfl
    (by rw [hb]; exact d6) (by rw [hb]; exact d9) (fun x hx => (ht x hx).elim) hRf (by simp only [List.map_cons, List.sum_cons, hcat]; show 2 * 0 + _ + 81 ≤ R.locals; omega) hlocks
  obtain ⟨f1, f2⟩ := vx_frame hsame
  rw [hhp] at f1 f2
  have hWs : s.WarmedH U.vm := State.WarmedH.trans hW0 hWU
  have hsm : s.sameButNew ({ U with vm := s.vm } : State) locs 1 6 := by
    subst hu
    obtain ⟨e1, e2⟩ := hsame
    rw [State.setFrames_setFrames] at e1
    have h2 : (T.setVm s.vm).sameButNew ({ U with vm := s.vm } : State) [] (0 + 1) (0 + 6) := ⟨e1, e2⟩
    have h3 := X.same.trans h2
    rw [List.append_nil] at h3
    exact h3
  obtain ⟨g1, g2⟩ := hw.thrown C hWs.alike f1 (fun q hq => f2 q hq (fun z hz => nomatch hz))
  refine ⟨U, ?_, .threw T.heap.size, hrun, hend, Or.inr ⟨T.heap.size, rfl, nsX, ce, locs, ⟨S, rfl, ⟨rfl, g1⟩, g2⟩, hce, hcv, by rw [hcc, ← hvm]; exact hfX, hWs, hsm, hw.2.2.2.2⟩⟩
  refine st1 _ ?_
  show Steps p.tables e below (T1.setTop { method := m, pc := pc + 3, locals := ls, stack := .ref T.heap.size :: rest, locked := none }) _
  jvm_step X₁.here [X₁.here.top, hx, d3', Value.category]
  exact X₁.ldcStringW hx (own := RX11) (text := text) (index := is) (a := sa) hown' hstr'.1 hstr'.2
    (g := { method := m, pc := pc + 4, locals := ls, stack := .ref T.heap.size :: .ref T.heap.size :: rest, locked := none }) rfl d4' _ hsteps
end RTN
