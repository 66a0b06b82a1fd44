theorem gw_oi : Cond.instanceMethod Lib.objectInit ∈ lw_tbl := gw1_31
theorem gw_oc : Cond.code Lib.objectInit ⟨#[0xb1]⟩ 1 none ∈ lw_tbl := gw1_32
/-! the world while it is made: cells side by side from the place base on -/
def wq (base : Nat) (es : List va_E) : va_W := es.mapIdx (fun k e => (base + k, e))
theorem wq_at {base k : Nat} {es : List va_E} {e : va_E} (h : es[k]? = some e) : (wq base es)[k]? = some (base + k, e) := by simp [wq, h]
theorem wq_len (base : Nat) (es : List va_E) : (wq base es).length = es.length := by simp [wq]
theorem wq_set {base k : Nat} {es : List va_E} {e : va_E} : (wq base es).set k (base + k, e) = wq base (es.set k e) := by
  apply List.ext_getElem?
  intro j
  by_cases hk : k < es.length
  · by_cases hj : j = k
    · subst hj
      rw [List.getElem?_set_self (by rw [wq_len]; exact hk), wq_at (List.getElem?_set_self hk)]
    · rw [List.getElem?_set_ne (Ne.symm hj)]
      cases he : es[j]? with
      | none => simp [wq, he, List.getElem?_set_ne (Ne.symm hj)]
      | some x => rw [wq_at he, wq_at (by rw [List.getElem?_set_ne (Ne.symm hj)]; exact he)]
  · rw [List.set_eq_of_length_le (by rw [wq_len]; omega), List.set_eq_of_length_le (by omega)]
theorem wq_push (base : Nat) (es : List va_E) (e : va_E) : wq base es ++ [(base + es.length, e)] = wq base (es ++ [e]) := by simp [wq, List.mapIdx_append]
theorem wq_D (base : Nat) (es : List va_E) : va_D (aB base) (wq base es) := by
  have key : ∀ (k : Nat) (q : Nat × va_E), (wq base es)[k]? = some q → q.1 = base + k := by
    intro k q h
    simp only [wq, List.getElem?_mapIdx] at h
    cases he : es[k]? with
    | none => rw [he] at h; cases h
    | some x => rw [he] at h; cases h; rfl
  exact ⟨fun i j p q h1 h2 h3 => by rw [key i p h1, key j q h2] at h3; omega, fun k q h => by show base ≤ q.1; rw [key k q h]; omega⟩
def WP (D : va_G) (base : Nat) (s : State) (es : List va_E) (H : Heap) (locs : List Loc) : Prop := va_P D vwCl (wq base es) H ∧ H.size = base + es.length ∧ va_S (aB base) s.heap H locs
def wp (D : va_G) (cA : FieldType → ClassId) (base : Nat) (es : List va_E) (U : State) : Prop := U.heap.size = base + es.length ∧ va_P D vwCl (wq base es) U.heap ∧ va_K D vwCl (tysl cA) U ∧ EX base U U.heap
theorem wp_blind {D : va_G} {cA : FieldType → ClassId} {base : Nat} {es : List va_E} {vs : List Value} : FrameBlind (va_Pc vs (wp D cA base es)) := by
  intro a U g mk h
  obtain ⟨h0, h1, h2, h3, h4⟩ := h
  exact ⟨h0, h1, h2, va_K.moved (u := U) (U := U.calling g mk a) (Vm.Alike.refl U.vm) h3, h4.same rfl⟩
abbrev QP (D : va_G) (cA : FieldType → ClassId) (base : Nat) (es : List va_E) := va_Qv (fun _ : Unit => True) (fun _ t => wp D cA base es t) (aB base)
section RPS
variable {p : Program} {l : Launch} {e : Env} {R : Room} {s : State} {m : MethodId} {args : Array Value} {below : List Frame} {meth : Method} {c : Code} {H : Heap} {locs : List Loc} {cells slots : Nat} {Q : State → Prop}
variable {cc : ByteArray} {pc nL : Nat} {ls : Array Slot} {rest st0 : List Value} {D : va_G} {cA : FieldType → ClassId} {base : Nat} {es tl : List va_E} {n i : Nat} {own : String}
theorem tl_at (hn : es.length = n) {x : va_E} (h : tl[i]? = some x) : (es ++ tl)[n + i]? = some x := by
  subst hn
  rw [List.getElem?_append_right (Nat.le_add_right _ _), Nat.add_sub_cancel_left]
  exact h
theorem tl_set (hn : es.length = n) {x : va_E} : (es ++ tl).set (n + i) x = es ++ tl.set i x := by
  subst hn
  rw [List.set_append_right _ _ (Nat.le_add_right _ _), Nat.add_sub_cancel_left]
theorem p_newa (C : CX D cA base own cc nL p s m args c) (hw : WP D base s (es ++ tl) H locs) (hn : es.length = n) (hi : tl.length = i) {atype : ArrayType} {ty : FieldType} (hty : newarray.typeOf atype = ty) (harr : Cond.arrayClass (newarray.typeOf atype) ∈ lw_tbl) (hin : (cA ty, ty) ∈ tysl cA) (hfc : ∀ (U : State), va_RA U (cA ty) ty → U.vm.findClass ("[" ++ ty.toString) = some (cA ty)) {k : Int32} {N : Nat} {a0 : vp_A} (ha : ∀ z : ClassId, vp_cell z a0 = arrV z N (fun _ => defaultValue ty)) (hk : ¬ k < 0) (hN : k.toNatClampNeg = N) (hbytes : N * componentBytes ty ≤ 536870912) (hcells : cells + 1 ≤ R.cells) (hslots : slots + N ≤ R.slots) (hdg : decode cc pc = .ok (.newarray atype, 2))
    (kk : ∀ (H : Heap) (locs : List Loc), WP D base s (es ++ (tl ++ [.inl (cA ty, a0)])) H locs → W p l e R s m args below meth c H locs (cells + 1) (slots + N) Q (F0 m (pc + 2) ls (.ref (base + (n + i)) :: rest))) : W p l e R s m args below meth c H locs cells slots Q (F0 m pc ls (.int k :: rest)) := by
  obtain ⟨hx, hb, hml, hown, hts, hK, hbase⟩ := C
  obtain ⟨hP, hz, hS⟩ := hw
  subst hty
  have hlen : (es ++ tl).length = n + i := by simp [hn, hi]
  rw [hlen] at hz
  refine va_newaK hx hb (hts _ (gw_of harr rfl)) rfl hdg rfl hk hN hbytes hcells hslots hz fun H1 z e1 z1 o1 hAr hNm => ?_
  obtain ⟨j, hj⟩ := List.getElem?_of_mem hin
  have hz2 : cA (newarray.typeOf atype) = z := Option.some.inj ((hfc s (hK.2 j _ hj).2).symm.trans hNm)
  subst hz2
  refine kk H1 locs ⟨?_, ?_, Nat.le_trans hS.1 (by omega), fun x h1 h2 => (o1 x (by have := hS.1; omega)).trans (hS.2.1 x h1 h2), hS.2.2⟩
  · rw [← List.append_assoc, ← wq_push, hlen]
    refine (hP.kept (fun k x hx => o1 x.1 (by have := (hP k x hx).lt; omega))).app (fun k x hx => ?_)
    have hz9 : k < 1 := (List.getElem?_eq_some_iff.mp hx).1
    rw [show k = 0 by omega] at hx
    cases hx
    show H1[base + (n + i)]? = some (vp_cell _ _)
    rw [ha]
    exact e1
  · rw [z1]
    simp [hn, hi]
    omega
theorem p_new (C : CX D cA base own cc nL p s m args c) (hw : WP D base s (es ++ tl) H locs) (hn : es.length = n) (hi : tl.length = i) {Rn : String} {T : u_T} {N ci index : Nat} {ty0 : Nat → FieldType} (hc : vwCl[ci]? = some (Rn, T, N)) (hin : ∀ w ∈ u_ws Rn T N, w ∈ GW) (hty : ∀ k, k < N → parseFieldDescriptor (T k).2.2.1 = some (ty0 k)) (hcl : Cond.classLink own index Rn ∈ lw_tbl) (hinst : Cond.instantiable Rn N ∈ lw_tbl) (hini : Cond.initialized Rn ∈ lw_tbl) {fs : List Value} (hfs : ∀ j, j < N → defaultValue (ty0 j) = vp_V fs j) (hcells : cells + 1 ≤ R.cells) (hslots : slots + N ≤ R.slots) (hdg : decode cc pc = .ok (.new index, 3))
    (kk : ∀ (H : Heap) (locs : List Loc), WP D base s (es ++ (tl ++ [.inr (ci, fs)])) H locs → W p l e R s m args below meth c H locs (cells + 1) (slots + N) Q (F0 m (pc + 3) ls (.ref (base + (n + i)) :: rest))) : W p l e R s m args below meth c H locs cells slots Q (F0 m pc ls rest) := by
  obtain ⟨hx, hb, hml, hown, hts, hK, hbase⟩ := C
  obtain ⟨hP, hz, hS⟩ := hw
  have hlen : (es ++ tl).length = n + i := by simp [hn, hi]
  rw [hlen] at hz
  have hKn := hK.1 ci _ hc
  refine W.newcK hx hb hown (hts _ (gw_of hcl rfl)) (hts _ (gw_of hinst rfl)) (hts _ (gw_of hini rfl)) rfl hdg hcells hslots hKn.2.1 hz fun H1 kC hkC e1 z1 o1 => ?_
  refine kk H1 locs ⟨?_, ?_, Nat.le_trans hS.1 (by omega), fun x h1 h2 => (o1 x (by have := hS.1; omega)).trans (hS.2.1 x h1 h2), hS.2.2⟩
  · rw [← List.append_assoc, ← wq_push, hlen]
    refine (hP.kept (fun k x hx => o1 x.1 (by have := (hP k x hx).lt; omega))).app (fun k x hx => ?_)
    have hz9 : k < 1 := (List.getElem?_eq_some_iff.mp hx).1
    rw [show k = 0 by omega] at hx
    cases hx
    exact ⟨_, hc, (u_born ty0 hts hin hKn hkC e1 hty).to hfs⟩
  · rw [z1]
    simp [hn, hi]
    omega
theorem p_putF (C : CX D cA base own cc nL p s m args c) (hw : WP D base s (es ++ tl) H locs) (hn : es.length = n) (i : Nat) {ci k N index : Nat} {fs : List Value} {Rn : String} {T : u_T} {ty0 : Nat → FieldType} (hi : tl[i]? = some (.inr (ci, fs))) (hc : vwCl[ci]? = some (Rn, T, N)) (hin : ∀ w ∈ u_ws Rn T N, w ∈ GW) (hty : ∀ k, k < N → parseFieldDescriptor (T k).2.2.1 = some (ty0 k)) (hnm : ∀ a, a < N → ∀ b, b < N → a ≠ b → (T a).2.1 ≠ (T b).2.1) (hk : k < N) (hlink : Cond.fieldLink own index own (T k).2.1 (T k).2.2.1 ∈ lw_tbl) (hfin : (T k).2.2.2 = true) (hin2 : meth.name = "<init>") (hdecl : (T k).1 = own) {v : Value} (hnr : narrow (ty0 k) v = v) (hfit : fits (ty0 k) v = true) (hl : k < fs.length) (hdg : decode cc pc = .ok (.putfield index, 3))
    (kk : ∀ (H : Heap) (locs : List Loc), WP D base s (es ++ tl.set i (.inr (ci, fs.set k v))) H locs → W p l e R s m args below meth c H locs cells slots Q (F0 m (pc + 3) ls rest)) : W p l e R s m args below meth c H locs cells slots Q (F0 m pc ls (v :: .ref (base + (n + i)) :: rest)) := by
  obtain ⟨hx, hb, hml, hown, hts, hK, hbase⟩ := C
  obtain ⟨hP, hz, hS⟩ := hw
  have he := wq_at (base := base) (tl_at hn hi)
  have hD := wq_D base (es ++ tl)
  have hap := va_apart (own := own) hts hin ty0 hty hnm hK hc
  obtain ⟨r, h1, cell, q1, q2, q3, q4⟩ := hP (n + i) _ he
  cases Option.some.inj (h1.symm.trans hc)
  obtain ⟨hSl, hfc, kC, hkC, hkind⟩ := hK.1 ci _ hc
  obtain ⟨cf, kf, fi, f, hfo, hsl⟩ := hSl k hk
  have hlay := hts _ (hin _ (u_in_lay hk))
  have hst := (u_facts hfc hkC (u_lays hts hin hk) hfo).1
  have hfo2 : s.fieldFound? own (T k).2.1 (T k).2.2.1 = some (cf, kf, fi, f) := by rw [← hdecl]; exact hfo
  rw [u_lay, if_pos hfin] at hlay
  have hcf : m.cls = cf := by
    obtain ⟨_, _, c9, _, _, _, -, -, hf9, -, -, -, ho9, -⟩ := Cond.laysFinal_spec hlay
    have e9 : c9 = cf := by have := hfo.symm.trans hf9; simp at this; exact this.1.symm
    rw [hdecl] at ho9
    rw [← e9]; exact Option.some.inj (hown.symm.trans ho9)
  have hft := u_fits hfc hkC hkind (Or.inr hlay) hfo (hty k hk) hnr hfit
  refine W.putFinK hx hb hown (hts _ (gw_of hlink rfl)) hfo2 hst hcf hin2 (by rw [q2]; exact hft) q1 q3 (by rw [hsl]; exact k2_hasslot (q4 k hk)) rfl rfl hdg fun H1 e1 e2 e3 => ?_
  rw [hsl] at e1
  have hat : va_at D vwCl (base + (n + i), .inr (ci, fs.set k v)) H1 := ⟨_, hc, t_OB.to (V := updV (vp_V fs) k v) ⟨_, e1, q2, q3, t_set q4 hap hk v⟩ (fun j _ => vp_updV_set hl v j)⟩
  have hP1 := hP.set hD he hat e3
  rw [wq_set, tl_set hn] at hP1
  refine kk H1 _ ⟨hP1, ?_, hS.put e2 e3 (hD.2 _ _ he)⟩
  rw [e2, hz]
  simp
theorem p_put (C : CX D cA base own cc nL p s m args c) (hw : WP D base s (es ++ tl) H locs) (hn : es.length = n) (i : Nat) {ci k N index : Nat} {fs : List Value} {Rn : String} {T : u_T} {ty0 : Nat → FieldType} (hi : tl[i]? = some (.inr (ci, fs))) (hc : vwCl[ci]? = some (Rn, T, N)) (hin : ∀ w ∈ u_ws Rn T N, w ∈ GW) (hty : ∀ k, k < N → parseFieldDescriptor (T k).2.2.1 = some (ty0 k)) (hnm : ∀ a, a < N → ∀ b, b < N → a ≠ b → (T a).2.1 ≠ (T b).2.1) (hk : k < N) (hlink : Cond.fieldLink own index own (T k).2.1 (T k).2.2.1 ∈ lw_tbl) (hfin : (T k).2.2.2 = false) (hdecl : (T k).1 = own) {v : Value} (hnr : narrow (ty0 k) v = v) (hfit : fits (ty0 k) v = true) (hl : k < fs.length) (hdg : decode cc pc = .ok (.putfield index, 3))
    (kk : ∀ (H : Heap) (locs : List Loc), WP D base s (es ++ tl.set i (.inr (ci, fs.set k v))) H locs → W p l e R s m args below meth c H locs cells slots Q (F0 m (pc + 3) ls rest)) : W p l e R s m args below meth c H locs cells slots Q (F0 m pc ls (v :: .ref (base + (n + i)) :: rest)) := by
  obtain ⟨hx, hb, hml, hown, hts, hK, hbase⟩ := C
  obtain ⟨hP, hz, hS⟩ := hw
  have he := wq_at (base := base) (tl_at hn hi)
  have hD := wq_D base (es ++ tl)
  have hap := va_apart (own := own) hts hin ty0 hty hnm hK hc
  obtain ⟨r, h1, cell, q1, q2, q3, q4⟩ := hP (n + i) _ he
  cases Option.some.inj (h1.symm.trans hc)
  obtain ⟨hSl, hfc, kC, hkC, hkind⟩ := hK.1 ci _ hc
  obtain ⟨cf, kf, fi, f, hfo, hsl⟩ := hSl k hk
  have hlay := hts _ (hin _ (u_in_lay hk))
  have hst := (u_facts hfc hkC (u_lays hts hin hk) hfo).1
  have hfo2 : s.fieldFound? own (T k).2.1 (T k).2.2.1 = some (cf, kf, fi, f) := by rw [← hdecl]; exact hfo
  rw [u_lay, if_neg (by rw [hfin]; decide)] at hlay
  have hft := u_store hfc hkC hkind hlay hfo (hty k hk) hnr hfit
  refine W.putK hx hb (f := f) ⟨hown, hts _ (gw_of hlink rfl), ⟨_, _, _, hfo2⟩, hst⟩ (by rw [q2]; exact hft) q1 q3 (by rw [hsl]; exact k2_hasslot (q4 k hk)) rfl rfl hdg fun H1 e1 e2 e3 => ?_
  rw [hsl] at e1
  have hat : va_at D vwCl (base + (n + i), .inr (ci, fs.set k v)) H1 := ⟨_, hc, t_OB.to (V := updV (vp_V fs) k v) ⟨_, e1, q2, q3, t_set q4 hap hk v⟩ (fun j _ => vp_updV_set hl v j)⟩
  have hP1 := hP.set hD he hat e3
  rw [wq_set, tl_set hn] at hP1
  refine kk H1 _ ⟨hP1, ?_, hS.put e2 e3 (hD.2 _ _ he)⟩
  rw [e2, hz]
  simp
theorem p_get (C : CX D cA base own cc nL p s m args c) (hw : WP D base s (es ++ tl) H locs) (hn : es.length = n) (i : Nat) {ci k N index : Nat} {fs : List Value} {Rn : String} {T : u_T} (hi : tl[i]? = some (.inr (ci, fs))) (hc : vwCl[ci]? = some (Rn, T, N)) (hin : ∀ w ∈ u_ws Rn T N, w ∈ GW) (hk : k < N) (hlink : Cond.fieldLink own index own (T k).2.1 (T k).2.2.1 ∈ lw_tbl) (hdecl : (T k).1 = own) {v : Value} (hv : fs[k]? = some v) (hdg : decode cc pc = .ok (.getfield index, 3))
    (kk : W p l e R s m args below meth c H locs cells slots Q (F0 m (pc + 3) ls (v :: rest))) : W p l e R s m args below meth c H locs cells slots Q (F0 m pc ls (.ref (base + (n + i)) :: rest)) := by
  obtain ⟨hx, hb, hml, hown, hts, hK, hbase⟩ := C
  exact va_get (D := D) (ci := ci) (v := v) (C := Rn) (T := T) (N := N) hx hb hts hin hown hK hw.1 (n + i) (wq_at (tl_at hn hi)) hc k hk (hts _ (gw_of hlink rfl)) (fun _ h9 => by rw [← hdecl]; exact h9) hv hdg kk
theorem p_obj (C : CX D cA base own cc nL p s m args c) {a idx : Nat} (hsize : ls.size = nL) (hlink : Cond.methodLink own idx Lib.objectInit ∈ lw_tbl) (hdg : decode cc pc = .ok (.invokespecial idx, 3)) (hRf : 1 ≤ R.frames) (hRl : 2 * 0 + (rest.map fun v => v.category).sum + 12 ≤ R.locals)
    (kk : W p l e R s m args below meth c H locs cells slots Q (F0 m (pc + 3) ls rest)) : W p l e R s m args below meth c H locs cells slots Q (F0 m pc ls (.ref a :: rest)) := by
  obtain ⟨hx, hb, hml, hown, hts, hK, hbase⟩ := C
  exact W.objInit hx hb hown (hts _ (gw_of hlink rfl)) (hts _ (gw_of gw_oi rfl)) (hts _ (gw_of gw_oc rfl)) rfl (by rw [hml]; exact hsize) rfl hdg hRf hRl kk
theorem WP.end (hw : WP D base s es H locs) (C : CX D cA base own cc nL p s m args c) {t : State} (ht : t.heap = H) (hW : s.WarmedH t.vm) : wp D cA base es t ∧ va_F (aB base) s t := by
  obtain ⟨hx0, hb, hml, hown, hts, hK, hbase⟩ := C
  obtain ⟨hP, hz, hS⟩ := hw
  exact ⟨⟨by rw [ht]; exact hz, by rw [ht]; exact hP, va_K.moved hW.alike hK, by rw [ht]; exact hbase.2.pre hW hS⟩, hS.F ht⟩
theorem p_vret (C : CX D cA base own cc nL p s m args c) (hw : WP D base s es H locs) (hr : meth.sig.returnType = none) (hlocks : meth.locks = false) (hdg : decode cc pc = .ok (.return_, 1)) : W p l e R s m args below meth c H locs cells slots (MQ below (QP D cA base es) args s cells slots (aB base)) (F0 m pc ls []) := by
  refine W.vret C.1 C.2.1 hr (fun t ht hW => ?_) hw.2.2.2.2 hdg hlocks
  obtain ⟨h1, h2⟩ := hw.end C ht hW
  exact ⟨⟨(), rfl, trivial, h1⟩, h2⟩
theorem p_call {y : MethodName} {bytes : ByteArray} {maxL k index mc ms : Nat} {rm : Room} {As : List Value} {es' : List va_E} {a : Nat} (C : CX D cA base own cc nL p s m args c) (hw : WP D base s es H locs) (hM : Met l y (GC y bytes maxL none) rm (va_Pc (.ref a :: As) (wp D cA base es)) (QP D cA base es') mc ms (aB base)) (hcode : Cond.code y bytes maxL none ∈ lw_tbl) (hini : Cond.initialized y.cls ∈ lw_tbl) (hlink : Cond.methodLink own index y ∈ lw_tbl) (hinst : Cond.instanceMethod y ∈ lw_tbl) (hy1 : y.name = "<init>") (hd : y.cls ≠ "java/lang/invoke/MethodHandle" ∧ y.cls ≠ "java/lang/invoke/VarHandle" ∧ (parseMethodDescriptor y.desc).map (fun d => d.parameters.length) = some k) (hR : rm.cells = mc ∧ rm.slots = ms ∧ rm.frames + 1 ≤ R.frames ∧ 8 + (maxL + 11) + rm.locals ≤ R.locals)
    (hn : As.length = k) (hsize : ls.size = nL) (hst : st0 = As.reverse ++ .ref a :: rest) (hroom : (rest.map fun v => v.category).sum ≤ 8) (hdg : decode cc pc = .ok (.invokespecial index, 3)) (hcl : cells + mc ≤ R.cells) (hsl : slots + ms ≤ R.slots)
    (kk : ∀ (H : Heap) (locs : List Loc), WP D base s es' H locs → W p l e R s m args below meth c H locs (cells + mc) (slots + ms) Q (F0 m (pc + 3) ls rest)) : W p l e R s m args below meth c H locs cells slots Q (F0 m pc ls st0) := by
  obtain ⟨hx, hb, hml, hown, hts, hK, hbase⟩ := id C
  obtain ⟨r1, r2, r3, r4⟩ := hR
  refine va_callv (va_runI (As := As) (rest := rest) (b := a) ⟨hx, hb, hml, hown, hts⟩ hM (cwI k hts (good_GC hcode) rfl r1 r2 (hts _ (gw_of hini rfl)) (hts _ (gw_of hlink rfl)) (hts _ (gw_of hinst rfl)) hy1 hd ⟨r3, r4⟩) ⟨wp_blind, fun U hU hW => ⟨rfl, ?_⟩⟩ rfl hn hsize hst (lv_room hroom) hdg ⟨hcl, hsl⟩) hw.2.2 (fun _ _ h => h) (fun _ h => h) (fun u t H1 locs1 ht hvm hp hB hz hk hS => ?_)
  · exact ⟨by rw [hU]; exact hw.2.1, by rw [hU]; exact hw.1, va_K.moved hW.alike hK, by rw [hU]; exact hbase.2.pre hW hw.2.2⟩
  · obtain ⟨b1, b2, b3⟩ := hB
    exact kk H1 locs1 ⟨by rw [← ht]; exact b2, by rw [← ht]; exact b1, hS⟩
theorem CX.ofP {y : MethodName} {cc : ByteArray} {nL : Nat} {ret : Option FieldType} {rm : Room} {s₁ : State} (hnc : y.cls = own) (B : BodyLoose p l y (headSpec (GC y cc nL ret) rm) cc nL ret e s m args below meth c s₁) (hml : c.maxLocals = nL) (hd : wp D cA base es s) : CX D cA base own cc nL p s m args c ∧ WP D base s es s.heap [] := by
  obtain ⟨h1, h2, h3, h4⟩ := hd
  have hts := atoms_spec (ws := GC y cc nL ret) B.pre
  subst hnc
  exact ⟨⟨B.exec, B.bytes, hml, findClass_of_methodNamed B.named, fun w hw => hts w (List.mem_cons_of_mem _ hw), h3, by omega, h4⟩, h2, h1, va_S.rf⟩
end RPS
