section RWS
variable {p : Program} {l : Launch} {e : Env} {R : Room} {s : State} {m : MethodId} {args : Array Value} {below : List Frame} {meth : Method} {c : Code} {H : Heap} {locs : List Loc} {cells slots : Nat} {Q : State → Prop}
variable {cc : ByteArray} {pc nL : Nat} {ls : Array Slot} {rest : List Value} {D : va_G} {cA : FieldType → ClassId} {ad : Nat → Nat} {base : Nat} {S : St} {own : String}
theorem r_getI (C : CX D cA base own cc nL p s m args c) (hw : WS D cA ad base s S H locs) {q ci k N index : Nat} {ds : List Nat} {Rn ref : String} {T : u_T} (hq : desc q = .inl (ci, ds)) (hqN : q < NC) (hd : ds[k]? = some 0) (hc : vwCl[ci]? = some (Rn, T, N)) (hin : ∀ w ∈ u_ws Rn T N, w ∈ GW) (hk : k < N) (hr : ref = (T k).1) (hlink : Cond.fieldLink own index ref (T k).2.1 (T k).2.2.1 ∈ lw_tbl) (hdg : decode cc pc = .ok (.getfield index, 3))
    (kk : W p l e R s m args below meth c H locs cells slots Q (F0 m (pc + 3) ls (.int (S.1 q k) :: rest))) : W p l e R s m args below meth c H locs cells slots Q (F0 m pc ls (.ref (ad q) :: rest)) := by
  obtain ⟨hx, hb, hml, hown, hts, hK, hbase⟩ := C
  subst hr
  exact va_get (D := D) (ci := ci) (v := .int (S.1 q k)) (C := Rn) (T := T) (N := N) hx hb hts hin hown hK hw.1 q (by rw [wl_at hqN, cE_obj hq]) hc k hk (hts _ (gw_of hlink rfl)) (fun _ h9 => h9) (fVs_at hd) hdg kk
theorem r_getJ (C : CX D cA base own cc nL p s m args c) (hw : WS D cA ad base s S H locs) {q ci k N index : Nat} {ds : List Nat} {Rn ref : String} {T : u_T} (hq : desc q = .inl (ci, ds)) (hqN : q < NC) (hd : ds[k]? = some 1) (hc : vwCl[ci]? = some (Rn, T, N)) (hin : ∀ w ∈ u_ws Rn T N, w ∈ GW) (hk : k < N) (hr : ref = (T k).1) (hlink : Cond.fieldLink own index ref (T k).2.1 (T k).2.2.1 ∈ lw_tbl) (hdg : decode cc pc = .ok (.getfield index, 3))
    (kk : W p l e R s m args below meth c H locs cells slots Q (F0 m (pc + 3) ls (.long (S.2 q k) :: rest))) : W p l e R s m args below meth c H locs cells slots Q (F0 m pc ls (.ref (ad q) :: rest)) := by
  obtain ⟨hx, hb, hml, hown, hts, hK, hbase⟩ := C
  subst hr
  exact va_get (D := D) (ci := ci) (v := .long (S.2 q k)) (C := Rn) (T := T) (N := N) hx hb hts hin hown hK hw.1 q (by rw [wl_at hqN, cE_obj hq]) hc k hk (hts _ (gw_of hlink rfl)) (fun _ h9 => h9) (fVs_at hd) hdg kk
theorem r_getR (C : CX D cA base own cc nL p s m args c) (hw : WS D cA ad base s S H locs) {q ci k r N index : Nat} {ds : List Nat} {Rn ref : String} {T : u_T} (hq : desc q = .inl (ci, ds)) (hqN : q < NC) (hd : ds[k]? = some (r + 2)) (hc : vwCl[ci]? = some (Rn, T, N)) (hin : ∀ w ∈ u_ws Rn T N, w ∈ GW) (hk : k < N) (hr : ref = (T k).1) (hlink : Cond.fieldLink own index ref (T k).2.1 (T k).2.2.1 ∈ lw_tbl) (hdg : decode cc pc = .ok (.getfield index, 3))
    (kk : W p l e R s m args below meth c H locs cells slots Q (F0 m (pc + 3) ls (.ref (ad r) :: rest))) : W p l e R s m args below meth c H locs cells slots Q (F0 m pc ls (.ref (ad q) :: rest)) := by
  obtain ⟨hx, hb, hml, hown, hts, hK, hbase⟩ := C
  subst hr
  exact va_get (D := D) (ci := ci) (v := .ref (ad r)) (C := Rn) (T := T) (N := N) hx hb hts hin hown hK hw.1 q (by rw [wl_at hqN, cE_obj hq]) hc k hk (hts _ (gw_of hlink rfl)) (fun _ h9 => h9) (fVs_at hd) hdg kk
theorem r_putI (C : CX D cA base own cc nL p s m args c) (hw : WS D cA ad base s S H locs) {q ci k N index : Nat} {ds : List Nat} {Rn ref : String} {T : u_T} {ty0 : Nat → FieldType} (hq : desc q = .inl (ci, ds)) (hqN : q < NC) (hd : ds[k]? = some 0) (hc : vwCl[ci]? = some (Rn, T, N)) (hin : ∀ w ∈ u_ws Rn T N, w ∈ GW) (hty : ∀ k, k < N → parseFieldDescriptor (T k).2.2.1 = some (ty0 k)) (hnm : ∀ a, a < N → ∀ b, b < N → a ≠ b → (T a).2.1 ≠ (T b).2.1) (hk : k < N) (hr : ref = (T k).1) (hfin : (T k).2.2.2 = false) (hlink : Cond.fieldLink own index ref (T k).2.1 (T k).2.2.1 ∈ lw_tbl) {v : Int32} (hn : narrow (ty0 k) (.int v) = .int v) (hfit : fits (ty0 k) (.int v) = true) (hdg : decode cc pc = .ok (.putfield index, 3)) {S1 : St} (hS1 : wI q k v S = S1)
    (kk : ∀ (H : Heap) (locs : List Loc), WS D cA ad base s S1 H locs → W p l e R s m args below meth c H locs cells slots Q (F0 m (pc + 3) ls rest)) : W p l e R s m args below meth c H locs cells slots Q (F0 m pc ls (.int v :: .ref (ad q) :: rest)) := by
  obtain ⟨hx, hb, hml, hown, hts, hK, hbase⟩ := C
  subst hr
  obtain ⟨hP, hD, hS⟩ := hw
  refine va_put (D := D) (ci := ci) (v := .int v) (ty := ty0 k) (C := Rn) (T := T) (N := N) hx hb hts hin ty0 hty hnm hown hK hP hD hS q (by rw [wl_at hqN, cE_obj hq]) hc k hk (hts _ (gw_of hlink rfl)) (fun _ h9 => h9) hfin (hty k hk) hn hfit (fVs_len hd) hdg (fun H1 locs1 hP hD hS => ?_)
  have e1 : (wl cA ad S).set q (ad q, .inr (ci, (fVs ad S q ds).set k (.int v))) = wl cA ad S1 := by
    rw [← hS1]
    exact wl_set hqN (by rw [cE_obj hq, fVs_setI hd]) (fun j hj => wI_ne hj)
  rw [e1] at hP hD
  exact kk H1 locs1 ⟨hP, hD, hS⟩
theorem r_putJ (C : CX D cA base own cc nL p s m args c) (hw : WS D cA ad base s S H locs) {q ci k N index : Nat} {ds : List Nat} {Rn ref : String} {T : u_T} {ty0 : Nat → FieldType} (hq : desc q = .inl (ci, ds)) (hqN : q < NC) (hd : ds[k]? = some 1) (hc : vwCl[ci]? = some (Rn, T, N)) (hin : ∀ w ∈ u_ws Rn T N, w ∈ GW) (hty : ∀ k, k < N → parseFieldDescriptor (T k).2.2.1 = some (ty0 k)) (hnm : ∀ a, a < N → ∀ b, b < N → a ≠ b → (T a).2.1 ≠ (T b).2.1) (hk : k < N) (hr : ref = (T k).1) (hfin : (T k).2.2.2 = false) (hlink : Cond.fieldLink own index ref (T k).2.1 (T k).2.2.1 ∈ lw_tbl) {v : Int64} (hn : narrow (ty0 k) (.long v) = .long v) (hfit : fits (ty0 k) (.long v) = true) (hdg : decode cc pc = .ok (.putfield index, 3)) {S1 : St} (hS1 : wJ q k v S = S1)
    (kk : ∀ (H : Heap) (locs : List Loc), WS D cA ad base s S1 H locs → W p l e R s m args below meth c H locs cells slots Q (F0 m (pc + 3) ls rest)) : W p l e R s m args below meth c H locs cells slots Q (F0 m pc ls (.long v :: .ref (ad q) :: rest)) := by
  obtain ⟨hx, hb, hml, hown, hts, hK, hbase⟩ := C
  subst hr
  obtain ⟨hP, hD, hS⟩ := hw
  refine va_put (D := D) (ci := ci) (v := .long v) (ty := ty0 k) (C := Rn) (T := T) (N := N) hx hb hts hin ty0 hty hnm hown hK hP hD hS q (by rw [wl_at hqN, cE_obj hq]) hc k hk (hts _ (gw_of hlink rfl)) (fun _ h9 => h9) hfin (hty k hk) hn hfit (fVs_len hd) hdg (fun H1 locs1 hP hD hS => ?_)
  have e1 : (wl cA ad S).set q (ad q, .inr (ci, (fVs ad S q ds).set k (.long v))) = wl cA ad S1 := by
    rw [← hS1]
    exact wl_set hqN (by rw [cE_obj hq, fVs_setJ hd]) (fun j hj => wJ_ne hj)
  rw [e1] at hP hD
  exact kk H1 locs1 ⟨hP, hD, hS⟩
theorem r_iald (C : CX D cA base own cc nL p s m args c) (hw : WS D cA ad base s S H locs) {x n : Nat} (hx : desc x = .inr (.int, n)) (hxN : x < NC) {i : Int32} (hin : ck i n = true) (hdg : decode cc pc = .ok (.iaload, 1))
    (kk : W p l e R s m args below meth c H locs cells slots Q (F0 m (pc + 1) ls (.int (S.1 x i.toNatClampNeg) :: rest))) : W p l e R s m args below meth c H locs cells slots Q (F0 m pc ls (.int i :: .ref (ad x) :: rest)) := by
  obtain ⟨hx0, hb, hml, hown, hts, hK, hbase⟩ := C
  exact va_iald hx0 hb hK hw.1 x 0 (by rw [wl_at hxN, cE_int hx (by decide)]) rfl (ck_in hin) hdg kk
theorem r_bald (C : CX D cA base own cc nL p s m args c) (hw : WS D cA ad base s S H locs) {x n : Nat} (hx : desc x = .inr (.byte, n)) (hxN : x < NC) {i : Int32} (hin : ck i n = true) (hdg : decode cc pc = .ok (.baload, 1))
    (kk : W p l e R s m args below meth c H locs cells slots Q (F0 m (pc + 1) ls (.int (S.1 x i.toNatClampNeg) :: rest))) : W p l e R s m args below meth c H locs cells slots Q (F0 m pc ls (.int i :: .ref (ad x) :: rest)) := by
  obtain ⟨hx0, hb, hml, hown, hts, hK, hbase⟩ := C
  exact va_bald hx0 hb hK hw.1 x 1 (by rw [wl_at hxN, cE_int hx (by decide)]) rfl (ck_in hin) hdg kk
theorem r_zald (C : CX D cA base own cc nL p s m args c) (hw : WS D cA ad base s S H locs) {x n : Nat} (hx : desc x = .inr (.boolean, n)) (hxN : x < NC) {i : Int32} (hin : ck i n = true) (hdg : decode cc pc = .ok (.baload, 1))
    (kk : W p l e R s m args below meth c H locs cells slots Q (F0 m (pc + 1) ls (.int (S.1 x i.toNatClampNeg) :: rest))) : W p l e R s m args below meth c H locs cells slots Q (F0 m pc ls (.int i :: .ref (ad x) :: rest)) := by
  obtain ⟨hx0, hb, hml, hown, hts, hK, hbase⟩ := C
  exact va_zald hx0 hb hK hw.1 x 2 (by rw [wl_at hxN, cE_int hx (by decide)]) rfl (ck_in hin) hdg kk
theorem r_lald (C : CX D cA base own cc nL p s m args c) (hw : WS D cA ad base s S H locs) {x n : Nat} (hx : desc x = .inr (.long, n)) (hxN : x < NC) {i : Int32} (hin : ck i n = true) (hdg : decode cc pc = .ok (.laload, 1))
    (kk : W p l e R s m args below meth c H locs cells slots Q (F0 m (pc + 1) ls (.long (S.2 x i.toNatClampNeg) :: rest))) : W p l e R s m args below meth c H locs cells slots Q (F0 m pc ls (.int i :: .ref (ad x) :: rest)) := by
  obtain ⟨hx0, hb, hml, hown, hts, hK, hbase⟩ := C
  exact va_lald hx0 hb hK hw.1 x 3 (by rw [wl_at hxN, cE_long hx]) rfl (ck_in hin) hdg kk
theorem r_iast (C : CX D cA base own cc nL p s m args c) (hw : WS D cA ad base s S H locs) {x n : Nat} (hx : desc x = .inr (.int, n)) (hxN : x < NC) {i v : Int32} (hin : ck i n = true) (hdg : decode cc pc = .ok (.iastore, 1)) {S1 : St} (hS1 : wI x i.toNatClampNeg v S = S1)
    (kk : ∀ (H : Heap) (locs : List Loc), WS D cA ad base s S1 H locs → W p l e R s m args below meth c H locs cells slots Q (F0 m (pc + 1) ls rest)) : W p l e R s m args below meth c H locs cells slots Q (F0 m pc ls (.int v :: .int i :: .ref (ad x) :: rest)) := by
  obtain ⟨hx0, hb, hml, hown, hts, hK, hbase⟩ := C
  obtain ⟨hP, hD, hS⟩ := hw
  refine va_iast hx0 hb hK hP hD hS x 0 (by rw [wl_at hxN, cE_int hx (by decide)]) rfl (ck_in hin) hdg (fun H1 locs1 hP hD hS => ?_)
  have e1 : (wl cA ad S).set x (ad x, .inl (cA .int, n, .inl (upd (S.1 x) i.toNatClampNeg v))) = wl cA ad S1 := by
    rw [← hS1]
    exact wl_set hxN (by rw [cE_int hx (by decide), wI_at]) (fun j hj => wI_ne hj)
  rw [e1] at hP hD
  exact kk H1 locs1 ⟨hP, hD, hS⟩
theorem r_bast (C : CX D cA base own cc nL p s m args c) (hw : WS D cA ad base s S H locs) {x n : Nat} (hx : desc x = .inr (.byte, n)) (hxN : x < NC) {i v : Int32} (hin : ck i n = true) (hdg : decode cc pc = .ok (.bastore, 1)) {S1 : St} (hS1 : wI x i.toNatClampNeg (vp_nar .byte v) S = S1)
    (kk : ∀ (H : Heap) (locs : List Loc), WS D cA ad base s S1 H locs → W p l e R s m args below meth c H locs cells slots Q (F0 m (pc + 1) ls rest)) : W p l e R s m args below meth c H locs cells slots Q (F0 m pc ls (.int v :: .int i :: .ref (ad x) :: rest)) := by
  obtain ⟨hx0, hb, hml, hown, hts, hK, hbase⟩ := C
  obtain ⟨hP, hD, hS⟩ := hw
  refine va_bast hx0 hb hK hP hD hS x 1 (by rw [wl_at hxN, cE_int hx (by decide)]) rfl (ck_in hin) hdg (fun H1 locs1 hP hD hS => ?_)
  have e1 : (wl cA ad S).set x (ad x, .inl (cA .byte, n, .inl (upd (S.1 x) i.toNatClampNeg (vp_nar .byte v)))) = wl cA ad S1 := by
    rw [← hS1]
    exact wl_set hxN (by rw [cE_int hx (by decide), wI_at]) (fun j hj => wI_ne hj)
  rw [e1] at hP hD
  exact kk H1 locs1 ⟨hP, hD, hS⟩
theorem r_zast (C : CX D cA base own cc nL p s m args c) (hw : WS D cA ad base s S H locs) {x n : Nat} (hx : desc x = .inr (.boolean, n)) (hxN : x < NC) {i v : Int32} (hin : ck i n = true) (hdg : decode cc pc = .ok (.bastore, 1)) {S1 : St} (hS1 : wI x i.toNatClampNeg (vp_nar .boolean v) S = S1)
    (kk : ∀ (H : Heap) (locs : List Loc), WS D cA ad base s S1 H locs → W p l e R s m args below meth c H locs cells slots Q (F0 m (pc + 1) ls rest)) : W p l e R s m args below meth c H locs cells slots Q (F0 m pc ls (.int v :: .int i :: .ref (ad x) :: rest)) := by
  obtain ⟨hx0, hb, hml, hown, hts, hK, hbase⟩ := C
  obtain ⟨hP, hD, hS⟩ := hw
  refine va_zast hx0 hb hK hP hD hS x 2 (by rw [wl_at hxN, cE_int hx (by decide)]) rfl (ck_in hin) hdg (fun H1 locs1 hP hD hS => ?_)
  have e1 : (wl cA ad S).set x (ad x, .inl (cA .boolean, n, .inl (upd (S.1 x) i.toNatClampNeg (vp_nar .boolean v)))) = wl cA ad S1 := by
    rw [← hS1]
    exact wl_set hxN (by rw [cE_int hx (by decide), wI_at]) (fun j hj => wI_ne hj)
  rw [e1] at hP hD
  exact kk H1 locs1 ⟨hP, hD, hS⟩
theorem r_last (C : CX D cA base own cc nL p s m args c) (hw : WS D cA ad base s S H locs) {x n : Nat} (hx : desc x = .inr (.long, n)) (hxN : x < NC) {i : Int32} {v : Int64} (hin : ck i n = true) (hdg : decode cc pc = .ok (.lastore, 1)) {S1 : St} (hS1 : wJ x i.toNatClampNeg v S = S1)
    (kk : ∀ (H : Heap) (locs : List Loc), WS D cA ad base s S1 H locs → W p l e R s m args below meth c H locs cells slots Q (F0 m (pc + 1) ls rest)) : W p l e R s m args below meth c H locs cells slots Q (F0 m pc ls (.long v :: .int i :: .ref (ad x) :: rest)) := by
  obtain ⟨hx0, hb, hml, hown, hts, hK, hbase⟩ := C
  obtain ⟨hP, hD, hS⟩ := hw
  refine va_last hx0 hb hK hP hD hS x 3 (by rw [wl_at hxN, cE_long hx]) rfl (ck_in hin) hdg (fun H1 locs1 hP hD hS => ?_)
  have e1 : (wl cA ad S).set x (ad x, .inl (cA .long, n, .inr (.inl (vp_updL (S.2 x) i.toNatClampNeg v)))) = wl cA ad S1 := by
    rw [← hS1]
    exact wl_set hxN (by rw [cE_long hx, wJ_at]) (fun j hj => wJ_ne hj)
  rw [e1] at hP hD
  exact kk H1 locs1 ⟨hP, hD, hS⟩
theorem r_alen (C : CX D cA base own cc nL p s m args c) (hw : WS D cA ad base s S H locs) {x n : Nat} (hx : desc x = .inr (.int, n)) (hxN : x < NC) (hdg : decode cc pc = .ok (.arraylength, 1))
    (kk : W p l e R s m args below meth c H locs cells slots Q (F0 m (pc + 1) ls (.int (Int32.ofNat n) :: rest))) : W p l e R s m args below meth c H locs cells slots Q (F0 m pc ls (.ref (ad x) :: rest)) := by
  obtain ⟨hx0, hb, hml, hown, hts, hK, hbase⟩ := C
  exact va_alen hx0 hb hK hw.1 x 0 (by rw [wl_at hxN, cE_int hx (by decide)]) (ty := .int) rfl rfl hdg kk
/-- ends -/
theorem WS.end (hw : WS D cA ad base s S H locs) (C : CX D cA base own cc nL p s m args c) {t : State} (ht : t.heap = H) (hW : s.WarmedH t.vm) : wd D cA ad base S t ∧ va_F (aB base) s t := by
  obtain ⟨hx0, hb, hml, hown, hts, hK, hbase⟩ := C
  obtain ⟨hP, hD, hS⟩ := hw
  exact ⟨⟨by rw [ht]; exact Nat.le_trans hbase.1 hS.1, by rw [ht]; exact hP, hD, va_K.moved hW.alike hK, by rw [ht]; exact hbase.2.pre hW hS⟩, hS.F ht⟩
theorem r_iret (C : CX D cA base own cc nL p s m args c) (hw : WS D cA ad base s S H locs) (hr : meth.sig.returnType = some .int) (hlocks : meth.locks = false) {v r : Int32} {S' : St} (hf : some (S, v) = some (S', r)) (hdg : decode cc pc = .ok (.ireturn, 1)) : W p l e R s m args below meth c H locs cells slots (MQ below (QI D cA ad base S' r) args s cells slots (aB base)) (F0 m pc ls [.int v]) := by
  cases hf
  refine W.iret (v := v) C.1 C.2.1 hr (fun t ht hW => ?_) hw.2.2.2.2 hdg hlocks
  obtain ⟨h1, h2⟩ := hw.end C ht hW
  exact ⟨⟨v, S, rfl, ⟨rfl, rfl⟩, h1⟩, h2⟩
theorem r_zret (C : CX D cA base own cc nL p s m args c) (hw : WS D cA ad base s S H locs) (hr : meth.sig.returnType = some .boolean) (hlocks : meth.locks = false) {v r : Int32} {S' : St} (hv : isB v = true) (hf : some (S, v) = some (S', r)) (hdg : decode cc pc = .ok (.ireturn, 1)) : W p l e R s m args below meth c H locs cells slots (MQ below (QI D cA ad base S' r) args s cells slots (aB base)) (F0 m pc ls [.int v]) := by
  cases hf
  refine W.zret (v := v) C.1 C.2.1 hr (isB_nar hv) (fun t ht hW => ?_) hw.2.2.2.2 hdg hlocks
  obtain ⟨h1, h2⟩ := hw.end C ht hW
  exact ⟨⟨v, S, rfl, ⟨rfl, rfl⟩, h1⟩, h2⟩
theorem r_lret (C : CX D cA base own cc nL p s m args c) (hw : WS D cA ad base s S H locs) (hr : meth.sig.returnType = some .long) (hlocks : meth.locks = false) {v r : Int64} {S' : St} (hf : some (S, v) = some (S', r)) (hdg : decode cc pc = .ok (.lreturn, 1)) : W p l e R s m args below meth c H locs cells slots (MQ below (QL D cA ad base S' r) args s cells slots (aB base)) (F0 m pc ls [.long v]) := by
  cases hf
  refine W.lret (v := v) C.1 C.2.1 hr (fun t ht hW => ?_) hw.2.2.2.2 hdg hlocks
  obtain ⟨h1, h2⟩ := hw.end C ht hW
  exact ⟨⟨v, S, rfl, ⟨rfl, rfl⟩, h1⟩, h2⟩
theorem r_vret (C : CX D cA base own cc nL p s m args c) (hw : WS D cA ad base s S H locs) (hr : meth.sig.returnType = none) (hlocks : meth.locks = false) {r : Int32} {S' : St} (hf : some (S, (0 : Int32)) = some (S', r)) (hdg : decode cc pc = .ok (.return_, 1)) : W p l e R s m args below meth c H locs cells slots (MQ below (QV D cA ad base S') args s cells slots (aB base)) (F0 m pc ls []) := by
  cases hf
  refine W.vret C.1 C.2.1 hr (fun t ht hW => ?_) hw.2.2.2.2 hdg hlocks
  obtain ⟨h1, h2⟩ := hw.end C ht hW
  exact ⟨⟨S, rfl, rfl, h1⟩, h2⟩
theorem r_aret (C : CX D cA base own cc nL p s m args c) (hw : WS D cA ad base s S H locs) {cn : String} (hr : meth.sig.returnType = some (.object cn)) (hlocks : meth.locks = false) {r : Int32} {S' : St} {q : Nat} (hf : some (S, (0 : Int32)) = some (S', r)) (hdg : decode cc pc = .ok (.areturn, 1)) : W p l e R s m args below meth c H locs cells slots (MQ below (QR D cA ad base S' q) args s cells slots (aB base)) (F0 m pc ls [.ref (ad q)]) := by
  cases hf
  refine W.aret (v := .ref (ad q)) C.1 C.2.1 hr (Or.inl ⟨_, rfl⟩) (Or.inr ⟨_, rfl⟩) (fun t ht hW => ?_) hw.2.2.2.2 hdg hlocks
  obtain ⟨h1, h2⟩ := hw.end C ht hW
  exact ⟨⟨S, ad q, rfl, rfl, rfl, h1⟩, h2⟩
end RWS
