noncomputable def fit1 (fu : Nat) (a0 a1 a2 a3 a4 a5 : Int32) (S : St) : Option (St × Int32) :=
  if (a0 &&& (31 : Int32)) = (0 : Int32) then fc_0 fu a1 a2 a3 a4 a5 S else
  if (a0 &&& (31 : Int32)) = (1 : Int32) then fc_1 fu a1 a2 a3 a4 a5 S else
  if (a0 &&& (31 : Int32)) = (2 : Int32) then fc_2 fu a1 a2 a3 a4 a5 S else
  if (a0 &&& (31 : Int32)) = (3 : Int32) then fc_3 fu a1 a2 a3 a4 a5 S else
  if (a0 &&& (31 : Int32)) = (4 : Int32) then fc_4 fu a1 a2 a3 a4 a5 S else
  if (a0 &&& (31 : Int32)) = (5 : Int32) then fc_5 fu a1 a2 a3 a4 a5 S else
  if (a0 &&& (31 : Int32)) = (6 : Int32) then fc_6 fu a1 a2 a3 a4 a5 S else
  if (a0 &&& (31 : Int32)) = (7 : Int32) then fc_7 fu a1 a2 a3 a4 a5 S else
  if (a0 &&& (31 : Int32)) = (8 : Int32) then fc_8 fu a1 a2 a3 a4 a5 S else
  if (a0 &&& (31 : Int32)) = (9 : Int32) then fc_9 fu a1 a2 a3 a4 a5 S else
  if (a0 &&& (31 : Int32)) = (10 : Int32) then fc_10 fu a1 a2 a3 a4 a5 S else
  if (a0 &&& (31 : Int32)) = (11 : Int32) then fc_11 fu a1 a2 a3 a4 a5 S else
  if (a0 &&& (31 : Int32)) = (12 : Int32) then fc_12 fu a1 a2 a3 a4 a5 S else
  if (a0 &&& (31 : Int32)) = (13 : Int32) then fc_13 fu a1 a2 a3 a4 a5 S else
  if (a0 &&& (31 : Int32)) = (14 : Int32) then fc_14 fu a1 a2 a3 a4 a5 S else
  if (a0 &&& (31 : Int32)) = (15 : Int32) then fc_15 fu a1 a2 a3 a4 a5 S else
  if (a0 &&& (31 : Int32)) = (16 : Int32) then fc_16 fu a1 a2 a3 a4 a5 S else
  if (a0 &&& (31 : Int32)) = (17 : Int32) then fc_17 fu a1 a2 a3 a4 a5 S else
  if (a0 &&& (31 : Int32)) = (18 : Int32) then fc_18 fu a1 a2 a3 a4 a5 S else
  if (a0 &&& (31 : Int32)) = (19 : Int32) then fc_19 fu a1 a2 a3 a4 a5 S else
  if (a0 &&& (31 : Int32)) = (20 : Int32) then fc_20 fu a1 a2 a3 a4 a5 S else
  if (a0 &&& (31 : Int32)) = (21 : Int32) then fc_21 fu a1 a2 a3 a4 a5 S else
  if (a0 &&& (31 : Int32)) = (22 : Int32) then fc_22 fu a1 a2 a3 a4 a5 S else
  if (a0 &&& (31 : Int32)) = (23 : Int32) then fc_23 fu a1 a2 a3 a4 a5 S else
  if (a0 &&& (31 : Int32)) = (24 : Int32) then fc_24 fu a1 a2 a3 a4 a5 S else
  some (S, (1 : Int32))
/-- n rounds of the law from the place i on, each of them agreeing -/
def lawOk (fu : Nat) (xs : Nat → Int32) : Nat → Nat → St → Prop
  | 0, _, _ => True
  | n + 1, i, S => ∃ S', fit1 fu (xs i) (xs (i + 1)) (xs (i + 2)) (xs (i + 3)) (xs (i + 4)) (xs (i + 5)) S = some (S', (1 : Int32)) ∧ lawOk fu xs n (i + 6) S'
def R_law : String := "NameSeekerLaw"

def lw_P (b : Addr) (xs : List Int32) (args : Array Value) (s : State) : Prop := args = #[.ref b] ∧ s.IntsAt b xs ∧ xs.length ≤ 3072 ∧ (Jvm.Cond.and given_1 narrow_1).before args s = true
def lw_Q (_ : Array Value) (s : State) (o : Outcome) (t : State) : Prop := o = .returned (some (.int 1)) ∧ Framed s o t [] 1153 27592
def lw_Z (below : List Frame) (a : Array Value) (s : State) : State → Prop := fun t => ∃ o, t.status = .running ∧ Ended t below o ∧ lw_Q a s o t
/-- the law's own end, with 1 on the stack, nothing written that was there before, its room as the claim has it -/
theorem lw_ret {p : Program} {l : Launch} {e : Env} {s : State} {m : MethodId} {below : List Frame} {meth : Method} {c : Code} {b : Nat} (hx : p.tables.exec = Jvm.exec) (hb : c.code = code) (hr : meth.sig.returnType = ret) (hlocks : meth.locks = false) {pc : Nat} {H : Heap} {ls : Array Slot} (hdg : decode code pc = .ok (.ireturn, 1)) : W p l e room_1 s m #[Value.ref b] below meth c H [] 1153 27592 (lw_Z below #[Value.ref b] s) (F0 m pc ls [.int 1]) := by
  intro T hT X
  obtain ⟨fs, hret, hrun, hended, hW, hframe⟩ := X.leave (v := some (.int 1)) (hlocks := hlocks) (fun h => by rw [hr] at h; cases h)
  have hmeth' : T.vm.method? m = some meth := X.method'
  refine ⟨T.setFrames fs, ?_, .returned (some (.int 1)), hrun, hended, rfl, ⟨_, rfl⟩, hW, hframe⟩
  jvm_step X.here [X.here.top, hx, hb, hdg, hmeth', hr, ret, narrow_b1]
  (try refine ⟨rfl, ?_⟩); (try refine ⟨rfl, ?_⟩)
  first | (intro acts; rw [hret _ acts rfl rfl rfl]) | rw [hret _ _ rfl rfl rfl]
  exact Steps.refl _
/-- what holds at the law's entry: the machine, the code, the tables' words (any of lw_tbl by 'hts w (by decide +kernel)'), the script of L ints xs at the cell b, what the Statement gives of the start (any of its parts by flat_of_before) -/
def lw_At (p : Program) (s : State) (m : MethodId) (meth : Method) (c : Code) (b L : Nat) (xs : Nat → Int32) : Prop :=
  p.tables.exec = Jvm.exec ∧ c.code = code ∧ meth.sig.returnType = ret ∧ c.maxLocals = 7 ∧ s.vm.findClass R_law = some m.cls ∧ (∀ w ∈ lw_tbl, w.before #[Value.ref b] s = true) ∧ va_X b L xs s s.heap ∧ b < s.heap.size ∧ meth.locks = false ∧ (Jvm.Cond.and given_1 narrow_1).before #[Value.ref b] s = true

set_option maxHeartbeats 4000000 in
set_option maxRecDepth 100000 in
theorem law_loop {p : Program} {l : Launch} {e : Env} {s : State} {m : MethodId} {below : List Frame} {meth : Method} {c : Code} {D : va_G} {cA : FieldType → ClassId} {ad : Nat → Nat} {b L0 : Nat} {xs : Nat → Int32} (hlt : l.stackTraces = false) (C : CX D cA s.heap.size RL cL_law 7 p s m #[Value.ref b] c) (hr : meth.sig.returnType = ret) (hlocks : meth.locks = false) (hX : va_X b L0 xs s s.heap) (hbl : b < s.heap.size) (hL : L0 ≤ 3072) {fu : Nat} :
    ∀ (n i : Nat) (x4 : Int32) (c0 s0 : Nat) (S : St) (H : Heap) (locs : List Loc) (ls : Array Slot), i + 6 * n ≤ L0 → L0 < i + 6 * n + 6 → x4 = nI i → c0 + n ≤ 1153 → s0 + 6 * n ≤ 27592 → lawOk fu xs n i S → WS D cA ad s.heap.size s S H locs → lv_has ls 7 [(0, .ref b), (1, .ref (ad 0)), (2, .ref (ad 63)), (3, .ref (ad 106)), (4, .int x4)] → W p l e room_1 s m #[Value.ref b] below meth c H locs c0 s0 (lw_Z below #[Value.ref b] s) (F0 m 23 ls []) := by
  have hx := C.1
  have hb := C.2.1
  have hbB : ¬ aB s.heap.size b := Nat.not_le.mpr hbl
  intro n
  induction n with
  | zero =>
    intro i x4 c0 s0 S H locs ls h1 h2 h3 h4 h5 hok hw hl
    refine lv_iload hx hb dL_law_23 (lv_at hl 4 rfl) ?_
    refine lv_aload_n hx hb dL_law_25 rfl (lv_at hl 0 rfl) ?_
    refine va_slen hx hb hX hbl hbB hw.2.2 dL_law_26 ?_
    refine lv_bipush (v := (6 : Int32)) hx hb dL_law_27 (by decide) ?_
    refine lv_isub hx hb dL_law_29 ?_
    refine lv_icmp_gt (tgt := 1077) hx hb dL_law_30 (by decide) (fun c_30 => ?_) (fun c_30 => ?_)
    · refine lv_iconst (v := 1) hx hb dL_law_1077 (by decide) ?_
      refine va_forget (fun q hq => hw.2.2.2.2 q hq) ?_
      refine W.widen (k := 1153) (n := 27592) (by omega) (by omega) ?_
      exact lw_ret hx hb hr hlocks dL_law_1078
    · refine absurd ?_ c_30
      have e1 : (nI L0 - (6 : Int32)).toInt = (L0 : Int) - 6 := pk_sub_toInt (a := L0) (b := 6) (by omega) (by omega)
      have e2 : (nI i).toInt = (i : Int) := nI_toInt (by omega)
      rw [h3]
      exact Int32.lt_iff_toInt_lt.mpr (by show (nI L0 - (6 : Int32)).toInt < _; rw [e1, e2]; omega)
  | succ n ih =>
    intro i x4 c0 s0 S H locs ls h1 h2 h3 h4 h5 hok hw hl
    obtain ⟨S', hf, hok⟩ := hok
    refine lv_iload hx hb dL_law_23 (lv_at hl 4 rfl) ?_
    refine lv_aload_n hx hb dL_law_25 rfl (lv_at hl 0 rfl) ?_
    refine va_slen hx hb hX hbl hbB hw.2.2 dL_law_26 ?_
    refine lv_bipush (v := (6 : Int32)) hx hb dL_law_27 (by decide) ?_
    refine lv_isub hx hb dL_law_29 ?_
    refine lv_icmp_gt (tgt := 1077) hx hb dL_law_30 (by decide) (fun c_30 => ?_) (fun c_30 => ?_)
    · exfalso
      have e1 : (nI L0 - (6 : Int32)).toInt = (L0 : Int) - 6 := pk_sub_toInt (a := L0) (b := 6) (by omega) (by omega)
      have e2 : (nI i).toInt = (i : Int) := nI_toInt (by omega)
      rw [h3] at c_30
      have c9 : (nI L0 - (6 : Int32)).toInt < (nI i).toInt := Int32.lt_iff_toInt_lt.mp c_30
      rw [e1, e2] at c9
      omega
    have pk : ∀ k, k < 6 → x4 + nI k = nI (i + k) := fun k _ => by rw [h3, nI_add]
    have pin : ∀ k, k < 6 → vp_in (nI (i + k)) L0 := fun k hk => vp_in_nI (by omega) (by omega)
    have pcl : ∀ k, k < 6 → (nI (i + k)).toNatClampNeg = i + k := fun k hk => nI_clamp (by omega)
    have i0 : vp_in x4 L0 := by rw [h3]; exact pin 0 (by omega)
    have i1 : vp_in (x4 + 1) L0 := by rw [show x4 + 1 = nI (i + 1) from pk 1 (by omega)]; exact pin 1 (by omega)
    have i2 : vp_in (x4 + 2) L0 := by rw [show x4 + 2 = nI (i + 2) from pk 2 (by omega)]; exact pin 2 (by omega)
    have i3 : vp_in (x4 + 3) L0 := by rw [show x4 + 3 = nI (i + 3) from pk 3 (by omega)]; exact pin 3 (by omega)
    have i4 : vp_in (x4 + 4) L0 := by rw [show x4 + 4 = nI (i + 4) from pk 4 (by omega)]; exact pin 4 (by omega)
    have i5 : vp_in (x4 + 5) L0 := by rw [show x4 + 5 = nI (i + 5) from pk 5 (by omega)]; exact pin 5 (by omega)
    have v0 : xs x4.toNatClampNeg = xs i := by rw [h3]; exact congrArg xs (pcl 0 (by omega))
    have v1 : xs (x4 + 1).toNatClampNeg = xs (i + 1) := by rw [show x4 + 1 = nI (i + 1) from pk 1 (by omega), pcl 1 (by omega)]
    have v2 : xs (x4 + 2).toNatClampNeg = xs (i + 2) := by rw [show x4 + 2 = nI (i + 2) from pk 2 (by omega), pcl 2 (by omega)]
    have v3 : xs (x4 + 3).toNatClampNeg = xs (i + 3) := by rw [show x4 + 3 = nI (i + 3) from pk 3 (by omega), pcl 3 (by omega)]
    have v4 : xs (x4 + 4).toNatClampNeg = xs (i + 4) := by rw [show x4 + 4 = nI (i + 4) from pk 4 (by omega), pcl 4 (by omega)]
    have v5 : xs (x4 + 5).toNatClampNeg = xs (i + 5) := by rw [show x4 + 5 = nI (i + 5) from pk 5 (by omega), pcl 5 (by omega)]
    have hc0 : c0 + 1 ≤ room_1.cells := by show c0 + 1 ≤ 1153; omega
    have hs0 : s0 + 6 ≤ room_1.slots := by show s0 + 6 ≤ 27592; omega
    have kk : ∀ (H : Heap) (locs : List Loc) (ls : Array Slot), WS D cA ad s.heap.size s S' H locs → lv_has ls 7 [(0, .ref b), (1, .ref (ad 0)), (2, .ref (ad 63)), (3, .ref (ad 106)), (4, .int x4)] → W p l e room_1 s m #[Value.ref b] below meth c H locs (c0 + 1) (s0 + 6) (lw_Z below #[Value.ref b] s) (F0 m 1071 ls []) := by
      intro H locs ls hw hl
      refine lv_iinc (v := x4 + 6) (lv' := [(4, .int (x4 + 6)), (0, .ref b), (1, .ref (ad 0)), (2, .ref (ad 63)), (3, .ref (ad 106))]) hx hb dL_law_1071 hl (k := 4) rfl rfl (by decide) rfl (fun ls hl => ?_)
      refine lv_goto (tgt := 23) hx hb dL_law_1074 (by decide) ?_
      exact ih (i + 6) (x4 + 6) (c0 + 1) (s0 + 6) S' H locs ls (by omega) (by omega) (by rw [h3]; exact nI_add i 6) (by omega) (by omega) hok hw (lv_sub hl [1, 2, 3, 4, 0] rfl)
    refine lv_aload_n hx hb dL_law_33 rfl (lv_at hl 0 rfl) ?_
    refine lv_iload hx hb dL_law_34 (lv_at hl 4 rfl) ?_
    refine r_sld C hw hX hbl hbB i0 v0 dL_law_36 ?_
    refine lv_bipush (v := (31 : Int32)) hx hb dL_law_37 (by decide) ?_
    refine lv_iand hx hb dL_law_39 ?_
    have hf : fit1 fu (xs i) (xs (i + 1)) (xs (i + 2)) (xs (i + 3)) (xs (i + 4)) (xs (i + 5)) S = some (S', (1 : Int32)) := hf
    unfold fit1 at hf
    generalize (xs i &&& (31 : Int32)) = a0 at hf ⊢
    by_cases e_0 : a0 = (0 : Int32)
    · have hf := if_t hf e_0
      refine lv_tableIn (tgt := 156) hx hb dL_law_40 (by rw [e_0]; decide) (by rw [e_0]; decide) (off := 116) (by rw [e_0]; rfl) (by decide) ?_
      exact lc_0 hlt C hX hbl hbB i1 i2 i3 i4 i5 v1 v2 v3 v4 v5 hc0 hs0 hf kk hw hl
    have hf := if_f hf e_0
    by_cases e_1 : a0 = (1 : Int32)
    · have hf := if_t hf e_1
      refine lv_tableIn (tgt := 229) hx hb dL_law_40 (by rw [e_1]; decide) (by rw [e_1]; decide) (off := 189) (by rw [e_1]; rfl) (by decide) ?_
      exact lc_1 hlt C hX hbl hbB i1 i2 i3 i4 i5 v1 v2 v3 v4 v5 hc0 hs0 hf kk hw hl
    have hf := if_f hf e_1
    by_cases e_2 : a0 = (2 : Int32)
    · have hf := if_t hf e_2
      refine lv_tableIn (tgt := 254) hx hb dL_law_40 (by rw [e_2]; decide) (by rw [e_2]; decide) (off := 214) (by rw [e_2]; rfl) (by decide) ?_
      exact lc_2 hlt C hX hbl hbB i1 i2 i3 i4 i5 v1 v2 v3 v4 v5 hc0 hs0 hf kk hw hl
    have hf := if_f hf e_2
    by_cases e_3 : a0 = (3 : Int32)
    · have hf := if_t hf e_3
      refine lv_tableIn (tgt := 291) hx hb dL_law_40 (by rw [e_3]; decide) (by rw [e_3]; decide) (off := 251) (by rw [e_3]; rfl) (by decide) ?_
      exact lc_3 hlt C hX hbl hbB i1 i2 i3 i4 i5 v1 v2 v3 v4 v5 hc0 hs0 hf kk hw hl
    have hf := if_f hf e_3
    by_cases e_4 : a0 = (4 : Int32)
    · have hf := if_t hf e_4
      refine lv_tableIn (tgt := 307) hx hb dL_law_40 (by rw [e_4]; decide) (by rw [e_4]; decide) (off := 267) (by rw [e_4]; rfl) (by decide) ?_
      exact lc_4 hlt C hX hbl hbB i1 i2 i3 i4 i5 v1 v2 v3 v4 v5 hc0 hs0 hf kk hw hl
    have hf := if_f hf e_4
    by_cases e_5 : a0 = (5 : Int32)
    · have hf := if_t hf e_5
      refine lv_tableIn (tgt := 347) hx hb dL_law_40 (by rw [e_5]; decide) (by rw [e_5]; decide) (off := 307) (by rw [e_5]; rfl) (by decide) ?_
      exact lc_5 hlt C hX hbl hbB i1 i2 i3 i4 i5 v1 v2 v3 v4 v5 hc0 hs0 hf kk hw hl
    have hf := if_f hf e_5
    by_cases e_6 : a0 = (6 : Int32)
    · have hf := if_t hf e_6
      refine lv_tableIn (tgt := 387) hx hb dL_law_40 (by rw [e_6]; decide) (by rw [e_6]; decide) (off := 347) (by rw [e_6]; rfl) (by decide) ?_
      exact lc_6 hlt C hX hbl hbB i1 i2 i3 i4 i5 v1 v2 v3 v4 v5 hc0 hs0 hf kk hw hl
    have hf := if_f hf e_6
    by_cases e_7 : a0 = (7 : Int32)
    · have hf := if_t hf e_7
      refine lv_tableIn (tgt := 427) hx hb dL_law_40 (by rw [e_7]; decide) (by rw [e_7]; decide) (off := 387) (by rw [e_7]; rfl) (by decide) ?_
      exact lc_7 hlt C hX hbl hbB i1 i2 i3 i4 i5 v1 v2 v3 v4 v5 hc0 hs0 hf kk hw hl
    have hf := if_f hf e_7
    by_cases e_8 : a0 = (8 : Int32)
    · have hf := if_t hf e_8
      refine lv_tableIn (tgt := 503) hx hb dL_law_40 (by rw [e_8]; decide) (by rw [e_8]; decide) (off := 463) (by rw [e_8]; rfl) (by decide) ?_
      exact lc_8 hlt C hX hbl hbB i1 i2 i3 i4 i5 v1 v2 v3 v4 v5 hc0 hs0 hf kk hw hl
    have hf := if_f hf e_8
    by_cases e_9 : a0 = (9 : Int32)
    · have hf := if_t hf e_9
      refine lv_tableIn (tgt := 555) hx hb dL_law_40 (by rw [e_9]; decide) (by rw [e_9]; decide) (off := 515) (by rw [e_9]; rfl) (by decide) ?_
      exact lc_9 hlt C hX hbl hbB i1 i2 i3 i4 i5 v1 v2 v3 v4 v5 hc0 hs0 hf kk hw hl
    have hf := if_f hf e_9
    by_cases e_10 : a0 = (10 : Int32)
    · have hf := if_t hf e_10
      refine lv_tableIn (tgt := 611) hx hb dL_law_40 (by rw [e_10]; decide) (by rw [e_10]; decide) (off := 571) (by rw [e_10]; rfl) (by decide) ?_
      exact lc_10 hlt C hX hbl hbB i1 i2 i3 i4 i5 v1 v2 v3 v4 v5 hc0 hs0 hf kk hw hl
    have hf := if_f hf e_10
    by_cases e_11 : a0 = (11 : Int32)
    · have hf := if_t hf e_11
      refine lv_tableIn (tgt := 679) hx hb dL_law_40 (by rw [e_11]; decide) (by rw [e_11]; decide) (off := 639) (by rw [e_11]; rfl) (by decide) ?_
      exact lc_11 hlt C hX hbl hbB i1 i2 i3 i4 i5 v1 v2 v3 v4 v5 hc0 hs0 hf kk hw hl
    have hf := if_f hf e_11
    by_cases e_12 : a0 = (12 : Int32)
    · have hf := if_t hf e_12
      refine lv_tableIn (tgt := 731) hx hb dL_law_40 (by rw [e_12]; decide) (by rw [e_12]; decide) (off := 691) (by rw [e_12]; rfl) (by decide) ?_
      exact lc_12 hlt C hX hbl hbB i1 i2 i3 i4 i5 v1 v2 v3 v4 v5 hc0 hs0 hf kk hw hl
    have hf := if_f hf e_12
    by_cases e_13 : a0 = (13 : Int32)
    · have hf := if_t hf e_13
      refine lv_tableIn (tgt := 744) hx hb dL_law_40 (by rw [e_13]; decide) (by rw [e_13]; decide) (off := 704) (by rw [e_13]; rfl) (by decide) ?_
      exact lc_13 hlt C hX hbl hbB i1 i2 i3 i4 i5 v1 v2 v3 v4 v5 hc0 hs0 hf kk hw hl
    have hf := if_f hf e_13
    by_cases e_14 : a0 = (14 : Int32)
    · have hf := if_t hf e_14
      refine lv_tableIn (tgt := 784) hx hb dL_law_40 (by rw [e_14]; decide) (by rw [e_14]; decide) (off := 744) (by rw [e_14]; rfl) (by decide) ?_
      exact lc_14 hlt C hX hbl hbB i1 i2 i3 i4 i5 v1 v2 v3 v4 v5 hc0 hs0 hf kk hw hl
    have hf := if_f hf e_14
    by_cases e_15 : a0 = (15 : Int32)
    · have hf := if_t hf e_15
      refine lv_tableIn (tgt := 809) hx hb dL_law_40 (by rw [e_15]; decide) (by rw [e_15]; decide) (off := 769) (by rw [e_15]; rfl) (by decide) ?_
      exact lc_15 hlt C hX hbl hbB i1 i2 i3 i4 i5 v1 v2 v3 v4 v5 hc0 hs0 hf kk hw hl
    have hf := if_f hf e_15
    by_cases e_16 : a0 = (16 : Int32)
    · have hf := if_t hf e_16
      refine lv_tableIn (tgt := 837) hx hb dL_law_40 (by rw [e_16]; decide) (by rw [e_16]; decide) (off := 797) (by rw [e_16]; rfl) (by decide) ?_
      exact lc_16 hlt C hX hbl hbB i1 i2 i3 i4 i5 v1 v2 v3 v4 v5 hc0 hs0 hf kk hw hl
    have hf := if_f hf e_16
    by_cases e_17 : a0 = (17 : Int32)
    · have hf := if_t hf e_17
      refine lv_tableIn (tgt := 877) hx hb dL_law_40 (by rw [e_17]; decide) (by rw [e_17]; decide) (off := 837) (by rw [e_17]; rfl) (by decide) ?_
      exact lc_17 hlt C hX hbl hbB i1 i2 i3 i4 i5 v1 v2 v3 v4 v5 hc0 hs0 hf kk hw hl
    have hf := if_f hf e_17
    by_cases e_18 : a0 = (18 : Int32)
    · have hf := if_t hf e_18
      refine lv_tableIn (tgt := 893) hx hb dL_law_40 (by rw [e_18]; decide) (by rw [e_18]; decide) (off := 853) (by rw [e_18]; rfl) (by decide) ?_
      exact lc_18 hlt C hX hbl hbB i1 i2 i3 i4 i5 v1 v2 v3 v4 v5 hc0 hs0 hf kk hw hl
    have hf := if_f hf e_18
    by_cases e_19 : a0 = (19 : Int32)
    · have hf := if_t hf e_19
      refine lv_tableIn (tgt := 909) hx hb dL_law_40 (by rw [e_19]; decide) (by rw [e_19]; decide) (off := 869) (by rw [e_19]; rfl) (by decide) ?_
      exact lc_19 hlt C hX hbl hbB i1 i2 i3 i4 i5 v1 v2 v3 v4 v5 hc0 hs0 hf kk hw hl
    have hf := if_f hf e_19
    by_cases e_20 : a0 = (20 : Int32)
    · have hf := if_t hf e_20
      refine lv_tableIn (tgt := 925) hx hb dL_law_40 (by rw [e_20]; decide) (by rw [e_20]; decide) (off := 885) (by rw [e_20]; rfl) (by decide) ?_
      exact lc_20 hlt C hX hbl hbB i1 i2 i3 i4 i5 v1 v2 v3 v4 v5 hc0 hs0 hf kk hw hl
    have hf := if_f hf e_20
    by_cases e_21 : a0 = (21 : Int32)
    · have hf := if_t hf e_21
      refine lv_tableIn (tgt := 953) hx hb dL_law_40 (by rw [e_21]; decide) (by rw [e_21]; decide) (off := 913) (by rw [e_21]; rfl) (by decide) ?_
      exact lc_21 hlt C hX hbl hbB i1 i2 i3 i4 i5 v1 v2 v3 v4 v5 hc0 hs0 hf kk hw hl
    have hf := if_f hf e_21
    by_cases e_22 : a0 = (22 : Int32)
    · have hf := if_t hf e_22
      refine lv_tableIn (tgt := 981) hx hb dL_law_40 (by rw [e_22]; decide) (by rw [e_22]; decide) (off := 941) (by rw [e_22]; rfl) (by decide) ?_
      exact lc_22 hlt C hX hbl hbB i1 i2 i3 i4 i5 v1 v2 v3 v4 v5 hc0 hs0 hf kk hw hl
    have hf := if_f hf e_22
    by_cases e_23 : a0 = (23 : Int32)
    · have hf := if_t hf e_23
      refine lv_tableIn (tgt := 1006) hx hb dL_law_40 (by rw [e_23]; decide) (by rw [e_23]; decide) (off := 966) (by rw [e_23]; rfl) (by decide) ?_
      exact lc_23 hlt C hX hbl hbB i1 i2 i3 i4 i5 v1 v2 v3 v4 v5 hc0 hs0 hf kk hw hl
    have hf := if_f hf e_23
    by_cases e_24 : a0 = (24 : Int32)
    · have hf := if_t hf e_24
      refine lv_tableIn (tgt := 1046) hx hb dL_law_40 (by rw [e_24]; decide) (by rw [e_24]; decide) (off := 1006) (by rw [e_24]; rfl) (by decide) ?_
      exact lc_24 hlt C hX hbl hbB i1 i2 i3 i4 i5 v1 v2 v3 v4 v5 hc0 hs0 hf kk hw hl
    have hf := if_f hf e_24
    refine lv_tableOut (tgt := 1071) hx hb dL_law_40 (sw_out 25 (fun k hk => by rcases (show k = 0 ∨ k = 1 ∨ k = 2 ∨ k = 3 ∨ k = 4 ∨ k = 5 ∨ k = 6 ∨ k = 7 ∨ k = 8 ∨ k = 9 ∨ k = 10 ∨ k = 11 ∨ k = 12 ∨ k = 13 ∨ k = 14 ∨ k = 15 ∨ k = 16 ∨ k = 17 ∨ k = 18 ∨ k = 19 ∨ k = 20 ∨ k = 21 ∨ k = 22 ∨ k = 23 ∨ k = 24 by omega) with rfl | rfl | rfl | rfl | rfl | rfl | rfl | rfl | rfl | rfl | rfl | rfl | rfl | rfl | rfl | rfl | rfl | rfl | rfl | rfl | rfl | rfl | rfl | rfl | rfl <;> assumption)) (by decide) ?_
    refine W.widen (k := c0 + 1) (n := s0 + 6) (by omega) (by omega) ?_
    exact kk _ _ _ (by cases hf; exact hw) hl
