noncomputable def fX12_thrown (fu : Nat) (S : St) : Option (St × Int32) :=
  some (S, (S.1 63 0))
theorem mvX12_thrown : MV yX12_thrown cX12_thrown 1 (some .int) RX12 0 := ⟨gw7_165, gw7_163, gw7_164, gw1_13, by decide +kernel⟩
def rmX12_thrown : Room := { frames := 0, cells := 0, slots := 0, locals := 0 }
set_option maxHeartbeats 4000000 in
set_option maxRecDepth 100000 in
theorem m_X12_thrown (l : Launch) (D : va_G) (cA : FieldType → ClassId) (ad : Nat → Nat) (base : Nat) (fu : Nat) {S S' : St} {r : Int32} (hf : fX12_thrown fu S = some (S', r)) : Met l yX12_thrown (GC yX12_thrown cX12_thrown 1 (some .int)) rmX12_thrown (va_Pc [.ref (ad 63)] (wd D cA ad base S)) (QI D cA ad base S' r) 0 0 (aB base) := by
  refine Met.ofW (cc := cX12_thrown) (maxL := 1) (ret := (some .int)) (by decide) rfl ?_
  intro p e s m args below meth c s₁ B hml hv
  obtain ⟨hargs, hwd⟩ := hv
  have hr := B.returns
  have hlocks := B.notSynchronized
  obtain ⟨C, hw⟩ := CX.of (own := RX12) rfl B hml hwd
  have hx := C.1
  have hb := C.2.1
  have hl := lv_entry ([.ref (ad 63)]) (n := 1) (Nat.le_of_ble_eq_true rfl)
  rw [show entryFrame m args 1 = entryFrame m ([.ref (ad 63)] : List Value).toArray 1 from by rw [hargs], lg_entry_eq]
  generalize (lg_sl ([.ref (ad 63)]) ++ List.replicate (1 - (lg_sl ([.ref (ad 63)])).length) Slot.unset).toArray = ls at hl ⊢
  have hl : lv_has ls 1 [(0, .ref (ad 63))] := hl
  show W p l e rmX12_thrown s m args below meth c s.heap [] 0 0 _ _
  refine lv_aload_n hx hb dX12_thrown_0 rfl (lv_at hl 0 rfl) ?_
  refine r_getI C hw (k := 0) dq_63 ln_63 rfl vc_12 inX12 (by decide) rfl gw6_181 dX12_thrown_1 ?_
  exact r_iret C hw hr hlocks hf dX12_thrown_4
noncomputable def fX12_throwsIf (fu : Nat) (x1 : Int32) (x2 : Int32) (S : St) : Option (St × Int32) :=
  if x1 = 0 then
    gd (isB x1) <|
    some (S, x1)
  else
    sI 63 0 x2 S fun S_6 =>
    gd (isB x1) <|
    some (S_6, x1)
theorem mvX12_throwsIf : MV yX12_throwsIf cX12_throwsIf 3 (some .boolean) RX12 2 := ⟨gw7_196, gw7_195, gs_43, gw1_13, by decide +kernel⟩
def rmX12_throwsIf : Room := { frames := 0, cells := 0, slots := 0, locals := 0 }
set_option maxHeartbeats 4000000 in
set_option maxRecDepth 100000 in
theorem m_X12_throwsIf (l : Launch) (D : va_G) (cA : FieldType → ClassId) (ad : Nat → Nat) (base : Nat) (fu : Nat) {S S' : St} {x1 : Int32} {x2 : Int32} {r : Int32} (hf : fX12_throwsIf fu x1 x2 S = some (S', r)) : Met l yX12_throwsIf (GC yX12_throwsIf cX12_throwsIf 3 (some .boolean)) rmX12_throwsIf (va_Pc [.ref (ad 63), .int x1, .int x2] (wd D cA ad base S)) (QI D cA ad base S' r) 0 0 (aB base) := by
  refine Met.ofW (cc := cX12_throwsIf) (maxL := 3) (ret := (some .boolean)) (by decide) rfl ?_
  intro p e s m args below meth c s₁ B hml hv
  obtain ⟨hargs, hwd⟩ := hv
  have hr := B.returns
  have hlocks := B.notSynchronized
  obtain ⟨C, hw⟩ := CX.of (own := RX12) rfl B hml hwd
  have hx := C.1
  have hb := C.2.1
  have hl := lv_entry ([.ref (ad 63), .int x1, .int x2]) (n := 3) (Nat.le_of_ble_eq_true rfl)
  rw [show entryFrame m args 3 = entryFrame m ([.ref (ad 63), .int x1, .int x2] : List Value).toArray 3 from by rw [hargs], lg_entry_eq]
  generalize (lg_sl ([.ref (ad 63), .int x1, .int x2]) ++ List.replicate (3 - (lg_sl ([.ref (ad 63), .int x1, .int x2])).length) Slot.unset).toArray = ls at hl ⊢
  have hl : lv_has ls 3 [(0, .ref (ad 63)), (1, .int x1), (2, .int x2)] := hl
  show W p l e rmX12_throwsIf s m args below meth c s.heap [] 0 0 _ _
  refine lv_iload_n hx hb dX12_throwsIf_0 rfl (lv_at hl 1 rfl) ?_
  refine lv_if_eq (tgt := 9) hx hb dX12_throwsIf_1 (by decide) (fun c_1 => ?_) (fun c_1 => ?_)
  · have hf := if_t hf c_1
    refine lv_iload_n hx hb dX12_throwsIf_9 rfl (lv_at hl 1 rfl) ?_
    obtain ⟨z_10, hf⟩ := gd_some hf
    exact r_zret C hw hr hlocks z_10 hf dX12_throwsIf_10
  · have hf := if_f hf c_1
    refine lv_aload_n hx hb dX12_throwsIf_4 rfl (lv_at hl 0 rfl) ?_
    refine lv_iload_n hx hb dX12_throwsIf_5 rfl (lv_at hl 2 rfl) ?_
    obtain ⟨S_6, e_6, hf⟩ := sI_some hf
    refine r_putI C hw (k := 0) (ty0 := tyX12) dq_63 ln_63 rfl vc_12 inX12 tyX12_ok nmX12 (by decide) rfl rfl gw6_181 rfl rfl dX12_throwsIf_6 e_6 (fun H locs hw => ?_)
    refine lv_iload_n hx hb dX12_throwsIf_9 rfl (lv_at hl 1 rfl) ?_
    obtain ⟨z_10, hf⟩ := gd_some hf
    exact r_zret C hw hr hlocks z_10 hf dX12_throwsIf_10
noncomputable def fX12_noName_12 (fu : Nat) (S : St) : Option (St × Int32) :=
  some (S, (1 : Int32))
noncomputable def fX12_noName (fu : Nat) (x1 : Int32) (S : St) : Option (St × Int32) :=
  if x1 < 0 then
    fX12_noName_12 fu S
  else
    if x1 < (S.1 63 5) then
      some (S, (0 : Int32))
    else
      fX12_noName_12 fu S
theorem mvX12_noName : MV yX12_noName cX12_noName 2 (some .boolean) RX12 1 := ⟨gw7_220, gw7_219, gs_48, gw1_13, by decide +kernel⟩
def rmX12_noName : Room := { frames := 0, cells := 0, slots := 0, locals := 0 }
set_option maxHeartbeats 4000000 in
set_option maxRecDepth 100000 in
theorem m_X12_noName (l : Launch) (D : va_G) (cA : FieldType → ClassId) (ad : Nat → Nat) (base : Nat) (fu : Nat) {S S' : St} {x1 : Int32} {r : Int32} (hf : fX12_noName fu x1 S = some (S', r)) : Met l yX12_noName (GC yX12_noName cX12_noName 2 (some .boolean)) rmX12_noName (va_Pc [.ref (ad 63), .int x1] (wd D cA ad base S)) (QI D cA ad base S' r) 0 0 (aB base) := by
  refine Met.ofW (cc := cX12_noName) (maxL := 2) (ret := (some .boolean)) (by decide) rfl ?_
  intro p e s m args below meth c s₁ B hml hv
  obtain ⟨hargs, hwd⟩ := hv
  have hr := B.returns
  have hlocks := B.notSynchronized
  obtain ⟨C, hw⟩ := CX.of (own := RX12) rfl B hml hwd
  have hx := C.1
  have hb := C.2.1
  have hl := lv_entry ([.ref (ad 63), .int x1]) (n := 2) (Nat.le_of_ble_eq_true rfl)
  rw [show entryFrame m args 2 = entryFrame m ([.ref (ad 63), .int x1] : List Value).toArray 2 from by rw [hargs], lg_entry_eq]
  generalize (lg_sl ([.ref (ad 63), .int x1]) ++ List.replicate (2 - (lg_sl ([.ref (ad 63), .int x1])).length) Slot.unset).toArray = ls at hl ⊢
  have hl : lv_has ls 2 [(0, .ref (ad 63)), (1, .int x1)] := hl
  have J_12 : ∀ (S : St) (H : Heap) (locs : List Loc) (ls : Array Slot), fX12_noName_12 fu S = some (S', r) → lv_has ls 2 [] → WS D cA ad base s S H locs → W p l e rmX12_noName s m args below meth c H locs 0 0 (MQ below (QI D cA ad base S' r) args s 0 0 (aB base)) (F0 m 12 ls []) := by
    intro  S H locs ls hf hl hw
    refine lv_iconst (v := (1 : Int32)) hx hb dX12_noName_12 (by decide) ?_
    refine lv_goto (tgt := 17) hx hb dX12_noName_13 (by decide) ?_
    exact r_zret C hw hr hlocks rfl hf dX12_noName_17
  show W p l e rmX12_noName s m args below meth c s.heap [] 0 0 _ _
  refine lv_iload_n hx hb dX12_noName_0 rfl (lv_at hl 1 rfl) ?_
  refine lv_if_lt (tgt := 12) hx hb dX12_noName_1 (by decide) (fun c_1 => ?_) (fun c_1 => ?_)
  · have hf := if_t hf c_1
    exact J_12 _ _ _ _ hf (lv_sub hl [] rfl) hw
  · have hf := if_f hf c_1
    refine lv_iload_n hx hb dX12_noName_4 rfl (lv_at hl 1 rfl) ?_
    refine lv_aload_n hx hb dX12_noName_5 rfl (lv_at hl 0 rfl) ?_
    refine r_getI C hw (k := 5) dq_63 ln_63 rfl vc_12 inX12 (by decide) rfl gw6_186 dX12_noName_6 ?_
    refine lv_icmp_lt (tgt := 16) hx hb dX12_noName_9 (by decide) (fun c_9 => ?_) (fun c_9 => ?_)
    · have hf := if_t hf c_9
      refine lv_iconst (v := (0 : Int32)) hx hb dX12_noName_16 (by decide) ?_
      exact r_zret C hw hr hlocks rfl hf dX12_noName_17
    · have hf := if_f hf c_9
      exact J_12 _ _ _ _ hf (lv_sub hl [] rfl) hw
noncomputable def fX12_child_92 (fu : Nat) (a na : Nat) (k_3 : Int32 → Int32 → Int32 → Int32 → St → Option (St × Int32)) (x1 : Int32) (x3 : Int32) (x4 : Int32) (x5 : Int32) (x6 : Int32) (S : St) : Option (St × Int32) :=
  if x6 = 0 then
    k_3 x1 x3 x4 (x5 + (1 : Int32)) S
  else
    some (S, x5)
noncomputable def fX12_child_84 (fu : Nat) (a na : Nat) (k_3 : Int32 → Int32 → Int32 → Int32 → St → Option (St × Int32)) (k_45 : Int32 → Int32 → Int32 → Int32 → Int32 → Int32 → St → Option (St × Int32)) (x1 : Int32) (x3 : Int32) (x4 : Int32) (x5 : Int32) (x7 : Int32) (t0 : Int32) (S : St) : Option (St × Int32) :=
  k_45 x1 x3 x4 x5 t0 (x7 + (1 : Int32)) S
noncomputable def fX12_child_45 (fu : Nat) (a na : Nat) (k_3 : Int32 → Int32 → Int32 → Int32 → St → Option (St × Int32)) (n : Nat) : Int32 → Int32 → Int32 → Int32 → Int32 → Int32 → St → Option (St × Int32) :=
  Nat.rec (motive := fun _ => Int32 → Int32 → Int32 → Int32 → Int32 → Int32 → St → Option (St × Int32)) (fun _ _ _ _ _ _ _ => none) (fun _ k_45 x1 x3 x4 x5 x6 x7 S =>
    if x6 = 0 then
      fX12_child_92 fu a na k_3 x1 x3 x4 x5 x6 S
    else
      if x4 ≤ x7 then
        fX12_child_92 fu a na k_3 x1 x3 x4 x5 x6 S
      else
        gd (ck (((10 : Int32) * x5) + x7) 3000) <|
        gd (ck (x3 + x7) na) <|
        if (S.1 65 ((((10 : Int32) * x5) + x7)).toNatClampNeg) = (S.1 a ((x3 + x7)).toNatClampNeg) then
          fX12_child_84 fu a na k_3 k_45 x1 x3 x4 x5 x7 (1 : Int32) S
        else
          fX12_child_84 fu a na k_3 k_45 x1 x3 x4 x5 x7 (0 : Int32) S) n
theorem fX12_child_45_s (fu : Nat) (a na : Nat) (k_3 : Int32 → Int32 → Int32 → Int32 → St → Option (St × Int32)) (n : Nat) (x1 : Int32) (x3 : Int32) (x4 : Int32) (x5 : Int32) (x6 : Int32) (x7 : Int32) (S : St) : fX12_child_45 fu a na k_3 (n + 1) x1 x3 x4 x5 x6 x7 S = (
    if x6 = 0 then
      fX12_child_92 fu a na k_3 x1 x3 x4 x5 x6 S
    else
      if x4 ≤ x7 then
        fX12_child_92 fu a na k_3 x1 x3 x4 x5 x6 S
      else
        gd (ck (((10 : Int32) * x5) + x7) 3000) <|
        gd (ck (x3 + x7) na) <|
        if (S.1 65 ((((10 : Int32) * x5) + x7)).toNatClampNeg) = (S.1 a ((x3 + x7)).toNatClampNeg) then
          fX12_child_84 fu a na k_3 (fX12_child_45 fu a na k_3 n) x1 x3 x4 x5 x7 (1 : Int32) S
        else
          fX12_child_84 fu a na k_3 (fX12_child_45 fu a na k_3 n) x1 x3 x4 x5 x7 (0 : Int32) S) := rfl
noncomputable def fX12_child_40 (fu : Nat) (a na : Nat) (k_3 : Int32 → Int32 → Int32 → Int32 → St → Option (St × Int32)) (x1 : Int32) (x3 : Int32) (x4 : Int32) (x5 : Int32) (t0 : Int32) (S : St) : Option (St × Int32) :=
  fX12_child_45 fu a na k_3 fu x1 x3 x4 x5 t0 (0 : Int32) S
noncomputable def fX12_child_39 (fu : Nat) (a na : Nat) (k_3 : Int32 → Int32 → Int32 → Int32 → St → Option (St × Int32)) (x1 : Int32) (x3 : Int32) (x4 : Int32) (x5 : Int32) (S : St) : Option (St × Int32) :=
  fX12_child_40 fu a na k_3 x1 x3 x4 x5 (0 : Int32) S
noncomputable def fX12_child_3 (fu : Nat) (a na : Nat) (n : Nat) : Int32 → Int32 → Int32 → Int32 → St → Option (St × Int32) :=
  Nat.rec (motive := fun _ => Int32 → Int32 → Int32 → Int32 → St → Option (St × Int32)) (fun _ _ _ _ _ => none) (fun _ k_3 x1 x3 x4 x5 S =>
    if (S.1 63 5) ≤ x5 then
      some (S, (-1 : Int32))
    else
      gd (ck x5 300) <|
      if (S.1 64 (x5).toNatClampNeg) = x1 then
        gd (ck x5 300) <|
        if (S.1 66 (x5).toNatClampNeg) = x4 then
          fX12_child_40 fu a na k_3 x1 x3 x4 x5 (1 : Int32) S
        else
          fX12_child_39 fu a na k_3 x1 x3 x4 x5 S
      else
        fX12_child_39 fu a na k_3 x1 x3 x4 x5 S) n
theorem fX12_child_3_s (fu : Nat) (a na : Nat) (n : Nat) (x1 : Int32) (x3 : Int32) (x4 : Int32) (x5 : Int32) (S : St) : fX12_child_3 fu a na (n + 1) x1 x3 x4 x5 S = (
    if (S.1 63 5) ≤ x5 then
      some (S, (-1 : Int32))
    else
      gd (ck x5 300) <|
      if (S.1 64 (x5).toNatClampNeg) = x1 then
        gd (ck x5 300) <|
        if (S.1 66 (x5).toNatClampNeg) = x4 then
          fX12_child_40 fu a na (fX12_child_3 fu a na n) x1 x3 x4 x5 (1 : Int32) S
        else
          fX12_child_39 fu a na (fX12_child_3 fu a na n) x1 x3 x4 x5 S
      else
        fX12_child_39 fu a na (fX12_child_3 fu a na n) x1 x3 x4 x5 S) := rfl
noncomputable def fX12_child (fu : Nat) (a na : Nat) (x1 : Int32) (x3 : Int32) (x4 : Int32) (S : St) : Option (St × Int32) :=
  fX12_child_3 fu a na fu x1 x3 x4 (1 : Int32) S
theorem mvX12_child : MV yX12_child cX12_child 8 (some .int) RX12 4 := ⟨gw7_204, gw7_203, gs_45, gw1_13, by decide +kernel⟩
def rmX12_child : Room := { frames := 0, cells := 0, slots := 0, locals := 0 }
set_option maxHeartbeats 4000000 in
set_option maxRecDepth 100000 in
theorem m_X12_child (l : Launch) (D : va_G) (cA : FieldType → ClassId) (ad : Nat → Nat) (base : Nat) (fu : Nat) (a na : Nat) (ha : isBA a na) {S S' : St} {x1 : Int32} {x3 : Int32} {x4 : Int32} {r : Int32} (hf : fX12_child fu a na x1 x3 x4 S = some (S', r)) : Met l yX12_child (GC yX12_child cX12_child 8 (some .int)) rmX12_child (va_Pc [.ref (ad 63), .int x1, .ref (ad a), .int x3, .int x4] (wd D cA ad base S)) (QI D cA ad base S' r) 0 0 (aB base) := by
  refine Met.ofW (cc := cX12_child) (maxL := 8) (ret := (some .int)) (by decide) rfl ?_
  intro p e s m args below meth c s₁ B hml hv
  obtain ⟨hargs, hwd⟩ := hv
  have hr := B.returns
  have hlocks := B.notSynchronized
  obtain ⟨C, hw⟩ := CX.of (own := RX12) rfl B hml hwd
  have hx := C.1
  have hb := C.2.1
  have hl := lv_entry ([.ref (ad 63), .int x1, .ref (ad a), .int x3, .int x4]) (n := 8) (Nat.le_of_ble_eq_true rfl)
  rw [show entryFrame m args 8 = entryFrame m ([.ref (ad 63), .int x1, .ref (ad a), .int x3, .int x4] : List Value).toArray 8 from by rw [hargs], lg_entry_eq]
  generalize (lg_sl ([.ref (ad 63), .int x1, .ref (ad a), .int x3, .int x4]) ++ List.replicate (8 - (lg_sl ([.ref (ad 63), .int x1, .ref (ad a), .int x3, .int x4])).length) Slot.unset).toArray = ls at hl ⊢
  have hl : lv_has ls 8 [(0, .ref (ad 63)), (1, .int x1), (2, .ref (ad a)), (3, .int x3), (4, .int x4)] := hl
  have L_3 : ∀ (n_3 : Nat) (x1 : Int32) (x3 : Int32) (x4 : Int32) (x5 : Int32) (S : St) (H : Heap) (locs : List Loc) (ls : Array Slot), fX12_child_3 fu a na n_3 x1 x3 x4 x5 S = some (S', r) → lv_has ls 8 [(0, .ref (ad 63)), (1, .int x1), (2, .ref (ad a)), (3, .int x3), (4, .int x4), (5, .int x5)] → WS D cA ad base s S H locs → W p l e rmX12_child s m args below meth c H locs 0 0 (MQ below (QI D cA ad base S' r) args s 0 0 (aB base)) (F0 m 3 ls []) := by
    intro n_3
    induction n_3 with
    | zero =>
      intro x1 x3 x4 x5 S H locs ls hf hl hw
      exact (no_none hf).elim
    | succ n_3 ih_3 =>
      have J_92 : ∀ (x1 : Int32) (x3 : Int32) (x4 : Int32) (x5 : Int32) (x6 : Int32) (S : St) (H : Heap) (locs : List Loc) (ls : Array Slot), fX12_child_92 fu a na (fX12_child_3 fu a na n_3) x1 x3 x4 x5 x6 S = some (S', r) → lv_has ls 8 [(0, .ref (ad 63)), (1, .int x1), (2, .ref (ad a)), (3, .int x3), (4, .int x4), (5, .int x5), (6, .int x6)] → WS D cA ad base s S H locs → W p l e rmX12_child s m args below meth c H locs 0 0 (MQ below (QI D cA ad base S' r) args s 0 0 (aB base)) (F0 m 92 ls []) := by
        intro x1 x3 x4 x5 x6 S H locs ls hf hl hw
        refine lv_iload hx hb dX12_child_92 (lv_at hl 6 rfl) ?_
        refine lv_if_eq (tgt := 100) hx hb dX12_child_94 (by decide) (fun c_94 => ?_) (fun c_94 => ?_)
        · have hf := if_t hf c_94
          refine lv_iinc (v := (x5 + (1 : Int32))) (lv' := [(5, .int (x5 + (1 : Int32))), (0, .ref (ad 63)), (1, .int x1), (2, .ref (ad a)), (3, .int x3), (4, .int x4), (6, .int x6)]) hx hb dX12_child_100 hl (k := 5) rfl rfl (by decide) rfl (fun ls hl => ?_)
          refine lv_goto (tgt := 3) hx hb dX12_child_103 (by decide) ?_
          exact ih_3 _ _ _ _ _ _ _ _ hf (lv_sub hl [1, 2, 3, 4, 5, 0] rfl) hw
        · have hf := if_f hf c_94
          refine lv_iload hx hb dX12_child_97 (lv_at hl 5 rfl) ?_
          exact r_iret C hw hr hlocks hf dX12_child_99
      have L_45 : ∀ (n_45 : Nat) (x1 : Int32) (x3 : Int32) (x4 : Int32) (x5 : Int32) (x6 : Int32) (x7 : Int32) (S : St) (H : Heap) (locs : List Loc) (ls : Array Slot), fX12_child_45 fu a na (fX12_child_3 fu a na n_3) n_45 x1 x3 x4 x5 x6 x7 S = some (S', r) → lv_has ls 8 [(0, .ref (ad 63)), (1, .int x1), (2, .ref (ad a)), (3, .int x3), (4, .int x4), (5, .int x5), (6, .int x6), (7, .int x7)] → WS D cA ad base s S H locs → W p l e rmX12_child s m args below meth c H locs 0 0 (MQ below (QI D cA ad base S' r) args s 0 0 (aB base)) (F0 m 45 ls []) := by
        intro n_45
        induction n_45 with
        | zero =>
          intro x1 x3 x4 x5 x6 x7 S H locs ls hf hl hw
          exact (no_none hf).elim
        | succ n_45 ih_45 =>
          have J_84 : ∀ (x1 : Int32) (x3 : Int32) (x4 : Int32) (x5 : Int32) (x7 : Int32) (t0 : Int32) (S : St) (H : Heap) (locs : List Loc) (ls : Array Slot), fX12_child_84 fu a na (fX12_child_3 fu a na n_3) (fX12_child_45 fu a na (fX12_child_3 fu a na n_3) n_45) x1 x3 x4 x5 x7 t0 S = some (S', r) → lv_has ls 8 [(0, .ref (ad 63)), (1, .int x1), (2, .ref (ad a)), (3, .int x3), (4, .int x4), (5, .int x5), (7, .int x7)] → WS D cA ad base s S H locs → W p l e rmX12_child s m args below meth c H locs 0 0 (MQ below (QI D cA ad base S' r) args s 0 0 (aB base)) (F0 m 84 ls [.int t0]) := by
            intro x1 x3 x4 x5 x7 t0 S H locs ls hf hl hw
            refine lv_istore (lv' := [(6, .int t0), (0, .ref (ad 63)), (1, .int x1), (2, .ref (ad a)), (3, .int x3), (4, .int x4), (5, .int x5), (7, .int x7)]) hx hb dX12_child_84 hl (by decide) rfl (fun ls hl => ?_)
            refine lv_iinc (v := (x7 + (1 : Int32))) (lv' := [(7, .int (x7 + (1 : Int32))), (6, .int t0), (0, .ref (ad 63)), (1, .int x1), (2, .ref (ad a)), (3, .int x3), (4, .int x4), (5, .int x5)]) hx hb dX12_child_86 hl (k := 7) rfl rfl (by decide) rfl (fun ls hl => ?_)
            refine lv_goto (tgt := 45) hx hb dX12_child_89 (by decide) ?_
            exact ih_45 _ _ _ _ _ _ _ _ _ _ hf (lv_sub hl [2, 3, 4, 5, 6, 7, 1, 0] rfl) hw
          intro x1 x3 x4 x5 x6 x7 S H locs ls hf hl hw
          rw [fX12_child_45_s] at hf
          refine lv_iload hx hb dX12_child_45 (lv_at hl 6 rfl) ?_
          refine lv_if_eq (tgt := 92) hx hb dX12_child_47 (by decide) (fun c_47 => ?_) (fun c_47 => ?_)
          · have hf := if_t hf c_47
            exact J_92 _ _ _ _ _ _ _ _ _ hf (lv_sub hl [0, 1, 2, 3, 4, 5, 6] rfl) hw
          · have hf := if_f hf c_47
            refine lv_iload hx hb dX12_child_50 (lv_at hl 7 rfl) ?_
            refine lv_iload hx hb dX12_child_52 (lv_at hl 4 rfl) ?_
            refine lv_icmp_ge (tgt := 92) hx hb dX12_child_54 (by decide) (fun c_54 => ?_) (fun c_54 => ?_)
            · have hf := if_t hf c_54
              exact J_92 _ _ _ _ _ _ _ _ _ hf (lv_sub hl [0, 1, 2, 3, 4, 5, 6] rfl) hw
            · have hf := if_f hf c_54
              refine lv_aload_n hx hb dX12_child_57 rfl (lv_at hl 0 rfl) ?_
              refine r_getR C hw (k := 2) (r := 65) dq_63 ln_63 rfl vc_12 inX12 (by decide) rfl gw6_183 dX12_child_58 ?_
              refine lv_bipush (v := (10 : Int32)) hx hb dX12_child_61 (by decide) ?_
              refine lv_iload hx hb dX12_child_63 (lv_at hl 5 rfl) ?_
              refine lv_imul hx hb dX12_child_65 ?_
              refine lv_iload hx hb dX12_child_66 (lv_at hl 7 rfl) ?_
              refine lv_iadd hx hb dX12_child_68 ?_
              obtain ⟨z_69, hf⟩ := gd_some hf
              refine r_bald C hw (x := 65) dq_65 ln_65 z_69 dX12_child_69 ?_
              refine lv_aload_n hx hb dX12_child_70 rfl (lv_at hl 2 rfl) ?_
              refine lv_iload_n hx hb dX12_child_71 rfl (lv_at hl 3 rfl) ?_
              refine lv_iload hx hb dX12_child_72 (lv_at hl 7 rfl) ?_
              refine lv_iadd hx hb dX12_child_74 ?_
              obtain ⟨z_75, hf⟩ := gd_some hf
              refine r_bald C hw (x := a) ha.1 ha.2 z_75 dX12_child_75 ?_
              refine lv_icmp_ne (tgt := 83) hx hb dX12_child_76 (by decide) (fun c_76 => ?_) (fun c_76 => ?_)
              · have hf := if_f hf c_76
                refine lv_iconst (v := (0 : Int32)) hx hb dX12_child_83 (by decide) ?_
                exact J_84 _ _ _ _ _ _ _ _ _ _ hf (lv_sub hl [0, 1, 2, 3, 4, 5, 7] rfl) hw
              · have hf := if_t hf c_76
                refine lv_iconst (v := (1 : Int32)) hx hb dX12_child_79 (by decide) ?_
                refine lv_goto (tgt := 84) hx hb dX12_child_80 (by decide) ?_
                exact J_84 _ _ _ _ _ _ _ _ _ _ hf (lv_sub hl [0, 1, 2, 3, 4, 5, 7] rfl) hw
      have J_40 : ∀ (x1 : Int32) (x3 : Int32) (x4 : Int32) (x5 : Int32) (t0 : Int32) (S : St) (H : Heap) (locs : List Loc) (ls : Array Slot), fX12_child_40 fu a na (fX12_child_3 fu a na n_3) x1 x3 x4 x5 t0 S = some (S', r) → lv_has ls 8 [(0, .ref (ad 63)), (1, .int x1), (2, .ref (ad a)), (3, .int x3), (4, .int x4), (5, .int x5)] → WS D cA ad base s S H locs → W p l e rmX12_child s m args below meth c H locs 0 0 (MQ below (QI D cA ad base S' r) args s 0 0 (aB base)) (F0 m 40 ls [.int t0]) := by
        intro x1 x3 x4 x5 t0 S H locs ls hf hl hw
        refine lv_istore (lv' := [(6, .int t0), (0, .ref (ad 63)), (1, .int x1), (2, .ref (ad a)), (3, .int x3), (4, .int x4), (5, .int x5)]) hx hb dX12_child_40 hl (by decide) rfl (fun ls hl => ?_)
        refine lv_iconst (v := (0 : Int32)) hx hb dX12_child_42 (by decide) ?_
        refine lv_istore (lv' := [(7, .int (0 : Int32)), (6, .int t0), (0, .ref (ad 63)), (1, .int x1), (2, .ref (ad a)), (3, .int x3), (4, .int x4), (5, .int x5)]) hx hb dX12_child_43 hl (by decide) rfl (fun ls hl => ?_)
        exact L_45 fu _ _ _ _ _ _ _ _ _ _ hf (lv_sub hl [2, 3, 4, 5, 6, 7, 1, 0] rfl) hw
      have J_39 : ∀ (x1 : Int32) (x3 : Int32) (x4 : Int32) (x5 : Int32) (S : St) (H : Heap) (locs : List Loc) (ls : Array Slot), fX12_child_39 fu a na (fX12_child_3 fu a na n_3) x1 x3 x4 x5 S = some (S', r) → lv_has ls 8 [(0, .ref (ad 63)), (1, .int x1), (2, .ref (ad a)), (3, .int x3), (4, .int x4), (5, .int x5)] → WS D cA ad base s S H locs → W p l e rmX12_child s m args below meth c H locs 0 0 (MQ below (QI D cA ad base S' r) args s 0 0 (aB base)) (F0 m 39 ls []) := by
        intro x1 x3 x4 x5 S H locs ls hf hl hw
        refine lv_iconst (v := (0 : Int32)) hx hb dX12_child_39 (by decide) ?_
        exact J_40 _ _ _ _ _ _ _ _ _ hf (lv_sub hl [0, 1, 2, 3, 4, 5] rfl) hw
      intro x1 x3 x4 x5 S H locs ls hf hl hw
      rw [fX12_child_3_s] at hf
      refine lv_iload hx hb dX12_child_3 (lv_at hl 5 rfl) ?_
      refine lv_aload_n hx hb dX12_child_5 rfl (lv_at hl 0 rfl) ?_
      refine r_getI C hw (k := 5) dq_63 ln_63 rfl vc_12 inX12 (by decide) rfl gw6_186 dX12_child_6 ?_
      refine lv_icmp_ge (tgt := 106) hx hb dX12_child_9 (by decide) (fun c_9 => ?_) (fun c_9 => ?_)
      · have hf := if_t hf c_9
        refine lv_iconst (v := (-1 : Int32)) hx hb dX12_child_106 (by decide) ?_
        exact r_iret C hw hr hlocks hf dX12_child_107
      · have hf := if_f hf c_9
        refine lv_aload_n hx hb dX12_child_12 rfl (lv_at hl 0 rfl) ?_
        refine r_getR C hw (k := 1) (r := 64) dq_63 ln_63 rfl vc_12 inX12 (by decide) rfl gw6_182 dX12_child_13 ?_
        refine lv_iload hx hb dX12_child_16 (lv_at hl 5 rfl) ?_
        obtain ⟨z_18, hf⟩ := gd_some hf
        refine r_iald C hw (x := 64) dq_64 ln_64 z_18 dX12_child_18 ?_
        refine lv_iload_n hx hb dX12_child_19 rfl (lv_at hl 1 rfl) ?_
        refine lv_icmp_ne (tgt := 39) hx hb dX12_child_20 (by decide) (fun c_20 => ?_) (fun c_20 => ?_)
        · have hf := if_f hf c_20
          exact J_39 _ _ _ _ _ _ _ _ hf (lv_sub hl [0, 1, 2, 3, 4, 5] rfl) hw
        · have hf := if_t hf c_20
          refine lv_aload_n hx hb dX12_child_23 rfl (lv_at hl 0 rfl) ?_
          refine r_getR C hw (k := 3) (r := 66) dq_63 ln_63 rfl vc_12 inX12 (by decide) rfl gw6_184 dX12_child_24 ?_
          refine lv_iload hx hb dX12_child_27 (lv_at hl 5 rfl) ?_
          obtain ⟨z_29, hf⟩ := gd_some hf
          refine r_iald C hw (x := 66) dq_66 ln_66 z_29 dX12_child_29 ?_
          refine lv_iload hx hb dX12_child_30 (lv_at hl 4 rfl) ?_
          refine lv_icmp_ne (tgt := 39) hx hb dX12_child_32 (by decide) (fun c_32 => ?_) (fun c_32 => ?_)
          · have hf := if_f hf c_32
            exact J_39 _ _ _ _ _ _ _ _ hf (lv_sub hl [0, 1, 2, 3, 4, 5] rfl) hw
          · have hf := if_t hf c_32
            refine lv_iconst (v := (1 : Int32)) hx hb dX12_child_35 (by decide) ?_
            refine lv_goto (tgt := 40) hx hb dX12_child_36 (by decide) ?_
            exact J_40 _ _ _ _ _ _ _ _ _ hf (lv_sub hl [0, 1, 2, 3, 4, 5] rfl) hw
  show W p l e rmX12_child s m args below meth c s.heap [] 0 0 _ _
  refine lv_iconst (v := (1 : Int32)) hx hb dX12_child_0 (by decide) ?_
  refine lv_istore (lv' := [(5, .int (1 : Int32)), (0, .ref (ad 63)), (1, .int x1), (2, .ref (ad a)), (3, .int x3), (4, .int x4)]) hx hb dX12_child_1 hl (by decide) rfl (fun ls hl => ?_)
  exact L_3 fu _ _ _ _ _ _ _ _ hf (lv_sub hl [1, 2, 3, 4, 5, 0] rfl) hw
noncomputable def fX12_makes_51 (fu : Nat) (a na : Nat) (n : Nat) : Int32 → Int32 → Int32 → Int32 → St → Option (St × Int32) :=
  Nat.rec (motive := fun _ => Int32 → Int32 → Int32 → Int32 → St → Option (St × Int32)) (fun _ _ _ _ _ => none) (fun _ k_51 x3 x4 x5 x6 S =>
    if x4 ≤ x6 then
      some (S, x5)
    else
      gd (ck (x3 + x6) na) <|
      gd (ck (((10 : Int32) * x5) + x6) 3000) <|
      sI 65 ((((10 : Int32) * x5) + x6)).toNatClampNeg (vp_nar .byte (S.1 a ((x3 + x6)).toNatClampNeg)) S fun S_76 =>
      k_51 x3 x4 x5 (x6 + (1 : Int32)) S_76) n
theorem fX12_makes_51_s (fu : Nat) (a na : Nat) (n : Nat) (x3 : Int32) (x4 : Int32) (x5 : Int32) (x6 : Int32) (S : St) : fX12_makes_51 fu a na (n + 1) x3 x4 x5 x6 S = (
    if x4 ≤ x6 then
      some (S, x5)
    else
      gd (ck (x3 + x6) na) <|
      gd (ck (((10 : Int32) * x5) + x6) 3000) <|
      sI 65 ((((10 : Int32) * x5) + x6)).toNatClampNeg (vp_nar .byte (S.1 a ((x3 + x6)).toNatClampNeg)) S fun S_76 =>
      (fX12_makes_51 fu a na n) x3 x4 x5 (x6 + (1 : Int32)) S_76) := rfl
noncomputable def fX12_makes (fu : Nat) (a na : Nat) (x1 : Int32) (x3 : Int32) (x4 : Int32) (S : St) : Option (St × Int32) :=
  sI 63 5 ((S.1 63 5) + (1 : Int32)) S fun S_13 =>
  gd (ck (S.1 63 5) 300) <|
  sI 64 ((S.1 63 5)).toNatClampNeg x1 S_13 fun S_23 =>
  gd (ck x1 300) <|
  gd (ck (S.1 63 5) 300) <|
  sI 67 ((S.1 63 5)).toNatClampNeg ((S_23.1 67 (x1).toNatClampNeg) + (1 : Int32)) S_23 fun S_38 =>
  gd (ck (S.1 63 5) 300) <|
  sI 66 ((S.1 63 5)).toNatClampNeg x4 S_38 fun S_47 =>
  fX12_makes_51 fu a na fu x3 x4 (S.1 63 5) (0 : Int32) S_47
theorem mvX12_makes : MV yX12_makes cX12_makes 7 (some .int) RX12 4 := ⟨gw7_212, gw7_211, gs_47, gw1_13, by decide +kernel⟩
def rmX12_makes : Room := { frames := 0, cells := 0, slots := 0, locals := 0 }
set_option maxHeartbeats 4000000 in
set_option maxRecDepth 100000 in
theorem m_X12_makes (l : Launch) (D : va_G) (cA : FieldType → ClassId) (ad : Nat → Nat) (base : Nat) (fu : Nat) (a na : Nat) (ha : isBA a na) {S S' : St} {x1 : Int32} {x3 : Int32} {x4 : Int32} {r : Int32} (hf : fX12_makes fu a na x1 x3 x4 S = some (S', r)) : Met l yX12_makes (GC yX12_makes cX12_makes 7 (some .int)) rmX12_makes (va_Pc [.ref (ad 63), .int x1, .ref (ad a), .int x3, .int x4] (wd D cA ad base S)) (QI D cA ad base S' r) 0 0 (aB base) := by
  refine Met.ofW (cc := cX12_makes) (maxL := 7) (ret := (some .int)) (by decide) rfl ?_
  intro p e s m args below meth c s₁ B hml hv
  obtain ⟨hargs, hwd⟩ := hv
  have hr := B.returns
  have hlocks := B.notSynchronized
  obtain ⟨C, hw⟩ := CX.of (own := RX12) rfl B hml hwd
  have hx := C.1
  have hb := C.2.1
  have hl := lv_entry ([.ref (ad 63), .int x1, .ref (ad a), .int x3, .int x4]) (n := 7) (Nat.le_of_ble_eq_true rfl)
  rw [show entryFrame m args 7 = entryFrame m ([.ref (ad 63), .int x1, .ref (ad a), .int x3, .int x4] : List Value).toArray 7 from by rw [hargs], lg_entry_eq]
  generalize (lg_sl ([.ref (ad 63), .int x1, .ref (ad a), .int x3, .int x4]) ++ List.replicate (7 - (lg_sl ([.ref (ad 63), .int x1, .ref (ad a), .int x3, .int x4])).length) Slot.unset).toArray = ls at hl ⊢
  have hl : lv_has ls 7 [(0, .ref (ad 63)), (1, .int x1), (2, .ref (ad a)), (3, .int x3), (4, .int x4)] := hl
  have L_51 : ∀ (n_51 : Nat) (x3 : Int32) (x4 : Int32) (x5 : Int32) (x6 : Int32) (S : St) (H : Heap) (locs : List Loc) (ls : Array Slot), fX12_makes_51 fu a na n_51 x3 x4 x5 x6 S = some (S', r) → lv_has ls 7 [(0, .ref (ad 63)), (2, .ref (ad a)), (3, .int x3), (4, .int x4), (5, .int x5), (6, .int x6)] → WS D cA ad base s S H locs → W p l e rmX12_makes s m args below meth c H locs 0 0 (MQ below (QI D cA ad base S' r) args s 0 0 (aB base)) (F0 m 51 ls []) := by
    intro n_51
    induction n_51 with
    | zero =>
      intro x3 x4 x5 x6 S H locs ls hf hl hw
      exact (no_none hf).elim
    | succ n_51 ih_51 =>
      intro x3 x4 x5 x6 S H locs ls hf hl hw
      rw [fX12_makes_51_s] at hf
      refine lv_iload hx hb dX12_makes_51 (lv_at hl 5 rfl) ?_
      refine lv_iload hx hb dX12_makes_53 (lv_at hl 3 rfl) ?_
      refine lv_icmp_ge (tgt := 83) hx hb dX12_makes_55 (by decide) (fun c_55 => ?_) (fun c_55 => ?_)
      · have hf := if_t hf c_55
        refine lv_iload hx hb dX12_makes_83 (lv_at hl 4 rfl) ?_
        exact r_iret C hw hr hlocks hf dX12_makes_85
      · have hf := if_f hf c_55
        refine lv_aload_n hx hb dX12_makes_58 rfl (lv_at hl 0 rfl) ?_
        refine r_getR C hw (k := 2) (r := 65) dq_63 ln_63 rfl vc_12 inX12 (by decide) rfl gw6_183 dX12_makes_59 ?_
        refine lv_bipush (v := (10 : Int32)) hx hb dX12_makes_62 (by decide) ?_
        refine lv_iload hx hb dX12_makes_64 (lv_at hl 4 rfl) ?_
        refine lv_imul hx hb dX12_makes_66 ?_
        refine lv_iload hx hb dX12_makes_67 (lv_at hl 5 rfl) ?_
        refine lv_iadd hx hb dX12_makes_69 ?_
        refine lv_aload_n hx hb dX12_makes_70 rfl (lv_at hl 1 rfl) ?_
        refine lv_iload_n hx hb dX12_makes_71 rfl (lv_at hl 2 rfl) ?_
        refine lv_iload hx hb dX12_makes_72 (lv_at hl 5 rfl) ?_
        refine lv_iadd hx hb dX12_makes_74 ?_
        obtain ⟨z_75, hf⟩ := gd_some hf
        refine r_bald C hw (x := a) ha.1 ha.2 z_75 dX12_makes_75 ?_
        obtain ⟨z_76, hf⟩ := gd_some hf
        obtain ⟨S_76, e_76, hf⟩ := sI_some hf
        refine r_bast C hw (x := 65) dq_65 ln_65 z_76 dX12_makes_76 e_76 (fun H locs hw => ?_)
        refine lv_iinc (v := (x6 + (1 : Int32))) (lv' := [(6, .int (x6 + (1 : Int32))), (0, .ref (ad 63)), (2, .ref (ad a)), (3, .int x3), (4, .int x4), (5, .int x5)]) hx hb dX12_makes_77 hl (k := 5) rfl rfl (by decide) rfl (fun ls hl => ?_)
        refine lv_goto (tgt := 51) hx hb dX12_makes_80 (by decide) ?_
        exact ih_51 _ _ _ _ _ _ _ _ hf (lv_sub hl [1, 2, 3, 4, 5, 0] rfl) hw
  show W p l e rmX12_makes s m args below meth c s.heap [] 0 0 _ _
  refine lv_aload_n hx hb dX12_makes_0 rfl (lv_at hl 0 rfl) ?_
  refine r_getI C hw (k := 5) dq_63 ln_63 rfl vc_12 inX12 (by decide) rfl gw6_186 dX12_makes_1 ?_
  refine lv_istore (lv' := [(5, .int (S.1 63 5)), (0, .ref (ad 63)), (1, .int x1), (2, .ref (ad a)), (3, .int x3), (4, .int x4)]) hx hb dX12_makes_4 hl (by decide) rfl (fun ls hl => ?_)
  refine lv_aload_n hx hb dX12_makes_6 rfl (lv_at hl 1 rfl) ?_
  refine lv_dup hx hb dX12_makes_7 rfl ?_
  refine r_getI C hw (k := 5) dq_63 ln_63 rfl vc_12 inX12 (by decide) rfl gw6_186 dX12_makes_8 ?_
  refine lv_iconst (v := (1 : Int32)) hx hb dX12_makes_11 (by decide) ?_
  refine lv_iadd hx hb dX12_makes_12 ?_
  obtain ⟨S_13, e_13, hf⟩ := sI_some hf
  refine r_putI C hw (k := 5) (ty0 := tyX12) dq_63 ln_63 rfl vc_12 inX12 tyX12_ok nmX12 (by decide) rfl rfl gw6_186 rfl rfl dX12_makes_13 e_13 (fun H locs hw => ?_)
  refine lv_aload_n hx hb dX12_makes_16 rfl (lv_at hl 1 rfl) ?_
  refine r_getR C hw (k := 1) (r := 64) dq_63 ln_63 rfl vc_12 inX12 (by decide) rfl gw6_182 dX12_makes_17 ?_
  refine lv_iload hx hb dX12_makes_20 (lv_at hl 0 rfl) ?_
  refine lv_iload_n hx hb dX12_makes_22 rfl (lv_at hl 2 rfl) ?_
  obtain ⟨z_23, hf⟩ := gd_some hf
  obtain ⟨S_23, e_23, hf⟩ := sI_some hf
  refine r_iast C hw (x := 64) dq_64 ln_64 z_23 dX12_makes_23 e_23 (fun H locs hw => ?_)
  refine lv_aload_n hx hb dX12_makes_24 rfl (lv_at hl 1 rfl) ?_
  refine r_getR C hw (k := 4) (r := 67) dq_63 ln_63 rfl vc_12 inX12 (by decide) rfl gw6_185 dX12_makes_25 ?_
  refine lv_iload hx hb dX12_makes_28 (lv_at hl 0 rfl) ?_
  refine lv_aload_n hx hb dX12_makes_30 rfl (lv_at hl 1 rfl) ?_
  refine r_getR C hw (k := 4) (r := 67) dq_63 ln_63 rfl vc_12 inX12 (by decide) rfl gw6_185 dX12_makes_31 ?_
  refine lv_iload_n hx hb dX12_makes_34 rfl (lv_at hl 2 rfl) ?_
  obtain ⟨z_35, hf⟩ := gd_some hf
  refine r_iald C hw (x := 67) dq_67 ln_67 z_35 dX12_makes_35 ?_
  refine lv_iconst (v := (1 : Int32)) hx hb dX12_makes_36 (by decide) ?_
  refine lv_iadd hx hb dX12_makes_37 ?_
  obtain ⟨z_38, hf⟩ := gd_some hf
  obtain ⟨S_38, e_38, hf⟩ := sI_some hf
  refine r_iast C hw (x := 67) dq_67 ln_67 z_38 dX12_makes_38 e_38 (fun H locs hw => ?_)
  refine lv_aload_n hx hb dX12_makes_39 rfl (lv_at hl 1 rfl) ?_
  refine r_getR C hw (k := 3) (r := 66) dq_63 ln_63 rfl vc_12 inX12 (by decide) rfl gw6_184 dX12_makes_40 ?_
  refine lv_iload hx hb dX12_makes_43 (lv_at hl 0 rfl) ?_
  refine lv_iload hx hb dX12_makes_45 (lv_at hl 5 rfl) ?_
  obtain ⟨z_47, hf⟩ := gd_some hf
  obtain ⟨S_47, e_47, hf⟩ := sI_some hf
  refine r_iast C hw (x := 66) dq_66 ln_66 z_47 dX12_makes_47 e_47 (fun H locs hw => ?_)
  refine lv_iconst (v := (0 : Int32)) hx hb dX12_makes_48 (by decide) ?_
  refine lv_istore (lv' := [(6, .int (0 : Int32)), (5, .int (S.1 63 5)), (0, .ref (ad 63)), (1, .int x1), (2, .ref (ad a)), (3, .int x3), (4, .int x4)]) hx hb dX12_makes_49 hl (by decide) rfl (fun ls hl => ?_)
  exact L_51 fu _ _ _ _ _ _ _ _ hf (lv_sub hl [2, 4, 5, 6, 1, 0] rfl) hw
noncomputable def fX12_isIn_2 (fu : Nat) (n : Nat) : Int32 → Int32 → St → Option (St × Int32) :=
  Nat.rec (motive := fun _ => Int32 → Int32 → St → Option (St × Int32)) (fun _ _ _ => none) (fun _ k_2 x2 x3 S =>
    gd (ck x3 300) <|
    gd (ck x2 300) <|
    if (S.1 67 (x3).toNatClampNeg) ≤ (S.1 67 (x2).toNatClampNeg) then
      if x3 = x2 then
        some (S, (1 : Int32))
      else
        some (S, (0 : Int32))
    else
      gd (ck x3 300) <|
      k_2 x2 (S.1 64 (x3).toNatClampNeg) S) n
theorem fX12_isIn_2_s (fu : Nat) (n : Nat) (x2 : Int32) (x3 : Int32) (S : St) : fX12_isIn_2 fu (n + 1) x2 x3 S = (
    gd (ck x3 300) <|
    gd (ck x2 300) <|
    if (S.1 67 (x3).toNatClampNeg) ≤ (S.1 67 (x2).toNatClampNeg) then
      if x3 = x2 then
        some (S, (1 : Int32))
      else
        some (S, (0 : Int32))
    else
      gd (ck x3 300) <|
      (fX12_isIn_2 fu n) x2 (S.1 64 (x3).toNatClampNeg) S) := rfl
noncomputable def fX12_isIn (fu : Nat) (x1 : Int32) (x2 : Int32) (S : St) : Option (St × Int32) :=
  fX12_isIn_2 fu fu x2 x1 S
theorem mvX12_isIn : MV yX12_isIn cX12_isIn 4 (some .boolean) RX12 2 := ⟨gw8_8, gw8_7, gs_51, gw1_13, by decide +kernel⟩
def rmX12_isIn : Room := { frames := 0, cells := 0, slots := 0, locals := 0 }
set_option maxHeartbeats 4000000 in
set_option maxRecDepth 100000 in
theorem m_X12_isIn (l : Launch) (D : va_G) (cA : FieldType → ClassId) (ad : Nat → Nat) (base : Nat) (fu : Nat) {S S' : St} {x1 : Int32} {x2 : Int32} {r : Int32} (hf : fX12_isIn fu x1 x2 S = some (S', r)) : Met l yX12_isIn (GC yX12_isIn cX12_isIn 4 (some .boolean)) rmX12_isIn (va_Pc [.ref (ad 63), .int x1, .int x2] (wd D cA ad base S)) (QI D cA ad base S' r) 0 0 (aB base) := by
  refine Met.ofW (cc := cX12_isIn) (maxL := 4) (ret := (some .boolean)) (by decide) rfl ?_
  intro p e s m args below meth c s₁ B hml hv
  obtain ⟨hargs, hwd⟩ := hv
  have hr := B.returns
  have hlocks := B.notSynchronized
  obtain ⟨C, hw⟩ := CX.of (own := RX12) rfl B hml hwd
  have hx := C.1
  have hb := C.2.1
  have hl := lv_entry ([.ref (ad 63), .int x1, .int x2]) (n := 4) (Nat.le_of_ble_eq_true rfl)
  rw [show entryFrame m args 4 = entryFrame m ([.ref (ad 63), .int x1, .int x2] : List Value).toArray 4 from by rw [hargs], lg_entry_eq]
  generalize (lg_sl ([.ref (ad 63), .int x1, .int x2]) ++ List.replicate (4 - (lg_sl ([.ref (ad 63), .int x1, .int x2])).length) Slot.unset).toArray = ls at hl ⊢
  have hl : lv_has ls 4 [(0, .ref (ad 63)), (1, .int x1), (2, .int x2)] := hl
  have L_2 : ∀ (n_2 : Nat) (x2 : Int32) (x3 : Int32) (S : St) (H : Heap) (locs : List Loc) (ls : Array Slot), fX12_isIn_2 fu n_2 x2 x3 S = some (S', r) → lv_has ls 4 [(0, .ref (ad 63)), (2, .int x2), (3, .int x3)] → WS D cA ad base s S H locs → W p l e rmX12_isIn s m args below meth c H locs 0 0 (MQ below (QI D cA ad base S' r) args s 0 0 (aB base)) (F0 m 2 ls []) := by
    intro n_2
    induction n_2 with
    | zero =>
      intro x2 x3 S H locs ls hf hl hw
      exact (no_none hf).elim
    | succ n_2 ih_2 =>
      intro x2 x3 S H locs ls hf hl hw
      rw [fX12_isIn_2_s] at hf
      refine lv_aload_n hx hb dX12_isIn_2 rfl (lv_at hl 0 rfl) ?_
      refine r_getR C hw (k := 4) (r := 67) dq_63 ln_63 rfl vc_12 inX12 (by decide) rfl gw6_185 dX12_isIn_3 ?_
      refine lv_iload_n hx hb dX12_isIn_6 rfl (lv_at hl 2 rfl) ?_
      obtain ⟨z_7, hf⟩ := gd_some hf
      refine r_iald C hw (x := 67) dq_67 ln_67 z_7 dX12_isIn_7 ?_
      refine lv_aload_n hx hb dX12_isIn_8 rfl (lv_at hl 0 rfl) ?_
      refine r_getR C hw (k := 4) (r := 67) dq_63 ln_63 rfl vc_12 inX12 (by decide) rfl gw6_185 dX12_isIn_9 ?_
      refine lv_iload_n hx hb dX12_isIn_12 rfl (lv_at hl 1 rfl) ?_
      obtain ⟨z_13, hf⟩ := gd_some hf
      refine r_iald C hw (x := 67) dq_67 ln_67 z_13 dX12_isIn_13 ?_
      refine lv_icmp_le (tgt := 27) hx hb dX12_isIn_14 (by decide) (fun c_14 => ?_) (fun c_14 => ?_)
      · have hf := if_t hf c_14
        refine lv_iload_n hx hb dX12_isIn_27 rfl (lv_at hl 2 rfl) ?_
        refine lv_iload_n hx hb dX12_isIn_28 rfl (lv_at hl 1 rfl) ?_
        refine lv_icmp_ne (tgt := 36) hx hb dX12_isIn_29 (by decide) (fun c_29 => ?_) (fun c_29 => ?_)
        · have hf := if_f hf c_29
          refine lv_iconst (v := (0 : Int32)) hx hb dX12_isIn_36 (by decide) ?_
          exact r_zret C hw hr hlocks rfl hf dX12_isIn_37
        · have hf := if_t hf c_29
          refine lv_iconst (v := (1 : Int32)) hx hb dX12_isIn_32 (by decide) ?_
          refine lv_goto (tgt := 37) hx hb dX12_isIn_33 (by decide) ?_
          exact r_zret C hw hr hlocks rfl hf dX12_isIn_37
      · have hf := if_f hf c_14
        refine lv_aload_n hx hb dX12_isIn_17 rfl (lv_at hl 0 rfl) ?_
        refine r_getR C hw (k := 1) (r := 64) dq_63 ln_63 rfl vc_12 inX12 (by decide) rfl gw6_182 dX12_isIn_18 ?_
        refine lv_iload_n hx hb dX12_isIn_21 rfl (lv_at hl 2 rfl) ?_
        obtain ⟨z_22, hf⟩ := gd_some hf
        refine r_iald C hw (x := 64) dq_64 ln_64 z_22 dX12_isIn_22 ?_
        refine lv_istore_n (lv' := [(3, .int (S.1 64 (x3).toNatClampNeg)), (0, .ref (ad 63)), (2, .int x2)]) hx hb dX12_isIn_23 rfl hl (by decide) rfl (fun ls hl => ?_)
        refine lv_goto (tgt := 2) hx hb dX12_isIn_24 (by decide) ?_
        exact ih_2 _ _ _ _ _ _ hf (lv_sub hl [1, 2, 0] rfl) hw
  show W p l e rmX12_isIn s m args below meth c s.heap [] 0 0 _ _
  refine lv_iload_n hx hb dX12_isIn_0 rfl (lv_at hl 1 rfl) ?_
  refine lv_istore_n (lv' := [(3, .int x1), (0, .ref (ad 63)), (1, .int x1), (2, .int x2)]) hx hb dX12_isIn_1 rfl hl (by decide) rfl (fun ls hl => ?_)
  exact L_2 fu _ _ _ _ _ _ hf (lv_sub hl [1, 3, 0] rfl) hw
noncomputable def fX12_isLetter_30 (fu : Nat) (S : St) : Option (St × Int32) :=
  some (S, (1 : Int32))
noncomputable def fX12_isLetter_24 (fu : Nat) (x0 : Int32) (S : St) : Option (St × Int32) :=
  if x0 = (45 : Int32) then
    fX12_isLetter_30 fu S
  else
    some (S, (0 : Int32))
noncomputable def fX12_isLetter_12 (fu : Nat) (x0 : Int32) (S : St) : Option (St × Int32) :=
  if x0 < (48 : Int32) then
    fX12_isLetter_24 fu x0 S
  else
    if x0 ≤ (57 : Int32) then
      fX12_isLetter_30 fu S
    else
      fX12_isLetter_24 fu x0 S
noncomputable def fX12_isLetter (fu : Nat) (x0 : Int32) (S : St) : Option (St × Int32) :=
  if x0 < (97 : Int32) then
    fX12_isLetter_12 fu x0 S
  else
    if x0 ≤ (122 : Int32) then
      fX12_isLetter_30 fu S
    else
      fX12_isLetter_12 fu x0 S
theorem msX12_isLetter : MS yX12_isLetter cX12_isLetter 1 (some .boolean) 1 := ⟨gw7_192, gw7_191, gw1_13, by decide +kernel⟩
def rmX12_isLetter : Room := { frames := 0, cells := 0, slots := 0, locals := 0 }
set_option maxHeartbeats 4000000 in
set_option maxRecDepth 100000 in
theorem m_X12_isLetter (l : Launch) (D : va_G) (cA : FieldType → ClassId) (ad : Nat → Nat) (base : Nat) (fu : Nat) {S S' : St} {x0 : Int32} {r : Int32} (hf : fX12_isLetter fu x0 S = some (S', r)) : Met l yX12_isLetter (GC yX12_isLetter cX12_isLetter 1 (some .boolean)) rmX12_isLetter (va_Pc [.int x0] (wd D cA ad base S)) (QI D cA ad base S' r) 0 0 (aB base) := by
  refine Met.ofW (cc := cX12_isLetter) (maxL := 1) (ret := (some .boolean)) (by decide) rfl ?_
  intro p e s m args below meth c s₁ B hml hv
  obtain ⟨hargs, hwd⟩ := hv
  have hr := B.returns
  have hlocks := B.notSynchronized
  obtain ⟨C, hw⟩ := CX.of (own := RX12) rfl B hml hwd
  have hx := C.1
  have hb := C.2.1
  have hl := lv_entry ([.int x0]) (n := 1) (Nat.le_of_ble_eq_true rfl)
  rw [show entryFrame m args 1 = entryFrame m ([.int x0] : List Value).toArray 1 from by rw [hargs], lg_entry_eq]
  generalize (lg_sl ([.int x0]) ++ List.replicate (1 - (lg_sl ([.int x0])).length) Slot.unset).toArray = ls at hl ⊢
  have hl : lv_has ls 1 [(0, .int x0)] := hl
  have J_30 : ∀ (S : St) (H : Heap) (locs : List Loc) (ls : Array Slot), fX12_isLetter_30 fu S = some (S', r) → lv_has ls 1 [] → WS D cA ad base s S H locs → W p l e rmX12_isLetter s m args below meth c H locs 0 0 (MQ below (QI D cA ad base S' r) args s 0 0 (aB base)) (F0 m 30 ls []) := by
    intro  S H locs ls hf hl hw
    refine lv_iconst (v := (1 : Int32)) hx hb dX12_isLetter_30 (by decide) ?_
    refine lv_goto (tgt := 35) hx hb dX12_isLetter_31 (by decide) ?_
    exact r_zret C hw hr hlocks rfl hf dX12_isLetter_35
  have J_24 : ∀ (x0 : Int32) (S : St) (H : Heap) (locs : List Loc) (ls : Array Slot), fX12_isLetter_24 fu x0 S = some (S', r) → lv_has ls 1 [(0, .int x0)] → WS D cA ad base s S H locs → W p l e rmX12_isLetter s m args below meth c H locs 0 0 (MQ below (QI D cA ad base S' r) args s 0 0 (aB base)) (F0 m 24 ls []) := by
    intro x0 S H locs ls hf hl hw
    refine lv_iload_n hx hb dX12_isLetter_24 rfl (lv_at hl 0 rfl) ?_
    refine lv_bipush (v := (45 : Int32)) hx hb dX12_isLetter_25 (by decide) ?_
    refine lv_icmp_ne (tgt := 34) hx hb dX12_isLetter_27 (by decide) (fun c_27 => ?_) (fun c_27 => ?_)
    · have hf := if_f hf c_27
      refine lv_iconst (v := (0 : Int32)) hx hb dX12_isLetter_34 (by decide) ?_
      exact r_zret C hw hr hlocks rfl hf dX12_isLetter_35
    · have hf := if_t hf c_27
      exact J_30 _ _ _ _ hf (lv_sub hl [] rfl) hw
  have J_12 : ∀ (x0 : Int32) (S : St) (H : Heap) (locs : List Loc) (ls : Array Slot), fX12_isLetter_12 fu x0 S = some (S', r) → lv_has ls 1 [(0, .int x0)] → WS D cA ad base s S H locs → W p l e rmX12_isLetter s m args below meth c H locs 0 0 (MQ below (QI D cA ad base S' r) args s 0 0 (aB base)) (F0 m 12 ls []) := by
    intro x0 S H locs ls hf hl hw
    refine lv_iload_n hx hb dX12_isLetter_12 rfl (lv_at hl 0 rfl) ?_
    refine lv_bipush (v := (48 : Int32)) hx hb dX12_isLetter_13 (by decide) ?_
    refine lv_icmp_lt (tgt := 24) hx hb dX12_isLetter_15 (by decide) (fun c_15 => ?_) (fun c_15 => ?_)
    · have hf := if_t hf c_15
      exact J_24 _ _ _ _ _ hf (lv_sub hl [0] rfl) hw
    · have hf := if_f hf c_15
      refine lv_iload_n hx hb dX12_isLetter_18 rfl (lv_at hl 0 rfl) ?_
      refine lv_bipush (v := (57 : Int32)) hx hb dX12_isLetter_19 (by decide) ?_
      refine lv_icmp_le (tgt := 30) hx hb dX12_isLetter_21 (by decide) (fun c_21 => ?_) (fun c_21 => ?_)
      · have hf := if_t hf c_21
        exact J_30 _ _ _ _ hf (lv_sub hl [] rfl) hw
      · have hf := if_f hf c_21
        exact J_24 _ _ _ _ _ hf (lv_sub hl [0] rfl) hw
  show W p l e rmX12_isLetter s m args below meth c s.heap [] 0 0 _ _
  refine lv_iload_n hx hb dX12_isLetter_0 rfl (lv_at hl 0 rfl) ?_
  refine lv_bipush (v := (97 : Int32)) hx hb dX12_isLetter_1 (by decide) ?_
  refine lv_icmp_lt (tgt := 12) hx hb dX12_isLetter_3 (by decide) (fun c_3 => ?_) (fun c_3 => ?_)
  · have hf := if_t hf c_3
    exact J_12 _ _ _ _ _ hf (lv_sub hl [0] rfl) hw
  · have hf := if_f hf c_3
    refine lv_iload_n hx hb dX12_isLetter_6 rfl (lv_at hl 0 rfl) ?_
    refine lv_bipush (v := (122 : Int32)) hx hb dX12_isLetter_7 (by decide) ?_
    refine lv_icmp_le (tgt := 30) hx hb dX12_isLetter_9 (by decide) (fun c_9 => ?_) (fun c_9 => ?_)
    · have hf := if_t hf c_9
      exact J_30 _ _ _ _ hf (lv_sub hl [] rfl) hw
    · have hf := if_f hf c_9
      exact J_12 _ _ _ _ _ hf (lv_sub hl [0] rfl) hw
noncomputable def fX12_missing_9 (fu : Nat) (a na : Nat) (n : Nat) : Int32 → Int32 → St → Option (St × Int32) :=
  Nat.rec (motive := fun _ => Int32 → Int32 → St → Option (St × Int32)) (fun _ _ _ => none) (fun _ k_9 x2 x3 S =>
    if x3 < 0 then
      some (S, (0 : Int32))
    else
      gd (ck x3 8) <|
      gd (ck x3 8) <|
      bd (fX12_child fu a na x2 (S.1 68 (x3).toNatClampNeg) (S.1 69 (x3).toNatClampNeg) S) fun S_28 r_28 =>
      if 0 ≤ r_28 then
        k_9 r_28 (x3 + (-1 : Int32)) S_28
      else
        some (S_28, (x3 + (1 : Int32)))) n
theorem fX12_missing_9_s (fu : Nat) (a na : Nat) (n : Nat) (x2 : Int32) (x3 : Int32) (S : St) : fX12_missing_9 fu a na (n + 1) x2 x3 S = (
    if x3 < 0 then
      some (S, (0 : Int32))
    else
      gd (ck x3 8) <|
      gd (ck x3 8) <|
      bd (fX12_child fu a na x2 (S.1 68 (x3).toNatClampNeg) (S.1 69 (x3).toNatClampNeg) S) fun S_28 r_28 =>
      if 0 ≤ r_28 then
        (fX12_missing_9 fu a na n) r_28 (x3 + (-1 : Int32)) S_28
      else
        some (S_28, (x3 + (1 : Int32)))) := rfl
noncomputable def fX12_missing (fu : Nat) (a na : Nat) (S : St) : Option (St × Int32) :=
  fX12_missing_9 fu a na fu (0 : Int32) ((S.1 63 8) - (1 : Int32)) S
theorem mvX12_missing : MV yX12_missing cX12_missing 4 (some .int) RX12 1 := ⟨gw7_200, gw7_199, gs_44, gw1_13, by decide +kernel⟩
def rmX12_missing : Room := { frames := 1, cells := 0, slots := 0, locals := 27 }
set_option maxHeartbeats 4000000 in
set_option maxRecDepth 100000 in
theorem m_X12_missing (l : Launch) (D : va_G) (cA : FieldType → ClassId) (ad : Nat → Nat) (base : Nat) (fu : Nat) (a na : Nat) (ha : isBA a na) {S S' : St} {r : Int32} (hf : fX12_missing fu a na S = some (S', r)) : Met l yX12_missing (GC yX12_missing cX12_missing 4 (some .int)) rmX12_missing (va_Pc [.ref (ad 63), .ref (ad a)] (wd D cA ad base S)) (QI D cA ad base S' r) 0 0 (aB base) := by
  refine Met.ofW (cc := cX12_missing) (maxL := 4) (ret := (some .int)) (by decide) rfl ?_
  intro p e s m args below meth c s₁ B hml hv
  obtain ⟨hargs, hwd⟩ := hv
  have hr := B.returns
  have hlocks := B.notSynchronized
  obtain ⟨C, hw⟩ := CX.of (own := RX12) rfl B hml hwd
  have hx := C.1
  have hb := C.2.1
  have hl := lv_entry ([.ref (ad 63), .ref (ad a)]) (n := 4) (Nat.le_of_ble_eq_true rfl)
  rw [show entryFrame m args 4 = entryFrame m ([.ref (ad 63), .ref (ad a)] : List Value).toArray 4 from by rw [hargs], lg_entry_eq]
  generalize (lg_sl ([.ref (ad 63), .ref (ad a)]) ++ List.replicate (4 - (lg_sl ([.ref (ad 63), .ref (ad a)])).length) Slot.unset).toArray = ls at hl ⊢
  have hl : lv_has ls 4 [(0, .ref (ad 63)), (1, .ref (ad a))] := hl
  have L_9 : ∀ (n_9 : Nat) (x2 : Int32) (x3 : Int32) (S : St) (H : Heap) (locs : List Loc) (ls : Array Slot), fX12_missing_9 fu a na n_9 x2 x3 S = some (S', r) → lv_has ls 4 [(0, .ref (ad 63)), (1, .ref (ad a)), (2, .int x2), (3, .int x3)] → WS D cA ad base s S H locs → W p l e rmX12_missing s m args below meth c H locs 0 0 (MQ below (QI D cA ad base S' r) args s 0 0 (aB base)) (F0 m 9 ls []) := by
    intro n_9
    induction n_9 with
    | zero =>
      intro x2 x3 S H locs ls hf hl hw
      exact (no_none hf).elim
    | succ n_9 ih_9 =>
      intro x2 x3 S H locs ls hf hl hw
      rw [fX12_missing_9_s] at hf
      refine lv_iload_n hx hb dX12_missing_9 rfl (lv_at hl 3 rfl) ?_
      refine lv_if_lt (tgt := 46) hx hb dX12_missing_10 (by decide) (fun c_10 => ?_) (fun c_10 => ?_)
      · have hf := if_t hf c_10
        refine lv_iconst (v := (0 : Int32)) hx hb dX12_missing_46 (by decide) ?_
        exact r_iret C hw hr hlocks hf dX12_missing_47
      · have hf := if_f hf c_10
        refine lv_aload_n hx hb dX12_missing_13 rfl (lv_at hl 0 rfl) ?_
        refine lv_iload_n hx hb dX12_missing_14 rfl (lv_at hl 2 rfl) ?_
        refine lv_aload_n hx hb dX12_missing_15 rfl (lv_at hl 1 rfl) ?_
        refine lv_aload_n hx hb dX12_missing_16 rfl (lv_at hl 0 rfl) ?_
        refine r_getR C hw (k := 6) (r := 68) dq_63 ln_63 rfl vc_12 inX12 (by decide) rfl gw6_187 dX12_missing_17 ?_
        refine lv_iload_n hx hb dX12_missing_20 rfl (lv_at hl 3 rfl) ?_
        obtain ⟨z_21, hf⟩ := gd_some hf
        refine r_iald C hw (x := 68) dq_68 ln_68 z_21 dX12_missing_21 ?_
        refine lv_aload_n hx hb dX12_missing_22 rfl (lv_at hl 0 rfl) ?_
        refine r_getR C hw (k := 7) (r := 69) dq_63 ln_63 rfl vc_12 inX12 (by decide) rfl gw6_188 dX12_missing_23 ?_
        refine lv_iload_n hx hb dX12_missing_26 rfl (lv_at hl 3 rfl) ?_
        obtain ⟨z_27, hf⟩ := gd_some hf
        refine r_iald C hw (x := 69) dq_69 ln_69 z_27 dX12_missing_27 ?_
        obtain ⟨S_28, r_28, h_28, hf⟩ := bd_some hf
        refine r_bi hw (r_runV (rest := []) C hw (m_X12_child l D cA ad base fu a na ⟨ha.1, ha.2⟩ h_28) mvX12_child gw7_201 ⟨rfl, rfl, Nat.le_of_ble_eq_true rfl, Nat.le_of_ble_eq_true rfl⟩ dq_63 ln_63 vc_12 rfl hl.1 rfl (Nat.le_of_ble_eq_true rfl) dX12_missing_28 (Nat.zero_le _) (Nat.zero_le _)) (fun H locs hw => ?_)
        refine lv_istore_n (lv' := [(2, .int r_28), (0, .ref (ad 63)), (1, .ref (ad a)), (3, .int x3)]) hx hb dX12_missing_31 rfl hl (by decide) rfl (fun ls hl => ?_)
        refine lv_iload_n hx hb dX12_missing_32 rfl (lv_at hl 0 rfl) ?_
        refine lv_if_ge (tgt := 40) hx hb dX12_missing_33 (by decide) (fun c_33 => ?_) (fun c_33 => ?_)
        · have hf := if_t hf c_33
          refine lv_iinc (v := (x3 + (-1 : Int32))) (lv' := [(3, .int (x3 + (-1 : Int32))), (2, .int r_28), (0, .ref (ad 63)), (1, .ref (ad a))]) hx hb dX12_missing_40 hl (k := 3) rfl rfl (by decide) rfl (fun ls hl => ?_)
          refine lv_goto (tgt := 9) hx hb dX12_missing_43 (by decide) ?_
          exact ih_9 _ _ _ _ _ _ hf (lv_sub hl [2, 3, 1, 0] rfl) hw
        · have hf := if_f hf c_33
          refine lv_iload_n hx hb dX12_missing_36 rfl (lv_at hl 3 rfl) ?_
          refine lv_iconst (v := (1 : Int32)) hx hb dX12_missing_37 (by decide) ?_
          refine lv_iadd hx hb dX12_missing_38 ?_
          exact r_iret C hw hr hlocks hf dX12_missing_39
  show W p l e rmX12_missing s m args below meth c s.heap [] 0 0 _ _
  refine lv_iconst (v := (0 : Int32)) hx hb dX12_missing_0 (by decide) ?_
  refine lv_istore_n (lv' := [(2, .int (0 : Int32)), (0, .ref (ad 63)), (1, .ref (ad a))]) hx hb dX12_missing_1 rfl hl (by decide) rfl (fun ls hl => ?_)
  refine lv_aload_n hx hb dX12_missing_2 rfl (lv_at hl 1 rfl) ?_
  refine r_getI C hw (k := 8) dq_63 ln_63 rfl vc_12 inX12 (by decide) rfl gw6_189 dX12_missing_3 ?_
  refine lv_iconst (v := (1 : Int32)) hx hb dX12_missing_6 (by decide) ?_
  refine lv_isub hx hb dX12_missing_7 ?_
  refine lv_istore_n (lv' := [(3, .int ((S.1 63 8) - (1 : Int32))), (2, .int (0 : Int32)), (0, .ref (ad 63)), (1, .ref (ad a))]) hx hb dX12_missing_8 rfl hl (by decide) rfl (fun ls hl => ?_)
  exact L_9 fu _ _ _ _ _ _ hf (lv_sub hl [2, 3, 1, 0] rfl) hw
noncomputable def fX12_named_78 (fu : Nat) (a na : Nat) (k_9 : Int32 → Int32 → St → Option (St × Int32)) (x3 : Int32) (t0 : Int32) (S : St) : Option (St × Int32) :=
  k_9 t0 (x3 + (-1 : Int32)) S
noncomputable def fX12_named_50 (fu : Nat) (a na : Nat) (k_9 : Int32 → Int32 → St → Option (St × Int32)) (x2 : Int32) (x3 : Int32) (x4 : Int32) (S : St) : Option (St × Int32) :=
  if 0 ≤ x4 then
    fX12_named_78 fu a na k_9 x3 x4 S
  else
    gd (ck x3 8) <|
    gd (ck x3 8) <|
    bd (fX12_makes fu a na x2 (S.1 68 (x3).toNatClampNeg) (S.1 69 (x3).toNatClampNeg) S) fun S_70 r_70 =>
    fX12_named_78 fu a na k_9 x3 r_70 S_70
noncomputable def fX12_named_9 (fu : Nat) (a na : Nat) (n : Nat) : Int32 → Int32 → St → Option (St × Int32) :=
  Nat.rec (motive := fun _ => Int32 → Int32 → St → Option (St × Int32)) (fun _ _ _ => none) (fun _ k_9 x2 x3 S =>
    if x3 < 0 then
      some (S, x2)
    else
      gd (ck x3 8) <|
      gd (ck x3 8) <|
      bd (fX12_child fu a na x2 (S.1 68 (x3).toNatClampNeg) (S.1 69 (x3).toNatClampNeg) S) fun S_28 r_28 =>
      if 0 ≤ r_28 then
        fX12_named_50 fu a na k_9 x2 x3 r_28 S_28
      else
        if (S_28.1 63 5) = (300 : Int32) then
          some (S_28, (-1 : Int32))
        else
          fX12_named_50 fu a na k_9 x2 x3 r_28 S_28) n
theorem fX12_named_9_s (fu : Nat) (a na : Nat) (n : Nat) (x2 : Int32) (x3 : Int32) (S : St) : fX12_named_9 fu a na (n + 1) x2 x3 S = (
    if x3 < 0 then
      some (S, x2)
    else
      gd (ck x3 8) <|
      gd (ck x3 8) <|
      bd (fX12_child fu a na x2 (S.1 68 (x3).toNatClampNeg) (S.1 69 (x3).toNatClampNeg) S) fun S_28 r_28 =>
      if 0 ≤ r_28 then
        fX12_named_50 fu a na (fX12_named_9 fu a na n) x2 x3 r_28 S_28
      else
        if (S_28.1 63 5) = (300 : Int32) then
          some (S_28, (-1 : Int32))
        else
          fX12_named_50 fu a na (fX12_named_9 fu a na n) x2 x3 r_28 S_28) := rfl
noncomputable def fX12_named (fu : Nat) (a na : Nat) (S : St) : Option (St × Int32) :=
  fX12_named_9 fu a na fu (0 : Int32) ((S.1 63 8) - (1 : Int32)) S
theorem mvX12_named : MV yX12_named cX12_named 5 (some .int) RX12 1 := ⟨gw7_208, gw7_207, gs_46, gw1_13, by decide +kernel⟩
def rmX12_named : Room := { frames := 1, cells := 0, slots := 0, locals := 27 }
set_option maxHeartbeats 4000000 in
set_option maxRecDepth 100000 in
theorem m_X12_named (l : Launch) (D : va_G) (cA : FieldType → ClassId) (ad : Nat → Nat) (base : Nat) (fu : Nat) (a na : Nat) (ha : isBA a na) {S S' : St} {r : Int32} (hf : fX12_named fu a na S = some (S', r)) : Met l yX12_named (GC yX12_named cX12_named 5 (some .int)) rmX12_named (va_Pc [.ref (ad 63), .ref (ad a)] (wd D cA ad base S)) (QI D cA ad base S' r) 0 0 (aB base) := by
  refine Met.ofW (cc := cX12_named) (maxL := 5) (ret := (some .int)) (by decide) rfl ?_
  intro p e s m args below meth c s₁ B hml hv
  obtain ⟨hargs, hwd⟩ := hv
  have hr := B.returns
  have hlocks := B.notSynchronized
  obtain ⟨C, hw⟩ := CX.of (own := RX12) rfl B hml hwd
  have hx := C.1
  have hb := C.2.1
  have hl := lv_entry ([.ref (ad 63), .ref (ad a)]) (n := 5) (Nat.le_of_ble_eq_true rfl)
  rw [show entryFrame m args 5 = entryFrame m ([.ref (ad 63), .ref (ad a)] : List Value).toArray 5 from by rw [hargs], lg_entry_eq]
  generalize (lg_sl ([.ref (ad 63), .ref (ad a)]) ++ List.replicate (5 - (lg_sl ([.ref (ad 63), .ref (ad a)])).length) Slot.unset).toArray = ls at hl ⊢
  have hl : lv_has ls 5 [(0, .ref (ad 63)), (1, .ref (ad a))] := hl
  have L_9 : ∀ (n_9 : Nat) (x2 : Int32) (x3 : Int32) (S : St) (H : Heap) (locs : List Loc) (ls : Array Slot), fX12_named_9 fu a na n_9 x2 x3 S = some (S', r) → lv_has ls 5 [(0, .ref (ad 63)), (1, .ref (ad a)), (2, .int x2), (3, .int x3)] → WS D cA ad base s S H locs → W p l e rmX12_named s m args below meth c H locs 0 0 (MQ below (QI D cA ad base S' r) args s 0 0 (aB base)) (F0 m 9 ls []) := by
    intro n_9
    induction n_9 with
    | zero =>
      intro x2 x3 S H locs ls hf hl hw
      exact (no_none hf).elim
    | succ n_9 ih_9 =>
      have J_78 : ∀ (x3 : Int32) (t0 : Int32) (S : St) (H : Heap) (locs : List Loc) (ls : Array Slot), fX12_named_78 fu a na (fX12_named_9 fu a na n_9) x3 t0 S = some (S', r) → lv_has ls 5 [(0, .ref (ad 63)), (1, .ref (ad a)), (3, .int x3)] → WS D cA ad base s S H locs → W p l e rmX12_named s m args below meth c H locs 0 0 (MQ below (QI D cA ad base S' r) args s 0 0 (aB base)) (F0 m 78 ls [.int t0]) := by
        intro x3 t0 S H locs ls hf hl hw
        refine lv_istore_n (lv' := [(2, .int t0), (0, .ref (ad 63)), (1, .ref (ad a)), (3, .int x3)]) hx hb dX12_named_78 rfl hl (by decide) rfl (fun ls hl => ?_)
        refine lv_iinc (v := (x3 + (-1 : Int32))) (lv' := [(3, .int (x3 + (-1 : Int32))), (2, .int t0), (0, .ref (ad 63)), (1, .ref (ad a))]) hx hb dX12_named_79 hl (k := 3) rfl rfl (by decide) rfl (fun ls hl => ?_)
        refine lv_goto (tgt := 9) hx hb dX12_named_82 (by decide) ?_
        exact ih_9 _ _ _ _ _ _ hf (lv_sub hl [2, 3, 1, 0] rfl) hw
      have J_50 : ∀ (x2 : Int32) (x3 : Int32) (x4 : Int32) (S : St) (H : Heap) (locs : List Loc) (ls : Array Slot), fX12_named_50 fu a na (fX12_named_9 fu a na n_9) x2 x3 x4 S = some (S', r) → lv_has ls 5 [(0, .ref (ad 63)), (1, .ref (ad a)), (2, .int x2), (3, .int x3), (4, .int x4)] → WS D cA ad base s S H locs → W p l e rmX12_named s m args below meth c H locs 0 0 (MQ below (QI D cA ad base S' r) args s 0 0 (aB base)) (F0 m 50 ls []) := by
        intro x2 x3 x4 S H locs ls hf hl hw
        refine lv_iload hx hb dX12_named_50 (lv_at hl 4 rfl) ?_
        refine lv_if_ge (tgt := 76) hx hb dX12_named_52 (by decide) (fun c_52 => ?_) (fun c_52 => ?_)
        · have hf := if_t hf c_52
          refine lv_iload hx hb dX12_named_76 (lv_at hl 4 rfl) ?_
          exact J_78 _ _ _ _ _ _ hf (lv_sub hl [0, 1, 3] rfl) hw
        · have hf := if_f hf c_52
          refine lv_aload_n hx hb dX12_named_55 rfl (lv_at hl 0 rfl) ?_
          refine lv_iload_n hx hb dX12_named_56 rfl (lv_at hl 2 rfl) ?_
          refine lv_aload_n hx hb dX12_named_57 rfl (lv_at hl 1 rfl) ?_
          refine lv_aload_n hx hb dX12_named_58 rfl (lv_at hl 0 rfl) ?_
          refine r_getR C hw (k := 6) (r := 68) dq_63 ln_63 rfl vc_12 inX12 (by decide) rfl gw6_187 dX12_named_59 ?_
          refine lv_iload_n hx hb dX12_named_62 rfl (lv_at hl 3 rfl) ?_
          obtain ⟨z_63, hf⟩ := gd_some hf
          refine r_iald C hw (x := 68) dq_68 ln_68 z_63 dX12_named_63 ?_
          refine lv_aload_n hx hb dX12_named_64 rfl (lv_at hl 0 rfl) ?_
          refine r_getR C hw (k := 7) (r := 69) dq_63 ln_63 rfl vc_12 inX12 (by decide) rfl gw6_188 dX12_named_65 ?_
          refine lv_iload_n hx hb dX12_named_68 rfl (lv_at hl 3 rfl) ?_
          obtain ⟨z_69, hf⟩ := gd_some hf
          refine r_iald C hw (x := 69) dq_69 ln_69 z_69 dX12_named_69 ?_
          obtain ⟨S_70, r_70, h_70, hf⟩ := bd_some hf
          refine r_bi hw (r_runV (rest := []) C hw (m_X12_makes l D cA ad base fu a na ⟨ha.1, ha.2⟩ h_70) mvX12_makes gw7_209 ⟨rfl, rfl, Nat.le_of_ble_eq_true rfl, Nat.le_of_ble_eq_true rfl⟩ dq_63 ln_63 vc_12 rfl hl.1 rfl (Nat.le_of_ble_eq_true rfl) dX12_named_70 (Nat.zero_le _) (Nat.zero_le _)) (fun H locs hw => ?_)
          refine lv_goto (tgt := 78) hx hb dX12_named_73 (by decide) ?_
          exact J_78 _ _ _ _ _ _ hf (lv_sub hl [0, 1, 3] rfl) hw
      intro x2 x3 S H locs ls hf hl hw
      rw [fX12_named_9_s] at hf
      refine lv_iload_n hx hb dX12_named_9 rfl (lv_at hl 3 rfl) ?_
      refine lv_if_lt (tgt := 85) hx hb dX12_named_10 (by decide) (fun c_10 => ?_) (fun c_10 => ?_)
      · have hf := if_t hf c_10
        refine lv_iload_n hx hb dX12_named_85 rfl (lv_at hl 2 rfl) ?_
        exact r_iret C hw hr hlocks hf dX12_named_86
      · have hf := if_f hf c_10
        refine lv_aload_n hx hb dX12_named_13 rfl (lv_at hl 0 rfl) ?_
        refine lv_iload_n hx hb dX12_named_14 rfl (lv_at hl 2 rfl) ?_
        refine lv_aload_n hx hb dX12_named_15 rfl (lv_at hl 1 rfl) ?_
        refine lv_aload_n hx hb dX12_named_16 rfl (lv_at hl 0 rfl) ?_
        refine r_getR C hw (k := 6) (r := 68) dq_63 ln_63 rfl vc_12 inX12 (by decide) rfl gw6_187 dX12_named_17 ?_
        refine lv_iload_n hx hb dX12_named_20 rfl (lv_at hl 3 rfl) ?_
        obtain ⟨z_21, hf⟩ := gd_some hf
        refine r_iald C hw (x := 68) dq_68 ln_68 z_21 dX12_named_21 ?_
        refine lv_aload_n hx hb dX12_named_22 rfl (lv_at hl 0 rfl) ?_
        refine r_getR C hw (k := 7) (r := 69) dq_63 ln_63 rfl vc_12 inX12 (by decide) rfl gw6_188 dX12_named_23 ?_
        refine lv_iload_n hx hb dX12_named_26 rfl (lv_at hl 3 rfl) ?_
        obtain ⟨z_27, hf⟩ := gd_some hf
        refine r_iald C hw (x := 69) dq_69 ln_69 z_27 dX12_named_27 ?_
        obtain ⟨S_28, r_28, h_28, hf⟩ := bd_some hf
        refine r_bi hw (r_runV (rest := []) C hw (m_X12_child l D cA ad base fu a na ⟨ha.1, ha.2⟩ h_28) mvX12_child gw7_201 ⟨rfl, rfl, Nat.le_of_ble_eq_true rfl, Nat.le_of_ble_eq_true rfl⟩ dq_63 ln_63 vc_12 rfl hl.1 rfl (Nat.le_of_ble_eq_true rfl) dX12_named_28 (Nat.zero_le _) (Nat.zero_le _)) (fun H locs hw => ?_)
        refine lv_istore (lv' := [(4, .int r_28), (0, .ref (ad 63)), (1, .ref (ad a)), (2, .int x2), (3, .int x3)]) hx hb dX12_named_31 hl (by decide) rfl (fun ls hl => ?_)
        refine lv_iload hx hb dX12_named_33 (lv_at hl 0 rfl) ?_
        refine lv_if_ge (tgt := 50) hx hb dX12_named_35 (by decide) (fun c_35 => ?_) (fun c_35 => ?_)
        · have hf := if_t hf c_35
          exact J_50 _ _ _ _ _ _ _ hf (lv_sub hl [1, 2, 3, 4, 0] rfl) hw
        · have hf := if_f hf c_35
          refine lv_aload_n hx hb dX12_named_38 rfl (lv_at hl 1 rfl) ?_
          refine r_getI C hw (k := 5) dq_63 ln_63 rfl vc_12 inX12 (by decide) rfl gw6_186 dX12_named_39 ?_
          refine lv_sipush (v := (300 : Int32)) hx hb dX12_named_42 (by decide) ?_
          refine lv_icmp_ne (tgt := 50) hx hb dX12_named_45 (by decide) (fun c_45 => ?_) (fun c_45 => ?_)
          · have hf := if_f hf c_45
            exact J_50 _ _ _ _ _ _ _ hf (lv_sub hl [1, 2, 3, 4, 0] rfl) hw
          · have hf := if_t hf c_45
            refine lv_iconst (v := (-1 : Int32)) hx hb dX12_named_48 (by decide) ?_
            exact r_iret C hw hr hlocks hf dX12_named_49
  show W p l e rmX12_named s m args below meth c s.heap [] 0 0 _ _
  refine lv_iconst (v := (0 : Int32)) hx hb dX12_named_0 (by decide) ?_
  refine lv_istore_n (lv' := [(2, .int (0 : Int32)), (0, .ref (ad 63)), (1, .ref (ad a))]) hx hb dX12_named_1 rfl hl (by decide) rfl (fun ls hl => ?_)
  refine lv_aload_n hx hb dX12_named_2 rfl (lv_at hl 1 rfl) ?_
  refine r_getI C hw (k := 8) dq_63 ln_63 rfl vc_12 inX12 (by decide) rfl gw6_189 dX12_named_3 ?_
  refine lv_iconst (v := (1 : Int32)) hx hb dX12_named_6 (by decide) ?_
  refine lv_isub hx hb dX12_named_7 ?_
  refine lv_istore_n (lv' := [(3, .int ((S.1 63 8) - (1 : Int32))), (2, .int (0 : Int32)), (0, .ref (ad 63)), (1, .ref (ad a))]) hx hb dX12_named_8 rfl hl (by decide) rfl (fun ls hl => ?_)
  exact L_9 fu _ _ _ _ _ _ hf (lv_sub hl [2, 3, 1, 0] rfl) hw
noncomputable def fX12_feed_60 (fu : Nat) (n : Nat) : Int32 → St → Option (St × Int32) :=
  Nat.rec (motive := fun _ => Int32 → St → Option (St × Int32)) (fun _ _ => none) (fun _ k_60 x6 S =>
    if (20 : Int32) ≤ x6 then
      sI 63 10 ((S.1 63 10) + (20 : Int32)) S fun S_114 =>
      some (S_114, (S_114.1 63 10))
    else
      gd (ck (x6 / (4 : Int32)) 5) <|
      gd (ck ((S.1 63 10) + x6) 1040) <|
      sI 70 (((S.1 63 10) + x6)).toNatClampNeg (vp_nar .byte (((S.1 71 ((x6 / (4 : Int32))).toNatClampNeg) >>> (((24 : Int32) - ((8 : Int32) * (x6 - x6 / (4 : Int32) * (4 : Int32)))) &&& 31))).toInt8.toInt32) S fun S_99 =>
      k_60 (x6 + (1 : Int32)) S_99) n
theorem fX12_feed_60_s (fu : Nat) (n : Nat) (x6 : Int32) (S : St) : fX12_feed_60 fu (n + 1) x6 S = (
    if (20 : Int32) ≤ x6 then
      sI 63 10 ((S.1 63 10) + (20 : Int32)) S fun S_114 =>
      some (S_114, (S_114.1 63 10))
    else
      gd (ck (x6 / (4 : Int32)) 5) <|
      gd (ck ((S.1 63 10) + x6) 1040) <|
      sI 70 (((S.1 63 10) + x6)).toNatClampNeg (vp_nar .byte (((S.1 71 ((x6 / (4 : Int32))).toNatClampNeg) >>> (((24 : Int32) - ((8 : Int32) * (x6 - x6 / (4 : Int32) * (4 : Int32)))) &&& 31))).toInt8.toInt32) S fun S_99 =>
      (fX12_feed_60 fu n) (x6 + (1 : Int32)) S_99) := rfl
noncomputable def fX12_feed (fu : Nat) (x1 : Int32) (x2 : Int32) (x3 : Int32) (x4 : Int32) (x5 : Int32) (S : St) : Option (St × Int32) :=
  sI 63 0 (0 : Int32) S fun S_2 =>
  if ((S_2.1 63 10) + (20 : Int32)) ≤ (1000 : Int32) then
    gd (ck (0 : Int32) 5) <|
    sI 71 ((0 : Int32)).toNatClampNeg x1 S_2 fun S_26 =>
    gd (ck (1 : Int32) 5) <|
    sI 71 ((1 : Int32)).toNatClampNeg x2 S_26 fun S_33 =>
    gd (ck (2 : Int32) 5) <|
    sI 71 ((2 : Int32)).toNatClampNeg x3 S_33 fun S_40 =>
    gd (ck (3 : Int32) 5) <|
    sI 71 ((3 : Int32)).toNatClampNeg x4 S_40 fun S_48 =>
    gd (ck (4 : Int32) 5) <|
    sI 71 ((4 : Int32)).toNatClampNeg x5 S_48 fun S_56 =>
    fX12_feed_60 fu fu (0 : Int32) S_56
  else
    some (S_2, (-1 : Int32))
theorem mvX12_feed : MV yX12_feed cX12_feed 7 (some .int) RX12 5 := ⟨gw7_169, gw7_167, gw7_168, gw1_13, by decide +kernel⟩
def rmX12_feed : Room := { frames := 0, cells := 0, slots := 0, locals := 0 }
set_option maxHeartbeats 4000000 in
set_option maxRecDepth 100000 in
theorem m_X12_feed (l : Launch) (D : va_G) (cA : FieldType → ClassId) (ad : Nat → Nat) (base : Nat) (fu : Nat) {S S' : St} {x1 : Int32} {x2 : Int32} {x3 : Int32} {x4 : Int32} {x5 : Int32} {r : Int32} (hf : fX12_feed fu x1 x2 x3 x4 x5 S = some (S', r)) : Met l yX12_feed (GC yX12_feed cX12_feed 7 (some .int)) rmX12_feed (va_Pc [.ref (ad 63), .int x1, .int x2, .int x3, .int x4, .int x5] (wd D cA ad base S)) (QI D cA ad base S' r) 0 0 (aB base) := by
  refine Met.ofW (cc := cX12_feed) (maxL := 7) (ret := (some .int)) (by decide) rfl ?_
  intro p e s m args below meth c s₁ B hml hv
  obtain ⟨hargs, hwd⟩ := hv
  have hr := B.returns
  have hlocks := B.notSynchronized
  obtain ⟨C, hw⟩ := CX.of (own := RX12) rfl B hml hwd
  have hx := C.1
  have hb := C.2.1
  have hl := lv_entry ([.ref (ad 63), .int x1, .int x2, .int x3, .int x4, .int x5]) (n := 7) (Nat.le_of_ble_eq_true rfl)
  rw [show entryFrame m args 7 = entryFrame m ([.ref (ad 63), .int x1, .int x2, .int x3, .int x4, .int x5] : List Value).toArray 7 from by rw [hargs], lg_entry_eq]
  generalize (lg_sl ([.ref (ad 63), .int x1, .int x2, .int x3, .int x4, .int x5]) ++ List.replicate (7 - (lg_sl ([.ref (ad 63), .int x1, .int x2, .int x3, .int x4, .int x5])).length) Slot.unset).toArray = ls at hl ⊢
  have hl : lv_has ls 7 [(0, .ref (ad 63)), (1, .int x1), (2, .int x2), (3, .int x3), (4, .int x4), (5, .int x5)] := hl
  have L_60 : ∀ (n_60 : Nat) (x6 : Int32) (S : St) (H : Heap) (locs : List Loc) (ls : Array Slot), fX12_feed_60 fu n_60 x6 S = some (S', r) → lv_has ls 7 [(0, .ref (ad 63)), (6, .int x6)] → WS D cA ad base s S H locs → W p l e rmX12_feed s m args below meth c H locs 0 0 (MQ below (QI D cA ad base S' r) args s 0 0 (aB base)) (F0 m 60 ls []) := by
    intro n_60
    induction n_60 with
    | zero =>
      intro x6 S H locs ls hf hl hw
      exact (no_none hf).elim
    | succ n_60 ih_60 =>
      intro x6 S H locs ls hf hl hw
      rw [fX12_feed_60_s] at hf
      refine lv_iload hx hb dX12_feed_60 (lv_at hl 1 rfl) ?_
      refine lv_bipush (v := (20 : Int32)) hx hb dX12_feed_62 (by decide) ?_
      refine lv_icmp_ge (tgt := 106) hx hb dX12_feed_64 (by decide) (fun c_64 => ?_) (fun c_64 => ?_)
      · have hf := if_t hf c_64
        refine lv_aload_n hx hb dX12_feed_106 rfl (lv_at hl 0 rfl) ?_
        refine lv_dup hx hb dX12_feed_107 rfl ?_
        refine r_getI C hw (k := 10) dq_63 ln_63 rfl vc_12 inX12 (by decide) rfl gw6_191 dX12_feed_108 ?_
        refine lv_bipush (v := (20 : Int32)) hx hb dX12_feed_111 (by decide) ?_
        refine lv_iadd hx hb dX12_feed_113 ?_
        obtain ⟨S_114, e_114, hf⟩ := sI_some hf
        refine r_putI C hw (k := 10) (ty0 := tyX12) dq_63 ln_63 rfl vc_12 inX12 tyX12_ok nmX12 (by decide) rfl rfl gw6_191 rfl rfl dX12_feed_114 e_114 (fun H locs hw => ?_)
        refine lv_aload_n hx hb dX12_feed_117 rfl (lv_at hl 0 rfl) ?_
        refine r_getI C hw (k := 10) dq_63 ln_63 rfl vc_12 inX12 (by decide) rfl gw6_191 dX12_feed_118 ?_
        exact r_iret C hw hr hlocks hf dX12_feed_121
      · have hf := if_f hf c_64
        refine lv_aload_n hx hb dX12_feed_67 rfl (lv_at hl 0 rfl) ?_
        refine r_getR C hw (k := 9) (r := 70) dq_63 ln_63 rfl vc_12 inX12 (by decide) rfl gw6_190 dX12_feed_68 ?_
        refine lv_aload_n hx hb dX12_feed_71 rfl (lv_at hl 0 rfl) ?_
        refine r_getI C hw (k := 10) dq_63 ln_63 rfl vc_12 inX12 (by decide) rfl gw6_191 dX12_feed_72 ?_
        refine lv_iload hx hb dX12_feed_75 (lv_at hl 1 rfl) ?_
        refine lv_iadd hx hb dX12_feed_77 ?_
        refine lv_aload_n hx hb dX12_feed_78 rfl (lv_at hl 0 rfl) ?_
        refine r_getR C hw (k := 11) (r := 71) dq_63 ln_63 rfl vc_12 inX12 (by decide) rfl gw6_192 dX12_feed_79 ?_
        refine lv_iload hx hb dX12_feed_82 (lv_at hl 1 rfl) ?_
        refine lv_iconst (v := (4 : Int32)) hx hb dX12_feed_84 (by decide) ?_
        refine lv_idiv hx hb dX12_feed_85 (by decide) ?_
        obtain ⟨z_86, hf⟩ := gd_some hf
        refine r_iald C hw (x := 71) dq_71 ln_71 z_86 dX12_feed_86 ?_
        refine lv_bipush (v := (24 : Int32)) hx hb dX12_feed_87 (by decide) ?_
        refine lv_bipush (v := (8 : Int32)) hx hb dX12_feed_89 (by decide) ?_
        refine lv_iload hx hb dX12_feed_91 (lv_at hl 1 rfl) ?_
        refine lv_iconst (v := (4 : Int32)) hx hb dX12_feed_93 (by decide) ?_
        refine lv_irem hx hb dX12_feed_94 (by decide) ?_
        refine lv_imul hx hb dX12_feed_95 ?_
        refine lv_isub hx hb dX12_feed_96 ?_
        refine lv_ishr hx hb dX12_feed_97 ?_
        refine lv_i2b hx hb dX12_feed_98 rfl ?_
        obtain ⟨z_99, hf⟩ := gd_some hf
        obtain ⟨S_99, e_99, hf⟩ := sI_some hf
        refine r_bast C hw (x := 70) dq_70 ln_70 z_99 dX12_feed_99 e_99 (fun H locs hw => ?_)
        refine lv_iinc (v := (x6 + (1 : Int32))) (lv' := [(6, .int (x6 + (1 : Int32))), (0, .ref (ad 63))]) hx hb dX12_feed_100 hl (k := 1) rfl rfl (by decide) rfl (fun ls hl => ?_)
        refine lv_goto (tgt := 60) hx hb dX12_feed_103 (by decide) ?_
        exact ih_60 _ _ _ _ _ hf (lv_sub hl [1, 0] rfl) hw
  show W p l e rmX12_feed s m args below meth c s.heap [] 0 0 _ _
  refine lv_aload_n hx hb dX12_feed_0 rfl (lv_at hl 0 rfl) ?_
  refine lv_iconst (v := (0 : Int32)) hx hb dX12_feed_1 (by decide) ?_
  obtain ⟨S_2, e_2, hf⟩ := sI_some hf
  refine r_putI C hw (k := 0) (ty0 := tyX12) dq_63 ln_63 rfl vc_12 inX12 tyX12_ok nmX12 (by decide) rfl rfl gw6_181 rfl rfl dX12_feed_2 e_2 (fun H locs hw => ?_)
  refine lv_aload_n hx hb dX12_feed_5 rfl (lv_at hl 0 rfl) ?_
  refine r_getI C hw (k := 10) dq_63 ln_63 rfl vc_12 inX12 (by decide) rfl gw6_191 dX12_feed_6 ?_
  refine lv_bipush (v := (20 : Int32)) hx hb dX12_feed_9 (by decide) ?_
  refine lv_iadd hx hb dX12_feed_11 ?_
  refine lv_sipush (v := (1000 : Int32)) hx hb dX12_feed_12 (by decide) ?_
  refine lv_icmp_le (tgt := 20) hx hb dX12_feed_15 (by decide) (fun c_15 => ?_) (fun c_15 => ?_)
  · have hf := if_t hf c_15
    refine lv_aload_n hx hb dX12_feed_20 rfl (lv_at hl 0 rfl) ?_
    refine r_getR C hw (k := 11) (r := 71) dq_63 ln_63 rfl vc_12 inX12 (by decide) rfl gw6_192 dX12_feed_21 ?_
    refine lv_iconst (v := (0 : Int32)) hx hb dX12_feed_24 (by decide) ?_
    refine lv_iload_n hx hb dX12_feed_25 rfl (lv_at hl 1 rfl) ?_
    obtain ⟨z_26, hf⟩ := gd_some hf
    obtain ⟨S_26, e_26, hf⟩ := sI_some hf
    refine r_iast C hw (x := 71) dq_71 ln_71 z_26 dX12_feed_26 e_26 (fun H locs hw => ?_)
    refine lv_aload_n hx hb dX12_feed_27 rfl (lv_at hl 0 rfl) ?_
    refine r_getR C hw (k := 11) (r := 71) dq_63 ln_63 rfl vc_12 inX12 (by decide) rfl gw6_192 dX12_feed_28 ?_
    refine lv_iconst (v := (1 : Int32)) hx hb dX12_feed_31 (by decide) ?_
    refine lv_iload_n hx hb dX12_feed_32 rfl (lv_at hl 2 rfl) ?_
    obtain ⟨z_33, hf⟩ := gd_some hf
    obtain ⟨S_33, e_33, hf⟩ := sI_some hf
    refine r_iast C hw (x := 71) dq_71 ln_71 z_33 dX12_feed_33 e_33 (fun H locs hw => ?_)
    refine lv_aload_n hx hb dX12_feed_34 rfl (lv_at hl 0 rfl) ?_
    refine r_getR C hw (k := 11) (r := 71) dq_63 ln_63 rfl vc_12 inX12 (by decide) rfl gw6_192 dX12_feed_35 ?_
    refine lv_iconst (v := (2 : Int32)) hx hb dX12_feed_38 (by decide) ?_
    refine lv_iload_n hx hb dX12_feed_39 rfl (lv_at hl 3 rfl) ?_
    obtain ⟨z_40, hf⟩ := gd_some hf
    obtain ⟨S_40, e_40, hf⟩ := sI_some hf
    refine r_iast C hw (x := 71) dq_71 ln_71 z_40 dX12_feed_40 e_40 (fun H locs hw => ?_)
    refine lv_aload_n hx hb dX12_feed_41 rfl (lv_at hl 0 rfl) ?_
    refine r_getR C hw (k := 11) (r := 71) dq_63 ln_63 rfl vc_12 inX12 (by decide) rfl gw6_192 dX12_feed_42 ?_
    refine lv_iconst (v := (3 : Int32)) hx hb dX12_feed_45 (by decide) ?_
    refine lv_iload hx hb dX12_feed_46 (lv_at hl 4 rfl) ?_
    obtain ⟨z_48, hf⟩ := gd_some hf
    obtain ⟨S_48, e_48, hf⟩ := sI_some hf
    refine r_iast C hw (x := 71) dq_71 ln_71 z_48 dX12_feed_48 e_48 (fun H locs hw => ?_)
    refine lv_aload_n hx hb dX12_feed_49 rfl (lv_at hl 0 rfl) ?_
    refine r_getR C hw (k := 11) (r := 71) dq_63 ln_63 rfl vc_12 inX12 (by decide) rfl gw6_192 dX12_feed_50 ?_
    refine lv_iconst (v := (4 : Int32)) hx hb dX12_feed_53 (by decide) ?_
    refine lv_iload hx hb dX12_feed_54 (lv_at hl 5 rfl) ?_
    obtain ⟨z_56, hf⟩ := gd_some hf
    obtain ⟨S_56, e_56, hf⟩ := sI_some hf
    refine r_iast C hw (x := 71) dq_71 ln_71 z_56 dX12_feed_56 e_56 (fun H locs hw => ?_)
    refine lv_iconst (v := (0 : Int32)) hx hb dX12_feed_57 (by decide) ?_
    refine lv_istore (lv' := [(6, .int (0 : Int32)), (0, .ref (ad 63)), (1, .int x1), (2, .int x2), (3, .int x3), (4, .int x4), (5, .int x5)]) hx hb dX12_feed_58 hl (by decide) rfl (fun ls hl => ?_)
    exact L_60 fu _ _ _ _ _ hf (lv_sub hl [1, 0] rfl) hw
  · have hf := if_f hf c_15
    refine lv_iconst (v := (-1 : Int32)) hx hb dX12_feed_18 (by decide) ?_
    exact r_iret C hw hr hlocks hf dX12_feed_19
noncomputable def fX12_end (fu : Nat) (x1 : Int32) (S : St) : Option (St × Int32) :=
  sI 63 0 (0 : Int32) S fun S_2 =>
  if x1 < 0 then
    some (S_2, (0 : Int32))
  else
    if x1 ≤ (S_2.1 63 10) then
      sI 63 10 x1 S_2 fun S_21 =>
      some (S_21, (1 : Int32))
    else
      some (S_2, (0 : Int32))
theorem mvX12_end : MV yX12_end cX12_end 2 (some .boolean) RX12 1 := ⟨gw7_173, gw7_171, gw7_172, gw1_13, by decide +kernel⟩
def rmX12_end : Room := { frames := 0, cells := 0, slots := 0, locals := 0 }
set_option maxHeartbeats 4000000 in
set_option maxRecDepth 100000 in
theorem m_X12_end (l : Launch) (D : va_G) (cA : FieldType → ClassId) (ad : Nat → Nat) (base : Nat) (fu : Nat) {S S' : St} {x1 : Int32} {r : Int32} (hf : fX12_end fu x1 S = some (S', r)) : Met l yX12_end (GC yX12_end cX12_end 2 (some .boolean)) rmX12_end (va_Pc [.ref (ad 63), .int x1] (wd D cA ad base S)) (QI D cA ad base S' r) 0 0 (aB base) := by
  refine Met.ofW (cc := cX12_end) (maxL := 2) (ret := (some .boolean)) (by decide) rfl ?_
  intro p e s m args below meth c s₁ B hml hv
  obtain ⟨hargs, hwd⟩ := hv
  have hr := B.returns
  have hlocks := B.notSynchronized
  obtain ⟨C, hw⟩ := CX.of (own := RX12) rfl B hml hwd
  have hx := C.1
  have hb := C.2.1
  have hl := lv_entry ([.ref (ad 63), .int x1]) (n := 2) (Nat.le_of_ble_eq_true rfl)
  rw [show entryFrame m args 2 = entryFrame m ([.ref (ad 63), .int x1] : List Value).toArray 2 from by rw [hargs], lg_entry_eq]
  generalize (lg_sl ([.ref (ad 63), .int x1]) ++ List.replicate (2 - (lg_sl ([.ref (ad 63), .int x1])).length) Slot.unset).toArray = ls at hl ⊢
  have hl : lv_has ls 2 [(0, .ref (ad 63)), (1, .int x1)] := hl
  show W p l e rmX12_end s m args below meth c s.heap [] 0 0 _ _
  refine lv_aload_n hx hb dX12_end_0 rfl (lv_at hl 0 rfl) ?_
  refine lv_iconst (v := (0 : Int32)) hx hb dX12_end_1 (by decide) ?_
  obtain ⟨S_2, e_2, hf⟩ := sI_some hf
  refine r_putI C hw (k := 0) (ty0 := tyX12) dq_63 ln_63 rfl vc_12 inX12 tyX12_ok nmX12 (by decide) rfl rfl gw6_181 rfl rfl dX12_end_2 e_2 (fun H locs hw => ?_)
  refine lv_iload_n hx hb dX12_end_5 rfl (lv_at hl 1 rfl) ?_
  refine lv_if_lt (tgt := 17) hx hb dX12_end_6 (by decide) (fun c_6 => ?_) (fun c_6 => ?_)
  · have hf := if_t hf c_6
    refine lv_iconst (v := (0 : Int32)) hx hb dX12_end_17 (by decide) ?_
    exact r_zret C hw hr hlocks rfl hf dX12_end_18
  · have hf := if_f hf c_6
    refine lv_iload_n hx hb dX12_end_9 rfl (lv_at hl 1 rfl) ?_
    refine lv_aload_n hx hb dX12_end_10 rfl (lv_at hl 0 rfl) ?_
    refine r_getI C hw (k := 10) dq_63 ln_63 rfl vc_12 inX12 (by decide) rfl gw6_191 dX12_end_11 ?_
    refine lv_icmp_le (tgt := 19) hx hb dX12_end_14 (by decide) (fun c_14 => ?_) (fun c_14 => ?_)
    · have hf := if_t hf c_14
      refine lv_aload_n hx hb dX12_end_19 rfl (lv_at hl 0 rfl) ?_
      refine lv_iload_n hx hb dX12_end_20 rfl (lv_at hl 1 rfl) ?_
      obtain ⟨S_21, e_21, hf⟩ := sI_some hf
      refine r_putI C hw (k := 10) (ty0 := tyX12) dq_63 ln_63 rfl vc_12 inX12 tyX12_ok nmX12 (by decide) rfl rfl gw6_191 rfl rfl dX12_end_21 e_21 (fun H locs hw => ?_)
      refine lv_iconst (v := (1 : Int32)) hx hb dX12_end_24 (by decide) ?_
      exact r_zret C hw hr hlocks rfl hf dX12_end_25
    · have hf := if_f hf c_14
      refine lv_iconst (v := (0 : Int32)) hx hb dX12_end_17 (by decide) ?_
      exact r_zret C hw hr hlocks rfl hf dX12_end_18
noncomputable def fX12_turn (fu : Nat) (x1 : Int32) (x2 : Int32) (S : St) : Option (St × Int32) :=
  sI 63 0 (0 : Int32) S fun S_2 =>
  if x1 < 0 then
    some (S_2, (0 : Int32))
  else
    if x1 < (S_2.1 63 10) then
      gd (ck x1 1040) <|
      sI 70 (x1).toNatClampNeg (vp_nar .byte (x2).toInt8.toInt32) S_2 fun S_26 =>
      some (S_26, (1 : Int32))
    else
      some (S_2, (0 : Int32))
theorem mvX12_turn : MV yX12_turn cX12_turn 3 (some .boolean) RX12 2 := ⟨gw7_177, gw7_175, gw7_176, gw1_13, by decide +kernel⟩
def rmX12_turn : Room := { frames := 0, cells := 0, slots := 0, locals := 0 }
set_option maxHeartbeats 4000000 in
set_option maxRecDepth 100000 in
theorem m_X12_turn (l : Launch) (D : va_G) (cA : FieldType → ClassId) (ad : Nat → Nat) (base : Nat) (fu : Nat) {S S' : St} {x1 : Int32} {x2 : Int32} {r : Int32} (hf : fX12_turn fu x1 x2 S = some (S', r)) : Met l yX12_turn (GC yX12_turn cX12_turn 3 (some .boolean)) rmX12_turn (va_Pc [.ref (ad 63), .int x1, .int x2] (wd D cA ad base S)) (QI D cA ad base S' r) 0 0 (aB base) := by
  refine Met.ofW (cc := cX12_turn) (maxL := 3) (ret := (some .boolean)) (by decide) rfl ?_
  intro p e s m args below meth c s₁ B hml hv
  obtain ⟨hargs, hwd⟩ := hv
  have hr := B.returns
  have hlocks := B.notSynchronized
  obtain ⟨C, hw⟩ := CX.of (own := RX12) rfl B hml hwd
  have hx := C.1
  have hb := C.2.1
  have hl := lv_entry ([.ref (ad 63), .int x1, .int x2]) (n := 3) (Nat.le_of_ble_eq_true rfl)
  rw [show entryFrame m args 3 = entryFrame m ([.ref (ad 63), .int x1, .int x2] : List Value).toArray 3 from by rw [hargs], lg_entry_eq]
  generalize (lg_sl ([.ref (ad 63), .int x1, .int x2]) ++ List.replicate (3 - (lg_sl ([.ref (ad 63), .int x1, .int x2])).length) Slot.unset).toArray = ls at hl ⊢
  have hl : lv_has ls 3 [(0, .ref (ad 63)), (1, .int x1), (2, .int x2)] := hl
  show W p l e rmX12_turn s m args below meth c s.heap [] 0 0 _ _
  refine lv_aload_n hx hb dX12_turn_0 rfl (lv_at hl 0 rfl) ?_
  refine lv_iconst (v := (0 : Int32)) hx hb dX12_turn_1 (by decide) ?_
  obtain ⟨S_2, e_2, hf⟩ := sI_some hf
  refine r_putI C hw (k := 0) (ty0 := tyX12) dq_63 ln_63 rfl vc_12 inX12 tyX12_ok nmX12 (by decide) rfl rfl gw6_181 rfl rfl dX12_turn_2 e_2 (fun H locs hw => ?_)
  refine lv_iload_n hx hb dX12_turn_5 rfl (lv_at hl 1 rfl) ?_
  refine lv_if_lt (tgt := 17) hx hb dX12_turn_6 (by decide) (fun c_6 => ?_) (fun c_6 => ?_)
  · have hf := if_t hf c_6
    refine lv_iconst (v := (0 : Int32)) hx hb dX12_turn_17 (by decide) ?_
    exact r_zret C hw hr hlocks rfl hf dX12_turn_18
  · have hf := if_f hf c_6
    refine lv_iload_n hx hb dX12_turn_9 rfl (lv_at hl 1 rfl) ?_
    refine lv_aload_n hx hb dX12_turn_10 rfl (lv_at hl 0 rfl) ?_
    refine r_getI C hw (k := 10) dq_63 ln_63 rfl vc_12 inX12 (by decide) rfl gw6_191 dX12_turn_11 ?_
    refine lv_icmp_lt (tgt := 19) hx hb dX12_turn_14 (by decide) (fun c_14 => ?_) (fun c_14 => ?_)
    · have hf := if_t hf c_14
      refine lv_aload_n hx hb dX12_turn_19 rfl (lv_at hl 0 rfl) ?_
      refine r_getR C hw (k := 9) (r := 70) dq_63 ln_63 rfl vc_12 inX12 (by decide) rfl gw6_190 dX12_turn_20 ?_
      refine lv_iload_n hx hb dX12_turn_23 rfl (lv_at hl 1 rfl) ?_
      refine lv_iload_n hx hb dX12_turn_24 rfl (lv_at hl 2 rfl) ?_
      refine lv_i2b hx hb dX12_turn_25 rfl ?_
      obtain ⟨z_26, hf⟩ := gd_some hf
      obtain ⟨S_26, e_26, hf⟩ := sI_some hf
      refine r_bast C hw (x := 70) dq_70 ln_70 z_26 dX12_turn_26 e_26 (fun H locs hw => ?_)
      refine lv_iconst (v := (1 : Int32)) hx hb dX12_turn_27 (by decide) ?_
      exact r_zret C hw hr hlocks rfl hf dX12_turn_28
    · have hf := if_f hf c_14
      refine lv_iconst (v := (0 : Int32)) hx hb dX12_turn_17 (by decide) ?_
      exact r_zret C hw hr hlocks rfl hf dX12_turn_18
noncomputable def fX12_used (fu : Nat) (S : St) : Option (St × Int32) :=
  sI 63 0 (0 : Int32) S fun S_2 =>
  sI 63 10 (0 : Int32) S_2 fun S_12 =>
  some (S_12, (S_2.1 63 10))
theorem mvX12_used : MV yX12_used cX12_used 2 (some .int) RX12 0 := ⟨gw7_185, gw7_184, gs_41, gw1_13, by decide +kernel⟩
def rmX12_used : Room := { frames := 0, cells := 0, slots := 0, locals := 0 }
set_option maxHeartbeats 4000000 in
set_option maxRecDepth 100000 in
theorem m_X12_used (l : Launch) (D : va_G) (cA : FieldType → ClassId) (ad : Nat → Nat) (base : Nat) (fu : Nat) {S S' : St} {r : Int32} (hf : fX12_used fu S = some (S', r)) : Met l yX12_used (GC yX12_used cX12_used 2 (some .int)) rmX12_used (va_Pc [.ref (ad 63)] (wd D cA ad base S)) (QI D cA ad base S' r) 0 0 (aB base) := by
  refine Met.ofW (cc := cX12_used) (maxL := 2) (ret := (some .int)) (by decide) rfl ?_
  intro p e s m args below meth c s₁ B hml hv
  obtain ⟨hargs, hwd⟩ := hv
  have hr := B.returns
  have hlocks := B.notSynchronized
  obtain ⟨C, hw⟩ := CX.of (own := RX12) rfl B hml hwd
  have hx := C.1
  have hb := C.2.1
  have hl := lv_entry ([.ref (ad 63)]) (n := 2) (Nat.le_of_ble_eq_true rfl)
  rw [show entryFrame m args 2 = entryFrame m ([.ref (ad 63)] : List Value).toArray 2 from by rw [hargs], lg_entry_eq]
  generalize (lg_sl ([.ref (ad 63)]) ++ List.replicate (2 - (lg_sl ([.ref (ad 63)])).length) Slot.unset).toArray = ls at hl ⊢
  have hl : lv_has ls 2 [(0, .ref (ad 63))] := hl
  show W p l e rmX12_used s m args below meth c s.heap [] 0 0 _ _
  refine lv_aload_n hx hb dX12_used_0 rfl (lv_at hl 0 rfl) ?_
  refine lv_iconst (v := (0 : Int32)) hx hb dX12_used_1 (by decide) ?_
  obtain ⟨S_2, e_2, hf⟩ := sI_some hf
  refine r_putI C hw (k := 0) (ty0 := tyX12) dq_63 ln_63 rfl vc_12 inX12 tyX12_ok nmX12 (by decide) rfl rfl gw6_181 rfl rfl dX12_used_2 e_2 (fun H locs hw => ?_)
  refine lv_aload_n hx hb dX12_used_5 rfl (lv_at hl 0 rfl) ?_
  refine r_getI C hw (k := 10) dq_63 ln_63 rfl vc_12 inX12 (by decide) rfl gw6_191 dX12_used_6 ?_
  refine lv_istore_n (lv' := [(1, .int (S_2.1 63 10)), (0, .ref (ad 63))]) hx hb dX12_used_9 rfl hl (by decide) rfl (fun ls hl => ?_)
  refine lv_aload_n hx hb dX12_used_10 rfl (lv_at hl 1 rfl) ?_
  refine lv_iconst (v := (0 : Int32)) hx hb dX12_used_11 (by decide) ?_
  obtain ⟨S_12, e_12, hf⟩ := sI_some hf
  refine r_putI C hw (k := 10) (ty0 := tyX12) dq_63 ln_63 rfl vc_12 inX12 tyX12_ok nmX12 (by decide) rfl rfl gw6_191 rfl rfl dX12_used_12 e_12 (fun H locs hw => ?_)
  refine lv_iload_n hx hb dX12_used_15 rfl (lv_at hl 0 rfl) ?_
  exact r_iret C hw hr hlocks hf dX12_used_16
noncomputable def fX12_isText_122 (fu : Nat) (k_27 : Int32 → Int32 → Int32 → St → Option (St × Int32)) (x1 : Int32) (x2 : Int32) (x3 : Int32) (S : St) : Option (St × Int32) :=
  k_27 x1 x2 (x3 + (1 : Int32)) S
noncomputable def fX12_isText_62 (fu : Nat) (k_27 : Int32 → Int32 → Int32 → St → Option (St × Int32)) (x1 : Int32) (x2 : Int32) (x3 : Int32) (S : St) : Option (St × Int32) :=
  if x3 = x2 then
    some (S, (0 : Int32))
  else
    if (10 : Int32) < (x3 - x2) then
      some (S, (0 : Int32))
    else
      if (S.1 63 8) = (6 : Int32) then
        some (S, (0 : Int32))
      else
        gd (ck (S.1 63 8) 8) <|
        sI 68 ((S.1 63 8)).toNatClampNeg x2 S fun S_95 =>
        gd (ck (S_95.1 63 8) 8) <|
        sI 69 ((S_95.1 63 8)).toNatClampNeg (x3 - x2) S_95 fun S_107 =>
        sI 63 8 ((S_107.1 63 8) + (1 : Int32)) S_107 fun S_115 =>
        fX12_isText_122 fu k_27 x1 (x3 + (1 : Int32)) x3 S_115
noncomputable def fX12_isText_27 (fu : Nat) (n : Nat) : Int32 → Int32 → Int32 → St → Option (St × Int32) :=
  Nat.rec (motive := fun _ => Int32 → Int32 → Int32 → St → Option (St × Int32)) (fun _ _ _ _ => none) (fun _ k_27 x1 x2 x3 S =>
    if x1 < x3 then
      some (S, (1 : Int32))
    else
      if x1 ≤ x3 then
        fX12_isText_62 fu k_27 x1 x2 x3 S
      else
        gd (ck x3 1040) <|
        if (S.1 70 (x3).toNatClampNeg) = (46 : Int32) then
          fX12_isText_62 fu k_27 x1 x2 x3 S
        else
          gd (ck x3 1040) <|
          bd (fX12_isLetter fu (S.1 70 (x3).toNatClampNeg) S) fun S_54 r_54 =>
          if r_54 = 0 then
            some (S_54, (0 : Int32))
          else
            fX12_isText_122 fu k_27 x1 x2 x3 S_54) n
theorem fX12_isText_27_s (fu : Nat) (n : Nat) (x1 : Int32) (x2 : Int32) (x3 : Int32) (S : St) : fX12_isText_27 fu (n + 1) x1 x2 x3 S = (
    if x1 < x3 then
      some (S, (1 : Int32))
    else
      if x1 ≤ x3 then
        fX12_isText_62 fu (fX12_isText_27 fu n) x1 x2 x3 S
      else
        gd (ck x3 1040) <|
        if (S.1 70 (x3).toNatClampNeg) = (46 : Int32) then
          fX12_isText_62 fu (fX12_isText_27 fu n) x1 x2 x3 S
        else
          gd (ck x3 1040) <|
          bd (fX12_isLetter fu (S.1 70 (x3).toNatClampNeg) S) fun S_54 r_54 =>
          if r_54 = 0 then
            some (S_54, (0 : Int32))
          else
            fX12_isText_122 fu (fX12_isText_27 fu n) x1 x2 x3 S_54) := rfl
noncomputable def fX12_isText_23 (fu : Nat) (x1 : Int32) (S : St) : Option (St × Int32) :=
  fX12_isText_27 fu fu x1 (0 : Int32) (0 : Int32) S
noncomputable def fX12_isText (fu : Nat) (x1 : Int32) (S : St) : Option (St × Int32) :=
  sI 63 8 (0 : Int32) S fun S_2 =>
  if x1 = (1 : Int32) then
    gd (ck (0 : Int32) 1040) <|
    if (S_2.1 70 ((0 : Int32)).toNatClampNeg) = (46 : Int32) then
      some (S_2, (1 : Int32))
    else
      fX12_isText_23 fu x1 S_2
  else
    fX12_isText_23 fu x1 S_2
theorem mvX12_isText : MV yX12_isText cX12_isText 4 (some .boolean) RX12 1 := ⟨gw7_189, gw7_188, gs_42, gw1_13, by decide +kernel⟩
def rmX12_isText : Room := { frames := 1, cells := 0, slots := 0, locals := 20 }
set_option maxHeartbeats 4000000 in
set_option maxRecDepth 100000 in
theorem m_X12_isText (l : Launch) (D : va_G) (cA : FieldType → ClassId) (ad : Nat → Nat) (base : Nat) (fu : Nat) {S S' : St} {x1 : Int32} {r : Int32} (hf : fX12_isText fu x1 S = some (S', r)) : Met l yX12_isText (GC yX12_isText cX12_isText 4 (some .boolean)) rmX12_isText (va_Pc [.ref (ad 63), .int x1] (wd D cA ad base S)) (QI D cA ad base S' r) 0 0 (aB base) := by
  refine Met.ofW (cc := cX12_isText) (maxL := 4) (ret := (some .boolean)) (by decide) rfl ?_
  intro p e s m args below meth c s₁ B hml hv
  obtain ⟨hargs, hwd⟩ := hv
  have hr := B.returns
  have hlocks := B.notSynchronized
  obtain ⟨C, hw⟩ := CX.of (own := RX12) rfl B hml hwd
  have hx := C.1
  have hb := C.2.1
  have hl := lv_entry ([.ref (ad 63), .int x1]) (n := 4) (Nat.le_of_ble_eq_true rfl)
  rw [show entryFrame m args 4 = entryFrame m ([.ref (ad 63), .int x1] : List Value).toArray 4 from by rw [hargs], lg_entry_eq]
  generalize (lg_sl ([.ref (ad 63), .int x1]) ++ List.replicate (4 - (lg_sl ([.ref (ad 63), .int x1])).length) Slot.unset).toArray = ls at hl ⊢
  have hl : lv_has ls 4 [(0, .ref (ad 63)), (1, .int x1)] := hl
  have L_27 : ∀ (n_27 : Nat) (x1 : Int32) (x2 : Int32) (x3 : Int32) (S : St) (H : Heap) (locs : List Loc) (ls : Array Slot), fX12_isText_27 fu n_27 x1 x2 x3 S = some (S', r) → lv_has ls 4 [(0, .ref (ad 63)), (1, .int x1), (2, .int x2), (3, .int x3)] → WS D cA ad base s S H locs → W p l e rmX12_isText s m args below meth c H locs 0 0 (MQ below (QI D cA ad base S' r) args s 0 0 (aB base)) (F0 m 27 ls []) := by
    intro n_27
    induction n_27 with
    | zero =>
      intro x1 x2 x3 S H locs ls hf hl hw
      exact (no_none hf).elim
    | succ n_27 ih_27 =>
      have J_122 : ∀ (x1 : Int32) (x2 : Int32) (x3 : Int32) (S : St) (H : Heap) (locs : List Loc) (ls : Array Slot), fX12_isText_122 fu (fX12_isText_27 fu n_27) x1 x2 x3 S = some (S', r) → lv_has ls 4 [(0, .ref (ad 63)), (1, .int x1), (2, .int x2), (3, .int x3)] → WS D cA ad base s S H locs → W p l e rmX12_isText s m args below meth c H locs 0 0 (MQ below (QI D cA ad base S' r) args s 0 0 (aB base)) (F0 m 122 ls []) := by
        intro x1 x2 x3 S H locs ls hf hl hw
        refine lv_iinc (v := (x3 + (1 : Int32))) (lv' := [(3, .int (x3 + (1 : Int32))), (0, .ref (ad 63)), (1, .int x1), (2, .int x2)]) hx hb dX12_isText_122 hl (k := 3) rfl rfl (by decide) rfl (fun ls hl => ?_)
        refine lv_goto (tgt := 27) hx hb dX12_isText_125 (by decide) ?_
        exact ih_27 _ _ _ _ _ _ _ hf (lv_sub hl [1, 2, 3, 0] rfl) hw
      have J_62 : ∀ (x1 : Int32) (x2 : Int32) (x3 : Int32) (S : St) (H : Heap) (locs : List Loc) (ls : Array Slot), fX12_isText_62 fu (fX12_isText_27 fu n_27) x1 x2 x3 S = some (S', r) → lv_has ls 4 [(0, .ref (ad 63)), (1, .int x1), (2, .int x2), (3, .int x3)] → WS D cA ad base s S H locs → W p l e rmX12_isText s m args below meth c H locs 0 0 (MQ below (QI D cA ad base S' r) args s 0 0 (aB base)) (F0 m 62 ls []) := by
        intro x1 x2 x3 S H locs ls hf hl hw
        refine lv_iload_n hx hb dX12_isText_62 rfl (lv_at hl 3 rfl) ?_
        refine lv_iload_n hx hb dX12_isText_63 rfl (lv_at hl 2 rfl) ?_
        refine lv_icmp_eq (tgt := 84) hx hb dX12_isText_64 (by decide) (fun c_64 => ?_) (fun c_64 => ?_)
        · have hf := if_t hf c_64
          refine lv_iconst (v := (0 : Int32)) hx hb dX12_isText_84 (by decide) ?_
          exact r_zret C hw hr hlocks rfl hf dX12_isText_85
        · have hf := if_f hf c_64
          refine lv_iload_n hx hb dX12_isText_67 rfl (lv_at hl 3 rfl) ?_
          refine lv_iload_n hx hb dX12_isText_68 rfl (lv_at hl 2 rfl) ?_
          refine lv_isub hx hb dX12_isText_69 ?_
          refine lv_bipush (v := (10 : Int32)) hx hb dX12_isText_70 (by decide) ?_
          refine lv_icmp_gt (tgt := 84) hx hb dX12_isText_72 (by decide) (fun c_72 => ?_) (fun c_72 => ?_)
          · have hf := if_t hf c_72
            refine lv_iconst (v := (0 : Int32)) hx hb dX12_isText_84 (by decide) ?_
            exact r_zret C hw hr hlocks rfl hf dX12_isText_85
          · have hf := if_f hf c_72
            refine lv_aload_n hx hb dX12_isText_75 rfl (lv_at hl 0 rfl) ?_
            refine r_getI C hw (k := 8) dq_63 ln_63 rfl vc_12 inX12 (by decide) rfl gw6_189 dX12_isText_76 ?_
            refine lv_bipush (v := (6 : Int32)) hx hb dX12_isText_79 (by decide) ?_
            refine lv_icmp_ne (tgt := 86) hx hb dX12_isText_81 (by decide) (fun c_81 => ?_) (fun c_81 => ?_)
            · have hf := if_f hf c_81
              refine lv_aload_n hx hb dX12_isText_86 rfl (lv_at hl 0 rfl) ?_
              refine r_getR C hw (k := 6) (r := 68) dq_63 ln_63 rfl vc_12 inX12 (by decide) rfl gw6_187 dX12_isText_87 ?_
              refine lv_aload_n hx hb dX12_isText_90 rfl (lv_at hl 0 rfl) ?_
              refine r_getI C hw (k := 8) dq_63 ln_63 rfl vc_12 inX12 (by decide) rfl gw6_189 dX12_isText_91 ?_
              refine lv_iload_n hx hb dX12_isText_94 rfl (lv_at hl 2 rfl) ?_
              obtain ⟨z_95, hf⟩ := gd_some hf
              obtain ⟨S_95, e_95, hf⟩ := sI_some hf
              refine r_iast C hw (x := 68) dq_68 ln_68 z_95 dX12_isText_95 e_95 (fun H locs hw => ?_)
              refine lv_aload_n hx hb dX12_isText_96 rfl (lv_at hl 0 rfl) ?_
              refine r_getR C hw (k := 7) (r := 69) dq_63 ln_63 rfl vc_12 inX12 (by decide) rfl gw6_188 dX12_isText_97 ?_
              refine lv_aload_n hx hb dX12_isText_100 rfl (lv_at hl 0 rfl) ?_
              refine r_getI C hw (k := 8) dq_63 ln_63 rfl vc_12 inX12 (by decide) rfl gw6_189 dX12_isText_101 ?_
              refine lv_iload_n hx hb dX12_isText_104 rfl (lv_at hl 3 rfl) ?_
              refine lv_iload_n hx hb dX12_isText_105 rfl (lv_at hl 2 rfl) ?_
              refine lv_isub hx hb dX12_isText_106 ?_
              obtain ⟨z_107, hf⟩ := gd_some hf
              obtain ⟨S_107, e_107, hf⟩ := sI_some hf
              refine r_iast C hw (x := 69) dq_69 ln_69 z_107 dX12_isText_107 e_107 (fun H locs hw => ?_)
              refine lv_aload_n hx hb dX12_isText_108 rfl (lv_at hl 0 rfl) ?_
              refine lv_dup hx hb dX12_isText_109 rfl ?_
              refine r_getI C hw (k := 8) dq_63 ln_63 rfl vc_12 inX12 (by decide) rfl gw6_189 dX12_isText_110 ?_
              refine lv_iconst (v := (1 : Int32)) hx hb dX12_isText_113 (by decide) ?_
              refine lv_iadd hx hb dX12_isText_114 ?_
              obtain ⟨S_115, e_115, hf⟩ := sI_some hf
              refine r_putI C hw (k := 8) (ty0 := tyX12) dq_63 ln_63 rfl vc_12 inX12 tyX12_ok nmX12 (by decide) rfl rfl gw6_189 rfl rfl dX12_isText_115 e_115 (fun H locs hw => ?_)
              refine lv_iload_n hx hb dX12_isText_118 rfl (lv_at hl 3 rfl) ?_
              refine lv_iconst (v := (1 : Int32)) hx hb dX12_isText_119 (by decide) ?_
              refine lv_iadd hx hb dX12_isText_120 ?_
              refine lv_istore_n (lv' := [(2, .int (x3 + (1 : Int32))), (0, .ref (ad 63)), (1, .int x1), (3, .int x3)]) hx hb dX12_isText_121 rfl hl (by decide) rfl (fun ls hl => ?_)
              exact J_122 _ _ _ _ _ _ _ hf (lv_sub hl [1, 2, 0, 3] rfl) hw
            · have hf := if_t hf c_81
              refine lv_iconst (v := (0 : Int32)) hx hb dX12_isText_84 (by decide) ?_
              exact r_zret C hw hr hlocks rfl hf dX12_isText_85
      intro x1 x2 x3 S H locs ls hf hl hw
      rw [fX12_isText_27_s] at hf
      refine lv_iload_n hx hb dX12_isText_27 rfl (lv_at hl 3 rfl) ?_
      refine lv_iload_n hx hb dX12_isText_28 rfl (lv_at hl 1 rfl) ?_
      refine lv_icmp_gt (tgt := 128) hx hb dX12_isText_29 (by decide) (fun c_29 => ?_) (fun c_29 => ?_)
      · have hf := if_t hf c_29
        refine lv_iconst (v := (1 : Int32)) hx hb dX12_isText_128 (by decide) ?_
        exact r_zret C hw hr hlocks rfl hf dX12_isText_129
      · have hf := if_f hf c_29
        refine lv_iload_n hx hb dX12_isText_32 rfl (lv_at hl 3 rfl) ?_
        refine lv_iload_n hx hb dX12_isText_33 rfl (lv_at hl 1 rfl) ?_
        refine lv_icmp_ge (tgt := 62) hx hb dX12_isText_34 (by decide) (fun c_34 => ?_) (fun c_34 => ?_)
        · have hf := if_t hf c_34
          exact J_62 _ _ _ _ _ _ _ hf (lv_sub hl [0, 1, 2, 3] rfl) hw
        · have hf := if_f hf c_34
          refine lv_aload_n hx hb dX12_isText_37 rfl (lv_at hl 0 rfl) ?_
          refine r_getR C hw (k := 9) (r := 70) dq_63 ln_63 rfl vc_12 inX12 (by decide) rfl gw6_190 dX12_isText_38 ?_
          refine lv_iload_n hx hb dX12_isText_41 rfl (lv_at hl 3 rfl) ?_
          obtain ⟨z_42, hf⟩ := gd_some hf
          refine r_bald C hw (x := 70) dq_70 ln_70 z_42 dX12_isText_42 ?_
          refine lv_bipush (v := (46 : Int32)) hx hb dX12_isText_43 (by decide) ?_
          refine lv_icmp_eq (tgt := 62) hx hb dX12_isText_45 (by decide) (fun c_45 => ?_) (fun c_45 => ?_)
          · have hf := if_t hf c_45
            exact J_62 _ _ _ _ _ _ _ hf (lv_sub hl [0, 1, 2, 3] rfl) hw
          · have hf := if_f hf c_45
            refine lv_aload_n hx hb dX12_isText_48 rfl (lv_at hl 0 rfl) ?_
            refine r_getR C hw (k := 9) (r := 70) dq_63 ln_63 rfl vc_12 inX12 (by decide) rfl gw6_190 dX12_isText_49 ?_
            refine lv_iload_n hx hb dX12_isText_52 rfl (lv_at hl 3 rfl) ?_
            obtain ⟨z_53, hf⟩ := gd_some hf
            refine r_bald C hw (x := 70) dq_70 ln_70 z_53 dX12_isText_53 ?_
            obtain ⟨S_54, r_54, h_54, hf⟩ := bd_some hf
            refine r_bi hw (r_runS (rest := []) C hw (m_X12_isLetter l D cA ad base fu h_54) msX12_isLetter gw7_190 ⟨rfl, rfl, Nat.le_of_ble_eq_true rfl, Nat.le_of_ble_eq_true rfl⟩ rfl hl.1 rfl (Nat.le_of_ble_eq_true rfl) dX12_isText_54 (Nat.zero_le _) (Nat.zero_le _)) (fun H locs hw => ?_)
            refine lv_if_ne (tgt := 122) hx hb dX12_isText_57 (by decide) (fun c_57 => ?_) (fun c_57 => ?_)
            · have hf := if_f hf c_57
              exact J_122 _ _ _ _ _ _ _ hf (lv_sub hl [0, 1, 2, 3] rfl) hw
            · have hf := if_t hf c_57
              refine lv_iconst (v := (0 : Int32)) hx hb dX12_isText_60 (by decide) ?_
              exact r_zret C hw hr hlocks rfl hf dX12_isText_61
  have J_23 : ∀ (x1 : Int32) (S : St) (H : Heap) (locs : List Loc) (ls : Array Slot), fX12_isText_23 fu x1 S = some (S', r) → lv_has ls 4 [(0, .ref (ad 63)), (1, .int x1)] → WS D cA ad base s S H locs → W p l e rmX12_isText s m args below meth c H locs 0 0 (MQ below (QI D cA ad base S' r) args s 0 0 (aB base)) (F0 m 23 ls []) := by
    intro x1 S H locs ls hf hl hw
    refine lv_iconst (v := (0 : Int32)) hx hb dX12_isText_23 (by decide) ?_
    refine lv_istore_n (lv' := [(2, .int (0 : Int32)), (0, .ref (ad 63)), (1, .int x1)]) hx hb dX12_isText_24 rfl hl (by decide) rfl (fun ls hl => ?_)
    refine lv_iconst (v := (0 : Int32)) hx hb dX12_isText_25 (by decide) ?_
    refine lv_istore_n (lv' := [(3, .int (0 : Int32)), (2, .int (0 : Int32)), (0, .ref (ad 63)), (1, .int x1)]) hx hb dX12_isText_26 rfl hl (by decide) rfl (fun ls hl => ?_)
    exact L_27 fu _ _ _ _ _ _ _ hf (lv_sub hl [2, 3, 1, 0] rfl) hw
  show W p l e rmX12_isText s m args below meth c s.heap [] 0 0 _ _
  refine lv_aload_n hx hb dX12_isText_0 rfl (lv_at hl 0 rfl) ?_
  refine lv_iconst (v := (0 : Int32)) hx hb dX12_isText_1 (by decide) ?_
  obtain ⟨S_2, e_2, hf⟩ := sI_some hf
  refine r_putI C hw (k := 8) (ty0 := tyX12) dq_63 ln_63 rfl vc_12 inX12 tyX12_ok nmX12 (by decide) rfl rfl gw6_189 rfl rfl dX12_isText_2 e_2 (fun H locs hw => ?_)
  refine lv_iload_n hx hb dX12_isText_5 rfl (lv_at hl 1 rfl) ?_
  refine lv_iconst (v := (1 : Int32)) hx hb dX12_isText_6 (by decide) ?_
  refine lv_icmp_ne (tgt := 23) hx hb dX12_isText_7 (by decide) (fun c_7 => ?_) (fun c_7 => ?_)
  · have hf := if_f hf c_7
    exact J_23 _ _ _ _ _ hf (lv_sub hl [0, 1] rfl) hw
  · have hf := if_t hf c_7
    refine lv_aload_n hx hb dX12_isText_10 rfl (lv_at hl 0 rfl) ?_
    refine r_getR C hw (k := 9) (r := 70) dq_63 ln_63 rfl vc_12 inX12 (by decide) rfl gw6_190 dX12_isText_11 ?_
    refine lv_iconst (v := (0 : Int32)) hx hb dX12_isText_14 (by decide) ?_
    obtain ⟨z_15, hf⟩ := gd_some hf
    refine r_bald C hw (x := 70) dq_70 ln_70 z_15 dX12_isText_15 ?_
    refine lv_bipush (v := (46 : Int32)) hx hb dX12_isText_16 (by decide) ?_
    refine lv_icmp_ne (tgt := 23) hx hb dX12_isText_18 (by decide) (fun c_18 => ?_) (fun c_18 => ?_)
    · have hf := if_f hf c_18
      exact J_23 _ _ _ _ _ hf (lv_sub hl [0, 1] rfl) hw
    · have hf := if_t hf c_18
      refine lv_iconst (v := (1 : Int32)) hx hb dX12_isText_21 (by decide) ?_
      exact r_zret C hw hr hlocks rfl hf dX12_isText_22
noncomputable def fX12_name_51 (fu : Nat) (t0 : Int32) (S : St) : Option (St × Int32) :=
  bd (fX12_throwsIf fu t0 (2 : Int32) S) fun S_52 r_52 =>
  if r_52 = 0 then
    bd (fX12_named fu 70 1040 S_52) fun S_65 r_65 =>
    some (S_65, r_65)
  else
    some (S_52, (0 : Int32))
noncomputable def fX12_name_19 (fu : Nat) (t0 : Int32) (S : St) : Option (St × Int32) :=
  bd (fX12_throwsIf fu t0 (1 : Int32) S) fun S_20 r_20 =>
  if r_20 = 0 then
    bd (fX12_missing fu 70 1040 S_20) fun S_36 r_36 =>
    if ((S_20.1 63 5) + r_36) ≤ (300 : Int32) then
      fX12_name_51 fu (0 : Int32) S_36
    else
      fX12_name_51 fu (1 : Int32) S_36
  else
    some (S_20, (0 : Int32))
noncomputable def fX12_name (fu : Nat) (S : St) : Option (St × Int32) :=
  bd (fX12_used fu S) fun S_1 r_1 =>
  bd (fX12_isText fu r_1 S_1) fun S_8 r_8 =>
  if r_8 = 0 then
    fX12_name_19 fu (1 : Int32) S_8
  else
    fX12_name_19 fu (0 : Int32) S_8
theorem mvX12_name : MV yX12_name cX12_name 2 (some .int) RX12 0 := ⟨gw7_181, gw7_179, gw7_180, gw1_13, by decide +kernel⟩
def rmX12_name : Room := { frames := 2, cells := 0, slots := 0, locals := 51 }
set_option maxHeartbeats 4000000 in
set_option maxRecDepth 100000 in
theorem m_X12_name (l : Launch) (D : va_G) (cA : FieldType → ClassId) (ad : Nat → Nat) (base : Nat) (fu : Nat) {S S' : St} {r : Int32} (hf : fX12_name fu S = some (S', r)) : Met l yX12_name (GC yX12_name cX12_name 2 (some .int)) rmX12_name (va_Pc [.ref (ad 63)] (wd D cA ad base S)) (QI D cA ad base S' r) 0 0 (aB base) := by
  refine Met.ofW (cc := cX12_name) (maxL := 2) (ret := (some .int)) (by decide) rfl ?_
  intro p e s m args below meth c s₁ B hml hv
  obtain ⟨hargs, hwd⟩ := hv
  have hr := B.returns
  have hlocks := B.notSynchronized
  obtain ⟨C, hw⟩ := CX.of (own := RX12) rfl B hml hwd
  have hx := C.1
  have hb := C.2.1
  have hl := lv_entry ([.ref (ad 63)]) (n := 2) (Nat.le_of_ble_eq_true rfl)
  rw [show entryFrame m args 2 = entryFrame m ([.ref (ad 63)] : List Value).toArray 2 from by rw [hargs], lg_entry_eq]
  generalize (lg_sl ([.ref (ad 63)]) ++ List.replicate (2 - (lg_sl ([.ref (ad 63)])).length) Slot.unset).toArray = ls at hl ⊢
  have hl : lv_has ls 2 [(0, .ref (ad 63))] := hl
  have J_51 : ∀ (t0 : Int32) (S : St) (H : Heap) (locs : List Loc) (ls : Array Slot), fX12_name_51 fu t0 S = some (S', r) → lv_has ls 2 [(0, .ref (ad 63))] → WS D cA ad base s S H locs → W p l e rmX12_name s m args below meth c H locs 0 0 (MQ below (QI D cA ad base S' r) args s 0 0 (aB base)) (F0 m 51 ls [.int t0, .ref (ad 63)]) := by
    intro t0 S H locs ls hf hl hw
    refine lv_iconst (v := (2 : Int32)) hx hb dX12_name_51 (by decide) ?_
    obtain ⟨S_52, r_52, h_52, hf⟩ := bd_some hf
    refine r_bi hw (r_runV (rest := []) C hw (m_X12_throwsIf l D cA ad base fu h_52) mvX12_throwsIf gw7_193 ⟨rfl, rfl, Nat.le_of_ble_eq_true rfl, Nat.le_of_ble_eq_true rfl⟩ dq_63 ln_63 vc_12 rfl hl.1 rfl (Nat.le_of_ble_eq_true rfl) dX12_name_52 (Nat.zero_le _) (Nat.zero_le _)) (fun H locs hw => ?_)
    refine lv_if_eq (tgt := 60) hx hb dX12_name_55 (by decide) (fun c_55 => ?_) (fun c_55 => ?_)
    · have hf := if_t hf c_55
      refine lv_aload_n hx hb dX12_name_60 rfl (lv_at hl 0 rfl) ?_
      refine lv_aload_n hx hb dX12_name_61 rfl (lv_at hl 0 rfl) ?_
      refine r_getR C hw (k := 9) (r := 70) dq_63 ln_63 rfl vc_12 inX12 (by decide) rfl gw6_190 dX12_name_62 ?_
      obtain ⟨S_65, r_65, h_65, hf⟩ := bd_some hf
      refine r_bi hw (r_runV (rest := []) C hw (m_X12_named l D cA ad base fu 70 1040 ⟨dq_70, ln_70⟩ h_65) mvX12_named gw7_205 ⟨rfl, rfl, Nat.le_of_ble_eq_true rfl, Nat.le_of_ble_eq_true rfl⟩ dq_63 ln_63 vc_12 rfl hl.1 rfl (Nat.le_of_ble_eq_true rfl) dX12_name_65 (Nat.zero_le _) (Nat.zero_le _)) (fun H locs hw => ?_)
      exact r_iret C hw hr hlocks hf dX12_name_68
    · have hf := if_f hf c_55
      refine lv_iconst (v := (0 : Int32)) hx hb dX12_name_58 (by decide) ?_
      exact r_iret C hw hr hlocks hf dX12_name_59
  have J_19 : ∀ (t0 : Int32) (S : St) (H : Heap) (locs : List Loc) (ls : Array Slot), fX12_name_19 fu t0 S = some (S', r) → lv_has ls 2 [(0, .ref (ad 63))] → WS D cA ad base s S H locs → W p l e rmX12_name s m args below meth c H locs 0 0 (MQ below (QI D cA ad base S' r) args s 0 0 (aB base)) (F0 m 19 ls [.int t0, .ref (ad 63)]) := by
    intro t0 S H locs ls hf hl hw
    refine lv_iconst (v := (1 : Int32)) hx hb dX12_name_19 (by decide) ?_
    obtain ⟨S_20, r_20, h_20, hf⟩ := bd_some hf
    refine r_bi hw (r_runV (rest := []) C hw (m_X12_throwsIf l D cA ad base fu h_20) mvX12_throwsIf gw7_193 ⟨rfl, rfl, Nat.le_of_ble_eq_true rfl, Nat.le_of_ble_eq_true rfl⟩ dq_63 ln_63 vc_12 rfl hl.1 rfl (Nat.le_of_ble_eq_true rfl) dX12_name_20 (Nat.zero_le _) (Nat.zero_le _)) (fun H locs hw => ?_)
    refine lv_if_ne (tgt := 58) hx hb dX12_name_23 (by decide) (fun c_23 => ?_) (fun c_23 => ?_)
    · have hf := if_f hf c_23
      refine lv_iconst (v := (0 : Int32)) hx hb dX12_name_58 (by decide) ?_
      exact r_iret C hw hr hlocks hf dX12_name_59
    · have hf := if_t hf c_23
      refine lv_aload_n hx hb dX12_name_26 rfl (lv_at hl 0 rfl) ?_
      refine lv_aload_n hx hb dX12_name_27 rfl (lv_at hl 0 rfl) ?_
      refine r_getI C hw (k := 5) dq_63 ln_63 rfl vc_12 inX12 (by decide) rfl gw6_186 dX12_name_28 ?_
      refine lv_aload_n hx hb dX12_name_31 rfl (lv_at hl 0 rfl) ?_
      refine lv_aload_n hx hb dX12_name_32 rfl (lv_at hl 0 rfl) ?_
      refine r_getR C hw (k := 9) (r := 70) dq_63 ln_63 rfl vc_12 inX12 (by decide) rfl gw6_190 dX12_name_33 ?_
      obtain ⟨S_36, r_36, h_36, hf⟩ := bd_some hf
      refine r_bi hw (r_runV (rest := [.int (S_20.1 63 5), .ref (ad 63)]) C hw (m_X12_missing l D cA ad base fu 70 1040 ⟨dq_70, ln_70⟩ h_36) mvX12_missing gw7_197 ⟨rfl, rfl, Nat.le_of_ble_eq_true rfl, Nat.le_of_ble_eq_true rfl⟩ dq_63 ln_63 vc_12 rfl hl.1 rfl (Nat.le_of_ble_eq_true rfl) dX12_name_36 (Nat.zero_le _) (Nat.zero_le _)) (fun H locs hw => ?_)
      refine lv_iadd hx hb dX12_name_39 ?_
      refine lv_sipush (v := (300 : Int32)) hx hb dX12_name_40 (by decide) ?_
      refine lv_icmp_le (tgt := 50) hx hb dX12_name_43 (by decide) (fun c_43 => ?_) (fun c_43 => ?_)
      · have hf := if_t hf c_43
        refine lv_iconst (v := (0 : Int32)) hx hb dX12_name_50 (by decide) ?_
        exact J_51 _ _ _ _ _ hf (lv_sub hl [0] rfl) hw
      · have hf := if_f hf c_43
        refine lv_iconst (v := (1 : Int32)) hx hb dX12_name_46 (by decide) ?_
        refine lv_goto (tgt := 51) hx hb dX12_name_47 (by decide) ?_
        exact J_51 _ _ _ _ _ hf (lv_sub hl [0] rfl) hw
  show W p l e rmX12_name s m args below meth c s.heap [] 0 0 _ _
  refine lv_aload_n hx hb dX12_name_0 rfl (lv_at hl 0 rfl) ?_
  obtain ⟨S_1, r_1, h_1, hf⟩ := bd_some hf
  refine r_bi hw (r_runV (rest := []) C hw (m_X12_used l D cA ad base fu h_1) mvX12_used gw7_182 ⟨rfl, rfl, Nat.le_of_ble_eq_true rfl, Nat.le_of_ble_eq_true rfl⟩ dq_63 ln_63 vc_12 rfl hl.1 rfl (Nat.le_of_ble_eq_true rfl) dX12_name_1 (Nat.zero_le _) (Nat.zero_le _)) (fun H locs hw => ?_)
  refine lv_istore_n (lv' := [(1, .int r_1), (0, .ref (ad 63))]) hx hb dX12_name_4 rfl hl (by decide) rfl (fun ls hl => ?_)
  refine lv_aload_n hx hb dX12_name_5 rfl (lv_at hl 1 rfl) ?_
  refine lv_aload_n hx hb dX12_name_6 rfl (lv_at hl 1 rfl) ?_
  refine lv_iload_n hx hb dX12_name_7 rfl (lv_at hl 0 rfl) ?_
  obtain ⟨S_8, r_8, h_8, hf⟩ := bd_some hf
  refine r_bi hw (r_runV (rest := [.ref (ad 63)]) C hw (m_X12_isText l D cA ad base fu h_8) mvX12_isText gw7_186 ⟨rfl, rfl, Nat.le_of_ble_eq_true rfl, Nat.le_of_ble_eq_true rfl⟩ dq_63 ln_63 vc_12 rfl hl.1 rfl (Nat.le_of_ble_eq_true rfl) dX12_name_8 (Nat.zero_le _) (Nat.zero_le _)) (fun H locs hw => ?_)
  refine lv_if_ne (tgt := 18) hx hb dX12_name_11 (by decide) (fun c_11 => ?_) (fun c_11 => ?_)
  · have hf := if_f hf c_11
    refine lv_iconst (v := (0 : Int32)) hx hb dX12_name_18 (by decide) ?_
    exact J_19 _ _ _ _ _ hf (lv_sub hl [1] rfl) hw
  · have hf := if_t hf c_11
    refine lv_iconst (v := (1 : Int32)) hx hb dX12_name_14 (by decide) ?_
    refine lv_goto (tgt := 19) hx hb dX12_name_15 (by decide) ?_
    exact J_19 _ _ _ _ _ hf (lv_sub hl [1] rfl) hw
noncomputable def fX12_textSize_10 (fu : Nat) (n : Nat) : Int32 → Int32 → St → Option (St × Int32) :=
  Nat.rec (motive := fun _ => Int32 → Int32 → St → Option (St × Int32)) (fun _ _ _ => none) (fun _ k_10 x2 x3 S =>
    if x3 ≤ 0 then
      some (S, x2)
    else
      gd (ck x3 300) <|
      gd (ck x3 300) <|
      k_10 (x2 + ((1 : Int32) + (S.1 66 (x3).toNatClampNeg))) (S.1 64 (x3).toNatClampNeg) S) n
theorem fX12_textSize_10_s (fu : Nat) (n : Nat) (x2 : Int32) (x3 : Int32) (S : St) : fX12_textSize_10 fu (n + 1) x2 x3 S = (
    if x3 ≤ 0 then
      some (S, x2)
    else
      gd (ck x3 300) <|
      gd (ck x3 300) <|
      (fX12_textSize_10 fu n) (x2 + ((1 : Int32) + (S.1 66 (x3).toNatClampNeg))) (S.1 64 (x3).toNatClampNeg) S) := rfl
noncomputable def fX12_textSize (fu : Nat) (x1 : Int32) (S : St) : Option (St × Int32) :=
  if x1 = 0 then
    some (S, (1 : Int32))
  else
    fX12_textSize_10 fu fu (-1 : Int32) x1 S
theorem mvX12_textSize : MV yX12_textSize cX12_textSize 4 (some .int) RX12 1 := ⟨gw7_224, gw7_223, gs_49, gw1_13, by decide +kernel⟩
def rmX12_textSize : Room := { frames := 0, cells := 0, slots := 0, locals := 0 }
set_option maxHeartbeats 4000000 in
set_option maxRecDepth 100000 in
theorem m_X12_textSize (l : Launch) (D : va_G) (cA : FieldType → ClassId) (ad : Nat → Nat) (base : Nat) (fu : Nat) {S S' : St} {x1 : Int32} {r : Int32} (hf : fX12_textSize fu x1 S = some (S', r)) : Met l yX12_textSize (GC yX12_textSize cX12_textSize 4 (some .int)) rmX12_textSize (va_Pc [.ref (ad 63), .int x1] (wd D cA ad base S)) (QI D cA ad base S' r) 0 0 (aB base) := by
  refine Met.ofW (cc := cX12_textSize) (maxL := 4) (ret := (some .int)) (by decide) rfl ?_
  intro p e s m args below meth c s₁ B hml hv
  obtain ⟨hargs, hwd⟩ := hv
  have hr := B.returns
  have hlocks := B.notSynchronized
  obtain ⟨C, hw⟩ := CX.of (own := RX12) rfl B hml hwd
  have hx := C.1
  have hb := C.2.1
  have hl := lv_entry ([.ref (ad 63), .int x1]) (n := 4) (Nat.le_of_ble_eq_true rfl)
  rw [show entryFrame m args 4 = entryFrame m ([.ref (ad 63), .int x1] : List Value).toArray 4 from by rw [hargs], lg_entry_eq]
  generalize (lg_sl ([.ref (ad 63), .int x1]) ++ List.replicate (4 - (lg_sl ([.ref (ad 63), .int x1])).length) Slot.unset).toArray = ls at hl ⊢
  have hl : lv_has ls 4 [(0, .ref (ad 63)), (1, .int x1)] := hl
  have L_10 : ∀ (n_10 : Nat) (x2 : Int32) (x3 : Int32) (S : St) (H : Heap) (locs : List Loc) (ls : Array Slot), fX12_textSize_10 fu n_10 x2 x3 S = some (S', r) → lv_has ls 4 [(0, .ref (ad 63)), (2, .int x2), (3, .int x3)] → WS D cA ad base s S H locs → W p l e rmX12_textSize s m args below meth c H locs 0 0 (MQ below (QI D cA ad base S' r) args s 0 0 (aB base)) (F0 m 10 ls []) := by
    intro n_10
    induction n_10 with
    | zero =>
      intro x2 x3 S H locs ls hf hl hw
      exact (no_none hf).elim
    | succ n_10 ih_10 =>
      intro x2 x3 S H locs ls hf hl hw
      rw [fX12_textSize_10_s] at hf
      refine lv_iload_n hx hb dX12_textSize_10 rfl (lv_at hl 2 rfl) ?_
      refine lv_if_le (tgt := 35) hx hb dX12_textSize_11 (by decide) (fun c_11 => ?_) (fun c_11 => ?_)
      · have hf := if_t hf c_11
        refine lv_iload_n hx hb dX12_textSize_35 rfl (lv_at hl 1 rfl) ?_
        exact r_iret C hw hr hlocks hf dX12_textSize_36
      · have hf := if_f hf c_11
        refine lv_iload_n hx hb dX12_textSize_14 rfl (lv_at hl 1 rfl) ?_
        refine lv_iconst (v := (1 : Int32)) hx hb dX12_textSize_15 (by decide) ?_
        refine lv_aload_n hx hb dX12_textSize_16 rfl (lv_at hl 0 rfl) ?_
        refine r_getR C hw (k := 3) (r := 66) dq_63 ln_63 rfl vc_12 inX12 (by decide) rfl gw6_184 dX12_textSize_17 ?_
        refine lv_iload_n hx hb dX12_textSize_20 rfl (lv_at hl 2 rfl) ?_
        obtain ⟨z_21, hf⟩ := gd_some hf
        refine r_iald C hw (x := 66) dq_66 ln_66 z_21 dX12_textSize_21 ?_
        refine lv_iadd hx hb dX12_textSize_22 ?_
        refine lv_iadd hx hb dX12_textSize_23 ?_
        refine lv_istore_n (lv' := [(2, .int (x2 + ((1 : Int32) + (S.1 66 (x3).toNatClampNeg)))), (0, .ref (ad 63)), (3, .int x3)]) hx hb dX12_textSize_24 rfl hl (by decide) rfl (fun ls hl => ?_)
        refine lv_aload_n hx hb dX12_textSize_25 rfl (lv_at hl 1 rfl) ?_
        refine r_getR C hw (k := 1) (r := 64) dq_63 ln_63 rfl vc_12 inX12 (by decide) rfl gw6_182 dX12_textSize_26 ?_
        refine lv_iload_n hx hb dX12_textSize_29 rfl (lv_at hl 2 rfl) ?_
        obtain ⟨z_30, hf⟩ := gd_some hf
        refine r_iald C hw (x := 64) dq_64 ln_64 z_30 dX12_textSize_30 ?_
        refine lv_istore_n (lv' := [(3, .int (S.1 64 (x3).toNatClampNeg)), (2, .int (x2 + ((1 : Int32) + (S.1 66 (x3).toNatClampNeg)))), (0, .ref (ad 63))]) hx hb dX12_textSize_31 rfl hl (by decide) rfl (fun ls hl => ?_)
        refine lv_goto (tgt := 10) hx hb dX12_textSize_32 (by decide) ?_
        exact ih_10 _ _ _ _ _ _ hf (lv_sub hl [2, 1, 0] rfl) hw
  show W p l e rmX12_textSize s m args below meth c s.heap [] 0 0 _ _
  refine lv_iload_n hx hb dX12_textSize_0 rfl (lv_at hl 1 rfl) ?_
  refine lv_if_ne (tgt := 6) hx hb dX12_textSize_1 (by decide) (fun c_1 => ?_) (fun c_1 => ?_)
  · have hf := if_f hf c_1
    refine lv_iconst (v := (-1 : Int32)) hx hb dX12_textSize_6 (by decide) ?_
    refine lv_istore_n (lv' := [(2, .int (-1 : Int32)), (0, .ref (ad 63)), (1, .int x1)]) hx hb dX12_textSize_7 rfl hl (by decide) rfl (fun ls hl => ?_)
    refine lv_iload_n hx hb dX12_textSize_8 rfl (lv_at hl 2 rfl) ?_
    refine lv_istore_n (lv' := [(3, .int x1), (2, .int (-1 : Int32)), (0, .ref (ad 63)), (1, .int x1)]) hx hb dX12_textSize_9 rfl hl (by decide) rfl (fun ls hl => ?_)
    exact L_10 fu _ _ _ _ _ _ hf (lv_sub hl [2, 1, 0] rfl) hw
  · have hf := if_t hf c_1
    refine lv_iconst (v := (1 : Int32)) hx hb dX12_textSize_4 (by decide) ?_
    exact r_iret C hw hr hlocks hf dX12_textSize_5
noncomputable def fX12_look (fu : Nat) (x1 : Int32) (x2 : Int32) (S : St) : Option (St × Int32) :=
  sI 63 0 (0 : Int32) S fun S_2 =>
  bd (fX12_noName fu x1 S_2) fun S_8 r_8 =>
  bd (fX12_throwsIf fu r_8 (1 : Int32) S_8) fun S_12 r_12 =>
  if r_12 = 0 then
    if x2 = (0 : Int32) then
      gd (ck x1 300) <|
      some (S_12, (S_12.1 67 (x1).toNatClampNeg))
    else
    if x2 = (1 : Int32) then
      gd (ck x1 300) <|
      some (S_12, (S_12.1 64 (x1).toNatClampNeg))
    else
    if x2 = (2 : Int32) then
      bd (fX12_textSize fu x1 S_12) fun S_64 r_64 =>
      some (S_64, r_64)
    else
      sI 63 0 (2 : Int32) S_12 fun S_70 =>
      some (S_70, (0 : Int32))
  else
    some (S_12, (0 : Int32))
theorem mvX12_look : MV yX12_look cX12_look 3 (some .int) RX12 2 := ⟨gw7_216, gw7_214, gw7_215, gw1_13, by decide +kernel⟩
def rmX12_look : Room := { frames := 1, cells := 0, slots := 0, locals := 23 }
set_option maxHeartbeats 4000000 in
set_option maxRecDepth 100000 in
theorem m_X12_look (l : Launch) (D : va_G) (cA : FieldType → ClassId) (ad : Nat → Nat) (base : Nat) (fu : Nat) {S S' : St} {x1 : Int32} {x2 : Int32} {r : Int32} (hf : fX12_look fu x1 x2 S = some (S', r)) : Met l yX12_look (GC yX12_look cX12_look 3 (some .int)) rmX12_look (va_Pc [.ref (ad 63), .int x1, .int x2] (wd D cA ad base S)) (QI D cA ad base S' r) 0 0 (aB base) := by
  refine Met.ofW (cc := cX12_look) (maxL := 3) (ret := (some .int)) (by decide) rfl ?_
  intro p e s m args below meth c s₁ B hml hv
  obtain ⟨hargs, hwd⟩ := hv
  have hr := B.returns
  have hlocks := B.notSynchronized
  obtain ⟨C, hw⟩ := CX.of (own := RX12) rfl B hml hwd
  have hx := C.1
  have hb := C.2.1
  have hl := lv_entry ([.ref (ad 63), .int x1, .int x2]) (n := 3) (Nat.le_of_ble_eq_true rfl)
  rw [show entryFrame m args 3 = entryFrame m ([.ref (ad 63), .int x1, .int x2] : List Value).toArray 3 from by rw [hargs], lg_entry_eq]
  generalize (lg_sl ([.ref (ad 63), .int x1, .int x2]) ++ List.replicate (3 - (lg_sl ([.ref (ad 63), .int x1, .int x2])).length) Slot.unset).toArray = ls at hl ⊢
  have hl : lv_has ls 3 [(0, .ref (ad 63)), (1, .int x1), (2, .int x2)] := hl
  show W p l e rmX12_look s m args below meth c s.heap [] 0 0 _ _
  refine lv_aload_n hx hb dX12_look_0 rfl (lv_at hl 0 rfl) ?_
  refine lv_iconst (v := (0 : Int32)) hx hb dX12_look_1 (by decide) ?_
  obtain ⟨S_2, e_2, hf⟩ := sI_some hf
  refine r_putI C hw (k := 0) (ty0 := tyX12) dq_63 ln_63 rfl vc_12 inX12 tyX12_ok nmX12 (by decide) rfl rfl gw6_181 rfl rfl dX12_look_2 e_2 (fun H locs hw => ?_)
  refine lv_aload_n hx hb dX12_look_5 rfl (lv_at hl 0 rfl) ?_
  refine lv_aload_n hx hb dX12_look_6 rfl (lv_at hl 0 rfl) ?_
  refine lv_iload_n hx hb dX12_look_7 rfl (lv_at hl 1 rfl) ?_
  obtain ⟨S_8, r_8, h_8, hf⟩ := bd_some hf
  refine r_bi hw (r_runV (rest := [.ref (ad 63)]) C hw (m_X12_noName l D cA ad base fu h_8) mvX12_noName gw7_217 ⟨rfl, rfl, Nat.le_of_ble_eq_true rfl, Nat.le_of_ble_eq_true rfl⟩ dq_63 ln_63 vc_12 rfl hl.1 rfl (Nat.le_of_ble_eq_true rfl) dX12_look_8 (Nat.zero_le _) (Nat.zero_le _)) (fun H locs hw => ?_)
  refine lv_iconst (v := (1 : Int32)) hx hb dX12_look_11 (by decide) ?_
  obtain ⟨S_12, r_12, h_12, hf⟩ := bd_some hf
  refine r_bi hw (r_runV (rest := []) C hw (m_X12_throwsIf l D cA ad base fu h_12) mvX12_throwsIf gw7_193 ⟨rfl, rfl, Nat.le_of_ble_eq_true rfl, Nat.le_of_ble_eq_true rfl⟩ dq_63 ln_63 vc_12 rfl hl.1 rfl (Nat.le_of_ble_eq_true rfl) dX12_look_12 (Nat.zero_le _) (Nat.zero_le _)) (fun H locs hw => ?_)
  refine lv_if_eq (tgt := 20) hx hb dX12_look_15 (by decide) (fun c_15 => ?_) (fun c_15 => ?_)
  · have hf := if_t hf c_15
    refine lv_iload_n hx hb dX12_look_20 rfl (lv_at hl 2 rfl) ?_
    by_cases c_21_0 : x2 = (0 : Int32)
    · have hf := if_t hf c_21_0
      refine lv_tableIn (tgt := 48) hx hb dX12_look_21 (by rw [c_21_0]; decide) (by rw [c_21_0]; decide) (off := 27) (by rw [c_21_0]; rfl) (by decide) ?_
      refine lv_aload_n hx hb dX12_look_48 rfl (lv_at hl 0 rfl) ?_
      refine r_getR C hw (k := 4) (r := 67) dq_63 ln_63 rfl vc_12 inX12 (by decide) rfl gw6_185 dX12_look_49 ?_
      refine lv_iload_n hx hb dX12_look_52 rfl (lv_at hl 1 rfl) ?_
      obtain ⟨z_53, hf⟩ := gd_some hf
      refine r_iald C hw (x := 67) dq_67 ln_67 z_53 dX12_look_53 ?_
      exact r_iret C hw hr hlocks hf dX12_look_54
    have hf := if_f hf c_21_0
    by_cases c_21_1 : x2 = (1 : Int32)
    · have hf := if_t hf c_21_1
      refine lv_tableIn (tgt := 55) hx hb dX12_look_21 (by rw [c_21_1]; decide) (by rw [c_21_1]; decide) (off := 34) (by rw [c_21_1]; rfl) (by decide) ?_
      refine lv_aload_n hx hb dX12_look_55 rfl (lv_at hl 0 rfl) ?_
      refine r_getR C hw (k := 1) (r := 64) dq_63 ln_63 rfl vc_12 inX12 (by decide) rfl gw6_182 dX12_look_56 ?_
      refine lv_iload_n hx hb dX12_look_59 rfl (lv_at hl 1 rfl) ?_
      obtain ⟨z_60, hf⟩ := gd_some hf
      refine r_iald C hw (x := 64) dq_64 ln_64 z_60 dX12_look_60 ?_
      exact r_iret C hw hr hlocks hf dX12_look_61
    have hf := if_f hf c_21_1
    by_cases c_21_2 : x2 = (2 : Int32)
    · have hf := if_t hf c_21_2
      refine lv_tableIn (tgt := 62) hx hb dX12_look_21 (by rw [c_21_2]; decide) (by rw [c_21_2]; decide) (off := 41) (by rw [c_21_2]; rfl) (by decide) ?_
      refine lv_aload_n hx hb dX12_look_62 rfl (lv_at hl 0 rfl) ?_
      refine lv_iload_n hx hb dX12_look_63 rfl (lv_at hl 1 rfl) ?_
      obtain ⟨S_64, r_64, h_64, hf⟩ := bd_some hf
      refine r_bi hw (r_runV (rest := []) C hw (m_X12_textSize l D cA ad base fu h_64) mvX12_textSize gw7_221 ⟨rfl, rfl, Nat.le_of_ble_eq_true rfl, Nat.le_of_ble_eq_true rfl⟩ dq_63 ln_63 vc_12 rfl hl.1 rfl (Nat.le_of_ble_eq_true rfl) dX12_look_64 (Nat.zero_le _) (Nat.zero_le _)) (fun H locs hw => ?_)
      exact r_iret C hw hr hlocks hf dX12_look_67
    have hf := if_f hf c_21_2
    refine lv_tableOut (tgt := 68) hx hb dX12_look_21 (sw_out 3 (fun k hk => by rcases (show k = 0 ∨ k = 1 ∨ k = 2 by omega) with rfl | rfl | rfl <;> assumption)) (by decide) ?_
    refine lv_aload_n hx hb dX12_look_68 rfl (lv_at hl 0 rfl) ?_
    refine lv_iconst (v := (2 : Int32)) hx hb dX12_look_69 (by decide) ?_
    obtain ⟨S_70, e_70, hf⟩ := sI_some hf
    refine r_putI C hw (k := 0) (ty0 := tyX12) dq_63 ln_63 rfl vc_12 inX12 tyX12_ok nmX12 (by decide) rfl rfl gw6_181 rfl rfl dX12_look_70 e_70 (fun H locs hw => ?_)
    refine lv_iconst (v := (0 : Int32)) hx hb dX12_look_73 (by decide) ?_
    exact r_iret C hw hr hlocks hf dX12_look_74
  · have hf := if_f hf c_15
    refine lv_iconst (v := (0 : Int32)) hx hb dX12_look_18 (by decide) ?_
    exact r_iret C hw hr hlocks hf dX12_look_19
noncomputable def fX12_text_47 (fu : Nat) (n : Nat) : Int32 → Int32 → St → Option (St × Int32) :=
  Nat.rec (motive := fun _ => Int32 → Int32 → St → Option (St × Int32)) (fun _ _ _ => none) (fun _ k_47 x3 x4 S =>
    if x4 ≤ 0 then
      some (S, (-1 : Int32))
    else
      gd (ck x4 300) <|
      if (S.1 66 (x4).toNatClampNeg) ≤ x3 then
        gd (ck x4 300) <|
        if x3 = (S.1 66 (x4).toNatClampNeg) then
          some (S, (46 : Int32))
        else
          gd (ck x4 300) <|
          gd (ck x4 300) <|
          k_47 (x3 - ((S.1 66 (x4).toNatClampNeg) + (1 : Int32))) (S.1 64 (x4).toNatClampNeg) S
      else
        gd (ck (((10 : Int32) * x4) + x3) 3000) <|
        some (S, (S.1 65 ((((10 : Int32) * x4) + x3)).toNatClampNeg))) n
theorem fX12_text_47_s (fu : Nat) (n : Nat) (x3 : Int32) (x4 : Int32) (S : St) : fX12_text_47 fu (n + 1) x3 x4 S = (
    if x4 ≤ 0 then
      some (S, (-1 : Int32))
    else
      gd (ck x4 300) <|
      if (S.1 66 (x4).toNatClampNeg) ≤ x3 then
        gd (ck x4 300) <|
        if x3 = (S.1 66 (x4).toNatClampNeg) then
          some (S, (46 : Int32))
        else
          gd (ck x4 300) <|
          gd (ck x4 300) <|
          (fX12_text_47 fu n) (x3 - ((S.1 66 (x4).toNatClampNeg) + (1 : Int32))) (S.1 64 (x4).toNatClampNeg) S
      else
        gd (ck (((10 : Int32) * x4) + x3) 3000) <|
        some (S, (S.1 65 ((((10 : Int32) * x4) + x3)).toNatClampNeg))) := rfl
noncomputable def fX12_text (fu : Nat) (x1 : Int32) (x2 : Int32) (S : St) : Option (St × Int32) :=
  sI 63 0 (0 : Int32) S fun S_2 =>
  bd (fX12_noName fu x1 S_2) fun S_8 r_8 =>
  bd (fX12_throwsIf fu r_8 (1 : Int32) S_8) fun S_12 r_12 =>
  if r_12 = 0 then
    if x2 < 0 then
      some (S_12, (-1 : Int32))
    else
      bd (fX12_textSize fu x1 S_12) fun S_27 r_27 =>
      if x2 < r_27 then
        if x1 = 0 then
          some (S_27, (46 : Int32))
        else
          fX12_text_47 fu fu x2 x1 S_27
      else
        some (S_27, (-1 : Int32))
  else
    some (S_12, (0 : Int32))
theorem mvX12_text : MV yX12_text cX12_text 5 (some .int) RX12 2 := ⟨gw7_228, gw7_226, gw7_227, gw1_13, by decide +kernel⟩
def rmX12_text : Room := { frames := 1, cells := 0, slots := 0, locals := 23 }
set_option maxHeartbeats 4000000 in
set_option maxRecDepth 100000 in
theorem m_X12_text (l : Launch) (D : va_G) (cA : FieldType → ClassId) (ad : Nat → Nat) (base : Nat) (fu : Nat) {S S' : St} {x1 : Int32} {x2 : Int32} {r : Int32} (hf : fX12_text fu x1 x2 S = some (S', r)) : Met l yX12_text (GC yX12_text cX12_text 5 (some .int)) rmX12_text (va_Pc [.ref (ad 63), .int x1, .int x2] (wd D cA ad base S)) (QI D cA ad base S' r) 0 0 (aB base) := by
  refine Met.ofW (cc := cX12_text) (maxL := 5) (ret := (some .int)) (by decide) rfl ?_
  intro p e s m args below meth c s₁ B hml hv
  obtain ⟨hargs, hwd⟩ := hv
  have hr := B.returns
  have hlocks := B.notSynchronized
  obtain ⟨C, hw⟩ := CX.of (own := RX12) rfl B hml hwd
  have hx := C.1
  have hb := C.2.1
  have hl := lv_entry ([.ref (ad 63), .int x1, .int x2]) (n := 5) (Nat.le_of_ble_eq_true rfl)
  rw [show entryFrame m args 5 = entryFrame m ([.ref (ad 63), .int x1, .int x2] : List Value).toArray 5 from by rw [hargs], lg_entry_eq]
  generalize (lg_sl ([.ref (ad 63), .int x1, .int x2]) ++ List.replicate (5 - (lg_sl ([.ref (ad 63), .int x1, .int x2])).length) Slot.unset).toArray = ls at hl ⊢
  have hl : lv_has ls 5 [(0, .ref (ad 63)), (1, .int x1), (2, .int x2)] := hl
  have L_47 : ∀ (n_47 : Nat) (x3 : Int32) (x4 : Int32) (S : St) (H : Heap) (locs : List Loc) (ls : Array Slot), fX12_text_47 fu n_47 x3 x4 S = some (S', r) → lv_has ls 5 [(0, .ref (ad 63)), (3, .int x3), (4, .int x4)] → WS D cA ad base s S H locs → W p l e rmX12_text s m args below meth c H locs 0 0 (MQ below (QI D cA ad base S' r) args s 0 0 (aB base)) (F0 m 47 ls []) := by
    intro n_47
    induction n_47 with
    | zero =>
      intro x3 x4 S H locs ls hf hl hw
      exact (no_none hf).elim
    | succ n_47 ih_47 =>
      intro x3 x4 S H locs ls hf hl hw
      rw [fX12_text_47_s] at hf
      refine lv_iload hx hb dX12_text_47 (lv_at hl 2 rfl) ?_
      refine lv_if_le (tgt := 114) hx hb dX12_text_49 (by decide) (fun c_49 => ?_) (fun c_49 => ?_)
      · have hf := if_t hf c_49
        refine lv_iconst (v := (-1 : Int32)) hx hb dX12_text_114 (by decide) ?_
        exact r_iret C hw hr hlocks hf dX12_text_115
      · have hf := if_f hf c_49
        refine lv_iload_n hx hb dX12_text_52 rfl (lv_at hl 1 rfl) ?_
        refine lv_aload_n hx hb dX12_text_53 rfl (lv_at hl 0 rfl) ?_
        refine r_getR C hw (k := 3) (r := 66) dq_63 ln_63 rfl vc_12 inX12 (by decide) rfl gw6_184 dX12_text_54 ?_
        refine lv_iload hx hb dX12_text_57 (lv_at hl 2 rfl) ?_
        obtain ⟨z_59, hf⟩ := gd_some hf
        refine r_iald C hw (x := 66) dq_66 ln_66 z_59 dX12_text_59 ?_
        refine lv_icmp_ge (tgt := 76) hx hb dX12_text_60 (by decide) (fun c_60 => ?_) (fun c_60 => ?_)
        · have hf := if_t hf c_60
          refine lv_iload_n hx hb dX12_text_76 rfl (lv_at hl 1 rfl) ?_
          refine lv_aload_n hx hb dX12_text_77 rfl (lv_at hl 0 rfl) ?_
          refine r_getR C hw (k := 3) (r := 66) dq_63 ln_63 rfl vc_12 inX12 (by decide) rfl gw6_184 dX12_text_78 ?_
          refine lv_iload hx hb dX12_text_81 (lv_at hl 2 rfl) ?_
          obtain ⟨z_83, hf⟩ := gd_some hf
          refine r_iald C hw (x := 66) dq_66 ln_66 z_83 dX12_text_83 ?_
          refine lv_icmp_ne (tgt := 90) hx hb dX12_text_84 (by decide) (fun c_84 => ?_) (fun c_84 => ?_)
          · have hf := if_f hf c_84
            refine lv_iload_n hx hb dX12_text_90 rfl (lv_at hl 1 rfl) ?_
            refine lv_aload_n hx hb dX12_text_91 rfl (lv_at hl 0 rfl) ?_
            refine r_getR C hw (k := 3) (r := 66) dq_63 ln_63 rfl vc_12 inX12 (by decide) rfl gw6_184 dX12_text_92 ?_
            refine lv_iload hx hb dX12_text_95 (lv_at hl 2 rfl) ?_
            obtain ⟨z_97, hf⟩ := gd_some hf
            refine r_iald C hw (x := 66) dq_66 ln_66 z_97 dX12_text_97 ?_
            refine lv_iconst (v := (1 : Int32)) hx hb dX12_text_98 (by decide) ?_
            refine lv_iadd hx hb dX12_text_99 ?_
            refine lv_isub hx hb dX12_text_100 ?_
            refine lv_istore_n (lv' := [(3, .int (x3 - ((S.1 66 (x4).toNatClampNeg) + (1 : Int32)))), (0, .ref (ad 63)), (4, .int x4)]) hx hb dX12_text_101 rfl hl (by decide) rfl (fun ls hl => ?_)
            refine lv_aload_n hx hb dX12_text_102 rfl (lv_at hl 1 rfl) ?_
            refine r_getR C hw (k := 1) (r := 64) dq_63 ln_63 rfl vc_12 inX12 (by decide) rfl gw6_182 dX12_text_103 ?_
            refine lv_iload hx hb dX12_text_106 (lv_at hl 2 rfl) ?_
            obtain ⟨z_108, hf⟩ := gd_some hf
            refine r_iald C hw (x := 64) dq_64 ln_64 z_108 dX12_text_108 ?_
            refine lv_istore (lv' := [(4, .int (S.1 64 (x4).toNatClampNeg)), (3, .int (x3 - ((S.1 66 (x4).toNatClampNeg) + (1 : Int32)))), (0, .ref (ad 63))]) hx hb dX12_text_109 hl (by decide) rfl (fun ls hl => ?_)
            refine lv_goto (tgt := 47) hx hb dX12_text_111 (by decide) ?_
            exact ih_47 _ _ _ _ _ _ hf (lv_sub hl [2, 1, 0] rfl) hw
          · have hf := if_t hf c_84
            refine lv_bipush (v := (46 : Int32)) hx hb dX12_text_87 (by decide) ?_
            exact r_iret C hw hr hlocks hf dX12_text_89
        · have hf := if_f hf c_60
          refine lv_aload_n hx hb dX12_text_63 rfl (lv_at hl 0 rfl) ?_
          refine r_getR C hw (k := 2) (r := 65) dq_63 ln_63 rfl vc_12 inX12 (by decide) rfl gw6_183 dX12_text_64 ?_
          refine lv_bipush (v := (10 : Int32)) hx hb dX12_text_67 (by decide) ?_
          refine lv_iload hx hb dX12_text_69 (lv_at hl 2 rfl) ?_
          refine lv_imul hx hb dX12_text_71 ?_
          refine lv_iload_n hx hb dX12_text_72 rfl (lv_at hl 1 rfl) ?_
          refine lv_iadd hx hb dX12_text_73 ?_
          obtain ⟨z_74, hf⟩ := gd_some hf
          refine r_bald C hw (x := 65) dq_65 ln_65 z_74 dX12_text_74 ?_
          exact r_iret C hw hr hlocks hf dX12_text_75
  show W p l e rmX12_text s m args below meth c s.heap [] 0 0 _ _
  refine lv_aload_n hx hb dX12_text_0 rfl (lv_at hl 0 rfl) ?_
  refine lv_iconst (v := (0 : Int32)) hx hb dX12_text_1 (by decide) ?_
  obtain ⟨S_2, e_2, hf⟩ := sI_some hf
  refine r_putI C hw (k := 0) (ty0 := tyX12) dq_63 ln_63 rfl vc_12 inX12 tyX12_ok nmX12 (by decide) rfl rfl gw6_181 rfl rfl dX12_text_2 e_2 (fun H locs hw => ?_)
  refine lv_aload_n hx hb dX12_text_5 rfl (lv_at hl 0 rfl) ?_
  refine lv_aload_n hx hb dX12_text_6 rfl (lv_at hl 0 rfl) ?_
  refine lv_iload_n hx hb dX12_text_7 rfl (lv_at hl 1 rfl) ?_
  obtain ⟨S_8, r_8, h_8, hf⟩ := bd_some hf
  refine r_bi hw (r_runV (rest := [.ref (ad 63)]) C hw (m_X12_noName l D cA ad base fu h_8) mvX12_noName gw7_217 ⟨rfl, rfl, Nat.le_of_ble_eq_true rfl, Nat.le_of_ble_eq_true rfl⟩ dq_63 ln_63 vc_12 rfl hl.1 rfl (Nat.le_of_ble_eq_true rfl) dX12_text_8 (Nat.zero_le _) (Nat.zero_le _)) (fun H locs hw => ?_)
  refine lv_iconst (v := (1 : Int32)) hx hb dX12_text_11 (by decide) ?_
  obtain ⟨S_12, r_12, h_12, hf⟩ := bd_some hf
  refine r_bi hw (r_runV (rest := []) C hw (m_X12_throwsIf l D cA ad base fu h_12) mvX12_throwsIf gw7_193 ⟨rfl, rfl, Nat.le_of_ble_eq_true rfl, Nat.le_of_ble_eq_true rfl⟩ dq_63 ln_63 vc_12 rfl hl.1 rfl (Nat.le_of_ble_eq_true rfl) dX12_text_12 (Nat.zero_le _) (Nat.zero_le _)) (fun H locs hw => ?_)
  refine lv_if_eq (tgt := 20) hx hb dX12_text_15 (by decide) (fun c_15 => ?_) (fun c_15 => ?_)
  · have hf := if_t hf c_15
    refine lv_iload_n hx hb dX12_text_20 rfl (lv_at hl 2 rfl) ?_
    refine lv_if_lt (tgt := 33) hx hb dX12_text_21 (by decide) (fun c_21 => ?_) (fun c_21 => ?_)
    · have hf := if_t hf c_21
      refine lv_iconst (v := (-1 : Int32)) hx hb dX12_text_33 (by decide) ?_
      exact r_iret C hw hr hlocks hf dX12_text_34
    · have hf := if_f hf c_21
      refine lv_iload_n hx hb dX12_text_24 rfl (lv_at hl 2 rfl) ?_
      refine lv_aload_n hx hb dX12_text_25 rfl (lv_at hl 0 rfl) ?_
      refine lv_iload_n hx hb dX12_text_26 rfl (lv_at hl 1 rfl) ?_
      obtain ⟨S_27, r_27, h_27, hf⟩ := bd_some hf
      refine r_bi hw (r_runV (rest := [.int x2]) C hw (m_X12_textSize l D cA ad base fu h_27) mvX12_textSize gw7_221 ⟨rfl, rfl, Nat.le_of_ble_eq_true rfl, Nat.le_of_ble_eq_true rfl⟩ dq_63 ln_63 vc_12 rfl hl.1 rfl (Nat.le_of_ble_eq_true rfl) dX12_text_27 (Nat.zero_le _) (Nat.zero_le _)) (fun H locs hw => ?_)
      refine lv_icmp_lt (tgt := 35) hx hb dX12_text_30 (by decide) (fun c_30 => ?_) (fun c_30 => ?_)
      · have hf := if_t hf c_30
        refine lv_iload_n hx hb dX12_text_35 rfl (lv_at hl 1 rfl) ?_
        refine lv_if_ne (tgt := 42) hx hb dX12_text_36 (by decide) (fun c_36 => ?_) (fun c_36 => ?_)
        · have hf := if_f hf c_36
          refine lv_iload_n hx hb dX12_text_42 rfl (lv_at hl 2 rfl) ?_
          refine lv_istore_n (lv' := [(3, .int x2), (0, .ref (ad 63)), (1, .int x1), (2, .int x2)]) hx hb dX12_text_43 rfl hl (by decide) rfl (fun ls hl => ?_)
          refine lv_iload_n hx hb dX12_text_44 rfl (lv_at hl 2 rfl) ?_
          refine lv_istore (lv' := [(4, .int x1), (3, .int x2), (0, .ref (ad 63)), (1, .int x1), (2, .int x2)]) hx hb dX12_text_45 hl (by decide) rfl (fun ls hl => ?_)
          exact L_47 fu _ _ _ _ _ _ hf (lv_sub hl [2, 1, 0] rfl) hw
        · have hf := if_t hf c_36
          refine lv_bipush (v := (46 : Int32)) hx hb dX12_text_39 (by decide) ?_
          exact r_iret C hw hr hlocks hf dX12_text_41
      · have hf := if_f hf c_30
        refine lv_iconst (v := (-1 : Int32)) hx hb dX12_text_33 (by decide) ?_
        exact r_iret C hw hr hlocks hf dX12_text_34
  · have hf := if_f hf c_15
    refine lv_iconst (v := (0 : Int32)) hx hb dX12_text_18 (by decide) ?_
    exact r_iret C hw hr hlocks hf dX12_text_19
noncomputable def fX12_noZone_12 (fu : Nat) (S : St) : Option (St × Int32) :=
  some (S, (1 : Int32))
noncomputable def fX12_noZone (fu : Nat) (x1 : Int32) (S : St) : Option (St × Int32) :=
  if x1 < 0 then
    fX12_noZone_12 fu S
  else
    if x1 < (S.1 63 14) then
      some (S, (0 : Int32))
    else
      fX12_noZone_12 fu S
theorem mvX12_noZone : MV yX12_noZone cX12_noZone 2 (some .boolean) RX12 1 := ⟨gw8_4, gw8_3, gs_50, gw1_13, by decide +kernel⟩
def rmX12_noZone : Room := { frames := 0, cells := 0, slots := 0, locals := 0 }
set_option maxHeartbeats 4000000 in
set_option maxRecDepth 100000 in
theorem m_X12_noZone (l : Launch) (D : va_G) (cA : FieldType → ClassId) (ad : Nat → Nat) (base : Nat) (fu : Nat) {S S' : St} {x1 : Int32} {r : Int32} (hf : fX12_noZone fu x1 S = some (S', r)) : Met l yX12_noZone (GC yX12_noZone cX12_noZone 2 (some .boolean)) rmX12_noZone (va_Pc [.ref (ad 63), .int x1] (wd D cA ad base S)) (QI D cA ad base S' r) 0 0 (aB base) := by
  refine Met.ofW (cc := cX12_noZone) (maxL := 2) (ret := (some .boolean)) (by decide) rfl ?_
  intro p e s m args below meth c s₁ B hml hv
  obtain ⟨hargs, hwd⟩ := hv
  have hr := B.returns
  have hlocks := B.notSynchronized
  obtain ⟨C, hw⟩ := CX.of (own := RX12) rfl B hml hwd
  have hx := C.1
  have hb := C.2.1
  have hl := lv_entry ([.ref (ad 63), .int x1]) (n := 2) (Nat.le_of_ble_eq_true rfl)
  rw [show entryFrame m args 2 = entryFrame m ([.ref (ad 63), .int x1] : List Value).toArray 2 from by rw [hargs], lg_entry_eq]
  generalize (lg_sl ([.ref (ad 63), .int x1]) ++ List.replicate (2 - (lg_sl ([.ref (ad 63), .int x1])).length) Slot.unset).toArray = ls at hl ⊢
  have hl : lv_has ls 2 [(0, .ref (ad 63)), (1, .int x1)] := hl
  have J_12 : ∀ (S : St) (H : Heap) (locs : List Loc) (ls : Array Slot), fX12_noZone_12 fu S = some (S', r) → lv_has ls 2 [] → WS D cA ad base s S H locs → W p l e rmX12_noZone s m args below meth c H locs 0 0 (MQ below (QI D cA ad base S' r) args s 0 0 (aB base)) (F0 m 12 ls []) := by
    intro  S H locs ls hf hl hw
    refine lv_iconst (v := (1 : Int32)) hx hb dX12_noZone_12 (by decide) ?_
    refine lv_goto (tgt := 17) hx hb dX12_noZone_13 (by decide) ?_
    exact r_zret C hw hr hlocks rfl hf dX12_noZone_17
  show W p l e rmX12_noZone s m args below meth c s.heap [] 0 0 _ _
  refine lv_iload_n hx hb dX12_noZone_0 rfl (lv_at hl 1 rfl) ?_
  refine lv_if_lt (tgt := 12) hx hb dX12_noZone_1 (by decide) (fun c_1 => ?_) (fun c_1 => ?_)
  · have hf := if_t hf c_1
    exact J_12 _ _ _ _ hf (lv_sub hl [] rfl) hw
  · have hf := if_f hf c_1
    refine lv_iload_n hx hb dX12_noZone_4 rfl (lv_at hl 1 rfl) ?_
    refine lv_aload_n hx hb dX12_noZone_5 rfl (lv_at hl 0 rfl) ?_
    refine r_getI C hw (k := 14) dq_63 ln_63 rfl vc_12 inX12 (by decide) rfl gw6_195 dX12_noZone_6 ?_
    refine lv_icmp_lt (tgt := 16) hx hb dX12_noZone_9 (by decide) (fun c_9 => ?_) (fun c_9 => ?_)
    · have hf := if_t hf c_9
      refine lv_iconst (v := (0 : Int32)) hx hb dX12_noZone_16 (by decide) ?_
      exact r_zret C hw hr hlocks rfl hf dX12_noZone_17
    · have hf := if_f hf c_9
      exact J_12 _ _ _ _ hf (lv_sub hl [] rfl) hw
noncomputable def fX12_noServer_12 (fu : Nat) (S : St) : Option (St × Int32) :=
  some (S, (1 : Int32))
noncomputable def fX12_noServer (fu : Nat) (x1 : Int32) (S : St) : Option (St × Int32) :=
  if x1 < 0 then
    fX12_noServer_12 fu S
  else
    if x1 < (S.1 63 23) then
      some (S, (0 : Int32))
    else
      fX12_noServer_12 fu S
theorem mvX12_noServer : MV yX12_noServer cX12_noServer 2 (some .boolean) RX12 1 := ⟨gw8_35, gw8_34, gs_54, gw1_13, by decide +kernel⟩
def rmX12_noServer : Room := { frames := 0, cells := 0, slots := 0, locals := 0 }
set_option maxHeartbeats 4000000 in
set_option maxRecDepth 100000 in
theorem m_X12_noServer (l : Launch) (D : va_G) (cA : FieldType → ClassId) (ad : Nat → Nat) (base : Nat) (fu : Nat) {S S' : St} {x1 : Int32} {r : Int32} (hf : fX12_noServer fu x1 S = some (S', r)) : Met l yX12_noServer (GC yX12_noServer cX12_noServer 2 (some .boolean)) rmX12_noServer (va_Pc [.ref (ad 63), .int x1] (wd D cA ad base S)) (QI D cA ad base S' r) 0 0 (aB base) := by
  refine Met.ofW (cc := cX12_noServer) (maxL := 2) (ret := (some .boolean)) (by decide) rfl ?_
  intro p e s m args below meth c s₁ B hml hv
  obtain ⟨hargs, hwd⟩ := hv
  have hr := B.returns
  have hlocks := B.notSynchronized
  obtain ⟨C, hw⟩ := CX.of (own := RX12) rfl B hml hwd
  have hx := C.1
  have hb := C.2.1
  have hl := lv_entry ([.ref (ad 63), .int x1]) (n := 2) (Nat.le_of_ble_eq_true rfl)
  rw [show entryFrame m args 2 = entryFrame m ([.ref (ad 63), .int x1] : List Value).toArray 2 from by rw [hargs], lg_entry_eq]
  generalize (lg_sl ([.ref (ad 63), .int x1]) ++ List.replicate (2 - (lg_sl ([.ref (ad 63), .int x1])).length) Slot.unset).toArray = ls at hl ⊢
  have hl : lv_has ls 2 [(0, .ref (ad 63)), (1, .int x1)] := hl
  have J_12 : ∀ (S : St) (H : Heap) (locs : List Loc) (ls : Array Slot), fX12_noServer_12 fu S = some (S', r) → lv_has ls 2 [] → WS D cA ad base s S H locs → W p l e rmX12_noServer s m args below meth c H locs 0 0 (MQ below (QI D cA ad base S' r) args s 0 0 (aB base)) (F0 m 12 ls []) := by
    intro  S H locs ls hf hl hw
    refine lv_iconst (v := (1 : Int32)) hx hb dX12_noServer_12 (by decide) ?_
    refine lv_goto (tgt := 17) hx hb dX12_noServer_13 (by decide) ?_
    exact r_zret C hw hr hlocks rfl hf dX12_noServer_17
  show W p l e rmX12_noServer s m args below meth c s.heap [] 0 0 _ _
  refine lv_iload_n hx hb dX12_noServer_0 rfl (lv_at hl 1 rfl) ?_
  refine lv_if_lt (tgt := 12) hx hb dX12_noServer_1 (by decide) (fun c_1 => ?_) (fun c_1 => ?_)
  · have hf := if_t hf c_1
    exact J_12 _ _ _ _ hf (lv_sub hl [] rfl) hw
  · have hf := if_f hf c_1
    refine lv_iload_n hx hb dX12_noServer_4 rfl (lv_at hl 1 rfl) ?_
    refine lv_aload_n hx hb dX12_noServer_5 rfl (lv_at hl 0 rfl) ?_
    refine r_getI C hw (k := 23) dq_63 ln_63 rfl vc_12 inX12 (by decide) rfl gw6_204 dX12_noServer_6 ?_
    refine lv_icmp_lt (tgt := 16) hx hb dX12_noServer_9 (by decide) (fun c_9 => ?_) (fun c_9 => ?_)
    · have hf := if_t hf c_9
      refine lv_iconst (v := (0 : Int32)) hx hb dX12_noServer_16 (by decide) ?_
      exact r_zret C hw hr hlocks rfl hf dX12_noServer_17
    · have hf := if_f hf c_9
      exact J_12 _ _ _ _ hf (lv_sub hl [] rfl) hw
noncomputable def fX12_isType_21 (fu : Nat) (S : St) : Option (St × Int32) :=
  some (S, (1 : Int32))
noncomputable def fX12_isType (fu : Nat) (x0 : Int32) (S : St) : Option (St × Int32) :=
  if x0 = (1 : Int32) then
    fX12_isType_21 fu S
  else
    if x0 = (2 : Int32) then
      fX12_isType_21 fu S
    else
      if x0 = (5 : Int32) then
        fX12_isType_21 fu S
      else
        if x0 = (16 : Int32) then
          fX12_isType_21 fu S
        else
          some (S, (0 : Int32))
theorem msX12_isType : MS yX12_isType cX12_isType 1 (some .boolean) 1 := ⟨gw8_11, gw8_10, gw1_13, by decide +kernel⟩
def rmX12_isType : Room := { frames := 0, cells := 0, slots := 0, locals := 0 }
set_option maxHeartbeats 4000000 in
set_option maxRecDepth 100000 in
theorem m_X12_isType (l : Launch) (D : va_G) (cA : FieldType → ClassId) (ad : Nat → Nat) (base : Nat) (fu : Nat) {S S' : St} {x0 : Int32} {r : Int32} (hf : fX12_isType fu x0 S = some (S', r)) : Met l yX12_isType (GC yX12_isType cX12_isType 1 (some .boolean)) rmX12_isType (va_Pc [.int x0] (wd D cA ad base S)) (QI D cA ad base S' r) 0 0 (aB base) := by
  refine Met.ofW (cc := cX12_isType) (maxL := 1) (ret := (some .boolean)) (by decide) rfl ?_
  intro p e s m args below meth c s₁ B hml hv
  obtain ⟨hargs, hwd⟩ := hv
  have hr := B.returns
  have hlocks := B.notSynchronized
  obtain ⟨C, hw⟩ := CX.of (own := RX12) rfl B hml hwd
  have hx := C.1
  have hb := C.2.1
  have hl := lv_entry ([.int x0]) (n := 1) (Nat.le_of_ble_eq_true rfl)
  rw [show entryFrame m args 1 = entryFrame m ([.int x0] : List Value).toArray 1 from by rw [hargs], lg_entry_eq]
  generalize (lg_sl ([.int x0]) ++ List.replicate (1 - (lg_sl ([.int x0])).length) Slot.unset).toArray = ls at hl ⊢
  have hl : lv_has ls 1 [(0, .int x0)] := hl
  have J_21 : ∀ (S : St) (H : Heap) (locs : List Loc) (ls : Array Slot), fX12_isType_21 fu S = some (S', r) → lv_has ls 1 [] → WS D cA ad base s S H locs → W p l e rmX12_isType s m args below meth c H locs 0 0 (MQ below (QI D cA ad base S' r) args s 0 0 (aB base)) (F0 m 21 ls []) := by
    intro  S H locs ls hf hl hw
    refine lv_iconst (v := (1 : Int32)) hx hb dX12_isType_21 (by decide) ?_
    refine lv_goto (tgt := 26) hx hb dX12_isType_22 (by decide) ?_
    exact r_zret C hw hr hlocks rfl hf dX12_isType_26
  show W p l e rmX12_isType s m args below meth c s.heap [] 0 0 _ _
  refine lv_iload_n hx hb dX12_isType_0 rfl (lv_at hl 0 rfl) ?_
  refine lv_iconst (v := (1 : Int32)) hx hb dX12_isType_1 (by decide) ?_
  refine lv_icmp_eq (tgt := 21) hx hb dX12_isType_2 (by decide) (fun c_2 => ?_) (fun c_2 => ?_)
  · have hf := if_t hf c_2
    exact J_21 _ _ _ _ hf (lv_sub hl [] rfl) hw
  · have hf := if_f hf c_2
    refine lv_iload_n hx hb dX12_isType_5 rfl (lv_at hl 0 rfl) ?_
    refine lv_iconst (v := (2 : Int32)) hx hb dX12_isType_6 (by decide) ?_
    refine lv_icmp_eq (tgt := 21) hx hb dX12_isType_7 (by decide) (fun c_7 => ?_) (fun c_7 => ?_)
    · have hf := if_t hf c_7
      exact J_21 _ _ _ _ hf (lv_sub hl [] rfl) hw
    · have hf := if_f hf c_7
      refine lv_iload_n hx hb dX12_isType_10 rfl (lv_at hl 0 rfl) ?_
      refine lv_iconst (v := (5 : Int32)) hx hb dX12_isType_11 (by decide) ?_
      refine lv_icmp_eq (tgt := 21) hx hb dX12_isType_12 (by decide) (fun c_12 => ?_) (fun c_12 => ?_)
      · have hf := if_t hf c_12
        exact J_21 _ _ _ _ hf (lv_sub hl [] rfl) hw
      · have hf := if_f hf c_12
        refine lv_iload_n hx hb dX12_isType_15 rfl (lv_at hl 0 rfl) ?_
        refine lv_bipush (v := (16 : Int32)) hx hb dX12_isType_16 (by decide) ?_
        refine lv_icmp_ne (tgt := 25) hx hb dX12_isType_18 (by decide) (fun c_18 => ?_) (fun c_18 => ?_)
        · have hf := if_f hf c_18
          refine lv_iconst (v := (0 : Int32)) hx hb dX12_isType_25 (by decide) ?_
          exact r_zret C hw hr hlocks rfl hf dX12_isType_26
        · have hf := if_t hf c_18
          exact J_21 _ _ _ _ hf (lv_sub hl [] rfl) hw
noncomputable def fX12_isLife (fu : Nat) (x0 : Int32) (S : St) : Option (St × Int32) :=
  if x0 < (1 : Int32) then
    some (S, (0 : Int32))
  else
    if (100000 : Int32) < x0 then
      some (S, (0 : Int32))
    else
      some (S, (1 : Int32))
theorem msX12_isLife : MS yX12_isLife cX12_isLife 1 (some .boolean) 1 := ⟨gw7_235, gw7_234, gw1_13, by decide +kernel⟩
def rmX12_isLife : Room := { frames := 0, cells := 0, slots := 0, locals := 0 }
set_option maxHeartbeats 4000000 in
set_option maxRecDepth 100000 in
theorem m_X12_isLife (l : Launch) (D : va_G) (cA : FieldType → ClassId) (ad : Nat → Nat) (base : Nat) (fu : Nat) {S S' : St} {x0 : Int32} {r : Int32} (hf : fX12_isLife fu x0 S = some (S', r)) : Met l yX12_isLife (GC yX12_isLife cX12_isLife 1 (some .boolean)) rmX12_isLife (va_Pc [.int x0] (wd D cA ad base S)) (QI D cA ad base S' r) 0 0 (aB base) := by
  refine Met.ofW (cc := cX12_isLife) (maxL := 1) (ret := (some .boolean)) (by decide) rfl ?_
  intro p e s m args below meth c s₁ B hml hv
  obtain ⟨hargs, hwd⟩ := hv
  have hr := B.returns
  have hlocks := B.notSynchronized
  obtain ⟨C, hw⟩ := CX.of (own := RX12) rfl B hml hwd
  have hx := C.1
  have hb := C.2.1
  have hl := lv_entry ([.int x0]) (n := 1) (Nat.le_of_ble_eq_true rfl)
  rw [show entryFrame m args 1 = entryFrame m ([.int x0] : List Value).toArray 1 from by rw [hargs], lg_entry_eq]
  generalize (lg_sl ([.int x0]) ++ List.replicate (1 - (lg_sl ([.int x0])).length) Slot.unset).toArray = ls at hl ⊢
  have hl : lv_has ls 1 [(0, .int x0)] := hl
  show W p l e rmX12_isLife s m args below meth c s.heap [] 0 0 _ _
  refine lv_iload_n hx hb dX12_isLife_0 rfl (lv_at hl 0 rfl) ?_
  refine lv_iconst (v := (1 : Int32)) hx hb dX12_isLife_1 (by decide) ?_
  refine lv_icmp_lt (tgt := 15) hx hb dX12_isLife_2 (by decide) (fun c_2 => ?_) (fun c_2 => ?_)
  · have hf := if_t hf c_2
    refine lv_iconst (v := (0 : Int32)) hx hb dX12_isLife_15 (by decide) ?_
    exact r_zret C hw hr hlocks rfl hf dX12_isLife_16
  · have hf := if_f hf c_2
    refine lv_iload_n hx hb dX12_isLife_5 rfl (lv_at hl 0 rfl) ?_
    refine lv_ldc hx hb C.2.2.2.1 (C.2.2.2.2.1 _ (gw_of gw7_236 rfl)) dX12_isLife_6 ?_
    refine lv_icmp_gt (tgt := 15) hx hb dX12_isLife_8 (by decide) (fun c_8 => ?_) (fun c_8 => ?_)
    · have hf := if_t hf c_8
      refine lv_iconst (v := (0 : Int32)) hx hb dX12_isLife_15 (by decide) ?_
      exact r_zret C hw hr hlocks rfl hf dX12_isLife_16
    · have hf := if_f hf c_8
      refine lv_iconst (v := (1 : Int32)) hx hb dX12_isLife_11 (by decide) ?_
      refine lv_goto (tgt := 16) hx hb dX12_isLife_12 (by decide) ?_
      exact r_zret C hw hr hlocks rfl hf dX12_isLife_16
noncomputable def fX12_zone_96 (fu : Nat) (x1 : Int32) (x2 : Int32) (t0 : Int32) (S : St) : Option (St × Int32) :=
  bd (fX12_throwsIf fu t0 (3 : Int32) S) fun S_97 r_97 =>
  if r_97 = 0 then
    gd (ck (S_97.1 63 14) 12) <|
    sI 72 ((S_97.1 63 14)).toNatClampNeg x1 S_97 fun S_114 =>
    gd (ck (S_114.1 63 14) 12) <|
    sI 73 ((S_114.1 63 14)).toNatClampNeg x2 S_114 fun S_124 =>
    sI 63 14 ((S_124.1 63 14) + (1 : Int32)) S_124 fun S_132 =>
    some (S_132, ((S_132.1 63 14) - (1 : Int32)))
  else
    some (S_97, (0 : Int32))
noncomputable def fX12_zone_74 (fu : Nat) (x1 : Int32) (x2 : Int32) (t0 : Int32) (S : St) : Option (St × Int32) :=
  bd (fX12_throwsIf fu t0 (2 : Int32) S) fun S_75 r_75 =>
  if r_75 = 0 then
    if (S_75.1 63 14) = (12 : Int32) then
      fX12_zone_96 fu x1 x2 (1 : Int32) S_75
    else
      fX12_zone_96 fu x1 x2 (0 : Int32) S_75
  else
    some (S_75, (0 : Int32))
noncomputable def fX12_zone_57 (fu : Nat) (k_28 : Int32 → Int32 → Int32 → Int32 → St → Option (St × Int32)) (x1 : Int32) (x2 : Int32) (x4 : Int32) (t0 : Int32) (S : St) : Option (St × Int32) :=
  k_28 x1 x2 t0 (x4 + (1 : Int32)) S
noncomputable def fX12_zone_56 (fu : Nat) (k_28 : Int32 → Int32 → Int32 → Int32 → St → Option (St × Int32)) (x1 : Int32) (x2 : Int32) (x4 : Int32) (S : St) : Option (St × Int32) :=
  fX12_zone_57 fu k_28 x1 x2 x4 (0 : Int32) S
noncomputable def fX12_zone_28 (fu : Nat) (n : Nat) : Int32 → Int32 → Int32 → Int32 → St → Option (St × Int32) :=
  Nat.rec (motive := fun _ => Int32 → Int32 → Int32 → Int32 → St → Option (St × Int32)) (fun _ _ _ _ _ => none) (fun _ k_28 x1 x2 x3 x4 S =>
    if (S.1 63 14) ≤ x4 then
      if x3 = 0 then
        fX12_zone_74 fu x1 x2 (1 : Int32) S
      else
        fX12_zone_74 fu x1 x2 (0 : Int32) S
    else
      if x3 = 0 then
        fX12_zone_56 fu k_28 x1 x2 x4 S
      else
        gd (ck x4 12) <|
        if (S.1 72 (x4).toNatClampNeg) = x1 then
          fX12_zone_56 fu k_28 x1 x2 x4 S
        else
          fX12_zone_57 fu k_28 x1 x2 x4 (1 : Int32) S) n
theorem fX12_zone_28_s (fu : Nat) (n : Nat) (x1 : Int32) (x2 : Int32) (x3 : Int32) (x4 : Int32) (S : St) : fX12_zone_28 fu (n + 1) x1 x2 x3 x4 S = (
    if (S.1 63 14) ≤ x4 then
      if x3 = 0 then
        fX12_zone_74 fu x1 x2 (1 : Int32) S
      else
        fX12_zone_74 fu x1 x2 (0 : Int32) S
    else
      if x3 = 0 then
        fX12_zone_56 fu (fX12_zone_28 fu n) x1 x2 x4 S
      else
        gd (ck x4 12) <|
        if (S.1 72 (x4).toNatClampNeg) = x1 then
          fX12_zone_56 fu (fX12_zone_28 fu n) x1 x2 x4 S
        else
          fX12_zone_57 fu (fX12_zone_28 fu n) x1 x2 x4 (1 : Int32) S) := rfl
noncomputable def fX12_zone (fu : Nat) (x1 : Int32) (x2 : Int32) (S : St) : Option (St × Int32) :=
  sI 63 0 (0 : Int32) S fun S_2 =>
  bd (fX12_noName fu x1 S_2) fun S_8 r_8 =>
  bd (fX12_throwsIf fu r_8 (1 : Int32) S_8) fun S_12 r_12 =>
  if r_12 = 0 then
    bd (fX12_isLife fu x2 S_12) fun S_21 r_21 =>
    fX12_zone_28 fu fu x1 x2 r_21 (0 : Int32) S_21
  else
    some (S_12, (0 : Int32))
theorem mvX12_zone : MV yX12_zone cX12_zone 5 (some .int) RX12 2 := ⟨gw7_232, gw7_230, gw7_231, gw1_13, by decide +kernel⟩
def rmX12_zone : Room := { frames := 1, cells := 0, slots := 0, locals := 22 }
set_option maxHeartbeats 4000000 in
set_option maxRecDepth 100000 in
theorem m_X12_zone (l : Launch) (D : va_G) (cA : FieldType → ClassId) (ad : Nat → Nat) (base : Nat) (fu : Nat) {S S' : St} {x1 : Int32} {x2 : Int32} {r : Int32} (hf : fX12_zone fu x1 x2 S = some (S', r)) : Met l yX12_zone (GC yX12_zone cX12_zone 5 (some .int)) rmX12_zone (va_Pc [.ref (ad 63), .int x1, .int x2] (wd D cA ad base S)) (QI D cA ad base S' r) 0 0 (aB base) := by
  refine Met.ofW (cc := cX12_zone) (maxL := 5) (ret := (some .int)) (by decide) rfl ?_
  intro p e s m args below meth c s₁ B hml hv
  obtain ⟨hargs, hwd⟩ := hv
  have hr := B.returns
  have hlocks := B.notSynchronized
  obtain ⟨C, hw⟩ := CX.of (own := RX12) rfl B hml hwd
  have hx := C.1
  have hb := C.2.1
  have hl := lv_entry ([.ref (ad 63), .int x1, .int x2]) (n := 5) (Nat.le_of_ble_eq_true rfl)
  rw [show entryFrame m args 5 = entryFrame m ([.ref (ad 63), .int x1, .int x2] : List Value).toArray 5 from by rw [hargs], lg_entry_eq]
  generalize (lg_sl ([.ref (ad 63), .int x1, .int x2]) ++ List.replicate (5 - (lg_sl ([.ref (ad 63), .int x1, .int x2])).length) Slot.unset).toArray = ls at hl ⊢
  have hl : lv_has ls 5 [(0, .ref (ad 63)), (1, .int x1), (2, .int x2)] := hl
  have J_96 : ∀ (x1 : Int32) (x2 : Int32) (t0 : Int32) (S : St) (H : Heap) (locs : List Loc) (ls : Array Slot), fX12_zone_96 fu x1 x2 t0 S = some (S', r) → lv_has ls 5 [(0, .ref (ad 63)), (1, .int x1), (2, .int x2)] → WS D cA ad base s S H locs → W p l e rmX12_zone s m args below meth c H locs 0 0 (MQ below (QI D cA ad base S' r) args s 0 0 (aB base)) (F0 m 96 ls [.int t0, .ref (ad 63)]) := by
    intro x1 x2 t0 S H locs ls hf hl hw
    refine lv_iconst (v := (3 : Int32)) hx hb dX12_zone_96 (by decide) ?_
    obtain ⟨S_97, r_97, h_97, hf⟩ := bd_some hf
    refine r_bi hw (r_runV (rest := []) C hw (m_X12_throwsIf l D cA ad base fu h_97) mvX12_throwsIf gw7_193 ⟨rfl, rfl, Nat.le_of_ble_eq_true rfl, Nat.le_of_ble_eq_true rfl⟩ dq_63 ln_63 vc_12 rfl hl.1 rfl (Nat.le_of_ble_eq_true rfl) dX12_zone_97 (Nat.zero_le _) (Nat.zero_le _)) (fun H locs hw => ?_)
    refine lv_if_eq (tgt := 105) hx hb dX12_zone_100 (by decide) (fun c_100 => ?_) (fun c_100 => ?_)
    · have hf := if_t hf c_100
      refine lv_aload_n hx hb dX12_zone_105 rfl (lv_at hl 0 rfl) ?_
      refine r_getR C hw (k := 12) (r := 72) dq_63 ln_63 rfl vc_12 inX12 (by decide) rfl gw6_193 dX12_zone_106 ?_
      refine lv_aload_n hx hb dX12_zone_109 rfl (lv_at hl 0 rfl) ?_
      refine r_getI C hw (k := 14) dq_63 ln_63 rfl vc_12 inX12 (by decide) rfl gw6_195 dX12_zone_110 ?_
      refine lv_iload_n hx hb dX12_zone_113 rfl (lv_at hl 1 rfl) ?_
      obtain ⟨z_114, hf⟩ := gd_some hf
      obtain ⟨S_114, e_114, hf⟩ := sI_some hf
      refine r_iast C hw (x := 72) dq_72 ln_72 z_114 dX12_zone_114 e_114 (fun H locs hw => ?_)
      refine lv_aload_n hx hb dX12_zone_115 rfl (lv_at hl 0 rfl) ?_
      refine r_getR C hw (k := 13) (r := 73) dq_63 ln_63 rfl vc_12 inX12 (by decide) rfl gw6_194 dX12_zone_116 ?_
      refine lv_aload_n hx hb dX12_zone_119 rfl (lv_at hl 0 rfl) ?_
      refine r_getI C hw (k := 14) dq_63 ln_63 rfl vc_12 inX12 (by decide) rfl gw6_195 dX12_zone_120 ?_
      refine lv_iload_n hx hb dX12_zone_123 rfl (lv_at hl 2 rfl) ?_
      obtain ⟨z_124, hf⟩ := gd_some hf
      obtain ⟨S_124, e_124, hf⟩ := sI_some hf
      refine r_iast C hw (x := 73) dq_73 ln_73 z_124 dX12_zone_124 e_124 (fun H locs hw => ?_)
      refine lv_aload_n hx hb dX12_zone_125 rfl (lv_at hl 0 rfl) ?_
      refine lv_dup hx hb dX12_zone_126 rfl ?_
      refine r_getI C hw (k := 14) dq_63 ln_63 rfl vc_12 inX12 (by decide) rfl gw6_195 dX12_zone_127 ?_
      refine lv_iconst (v := (1 : Int32)) hx hb dX12_zone_130 (by decide) ?_
      refine lv_iadd hx hb dX12_zone_131 ?_
      obtain ⟨S_132, e_132, hf⟩ := sI_some hf
      refine r_putI C hw (k := 14) (ty0 := tyX12) dq_63 ln_63 rfl vc_12 inX12 tyX12_ok nmX12 (by decide) rfl rfl gw6_195 rfl rfl dX12_zone_132 e_132 (fun H locs hw => ?_)
      refine lv_aload_n hx hb dX12_zone_135 rfl (lv_at hl 0 rfl) ?_
      refine r_getI C hw (k := 14) dq_63 ln_63 rfl vc_12 inX12 (by decide) rfl gw6_195 dX12_zone_136 ?_
      refine lv_iconst (v := (1 : Int32)) hx hb dX12_zone_139 (by decide) ?_
      refine lv_isub hx hb dX12_zone_140 ?_
      exact r_iret C hw hr hlocks hf dX12_zone_141
    · have hf := if_f hf c_100
      refine lv_iconst (v := (0 : Int32)) hx hb dX12_zone_103 (by decide) ?_
      exact r_iret C hw hr hlocks hf dX12_zone_104
  have J_74 : ∀ (x1 : Int32) (x2 : Int32) (t0 : Int32) (S : St) (H : Heap) (locs : List Loc) (ls : Array Slot), fX12_zone_74 fu x1 x2 t0 S = some (S', r) → lv_has ls 5 [(0, .ref (ad 63)), (1, .int x1), (2, .int x2)] → WS D cA ad base s S H locs → W p l e rmX12_zone s m args below meth c H locs 0 0 (MQ below (QI D cA ad base S' r) args s 0 0 (aB base)) (F0 m 74 ls [.int t0, .ref (ad 63)]) := by
    intro x1 x2 t0 S H locs ls hf hl hw
    refine lv_iconst (v := (2 : Int32)) hx hb dX12_zone_74 (by decide) ?_
    obtain ⟨S_75, r_75, h_75, hf⟩ := bd_some hf
    refine r_bi hw (r_runV (rest := []) C hw (m_X12_throwsIf l D cA ad base fu h_75) mvX12_throwsIf gw7_193 ⟨rfl, rfl, Nat.le_of_ble_eq_true rfl, Nat.le_of_ble_eq_true rfl⟩ dq_63 ln_63 vc_12 rfl hl.1 rfl (Nat.le_of_ble_eq_true rfl) dX12_zone_75 (Nat.zero_le _) (Nat.zero_le _)) (fun H locs hw => ?_)
    refine lv_if_ne (tgt := 103) hx hb dX12_zone_78 (by decide) (fun c_78 => ?_) (fun c_78 => ?_)
    · have hf := if_f hf c_78
      refine lv_iconst (v := (0 : Int32)) hx hb dX12_zone_103 (by decide) ?_
      exact r_iret C hw hr hlocks hf dX12_zone_104
    · have hf := if_t hf c_78
      refine lv_aload_n hx hb dX12_zone_81 rfl (lv_at hl 0 rfl) ?_
      refine lv_aload_n hx hb dX12_zone_82 rfl (lv_at hl 0 rfl) ?_
      refine r_getI C hw (k := 14) dq_63 ln_63 rfl vc_12 inX12 (by decide) rfl gw6_195 dX12_zone_83 ?_
      refine lv_bipush (v := (12 : Int32)) hx hb dX12_zone_86 (by decide) ?_
      refine lv_icmp_ne (tgt := 95) hx hb dX12_zone_88 (by decide) (fun c_88 => ?_) (fun c_88 => ?_)
      · have hf := if_f hf c_88
        refine lv_iconst (v := (0 : Int32)) hx hb dX12_zone_95 (by decide) ?_
        exact J_96 _ _ _ _ _ _ _ hf (lv_sub hl [0, 1, 2] rfl) hw
      · have hf := if_t hf c_88
        refine lv_iconst (v := (1 : Int32)) hx hb dX12_zone_91 (by decide) ?_
        refine lv_goto (tgt := 96) hx hb dX12_zone_92 (by decide) ?_
        exact J_96 _ _ _ _ _ _ _ hf (lv_sub hl [0, 1, 2] rfl) hw
  have L_28 : ∀ (n_28 : Nat) (x1 : Int32) (x2 : Int32) (x3 : Int32) (x4 : Int32) (S : St) (H : Heap) (locs : List Loc) (ls : Array Slot), fX12_zone_28 fu n_28 x1 x2 x3 x4 S = some (S', r) → lv_has ls 5 [(0, .ref (ad 63)), (1, .int x1), (2, .int x2), (3, .int x3), (4, .int x4)] → WS D cA ad base s S H locs → W p l e rmX12_zone s m args below meth c H locs 0 0 (MQ below (QI D cA ad base S' r) args s 0 0 (aB base)) (F0 m 28 ls []) := by
    intro n_28
    induction n_28 with
    | zero =>
      intro x1 x2 x3 x4 S H locs ls hf hl hw
      exact (no_none hf).elim
    | succ n_28 ih_28 =>
      have J_57 : ∀ (x1 : Int32) (x2 : Int32) (x4 : Int32) (t0 : Int32) (S : St) (H : Heap) (locs : List Loc) (ls : Array Slot), fX12_zone_57 fu (fX12_zone_28 fu n_28) x1 x2 x4 t0 S = some (S', r) → lv_has ls 5 [(0, .ref (ad 63)), (1, .int x1), (2, .int x2), (4, .int x4)] → WS D cA ad base s S H locs → W p l e rmX12_zone s m args below meth c H locs 0 0 (MQ below (QI D cA ad base S' r) args s 0 0 (aB base)) (F0 m 57 ls [.int t0]) := by
        intro x1 x2 x4 t0 S H locs ls hf hl hw
        refine lv_istore_n (lv' := [(3, .int t0), (0, .ref (ad 63)), (1, .int x1), (2, .int x2), (4, .int x4)]) hx hb dX12_zone_57 rfl hl (by decide) rfl (fun ls hl => ?_)
        refine lv_iinc (v := (x4 + (1 : Int32))) (lv' := [(4, .int (x4 + (1 : Int32))), (3, .int t0), (0, .ref (ad 63)), (1, .int x1), (2, .int x2)]) hx hb dX12_zone_58 hl (k := 4) rfl rfl (by decide) rfl (fun ls hl => ?_)
        refine lv_goto (tgt := 28) hx hb dX12_zone_61 (by decide) ?_
        exact ih_28 _ _ _ _ _ _ _ _ hf (lv_sub hl [2, 3, 4, 1, 0] rfl) hw
      have J_56 : ∀ (x1 : Int32) (x2 : Int32) (x4 : Int32) (S : St) (H : Heap) (locs : List Loc) (ls : Array Slot), fX12_zone_56 fu (fX12_zone_28 fu n_28) x1 x2 x4 S = some (S', r) → lv_has ls 5 [(0, .ref (ad 63)), (1, .int x1), (2, .int x2), (4, .int x4)] → WS D cA ad base s S H locs → W p l e rmX12_zone s m args below meth c H locs 0 0 (MQ below (QI D cA ad base S' r) args s 0 0 (aB base)) (F0 m 56 ls []) := by
        intro x1 x2 x4 S H locs ls hf hl hw
        refine lv_iconst (v := (0 : Int32)) hx hb dX12_zone_56 (by decide) ?_
        exact J_57 _ _ _ _ _ _ _ _ hf (lv_sub hl [0, 1, 2, 3] rfl) hw
      intro x1 x2 x3 x4 S H locs ls hf hl hw
      rw [fX12_zone_28_s] at hf
      refine lv_iload hx hb dX12_zone_28 (lv_at hl 4 rfl) ?_
      refine lv_aload_n hx hb dX12_zone_30 rfl (lv_at hl 0 rfl) ?_
      refine r_getI C hw (k := 14) dq_63 ln_63 rfl vc_12 inX12 (by decide) rfl gw6_195 dX12_zone_31 ?_
      refine lv_icmp_ge (tgt := 64) hx hb dX12_zone_34 (by decide) (fun c_34 => ?_) (fun c_34 => ?_)
      · have hf := if_t hf c_34
        refine lv_aload_n hx hb dX12_zone_64 rfl (lv_at hl 0 rfl) ?_
        refine lv_iload_n hx hb dX12_zone_65 rfl (lv_at hl 3 rfl) ?_
        refine lv_if_ne (tgt := 73) hx hb dX12_zone_66 (by decide) (fun c_66 => ?_) (fun c_66 => ?_)
        · have hf := if_f hf c_66
          refine lv_iconst (v := (0 : Int32)) hx hb dX12_zone_73 (by decide) ?_
          exact J_74 _ _ _ _ _ _ _ hf (lv_sub hl [0, 1, 2] rfl) hw
        · have hf := if_t hf c_66
          refine lv_iconst (v := (1 : Int32)) hx hb dX12_zone_69 (by decide) ?_
          refine lv_goto (tgt := 74) hx hb dX12_zone_70 (by decide) ?_
          exact J_74 _ _ _ _ _ _ _ hf (lv_sub hl [0, 1, 2] rfl) hw
      · have hf := if_f hf c_34
        refine lv_iload_n hx hb dX12_zone_37 rfl (lv_at hl 3 rfl) ?_
        refine lv_if_eq (tgt := 56) hx hb dX12_zone_38 (by decide) (fun c_38 => ?_) (fun c_38 => ?_)
        · have hf := if_t hf c_38
          exact J_56 _ _ _ _ _ _ _ hf (lv_sub hl [0, 1, 2, 4] rfl) hw
        · have hf := if_f hf c_38
          refine lv_aload_n hx hb dX12_zone_41 rfl (lv_at hl 0 rfl) ?_
          refine r_getR C hw (k := 12) (r := 72) dq_63 ln_63 rfl vc_12 inX12 (by decide) rfl gw6_193 dX12_zone_42 ?_
          refine lv_iload hx hb dX12_zone_45 (lv_at hl 4 rfl) ?_
          obtain ⟨z_47, hf⟩ := gd_some hf
          refine r_iald C hw (x := 72) dq_72 ln_72 z_47 dX12_zone_47 ?_
          refine lv_iload_n hx hb dX12_zone_48 rfl (lv_at hl 1 rfl) ?_
          refine lv_icmp_eq (tgt := 56) hx hb dX12_zone_49 (by decide) (fun c_49 => ?_) (fun c_49 => ?_)
          · have hf := if_t hf c_49
            exact J_56 _ _ _ _ _ _ _ hf (lv_sub hl [0, 1, 2, 4] rfl) hw
          · have hf := if_f hf c_49
            refine lv_iconst (v := (1 : Int32)) hx hb dX12_zone_52 (by decide) ?_
            refine lv_goto (tgt := 57) hx hb dX12_zone_53 (by decide) ?_
            exact J_57 _ _ _ _ _ _ _ _ hf (lv_sub hl [0, 1, 2, 4] rfl) hw
  show W p l e rmX12_zone s m args below meth c s.heap [] 0 0 _ _
  refine lv_aload_n hx hb dX12_zone_0 rfl (lv_at hl 0 rfl) ?_
  refine lv_iconst (v := (0 : Int32)) hx hb dX12_zone_1 (by decide) ?_
  obtain ⟨S_2, e_2, hf⟩ := sI_some hf
  refine r_putI C hw (k := 0) (ty0 := tyX12) dq_63 ln_63 rfl vc_12 inX12 tyX12_ok nmX12 (by decide) rfl rfl gw6_181 rfl rfl dX12_zone_2 e_2 (fun H locs hw => ?_)
  refine lv_aload_n hx hb dX12_zone_5 rfl (lv_at hl 0 rfl) ?_
  refine lv_aload_n hx hb dX12_zone_6 rfl (lv_at hl 0 rfl) ?_
  refine lv_iload_n hx hb dX12_zone_7 rfl (lv_at hl 1 rfl) ?_
  obtain ⟨S_8, r_8, h_8, hf⟩ := bd_some hf
  refine r_bi hw (r_runV (rest := [.ref (ad 63)]) C hw (m_X12_noName l D cA ad base fu h_8) mvX12_noName gw7_217 ⟨rfl, rfl, Nat.le_of_ble_eq_true rfl, Nat.le_of_ble_eq_true rfl⟩ dq_63 ln_63 vc_12 rfl hl.1 rfl (Nat.le_of_ble_eq_true rfl) dX12_zone_8 (Nat.zero_le _) (Nat.zero_le _)) (fun H locs hw => ?_)
  refine lv_iconst (v := (1 : Int32)) hx hb dX12_zone_11 (by decide) ?_
  obtain ⟨S_12, r_12, h_12, hf⟩ := bd_some hf
  refine r_bi hw (r_runV (rest := []) C hw (m_X12_throwsIf l D cA ad base fu h_12) mvX12_throwsIf gw7_193 ⟨rfl, rfl, Nat.le_of_ble_eq_true rfl, Nat.le_of_ble_eq_true rfl⟩ dq_63 ln_63 vc_12 rfl hl.1 rfl (Nat.le_of_ble_eq_true rfl) dX12_zone_12 (Nat.zero_le _) (Nat.zero_le _)) (fun H locs hw => ?_)
  refine lv_if_eq (tgt := 20) hx hb dX12_zone_15 (by decide) (fun c_15 => ?_) (fun c_15 => ?_)
  · have hf := if_t hf c_15
    refine lv_iload_n hx hb dX12_zone_20 rfl (lv_at hl 2 rfl) ?_
    obtain ⟨S_21, r_21, h_21, hf⟩ := bd_some hf
    refine r_bi hw (r_runS (rest := []) C hw (m_X12_isLife l D cA ad base fu h_21) msX12_isLife gw7_233 ⟨rfl, rfl, Nat.le_of_ble_eq_true rfl, Nat.le_of_ble_eq_true rfl⟩ rfl hl.1 rfl (Nat.le_of_ble_eq_true rfl) dX12_zone_21 (Nat.zero_le _) (Nat.zero_le _)) (fun H locs hw => ?_)
    refine lv_istore_n (lv' := [(3, .int r_21), (0, .ref (ad 63)), (1, .int x1), (2, .int x2)]) hx hb dX12_zone_24 rfl hl (by decide) rfl (fun ls hl => ?_)
    refine lv_iconst (v := (0 : Int32)) hx hb dX12_zone_25 (by decide) ?_
    refine lv_istore (lv' := [(4, .int (0 : Int32)), (3, .int r_21), (0, .ref (ad 63)), (1, .int x1), (2, .int x2)]) hx hb dX12_zone_26 hl (by decide) rfl (fun ls hl => ?_)
    exact L_28 fu _ _ _ _ _ _ _ _ hf (lv_sub hl [2, 3, 4, 1, 0] rfl) hw
  · have hf := if_f hf c_15
    refine lv_iconst (v := (0 : Int32)) hx hb dX12_zone_18 (by decide) ?_
    exact r_iret C hw hr hlocks hf dX12_zone_19
noncomputable def fX12_recordsOf_28 (fu : Nat) (k_4 : Int32 → Int32 → Int32 → St → Option (St × Int32)) (x1 : Int32) (x3 : Int32) (t0 : Int32) (t1 : Int32) (S : St) : Option (St × Int32) :=
  k_4 x1 (t1 + t0) (x3 + (1 : Int32)) S
noncomputable def fX12_recordsOf_4 (fu : Nat) (n : Nat) : Int32 → Int32 → Int32 → St → Option (St × Int32) :=
  Nat.rec (motive := fun _ => Int32 → Int32 → Int32 → St → Option (St × Int32)) (fun _ _ _ _ => none) (fun _ k_4 x1 x2 x3 S =>
    if (S.1 63 20) ≤ x3 then
      some (S, x2)
    else
      gd (ck x3 150) <|
      if (S.1 74 (x3).toNatClampNeg) = x1 then
        fX12_recordsOf_28 fu k_4 x1 x3 (1 : Int32) x2 S
      else
        fX12_recordsOf_28 fu k_4 x1 x3 (0 : Int32) x2 S) n
theorem fX12_recordsOf_4_s (fu : Nat) (n : Nat) (x1 : Int32) (x2 : Int32) (x3 : Int32) (S : St) : fX12_recordsOf_4 fu (n + 1) x1 x2 x3 S = (
    if (S.1 63 20) ≤ x3 then
      some (S, x2)
    else
      gd (ck x3 150) <|
      if (S.1 74 (x3).toNatClampNeg) = x1 then
        fX12_recordsOf_28 fu (fX12_recordsOf_4 fu n) x1 x3 (1 : Int32) x2 S
      else
        fX12_recordsOf_28 fu (fX12_recordsOf_4 fu n) x1 x3 (0 : Int32) x2 S) := rfl
noncomputable def fX12_recordsOf (fu : Nat) (x1 : Int32) (S : St) : Option (St × Int32) :=
  fX12_recordsOf_4 fu fu x1 (0 : Int32) (0 : Int32) S
theorem mvX12_recordsOf : MV yX12_recordsOf cX12_recordsOf 4 (some .int) RX12 1 := ⟨gw8_15, gw8_14, gs_52, gw1_13, by decide +kernel⟩
def rmX12_recordsOf : Room := { frames := 0, cells := 0, slots := 0, locals := 0 }
set_option maxHeartbeats 4000000 in
set_option maxRecDepth 100000 in
theorem m_X12_recordsOf (l : Launch) (D : va_G) (cA : FieldType → ClassId) (ad : Nat → Nat) (base : Nat) (fu : Nat) {S S' : St} {x1 : Int32} {r : Int32} (hf : fX12_recordsOf fu x1 S = some (S', r)) : Met l yX12_recordsOf (GC yX12_recordsOf cX12_recordsOf 4 (some .int)) rmX12_recordsOf (va_Pc [.ref (ad 63), .int x1] (wd D cA ad base S)) (QI D cA ad base S' r) 0 0 (aB base) := by
  refine Met.ofW (cc := cX12_recordsOf) (maxL := 4) (ret := (some .int)) (by decide) rfl ?_
  intro p e s m args below meth c s₁ B hml hv
  obtain ⟨hargs, hwd⟩ := hv
  have hr := B.returns
  have hlocks := B.notSynchronized
  obtain ⟨C, hw⟩ := CX.of (own := RX12) rfl B hml hwd
  have hx := C.1
  have hb := C.2.1
  have hl := lv_entry ([.ref (ad 63), .int x1]) (n := 4) (Nat.le_of_ble_eq_true rfl)
  rw [show entryFrame m args 4 = entryFrame m ([.ref (ad 63), .int x1] : List Value).toArray 4 from by rw [hargs], lg_entry_eq]
  generalize (lg_sl ([.ref (ad 63), .int x1]) ++ List.replicate (4 - (lg_sl ([.ref (ad 63), .int x1])).length) Slot.unset).toArray = ls at hl ⊢
  have hl : lv_has ls 4 [(0, .ref (ad 63)), (1, .int x1)] := hl
  have L_4 : ∀ (n_4 : Nat) (x1 : Int32) (x2 : Int32) (x3 : Int32) (S : St) (H : Heap) (locs : List Loc) (ls : Array Slot), fX12_recordsOf_4 fu n_4 x1 x2 x3 S = some (S', r) → lv_has ls 4 [(0, .ref (ad 63)), (1, .int x1), (2, .int x2), (3, .int x3)] → WS D cA ad base s S H locs → W p l e rmX12_recordsOf s m args below meth c H locs 0 0 (MQ below (QI D cA ad base S' r) args s 0 0 (aB base)) (F0 m 4 ls []) := by
    intro n_4
    induction n_4 with
    | zero =>
      intro x1 x2 x3 S H locs ls hf hl hw
      exact (no_none hf).elim
    | succ n_4 ih_4 =>
      have J_28 : ∀ (x1 : Int32) (x3 : Int32) (t0 : Int32) (t1 : Int32) (S : St) (H : Heap) (locs : List Loc) (ls : Array Slot), fX12_recordsOf_28 fu (fX12_recordsOf_4 fu n_4) x1 x3 t0 t1 S = some (S', r) → lv_has ls 4 [(0, .ref (ad 63)), (1, .int x1), (3, .int x3)] → WS D cA ad base s S H locs → W p l e rmX12_recordsOf s m args below meth c H locs 0 0 (MQ below (QI D cA ad base S' r) args s 0 0 (aB base)) (F0 m 28 ls [.int t0, .int t1]) := by
        intro x1 x3 t0 t1 S H locs ls hf hl hw
        refine lv_iadd hx hb dX12_recordsOf_28 ?_
        refine lv_istore_n (lv' := [(2, .int (t1 + t0)), (0, .ref (ad 63)), (1, .int x1), (3, .int x3)]) hx hb dX12_recordsOf_29 rfl hl (by decide) rfl (fun ls hl => ?_)
        refine lv_iinc (v := (x3 + (1 : Int32))) (lv' := [(3, .int (x3 + (1 : Int32))), (2, .int (t1 + t0)), (0, .ref (ad 63)), (1, .int x1)]) hx hb dX12_recordsOf_30 hl (k := 3) rfl rfl (by decide) rfl (fun ls hl => ?_)
        refine lv_goto (tgt := 4) hx hb dX12_recordsOf_33 (by decide) ?_
        exact ih_4 _ _ _ _ _ _ _ hf (lv_sub hl [2, 3, 1, 0] rfl) hw
      intro x1 x2 x3 S H locs ls hf hl hw
      rw [fX12_recordsOf_4_s] at hf
      refine lv_iload_n hx hb dX12_recordsOf_4 rfl (lv_at hl 3 rfl) ?_
      refine lv_aload_n hx hb dX12_recordsOf_5 rfl (lv_at hl 0 rfl) ?_
      refine r_getI C hw (k := 20) dq_63 ln_63 rfl vc_12 inX12 (by decide) rfl gw6_201 dX12_recordsOf_6 ?_
      refine lv_icmp_ge (tgt := 36) hx hb dX12_recordsOf_9 (by decide) (fun c_9 => ?_) (fun c_9 => ?_)
      · have hf := if_t hf c_9
        refine lv_iload_n hx hb dX12_recordsOf_36 rfl (lv_at hl 2 rfl) ?_
        exact r_iret C hw hr hlocks hf dX12_recordsOf_37
      · have hf := if_f hf c_9
        refine lv_iload_n hx hb dX12_recordsOf_12 rfl (lv_at hl 2 rfl) ?_
        refine lv_aload_n hx hb dX12_recordsOf_13 rfl (lv_at hl 0 rfl) ?_
        refine r_getR C hw (k := 15) (r := 74) dq_63 ln_63 rfl vc_12 inX12 (by decide) rfl gw6_196 dX12_recordsOf_14 ?_
        refine lv_iload_n hx hb dX12_recordsOf_17 rfl (lv_at hl 3 rfl) ?_
        obtain ⟨z_18, hf⟩ := gd_some hf
        refine r_iald C hw (x := 74) dq_74 ln_74 z_18 dX12_recordsOf_18 ?_
        refine lv_iload_n hx hb dX12_recordsOf_19 rfl (lv_at hl 1 rfl) ?_
        refine lv_icmp_ne (tgt := 27) hx hb dX12_recordsOf_20 (by decide) (fun c_20 => ?_) (fun c_20 => ?_)
        · have hf := if_f hf c_20
          refine lv_iconst (v := (0 : Int32)) hx hb dX12_recordsOf_27 (by decide) ?_
          exact J_28 _ _ _ _ _ _ _ _ hf (lv_sub hl [0, 1, 3] rfl) hw
        · have hf := if_t hf c_20
          refine lv_iconst (v := (1 : Int32)) hx hb dX12_recordsOf_23 (by decide) ?_
          refine lv_goto (tgt := 28) hx hb dX12_recordsOf_24 (by decide) ?_
          exact J_28 _ _ _ _ _ _ _ _ hf (lv_sub hl [0, 1, 3] rfl) hw
  show W p l e rmX12_recordsOf s m args below meth c s.heap [] 0 0 _ _
  refine lv_iconst (v := (0 : Int32)) hx hb dX12_recordsOf_0 (by decide) ?_
  refine lv_istore_n (lv' := [(2, .int (0 : Int32)), (0, .ref (ad 63)), (1, .int x1)]) hx hb dX12_recordsOf_1 rfl hl (by decide) rfl (fun ls hl => ?_)
  refine lv_iconst (v := (0 : Int32)) hx hb dX12_recordsOf_2 (by decide) ?_
  refine lv_istore_n (lv' := [(3, .int (0 : Int32)), (2, .int (0 : Int32)), (0, .ref (ad 63)), (1, .int x1)]) hx hb dX12_recordsOf_3 rfl hl (by decide) rfl (fun ls hl => ?_)
  exact L_4 fu _ _ _ _ _ _ _ hf (lv_sub hl [2, 3, 1, 0] rfl) hw
noncomputable def fX12_record_125 (fu : Nat) (x1 : Int32) (x2 : Int32) (x3 : Int32) (x4 : Int32) (x5 : Int32) (t0 : Int32) (S : St) : Option (St × Int32) :=
  bd (fX12_throwsIf fu t0 (3 : Int32) S) fun S_126 r_126 =>
  if r_126 = 0 then
    gd (ck (S_126.1 63 20) 150) <|
    sI 74 ((S_126.1 63 20)).toNatClampNeg x1 S_126 fun S_143 =>
    gd (ck (S_143.1 63 20) 150) <|
    sI 75 ((S_143.1 63 20)).toNatClampNeg x2 S_143 fun S_153 =>
    gd (ck (S_153.1 63 20) 150) <|
    sI 76 ((S_153.1 63 20)).toNatClampNeg x3 S_153 fun S_163 =>
    gd (ck (S_163.1 63 20) 150) <|
    sI 77 ((S_163.1 63 20)).toNatClampNeg x4 S_163 fun S_174 =>
    gd (ck (S_174.1 63 20) 150) <|
    sI 78 ((S_174.1 63 20)).toNatClampNeg x5 S_174 fun S_185 =>
    sI 63 20 ((S_185.1 63 20) + (1 : Int32)) S_185 fun S_193 =>
    bd (fX12_recordsOf fu x1 S_193) fun S_198 r_198 =>
    some (S_198, r_198)
  else
    some (S_126, (0 : Int32))
noncomputable def fX12_record_102 (fu : Nat) (x1 : Int32) (x2 : Int32) (x3 : Int32) (x4 : Int32) (x5 : Int32) (t0 : Int32) (S : St) : Option (St × Int32) :=
  bd (fX12_throwsIf fu t0 (2 : Int32) S) fun S_103 r_103 =>
  if r_103 = 0 then
    if (S_103.1 63 20) = (150 : Int32) then
      fX12_record_125 fu x1 x2 x3 x4 x5 (1 : Int32) S_103
    else
      fX12_record_125 fu x1 x2 x3 x4 x5 (0 : Int32) S_103
  else
    some (S_103, (0 : Int32))
noncomputable def fX12_record_89 (fu : Nat) (x1 : Int32) (x2 : Int32) (x3 : Int32) (x4 : Int32) (x5 : Int32) (t0 : Int32) (S : St) : Option (St × Int32) :=
  if t0 = 0 then
    fX12_record_102 fu x1 x2 x3 x4 x5 (1 : Int32) S
  else
    fX12_record_102 fu x1 x2 x3 x4 x5 (0 : Int32) S
noncomputable def fX12_record_88 (fu : Nat) (x1 : Int32) (x2 : Int32) (x3 : Int32) (x4 : Int32) (x5 : Int32) (S : St) : Option (St × Int32) :=
  fX12_record_89 fu x1 x2 x3 x4 x5 (0 : Int32) S
noncomputable def fX12_record_84 (fu : Nat) (x1 : Int32) (x2 : Int32) (x3 : Int32) (x4 : Int32) (x5 : Int32) (S : St) : Option (St × Int32) :=
  fX12_record_89 fu x1 x2 x3 x4 x5 (1 : Int32) S
noncomputable def fX12_record_75 (fu : Nat) (x1 : Int32) (x2 : Int32) (x3 : Int32) (x4 : Int32) (x5 : Int32) (S : St) : Option (St × Int32) :=
  bd (fX12_noName fu x4 S) fun S_78 r_78 =>
  if r_78 = 0 then
    fX12_record_84 fu x1 x2 x3 x4 x5 S_78
  else
    fX12_record_88 fu x1 x2 x3 x4 x5 S_78
noncomputable def fX12_record_27 (fu : Nat) (x1 : Int32) (x2 : Int32) (x3 : Int32) (x4 : Int32) (x5 : Int32) (t0 : Int32) (S : St) : Option (St × Int32) :=
  bd (fX12_throwsIf fu t0 (1 : Int32) S) fun S_28 r_28 =>
  if r_28 = 0 then
    gd (ck x1 12) <|
    bd (fX12_isIn fu x2 (S_28.1 72 (x1).toNatClampNeg) S_28) fun S_44 r_44 =>
    if r_44 = 0 then
      fX12_record_88 fu x1 x2 x3 x4 x5 S_44
    else
      bd (fX12_isType fu x3 S_44) fun S_51 r_51 =>
      if r_51 = 0 then
        fX12_record_88 fu x1 x2 x3 x4 x5 S_51
      else
        bd (fX12_isLife fu x5 S_51) fun S_59 r_59 =>
        if r_59 = 0 then
          fX12_record_88 fu x1 x2 x3 x4 x5 S_59
        else
          if x3 = (2 : Int32) then
            fX12_record_75 fu x1 x2 x3 x4 x5 S_59
          else
            if x3 = (5 : Int32) then
              fX12_record_75 fu x1 x2 x3 x4 x5 S_59
            else
              fX12_record_84 fu x1 x2 x3 x4 x5 S_59
  else
    some (S_28, (0 : Int32))
noncomputable def fX12_record_22 (fu : Nat) (x1 : Int32) (x2 : Int32) (x3 : Int32) (x4 : Int32) (x5 : Int32) (S : St) : Option (St × Int32) :=
  fX12_record_27 fu x1 x2 x3 x4 x5 (1 : Int32) S
noncomputable def fX12_record (fu : Nat) (x1 : Int32) (x2 : Int32) (x3 : Int32) (x4 : Int32) (x5 : Int32) (S : St) : Option (St × Int32) :=
  sI 63 0 (0 : Int32) S fun S_2 =>
  bd (fX12_noZone fu x1 S_2) fun S_8 r_8 =>
  if r_8 = 0 then
    bd (fX12_noName fu x2 S_8) fun S_16 r_16 =>
    if r_16 = 0 then
      fX12_record_27 fu x1 x2 x3 x4 x5 (0 : Int32) S_16
    else
      fX12_record_22 fu x1 x2 x3 x4 x5 S_16
  else
    fX12_record_22 fu x1 x2 x3 x4 x5 S_8
theorem mvX12_record : MV yX12_record cX12_record 7 (some .int) RX12 5 := ⟨gw8_0, gw7_238, gw7_239, gw1_13, by decide +kernel⟩
def rmX12_record : Room := { frames := 1, cells := 0, slots := 0, locals := 23 }
set_option maxHeartbeats 4000000 in
set_option maxRecDepth 100000 in
theorem m_X12_record (l : Launch) (D : va_G) (cA : FieldType → ClassId) (ad : Nat → Nat) (base : Nat) (fu : Nat) {S S' : St} {x1 : Int32} {x2 : Int32} {x3 : Int32} {x4 : Int32} {x5 : Int32} {r : Int32} (hf : fX12_record fu x1 x2 x3 x4 x5 S = some (S', r)) : Met l yX12_record (GC yX12_record cX12_record 7 (some .int)) rmX12_record (va_Pc [.ref (ad 63), .int x1, .int x2, .int x3, .int x4, .int x5] (wd D cA ad base S)) (QI D cA ad base S' r) 0 0 (aB base) := by
  refine Met.ofW (cc := cX12_record) (maxL := 7) (ret := (some .int)) (by decide) rfl ?_
  intro p e s m args below meth c s₁ B hml hv
  obtain ⟨hargs, hwd⟩ := hv
  have hr := B.returns
  have hlocks := B.notSynchronized
  obtain ⟨C, hw⟩ := CX.of (own := RX12) rfl B hml hwd
  have hx := C.1
  have hb := C.2.1
  have hl := lv_entry ([.ref (ad 63), .int x1, .int x2, .int x3, .int x4, .int x5]) (n := 7) (Nat.le_of_ble_eq_true rfl)
  rw [show entryFrame m args 7 = entryFrame m ([.ref (ad 63), .int x1, .int x2, .int x3, .int x4, .int x5] : List Value).toArray 7 from by rw [hargs], lg_entry_eq]
  generalize (lg_sl ([.ref (ad 63), .int x1, .int x2, .int x3, .int x4, .int x5]) ++ List.replicate (7 - (lg_sl ([.ref (ad 63), .int x1, .int x2, .int x3, .int x4, .int x5])).length) Slot.unset).toArray = ls at hl ⊢
  have hl : lv_has ls 7 [(0, .ref (ad 63)), (1, .int x1), (2, .int x2), (3, .int x3), (4, .int x4), (5, .int x5)] := hl
  have J_125 : ∀ (x1 : Int32) (x2 : Int32) (x3 : Int32) (x4 : Int32) (x5 : Int32) (t0 : Int32) (S : St) (H : Heap) (locs : List Loc) (ls : Array Slot), fX12_record_125 fu x1 x2 x3 x4 x5 t0 S = some (S', r) → lv_has ls 7 [(0, .ref (ad 63)), (1, .int x1), (2, .int x2), (3, .int x3), (4, .int x4), (5, .int x5)] → WS D cA ad base s S H locs → W p l e rmX12_record s m args below meth c H locs 0 0 (MQ below (QI D cA ad base S' r) args s 0 0 (aB base)) (F0 m 125 ls [.int t0, .ref (ad 63)]) := by
    intro x1 x2 x3 x4 x5 t0 S H locs ls hf hl hw
    refine lv_iconst (v := (3 : Int32)) hx hb dX12_record_125 (by decide) ?_
    obtain ⟨S_126, r_126, h_126, hf⟩ := bd_some hf
    refine r_bi hw (r_runV (rest := []) C hw (m_X12_throwsIf l D cA ad base fu h_126) mvX12_throwsIf gw7_193 ⟨rfl, rfl, Nat.le_of_ble_eq_true rfl, Nat.le_of_ble_eq_true rfl⟩ dq_63 ln_63 vc_12 rfl hl.1 rfl (Nat.le_of_ble_eq_true rfl) dX12_record_126 (Nat.zero_le _) (Nat.zero_le _)) (fun H locs hw => ?_)
    refine lv_if_eq (tgt := 134) hx hb dX12_record_129 (by decide) (fun c_129 => ?_) (fun c_129 => ?_)
    · have hf := if_t hf c_129
      refine lv_aload_n hx hb dX12_record_134 rfl (lv_at hl 0 rfl) ?_
      refine r_getR C hw (k := 15) (r := 74) dq_63 ln_63 rfl vc_12 inX12 (by decide) rfl gw6_196 dX12_record_135 ?_
      refine lv_aload_n hx hb dX12_record_138 rfl (lv_at hl 0 rfl) ?_
      refine r_getI C hw (k := 20) dq_63 ln_63 rfl vc_12 inX12 (by decide) rfl gw6_201 dX12_record_139 ?_
      refine lv_iload_n hx hb dX12_record_142 rfl (lv_at hl 1 rfl) ?_
      obtain ⟨z_143, hf⟩ := gd_some hf
      obtain ⟨S_143, e_143, hf⟩ := sI_some hf
      refine r_iast C hw (x := 74) dq_74 ln_74 z_143 dX12_record_143 e_143 (fun H locs hw => ?_)
      refine lv_aload_n hx hb dX12_record_144 rfl (lv_at hl 0 rfl) ?_
      refine r_getR C hw (k := 16) (r := 75) dq_63 ln_63 rfl vc_12 inX12 (by decide) rfl gw6_197 dX12_record_145 ?_
      refine lv_aload_n hx hb dX12_record_148 rfl (lv_at hl 0 rfl) ?_
      refine r_getI C hw (k := 20) dq_63 ln_63 rfl vc_12 inX12 (by decide) rfl gw6_201 dX12_record_149 ?_
      refine lv_iload_n hx hb dX12_record_152 rfl (lv_at hl 2 rfl) ?_
      obtain ⟨z_153, hf⟩ := gd_some hf
      obtain ⟨S_153, e_153, hf⟩ := sI_some hf
      refine r_iast C hw (x := 75) dq_75 ln_75 z_153 dX12_record_153 e_153 (fun H locs hw => ?_)
      refine lv_aload_n hx hb dX12_record_154 rfl (lv_at hl 0 rfl) ?_
      refine r_getR C hw (k := 17) (r := 76) dq_63 ln_63 rfl vc_12 inX12 (by decide) rfl gw6_198 dX12_record_155 ?_
      refine lv_aload_n hx hb dX12_record_158 rfl (lv_at hl 0 rfl) ?_
      refine r_getI C hw (k := 20) dq_63 ln_63 rfl vc_12 inX12 (by decide) rfl gw6_201 dX12_record_159 ?_
      refine lv_iload_n hx hb dX12_record_162 rfl (lv_at hl 3 rfl) ?_
      obtain ⟨z_163, hf⟩ := gd_some hf
      obtain ⟨S_163, e_163, hf⟩ := sI_some hf
      refine r_iast C hw (x := 76) dq_76 ln_76 z_163 dX12_record_163 e_163 (fun H locs hw => ?_)
      refine lv_aload_n hx hb dX12_record_164 rfl (lv_at hl 0 rfl) ?_
      refine r_getR C hw (k := 18) (r := 77) dq_63 ln_63 rfl vc_12 inX12 (by decide) rfl gw6_199 dX12_record_165 ?_
      refine lv_aload_n hx hb dX12_record_168 rfl (lv_at hl 0 rfl) ?_
      refine r_getI C hw (k := 20) dq_63 ln_63 rfl vc_12 inX12 (by decide) rfl gw6_201 dX12_record_169 ?_
      refine lv_iload hx hb dX12_record_172 (lv_at hl 4 rfl) ?_
      obtain ⟨z_174, hf⟩ := gd_some hf
      obtain ⟨S_174, e_174, hf⟩ := sI_some hf
      refine r_iast C hw (x := 77) dq_77 ln_77 z_174 dX12_record_174 e_174 (fun H locs hw => ?_)
      refine lv_aload_n hx hb dX12_record_175 rfl (lv_at hl 0 rfl) ?_
      refine r_getR C hw (k := 19) (r := 78) dq_63 ln_63 rfl vc_12 inX12 (by decide) rfl gw6_200 dX12_record_176 ?_
      refine lv_aload_n hx hb dX12_record_179 rfl (lv_at hl 0 rfl) ?_
      refine r_getI C hw (k := 20) dq_63 ln_63 rfl vc_12 inX12 (by decide) rfl gw6_201 dX12_record_180 ?_
      refine lv_iload hx hb dX12_record_183 (lv_at hl 5 rfl) ?_
      obtain ⟨z_185, hf⟩ := gd_some hf
      obtain ⟨S_185, e_185, hf⟩ := sI_some hf
      refine r_iast C hw (x := 78) dq_78 ln_78 z_185 dX12_record_185 e_185 (fun H locs hw => ?_)
      refine lv_aload_n hx hb dX12_record_186 rfl (lv_at hl 0 rfl) ?_
      refine lv_dup hx hb dX12_record_187 rfl ?_
      refine r_getI C hw (k := 20) dq_63 ln_63 rfl vc_12 inX12 (by decide) rfl gw6_201 dX12_record_188 ?_
      refine lv_iconst (v := (1 : Int32)) hx hb dX12_record_191 (by decide) ?_
      refine lv_iadd hx hb dX12_record_192 ?_
      obtain ⟨S_193, e_193, hf⟩ := sI_some hf
      refine r_putI C hw (k := 20) (ty0 := tyX12) dq_63 ln_63 rfl vc_12 inX12 tyX12_ok nmX12 (by decide) rfl rfl gw6_201 rfl rfl dX12_record_193 e_193 (fun H locs hw => ?_)
      refine lv_aload_n hx hb dX12_record_196 rfl (lv_at hl 0 rfl) ?_
      refine lv_iload_n hx hb dX12_record_197 rfl (lv_at hl 1 rfl) ?_
      obtain ⟨S_198, r_198, h_198, hf⟩ := bd_some hf
      refine r_bi hw (r_runV (rest := []) C hw (m_X12_recordsOf l D cA ad base fu h_198) mvX12_recordsOf gw8_12 ⟨rfl, rfl, Nat.le_of_ble_eq_true rfl, Nat.le_of_ble_eq_true rfl⟩ dq_63 ln_63 vc_12 rfl hl.1 rfl (Nat.le_of_ble_eq_true rfl) dX12_record_198 (Nat.zero_le _) (Nat.zero_le _)) (fun H locs hw => ?_)
      exact r_iret C hw hr hlocks hf dX12_record_201
    · have hf := if_f hf c_129
      refine lv_iconst (v := (0 : Int32)) hx hb dX12_record_132 (by decide) ?_
      exact r_iret C hw hr hlocks hf dX12_record_133
  have J_102 : ∀ (x1 : Int32) (x2 : Int32) (x3 : Int32) (x4 : Int32) (x5 : Int32) (t0 : Int32) (S : St) (H : Heap) (locs : List Loc) (ls : Array Slot), fX12_record_102 fu x1 x2 x3 x4 x5 t0 S = some (S', r) → lv_has ls 7 [(0, .ref (ad 63)), (1, .int x1), (2, .int x2), (3, .int x3), (4, .int x4), (5, .int x5)] → WS D cA ad base s S H locs → W p l e rmX12_record s m args below meth c H locs 0 0 (MQ below (QI D cA ad base S' r) args s 0 0 (aB base)) (F0 m 102 ls [.int t0, .ref (ad 63)]) := by
    intro x1 x2 x3 x4 x5 t0 S H locs ls hf hl hw
    refine lv_iconst (v := (2 : Int32)) hx hb dX12_record_102 (by decide) ?_
    obtain ⟨S_103, r_103, h_103, hf⟩ := bd_some hf
    refine r_bi hw (r_runV (rest := []) C hw (m_X12_throwsIf l D cA ad base fu h_103) mvX12_throwsIf gw7_193 ⟨rfl, rfl, Nat.le_of_ble_eq_true rfl, Nat.le_of_ble_eq_true rfl⟩ dq_63 ln_63 vc_12 rfl hl.1 rfl (Nat.le_of_ble_eq_true rfl) dX12_record_103 (Nat.zero_le _) (Nat.zero_le _)) (fun H locs hw => ?_)
    refine lv_if_ne (tgt := 132) hx hb dX12_record_106 (by decide) (fun c_106 => ?_) (fun c_106 => ?_)
    · have hf := if_f hf c_106
      refine lv_iconst (v := (0 : Int32)) hx hb dX12_record_132 (by decide) ?_
      exact r_iret C hw hr hlocks hf dX12_record_133
    · have hf := if_t hf c_106
      refine lv_aload_n hx hb dX12_record_109 rfl (lv_at hl 0 rfl) ?_
      refine lv_aload_n hx hb dX12_record_110 rfl (lv_at hl 0 rfl) ?_
      refine r_getI C hw (k := 20) dq_63 ln_63 rfl vc_12 inX12 (by decide) rfl gw6_201 dX12_record_111 ?_
      refine lv_sipush (v := (150 : Int32)) hx hb dX12_record_114 (by decide) ?_
      refine lv_icmp_ne (tgt := 124) hx hb dX12_record_117 (by decide) (fun c_117 => ?_) (fun c_117 => ?_)
      · have hf := if_f hf c_117
        refine lv_iconst (v := (0 : Int32)) hx hb dX12_record_124 (by decide) ?_
        exact J_125 _ _ _ _ _ _ _ _ _ _ hf (lv_sub hl [0, 1, 2, 3, 4, 5] rfl) hw
      · have hf := if_t hf c_117
        refine lv_iconst (v := (1 : Int32)) hx hb dX12_record_120 (by decide) ?_
        refine lv_goto (tgt := 125) hx hb dX12_record_121 (by decide) ?_
        exact J_125 _ _ _ _ _ _ _ _ _ _ hf (lv_sub hl [0, 1, 2, 3, 4, 5] rfl) hw
  have J_89 : ∀ (x1 : Int32) (x2 : Int32) (x3 : Int32) (x4 : Int32) (x5 : Int32) (t0 : Int32) (S : St) (H : Heap) (locs : List Loc) (ls : Array Slot), fX12_record_89 fu x1 x2 x3 x4 x5 t0 S = some (S', r) → lv_has ls 7 [(0, .ref (ad 63)), (1, .int x1), (2, .int x2), (3, .int x3), (4, .int x4), (5, .int x5)] → WS D cA ad base s S H locs → W p l e rmX12_record s m args below meth c H locs 0 0 (MQ below (QI D cA ad base S' r) args s 0 0 (aB base)) (F0 m 89 ls [.int t0]) := by
    intro x1 x2 x3 x4 x5 t0 S H locs ls hf hl hw
    refine lv_istore (lv' := [(6, .int t0), (0, .ref (ad 63)), (1, .int x1), (2, .int x2), (3, .int x3), (4, .int x4), (5, .int x5)]) hx hb dX12_record_89 hl (by decide) rfl (fun ls hl => ?_)
    refine lv_aload_n hx hb dX12_record_91 rfl (lv_at hl 1 rfl) ?_
    refine lv_iload hx hb dX12_record_92 (lv_at hl 0 rfl) ?_
    refine lv_if_ne (tgt := 101) hx hb dX12_record_94 (by decide) (fun c_94 => ?_) (fun c_94 => ?_)
    · have hf := if_f hf c_94
      refine lv_iconst (v := (0 : Int32)) hx hb dX12_record_101 (by decide) ?_
      exact J_102 _ _ _ _ _ _ _ _ _ _ hf (lv_sub hl [1, 2, 3, 4, 5, 6] rfl) hw
    · have hf := if_t hf c_94
      refine lv_iconst (v := (1 : Int32)) hx hb dX12_record_97 (by decide) ?_
      refine lv_goto (tgt := 102) hx hb dX12_record_98 (by decide) ?_
      exact J_102 _ _ _ _ _ _ _ _ _ _ hf (lv_sub hl [1, 2, 3, 4, 5, 6] rfl) hw
  have J_88 : ∀ (x1 : Int32) (x2 : Int32) (x3 : Int32) (x4 : Int32) (x5 : Int32) (S : St) (H : Heap) (locs : List Loc) (ls : Array Slot), fX12_record_88 fu x1 x2 x3 x4 x5 S = some (S', r) → lv_has ls 7 [(0, .ref (ad 63)), (1, .int x1), (2, .int x2), (3, .int x3), (4, .int x4), (5, .int x5)] → WS D cA ad base s S H locs → W p l e rmX12_record s m args below meth c H locs 0 0 (MQ below (QI D cA ad base S' r) args s 0 0 (aB base)) (F0 m 88 ls []) := by
    intro x1 x2 x3 x4 x5 S H locs ls hf hl hw
    refine lv_iconst (v := (0 : Int32)) hx hb dX12_record_88 (by decide) ?_
    exact J_89 _ _ _ _ _ _ _ _ _ _ hf (lv_sub hl [0, 1, 2, 3, 4, 5] rfl) hw
  have J_84 : ∀ (x1 : Int32) (x2 : Int32) (x3 : Int32) (x4 : Int32) (x5 : Int32) (S : St) (H : Heap) (locs : List Loc) (ls : Array Slot), fX12_record_84 fu x1 x2 x3 x4 x5 S = some (S', r) → lv_has ls 7 [(0, .ref (ad 63)), (1, .int x1), (2, .int x2), (3, .int x3), (4, .int x4), (5, .int x5)] → WS D cA ad base s S H locs → W p l e rmX12_record s m args below meth c H locs 0 0 (MQ below (QI D cA ad base S' r) args s 0 0 (aB base)) (F0 m 84 ls []) := by
    intro x1 x2 x3 x4 x5 S H locs ls hf hl hw
    refine lv_iconst (v := (1 : Int32)) hx hb dX12_record_84 (by decide) ?_
    refine lv_goto (tgt := 89) hx hb dX12_record_85 (by decide) ?_
    exact J_89 _ _ _ _ _ _ _ _ _ _ hf (lv_sub hl [0, 1, 2, 3, 4, 5] rfl) hw
  have J_75 : ∀ (x1 : Int32) (x2 : Int32) (x3 : Int32) (x4 : Int32) (x5 : Int32) (S : St) (H : Heap) (locs : List Loc) (ls : Array Slot), fX12_record_75 fu x1 x2 x3 x4 x5 S = some (S', r) → lv_has ls 7 [(0, .ref (ad 63)), (1, .int x1), (2, .int x2), (3, .int x3), (4, .int x4), (5, .int x5)] → WS D cA ad base s S H locs → W p l e rmX12_record s m args below meth c H locs 0 0 (MQ below (QI D cA ad base S' r) args s 0 0 (aB base)) (F0 m 75 ls []) := by
    intro x1 x2 x3 x4 x5 S H locs ls hf hl hw
    refine lv_aload_n hx hb dX12_record_75 rfl (lv_at hl 0 rfl) ?_
    refine lv_iload hx hb dX12_record_76 (lv_at hl 4 rfl) ?_
    obtain ⟨S_78, r_78, h_78, hf⟩ := bd_some hf
    refine r_bi hw (r_runV (rest := []) C hw (m_X12_noName l D cA ad base fu h_78) mvX12_noName gw7_217 ⟨rfl, rfl, Nat.le_of_ble_eq_true rfl, Nat.le_of_ble_eq_true rfl⟩ dq_63 ln_63 vc_12 rfl hl.1 rfl (Nat.le_of_ble_eq_true rfl) dX12_record_78 (Nat.zero_le _) (Nat.zero_le _)) (fun H locs hw => ?_)
    refine lv_if_ne (tgt := 88) hx hb dX12_record_81 (by decide) (fun c_81 => ?_) (fun c_81 => ?_)
    · have hf := if_f hf c_81
      exact J_88 _ _ _ _ _ _ _ _ _ hf (lv_sub hl [0, 1, 2, 3, 4, 5] rfl) hw
    · have hf := if_t hf c_81
      exact J_84 _ _ _ _ _ _ _ _ _ hf (lv_sub hl [0, 1, 2, 3, 4, 5] rfl) hw
  have J_27 : ∀ (x1 : Int32) (x2 : Int32) (x3 : Int32) (x4 : Int32) (x5 : Int32) (t0 : Int32) (S : St) (H : Heap) (locs : List Loc) (ls : Array Slot), fX12_record_27 fu x1 x2 x3 x4 x5 t0 S = some (S', r) → lv_has ls 7 [(0, .ref (ad 63)), (1, .int x1), (2, .int x2), (3, .int x3), (4, .int x4), (5, .int x5)] → WS D cA ad base s S H locs → W p l e rmX12_record s m args below meth c H locs 0 0 (MQ below (QI D cA ad base S' r) args s 0 0 (aB base)) (F0 m 27 ls [.int t0, .ref (ad 63)]) := by
    intro x1 x2 x3 x4 x5 t0 S H locs ls hf hl hw
    refine lv_iconst (v := (1 : Int32)) hx hb dX12_record_27 (by decide) ?_
    obtain ⟨S_28, r_28, h_28, hf⟩ := bd_some hf
    refine r_bi hw (r_runV (rest := []) C hw (m_X12_throwsIf l D cA ad base fu h_28) mvX12_throwsIf gw7_193 ⟨rfl, rfl, Nat.le_of_ble_eq_true rfl, Nat.le_of_ble_eq_true rfl⟩ dq_63 ln_63 vc_12 rfl hl.1 rfl (Nat.le_of_ble_eq_true rfl) dX12_record_28 (Nat.zero_le _) (Nat.zero_le _)) (fun H locs hw => ?_)
    refine lv_if_eq (tgt := 36) hx hb dX12_record_31 (by decide) (fun c_31 => ?_) (fun c_31 => ?_)
    · have hf := if_t hf c_31
      refine lv_aload_n hx hb dX12_record_36 rfl (lv_at hl 0 rfl) ?_
      refine lv_iload_n hx hb dX12_record_37 rfl (lv_at hl 2 rfl) ?_
      refine lv_aload_n hx hb dX12_record_38 rfl (lv_at hl 0 rfl) ?_
      refine r_getR C hw (k := 12) (r := 72) dq_63 ln_63 rfl vc_12 inX12 (by decide) rfl gw6_193 dX12_record_39 ?_
      refine lv_iload_n hx hb dX12_record_42 rfl (lv_at hl 1 rfl) ?_
      obtain ⟨z_43, hf⟩ := gd_some hf
      refine r_iald C hw (x := 72) dq_72 ln_72 z_43 dX12_record_43 ?_
      obtain ⟨S_44, r_44, h_44, hf⟩ := bd_some hf
      refine r_bi hw (r_runV (rest := []) C hw (m_X12_isIn l D cA ad base fu h_44) mvX12_isIn gw8_5 ⟨rfl, rfl, Nat.le_of_ble_eq_true rfl, Nat.le_of_ble_eq_true rfl⟩ dq_63 ln_63 vc_12 rfl hl.1 rfl (Nat.le_of_ble_eq_true rfl) dX12_record_44 (Nat.zero_le _) (Nat.zero_le _)) (fun H locs hw => ?_)
      refine lv_if_eq (tgt := 88) hx hb dX12_record_47 (by decide) (fun c_47 => ?_) (fun c_47 => ?_)
      · have hf := if_t hf c_47
        exact J_88 _ _ _ _ _ _ _ _ _ hf (lv_sub hl [0, 1, 2, 3, 4, 5] rfl) hw
      · have hf := if_f hf c_47
        refine lv_iload_n hx hb dX12_record_50 rfl (lv_at hl 3 rfl) ?_
        obtain ⟨S_51, r_51, h_51, hf⟩ := bd_some hf
        refine r_bi hw (r_runS (rest := []) C hw (m_X12_isType l D cA ad base fu h_51) msX12_isType gw8_9 ⟨rfl, rfl, Nat.le_of_ble_eq_true rfl, Nat.le_of_ble_eq_true rfl⟩ rfl hl.1 rfl (Nat.le_of_ble_eq_true rfl) dX12_record_51 (Nat.zero_le _) (Nat.zero_le _)) (fun H locs hw => ?_)
        refine lv_if_eq (tgt := 88) hx hb dX12_record_54 (by decide) (fun c_54 => ?_) (fun c_54 => ?_)
        · have hf := if_t hf c_54
          exact J_88 _ _ _ _ _ _ _ _ _ hf (lv_sub hl [0, 1, 2, 3, 4, 5] rfl) hw
        · have hf := if_f hf c_54
          refine lv_iload hx hb dX12_record_57 (lv_at hl 5 rfl) ?_
          obtain ⟨S_59, r_59, h_59, hf⟩ := bd_some hf
          refine r_bi hw (r_runS (rest := []) C hw (m_X12_isLife l D cA ad base fu h_59) msX12_isLife gw7_233 ⟨rfl, rfl, Nat.le_of_ble_eq_true rfl, Nat.le_of_ble_eq_true rfl⟩ rfl hl.1 rfl (Nat.le_of_ble_eq_true rfl) dX12_record_59 (Nat.zero_le _) (Nat.zero_le _)) (fun H locs hw => ?_)
          refine lv_if_eq (tgt := 88) hx hb dX12_record_62 (by decide) (fun c_62 => ?_) (fun c_62 => ?_)
          · have hf := if_t hf c_62
            exact J_88 _ _ _ _ _ _ _ _ _ hf (lv_sub hl [0, 1, 2, 3, 4, 5] rfl) hw
          · have hf := if_f hf c_62
            refine lv_iload_n hx hb dX12_record_65 rfl (lv_at hl 3 rfl) ?_
            refine lv_iconst (v := (2 : Int32)) hx hb dX12_record_66 (by decide) ?_
            refine lv_icmp_eq (tgt := 75) hx hb dX12_record_67 (by decide) (fun c_67 => ?_) (fun c_67 => ?_)
            · have hf := if_t hf c_67
              exact J_75 _ _ _ _ _ _ _ _ _ hf (lv_sub hl [0, 1, 2, 3, 4, 5] rfl) hw
            · have hf := if_f hf c_67
              refine lv_iload_n hx hb dX12_record_70 rfl (lv_at hl 3 rfl) ?_
              refine lv_iconst (v := (5 : Int32)) hx hb dX12_record_71 (by decide) ?_
              refine lv_icmp_ne (tgt := 84) hx hb dX12_record_72 (by decide) (fun c_72 => ?_) (fun c_72 => ?_)
              · have hf := if_f hf c_72
                exact J_84 _ _ _ _ _ _ _ _ _ hf (lv_sub hl [0, 1, 2, 3, 4, 5] rfl) hw
              · have hf := if_t hf c_72
                exact J_75 _ _ _ _ _ _ _ _ _ hf (lv_sub hl [0, 1, 2, 3, 4, 5] rfl) hw
    · have hf := if_f hf c_31
      refine lv_iconst (v := (0 : Int32)) hx hb dX12_record_34 (by decide) ?_
      exact r_iret C hw hr hlocks hf dX12_record_35
  have J_22 : ∀ (x1 : Int32) (x2 : Int32) (x3 : Int32) (x4 : Int32) (x5 : Int32) (S : St) (H : Heap) (locs : List Loc) (ls : Array Slot), fX12_record_22 fu x1 x2 x3 x4 x5 S = some (S', r) → lv_has ls 7 [(0, .ref (ad 63)), (1, .int x1), (2, .int x2), (3, .int x3), (4, .int x4), (5, .int x5)] → WS D cA ad base s S H locs → W p l e rmX12_record s m args below meth c H locs 0 0 (MQ below (QI D cA ad base S' r) args s 0 0 (aB base)) (F0 m 22 ls [.ref (ad 63)]) := by
    intro x1 x2 x3 x4 x5 S H locs ls hf hl hw
    refine lv_iconst (v := (1 : Int32)) hx hb dX12_record_22 (by decide) ?_
    refine lv_goto (tgt := 27) hx hb dX12_record_23 (by decide) ?_
    exact J_27 _ _ _ _ _ _ _ _ _ _ hf (lv_sub hl [0, 1, 2, 3, 4, 5] rfl) hw
  show W p l e rmX12_record s m args below meth c s.heap [] 0 0 _ _
  refine lv_aload_n hx hb dX12_record_0 rfl (lv_at hl 0 rfl) ?_
  refine lv_iconst (v := (0 : Int32)) hx hb dX12_record_1 (by decide) ?_
  obtain ⟨S_2, e_2, hf⟩ := sI_some hf
  refine r_putI C hw (k := 0) (ty0 := tyX12) dq_63 ln_63 rfl vc_12 inX12 tyX12_ok nmX12 (by decide) rfl rfl gw6_181 rfl rfl dX12_record_2 e_2 (fun H locs hw => ?_)
  refine lv_aload_n hx hb dX12_record_5 rfl (lv_at hl 0 rfl) ?_
  refine lv_aload_n hx hb dX12_record_6 rfl (lv_at hl 0 rfl) ?_
  refine lv_iload_n hx hb dX12_record_7 rfl (lv_at hl 1 rfl) ?_
  obtain ⟨S_8, r_8, h_8, hf⟩ := bd_some hf
  refine r_bi hw (r_runV (rest := [.ref (ad 63)]) C hw (m_X12_noZone l D cA ad base fu h_8) mvX12_noZone gw8_1 ⟨rfl, rfl, Nat.le_of_ble_eq_true rfl, Nat.le_of_ble_eq_true rfl⟩ dq_63 ln_63 vc_12 rfl hl.1 rfl (Nat.le_of_ble_eq_true rfl) dX12_record_8 (Nat.zero_le _) (Nat.zero_le _)) (fun H locs hw => ?_)
  refine lv_if_ne (tgt := 22) hx hb dX12_record_11 (by decide) (fun c_11 => ?_) (fun c_11 => ?_)
  · have hf := if_f hf c_11
    exact J_22 _ _ _ _ _ _ _ _ _ hf (lv_sub hl [0, 1, 2, 3, 4, 5] rfl) hw
  · have hf := if_t hf c_11
    refine lv_aload_n hx hb dX12_record_14 rfl (lv_at hl 0 rfl) ?_
    refine lv_iload_n hx hb dX12_record_15 rfl (lv_at hl 2 rfl) ?_
    obtain ⟨S_16, r_16, h_16, hf⟩ := bd_some hf
    refine r_bi hw (r_runV (rest := [.ref (ad 63)]) C hw (m_X12_noName l D cA ad base fu h_16) mvX12_noName gw7_217 ⟨rfl, rfl, Nat.le_of_ble_eq_true rfl, Nat.le_of_ble_eq_true rfl⟩ dq_63 ln_63 vc_12 rfl hl.1 rfl (Nat.le_of_ble_eq_true rfl) dX12_record_16 (Nat.zero_le _) (Nat.zero_le _)) (fun H locs hw => ?_)
    refine lv_if_eq (tgt := 26) hx hb dX12_record_19 (by decide) (fun c_19 => ?_) (fun c_19 => ?_)
    · have hf := if_t hf c_19
      refine lv_iconst (v := (0 : Int32)) hx hb dX12_record_26 (by decide) ?_
      exact J_27 _ _ _ _ _ _ _ _ _ _ hf (lv_sub hl [0, 1, 2, 3, 4, 5] rfl) hw
    · have hf := if_f hf c_19
      exact J_22 _ _ _ _ _ _ _ _ _ hf (lv_sub hl [0, 1, 2, 3, 4, 5] rfl) hw
