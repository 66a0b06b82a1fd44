noncomputable def fX6_addHint (fu : Nat) (x1 : Int32) (S : St) : Option (St × Int32) :=
  if (S.1 49 4) < (4 : Int32) then
    gd (ck (S.1 49 4) 4) <|
    sI 59 ((S.1 49 4)).toNatClampNeg x1 S fun S_19 =>
    sI 49 4 ((S_19.1 49 4) + (1 : Int32)) S_19 fun S_27 =>
    some (S_27, (S_27.1 49 4))
  else
    some (S, (-1 : Int32))
theorem mvX6_addHint : MV yX6_addHint cX6_addHint 2 (some .int) RX6 1 := ⟨gw3_58, gw3_56, gw3_57, gw1_11, by decide +kernel⟩
def rmX6_addHint : Room := { frames := 0, cells := 0, slots := 0, locals := 0 }
set_option maxHeartbeats 4000000 in
set_option maxRecDepth 100000 in
theorem m_X6_addHint (l : Launch) (D : va_G) (cA : FieldType → ClassId) (ad : Nat → Nat) (base : Nat) (fu : Nat) {S S' : St} {x1 : Int32} {r : Int32} (hf : fX6_addHint fu x1 S = some (S', r)) : Met l yX6_addHint (GC yX6_addHint cX6_addHint 2 (some .int)) rmX6_addHint (va_Pc [.ref (ad 49), .int x1] (wd D cA ad base S)) (QI D cA ad base S' r) 0 0 (aB base) := by
  refine Met.ofW (cc := cX6_addHint) (maxL := 2) (ret := (some .int)) (by decide) rfl ?_
  intro p e s m args below meth c s₁ B hml hv
  obtain ⟨hargs, hwd⟩ := hv
  have hr := B.returns
  have hlocks := B.notSynchronized
  obtain ⟨C, hw⟩ := CX.of (own := RX6) rfl B hml hwd
  have hx := C.1
  have hb := C.2.1
  have hl := lv_entry ([.ref (ad 49), .int x1]) (n := 2) (Nat.le_of_ble_eq_true rfl)
  rw [show entryFrame m args 2 = entryFrame m ([.ref (ad 49), .int x1] : List Value).toArray 2 from by rw [hargs], lg_entry_eq]
  generalize (lg_sl ([.ref (ad 49), .int x1]) ++ List.replicate (2 - (lg_sl ([.ref (ad 49), .int x1])).length) Slot.unset).toArray = ls at hl ⊢
  have hl : lv_has ls 2 [(0, .ref (ad 49)), (1, .int x1)] := hl
  show W p l e rmX6_addHint s m args below meth c s.heap [] 0 0 _ _
  refine lv_aload_n hx hb dX6_addHint_0 rfl (lv_at hl 0 rfl) ?_
  refine r_getI C hw (k := 4) dq_49 ln_49 rfl vc_6 inX6 (by decide) rfl gw2_74 dX6_addHint_1 ?_
  refine lv_iconst (v := (4 : Int32)) hx hb dX6_addHint_4 (by decide) ?_
  refine lv_icmp_lt (tgt := 10) hx hb dX6_addHint_5 (by decide) (fun c_5 => ?_) (fun c_5 => ?_)
  · have hf := if_t hf c_5
    refine lv_aload_n hx hb dX6_addHint_10 rfl (lv_at hl 0 rfl) ?_
    refine r_getR C hw (k := 3) (r := 59) dq_49 ln_49 rfl vc_6 inX6 (by decide) rfl gw2_73 dX6_addHint_11 ?_
    refine lv_aload_n hx hb dX6_addHint_14 rfl (lv_at hl 0 rfl) ?_
    refine r_getI C hw (k := 4) dq_49 ln_49 rfl vc_6 inX6 (by decide) rfl gw2_74 dX6_addHint_15 ?_
    refine lv_iload_n hx hb dX6_addHint_18 rfl (lv_at hl 1 rfl) ?_
    obtain ⟨z_19, hf⟩ := gd_some hf
    obtain ⟨S_19, e_19, hf⟩ := sI_some hf
    refine r_iast C hw (x := 59) dq_59 ln_59 z_19 dX6_addHint_19 e_19 (fun H locs hw => ?_)
    refine lv_aload_n hx hb dX6_addHint_20 rfl (lv_at hl 0 rfl) ?_
    refine lv_dup hx hb dX6_addHint_21 rfl ?_
    refine r_getI C hw (k := 4) dq_49 ln_49 rfl vc_6 inX6 (by decide) rfl gw2_74 dX6_addHint_22 ?_
    refine lv_iconst (v := (1 : Int32)) hx hb dX6_addHint_25 (by decide) ?_
    refine lv_iadd hx hb dX6_addHint_26 ?_
    obtain ⟨S_27, e_27, hf⟩ := sI_some hf
    refine r_putI C hw (k := 4) (ty0 := tyX6) dq_49 ln_49 rfl vc_6 inX6 tyX6_ok nmX6 (by decide) rfl rfl gw2_74 rfl rfl dX6_addHint_27 e_27 (fun H locs hw => ?_)
    refine lv_aload_n hx hb dX6_addHint_30 rfl (lv_at hl 0 rfl) ?_
    refine r_getI C hw (k := 4) dq_49 ln_49 rfl vc_6 inX6 (by decide) rfl gw2_74 dX6_addHint_31 ?_
    exact r_iret C hw hr hlocks hf dX6_addHint_34
  · have hf := if_f hf c_5
    refine lv_iconst (v := (-1 : Int32)) hx hb dX6_addHint_8 (by decide) ?_
    exact r_iret C hw hr hlocks hf dX6_addHint_9
noncomputable def fX6_hints (fu : Nat) (S : St) : Option (St × Int32) :=
  some (S, (S.1 49 4))
theorem mvX6_hints : MV yX6_hints cX6_hints 1 (some .int) RX6 0 := ⟨gw3_90, gw3_88, gw3_89, gw1_11, by decide +kernel⟩
def rmX6_hints : Room := { frames := 0, cells := 0, slots := 0, locals := 0 }
set_option maxHeartbeats 4000000 in
set_option maxRecDepth 100000 in
theorem m_X6_hints (l : Launch) (D : va_G) (cA : FieldType → ClassId) (ad : Nat → Nat) (base : Nat) (fu : Nat) {S S' : St} {r : Int32} (hf : fX6_hints fu S = some (S', r)) : Met l yX6_hints (GC yX6_hints cX6_hints 1 (some .int)) rmX6_hints (va_Pc [.ref (ad 49)] (wd D cA ad base S)) (QI D cA ad base S' r) 0 0 (aB base) := by
  refine Met.ofW (cc := cX6_hints) (maxL := 1) (ret := (some .int)) (by decide) rfl ?_
  intro p e s m args below meth c s₁ B hml hv
  obtain ⟨hargs, hwd⟩ := hv
  have hr := B.returns
  have hlocks := B.notSynchronized
  obtain ⟨C, hw⟩ := CX.of (own := RX6) rfl B hml hwd
  have hx := C.1
  have hb := C.2.1
  have hl := lv_entry ([.ref (ad 49)]) (n := 1) (Nat.le_of_ble_eq_true rfl)
  rw [show entryFrame m args 1 = entryFrame m ([.ref (ad 49)] : List Value).toArray 1 from by rw [hargs], lg_entry_eq]
  generalize (lg_sl ([.ref (ad 49)]) ++ List.replicate (1 - (lg_sl ([.ref (ad 49)])).length) Slot.unset).toArray = ls at hl ⊢
  have hl : lv_has ls 1 [(0, .ref (ad 49))] := hl
  show W p l e rmX6_hints s m args below meth c s.heap [] 0 0 _ _
  refine lv_aload_n hx hb dX6_hints_0 rfl (lv_at hl 0 rfl) ?_
  refine r_getI C hw (k := 4) dq_49 ln_49 rfl vc_6 inX6 (by decide) rfl gw2_74 dX6_hints_1 ?_
  exact r_iret C hw hr hlocks hf dX6_hints_4
noncomputable def fX6_state (fu : Nat) (S : St) : Option (St × Int32) :=
  some (S, (S.1 49 5))
theorem mvX6_state : MV yX6_state cX6_state 1 (some .int) RX6 0 := ⟨gw5_97, gw5_95, gw5_96, gw1_11, by decide +kernel⟩
def rmX6_state : Room := { frames := 0, cells := 0, slots := 0, locals := 0 }
set_option maxHeartbeats 4000000 in
set_option maxRecDepth 100000 in
theorem m_X6_state (l : Launch) (D : va_G) (cA : FieldType → ClassId) (ad : Nat → Nat) (base : Nat) (fu : Nat) {S S' : St} {r : Int32} (hf : fX6_state fu S = some (S', r)) : Met l yX6_state (GC yX6_state cX6_state 1 (some .int)) rmX6_state (va_Pc [.ref (ad 49)] (wd D cA ad base S)) (QI D cA ad base S' r) 0 0 (aB base) := by
  refine Met.ofW (cc := cX6_state) (maxL := 1) (ret := (some .int)) (by decide) rfl ?_
  intro p e s m args below meth c s₁ B hml hv
  obtain ⟨hargs, hwd⟩ := hv
  have hr := B.returns
  have hlocks := B.notSynchronized
  obtain ⟨C, hw⟩ := CX.of (own := RX6) rfl B hml hwd
  have hx := C.1
  have hb := C.2.1
  have hl := lv_entry ([.ref (ad 49)]) (n := 1) (Nat.le_of_ble_eq_true rfl)
  rw [show entryFrame m args 1 = entryFrame m ([.ref (ad 49)] : List Value).toArray 1 from by rw [hargs], lg_entry_eq]
  generalize (lg_sl ([.ref (ad 49)]) ++ List.replicate (1 - (lg_sl ([.ref (ad 49)])).length) Slot.unset).toArray = ls at hl ⊢
  have hl : lv_has ls 1 [(0, .ref (ad 49))] := hl
  show W p l e rmX6_state s m args below meth c s.heap [] 0 0 _ _
  refine lv_aload_n hx hb dX6_state_0 rfl (lv_at hl 0 rfl) ?_
  refine r_getI C hw (k := 5) dq_49 ln_49 rfl vc_6 inX6 (by decide) rfl gw2_75 dX6_state_1 ?_
  exact r_iret C hw hr hlocks hf dX6_state_4
noncomputable def fX6_isWaiting (fu : Nat) (S : St) : Option (St × Int32) :=
  gd (isB (S.1 49 8)) <|
  some (S, (S.1 49 8))
theorem mvX6_isWaiting : MV yX6_isWaiting cX6_isWaiting 1 (some .boolean) RX6 0 := ⟨gw6_12, gw6_10, gw6_11, gw1_11, by decide +kernel⟩
def rmX6_isWaiting : Room := { frames := 0, cells := 0, slots := 0, locals := 0 }
set_option maxHeartbeats 4000000 in
set_option maxRecDepth 100000 in
theorem m_X6_isWaiting (l : Launch) (D : va_G) (cA : FieldType → ClassId) (ad : Nat → Nat) (base : Nat) (fu : Nat) {S S' : St} {r : Int32} (hf : fX6_isWaiting fu S = some (S', r)) : Met l yX6_isWaiting (GC yX6_isWaiting cX6_isWaiting 1 (some .boolean)) rmX6_isWaiting (va_Pc [.ref (ad 49)] (wd D cA ad base S)) (QI D cA ad base S' r) 0 0 (aB base) := by
  refine Met.ofW (cc := cX6_isWaiting) (maxL := 1) (ret := (some .boolean)) (by decide) rfl ?_
  intro p e s m args below meth c s₁ B hml hv
  obtain ⟨hargs, hwd⟩ := hv
  have hr := B.returns
  have hlocks := B.notSynchronized
  obtain ⟨C, hw⟩ := CX.of (own := RX6) rfl B hml hwd
  have hx := C.1
  have hb := C.2.1
  have hl := lv_entry ([.ref (ad 49)]) (n := 1) (Nat.le_of_ble_eq_true rfl)
  rw [show entryFrame m args 1 = entryFrame m ([.ref (ad 49)] : List Value).toArray 1 from by rw [hargs], lg_entry_eq]
  generalize (lg_sl ([.ref (ad 49)]) ++ List.replicate (1 - (lg_sl ([.ref (ad 49)])).length) Slot.unset).toArray = ls at hl ⊢
  have hl : lv_has ls 1 [(0, .ref (ad 49))] := hl
  show W p l e rmX6_isWaiting s m args below meth c s.heap [] 0 0 _ _
  refine lv_aload_n hx hb dX6_isWaiting_0 rfl (lv_at hl 0 rfl) ?_
  refine r_getI C hw (k := 8) dq_49 ln_49 rfl vc_6 inX6 (by decide) rfl gw2_78 dX6_isWaiting_1 ?_
  obtain ⟨z_4, hf⟩ := gd_some hf
  exact r_zret C hw hr hlocks z_4 hf dX6_isWaiting_4
noncomputable def fX6_address (fu : Nat) (S : St) : Option (St × Int32) :=
  some (S, (S.1 49 9))
theorem mvX6_address : MV yX6_address cX6_address 1 (some .int) RX6 0 := ⟨gw6_17, gw6_15, gw6_16, gw1_11, by decide +kernel⟩
def rmX6_address : Room := { frames := 0, cells := 0, slots := 0, locals := 0 }
set_option maxHeartbeats 4000000 in
set_option maxRecDepth 100000 in
theorem m_X6_address (l : Launch) (D : va_G) (cA : FieldType → ClassId) (ad : Nat → Nat) (base : Nat) (fu : Nat) {S S' : St} {r : Int32} (hf : fX6_address fu S = some (S', r)) : Met l yX6_address (GC yX6_address cX6_address 1 (some .int)) rmX6_address (va_Pc [.ref (ad 49)] (wd D cA ad base S)) (QI D cA ad base S' r) 0 0 (aB base) := by
  refine Met.ofW (cc := cX6_address) (maxL := 1) (ret := (some .int)) (by decide) rfl ?_
  intro p e s m args below meth c s₁ B hml hv
  obtain ⟨hargs, hwd⟩ := hv
  have hr := B.returns
  have hlocks := B.notSynchronized
  obtain ⟨C, hw⟩ := CX.of (own := RX6) rfl B hml hwd
  have hx := C.1
  have hb := C.2.1
  have hl := lv_entry ([.ref (ad 49)]) (n := 1) (Nat.le_of_ble_eq_true rfl)
  rw [show entryFrame m args 1 = entryFrame m ([.ref (ad 49)] : List Value).toArray 1 from by rw [hargs], lg_entry_eq]
  generalize (lg_sl ([.ref (ad 49)]) ++ List.replicate (1 - (lg_sl ([.ref (ad 49)])).length) Slot.unset).toArray = ls at hl ⊢
  have hl : lv_has ls 1 [(0, .ref (ad 49))] := hl
  show W p l e rmX6_address s m args below meth c s.heap [] 0 0 _ _
  refine lv_aload_n hx hb dX6_address_0 rfl (lv_at hl 0 rfl) ?_
  refine r_getI C hw (k := 9) dq_49 ln_49 rfl vc_6 inX6 (by decide) rfl gw2_79 dX6_address_1 ?_
  exact r_iret C hw hr hlocks hf dX6_address_4
noncomputable def fX6_id (fu : Nat) (S : St) : Option (St × Int32) :=
  some (S, ((S.1 49 7) &&& (65535 : Int32)))
theorem mvX6_id : MV yX6_id cX6_id 1 (some .int) RX6 0 := ⟨gw6_29, gw6_27, gw6_28, gw1_11, by decide +kernel⟩
def rmX6_id : Room := { frames := 0, cells := 0, slots := 0, locals := 0 }
set_option maxHeartbeats 4000000 in
set_option maxRecDepth 100000 in
theorem m_X6_id (l : Launch) (D : va_G) (cA : FieldType → ClassId) (ad : Nat → Nat) (base : Nat) (fu : Nat) {S S' : St} {r : Int32} (hf : fX6_id fu S = some (S', r)) : Met l yX6_id (GC yX6_id cX6_id 1 (some .int)) rmX6_id (va_Pc [.ref (ad 49)] (wd D cA ad base S)) (QI D cA ad base S' r) 0 0 (aB base) := by
  refine Met.ofW (cc := cX6_id) (maxL := 1) (ret := (some .int)) (by decide) rfl ?_
  intro p e s m args below meth c s₁ B hml hv
  obtain ⟨hargs, hwd⟩ := hv
  have hr := B.returns
  have hlocks := B.notSynchronized
  obtain ⟨C, hw⟩ := CX.of (own := RX6) rfl B hml hwd
  have hx := C.1
  have hb := C.2.1
  have hl := lv_entry ([.ref (ad 49)]) (n := 1) (Nat.le_of_ble_eq_true rfl)
  rw [show entryFrame m args 1 = entryFrame m ([.ref (ad 49)] : List Value).toArray 1 from by rw [hargs], lg_entry_eq]
  generalize (lg_sl ([.ref (ad 49)]) ++ List.replicate (1 - (lg_sl ([.ref (ad 49)])).length) Slot.unset).toArray = ls at hl ⊢
  have hl : lv_has ls 1 [(0, .ref (ad 49))] := hl
  show W p l e rmX6_id s m args below meth c s.heap [] 0 0 _ _
  refine lv_aload_n hx hb dX6_id_0 rfl (lv_at hl 0 rfl) ?_
  refine r_getI C hw (k := 7) dq_49 ln_49 rfl vc_6 inX6 (by decide) rfl gw2_77 dX6_id_1 ?_
  refine lv_ldc hx hb C.2.2.2.1 (C.2.2.2.2.1 _ (gw_of gw6_30 rfl)) dX6_id_4 ?_
  refine lv_iand hx hb dX6_id_6 ?_
  exact r_iret C hw hr hlocks hf dX6_id_7
noncomputable def fX6_askedName (fu : Nat) (S : St) : Option (St × Int32) :=
  bd (fX2_topName fu S) fun S_4 r_4 =>
  some (S_4, r_4)
theorem mvX6_askedName : MV yX6_askedName cX6_askedName 1 (some .int) RX6 0 := ⟨gw6_21, gw6_19, gw6_20, gw1_11, by decide +kernel⟩
def rmX6_askedName : Room := { frames := 1, cells := 0, slots := 0, locals := 20 }
set_option maxHeartbeats 4000000 in
set_option maxRecDepth 100000 in
theorem m_X6_askedName (l : Launch) (D : va_G) (cA : FieldType → ClassId) (ad : Nat → Nat) (base : Nat) (fu : Nat) {S S' : St} {r : Int32} (hf : fX6_askedName fu S = some (S', r)) : Met l yX6_askedName (GC yX6_askedName cX6_askedName 1 (some .int)) rmX6_askedName (va_Pc [.ref (ad 49)] (wd D cA ad base S)) (QI D cA ad base S' r) 0 0 (aB base) := by
  refine Met.ofW (cc := cX6_askedName) (maxL := 1) (ret := (some .int)) (by decide) rfl ?_
  intro p e s m args below meth c s₁ B hml hv
  obtain ⟨hargs, hwd⟩ := hv
  have hr := B.returns
  have hlocks := B.notSynchronized
  obtain ⟨C, hw⟩ := CX.of (own := RX6) rfl B hml hwd
  have hx := C.1
  have hb := C.2.1
  have hl := lv_entry ([.ref (ad 49)]) (n := 1) (Nat.le_of_ble_eq_true rfl)
  rw [show entryFrame m args 1 = entryFrame m ([.ref (ad 49)] : List Value).toArray 1 from by rw [hargs], lg_entry_eq]
  generalize (lg_sl ([.ref (ad 49)]) ++ List.replicate (1 - (lg_sl ([.ref (ad 49)])).length) Slot.unset).toArray = ls at hl ⊢
  have hl : lv_has ls 1 [(0, .ref (ad 49))] := hl
  show W p l e rmX6_askedName s m args below meth c s.heap [] 0 0 _ _
  refine lv_aload_n hx hb dX6_askedName_0 rfl (lv_at hl 0 rfl) ?_
  refine r_getR C hw (k := 2) (r := 50) dq_49 ln_49 rfl vc_6 inX6 (by decide) rfl gw2_72 dX6_askedName_1 ?_
  obtain ⟨S_4, r_4, h_4, hf⟩ := bd_some hf
  refine r_bi hw (r_runV (rest := []) C hw (m_X2_topName l D cA ad base fu h_4) mvX2_topName gw5_140 ⟨rfl, rfl, Nat.le_of_ble_eq_true rfl, Nat.le_of_ble_eq_true rfl⟩ dq_50 ln_50 vc_2 rfl hl.1 rfl (Nat.le_of_ble_eq_true rfl) dX6_askedName_4 (Nat.zero_le _) (Nat.zero_le _)) (fun H locs hw => ?_)
  exact r_iret C hw hr hlocks hf dX6_askedName_7
noncomputable def fX6_askedType (fu : Nat) (S : St) : Option (St × Int32) :=
  bd (fX2_topType fu S) fun S_4 r_4 =>
  some (S_4, r_4)
theorem mvX6_askedType : MV yX6_askedType cX6_askedType 1 (some .int) RX6 0 := ⟨gw6_25, gw6_23, gw6_24, gw1_11, by decide +kernel⟩
def rmX6_askedType : Room := { frames := 1, cells := 0, slots := 0, locals := 20 }
set_option maxHeartbeats 4000000 in
set_option maxRecDepth 100000 in
theorem m_X6_askedType (l : Launch) (D : va_G) (cA : FieldType → ClassId) (ad : Nat → Nat) (base : Nat) (fu : Nat) {S S' : St} {r : Int32} (hf : fX6_askedType fu S = some (S', r)) : Met l yX6_askedType (GC yX6_askedType cX6_askedType 1 (some .int)) rmX6_askedType (va_Pc [.ref (ad 49)] (wd D cA ad base S)) (QI D cA ad base S' r) 0 0 (aB base) := by
  refine Met.ofW (cc := cX6_askedType) (maxL := 1) (ret := (some .int)) (by decide) rfl ?_
  intro p e s m args below meth c s₁ B hml hv
  obtain ⟨hargs, hwd⟩ := hv
  have hr := B.returns
  have hlocks := B.notSynchronized
  obtain ⟨C, hw⟩ := CX.of (own := RX6) rfl B hml hwd
  have hx := C.1
  have hb := C.2.1
  have hl := lv_entry ([.ref (ad 49)]) (n := 1) (Nat.le_of_ble_eq_true rfl)
  rw [show entryFrame m args 1 = entryFrame m ([.ref (ad 49)] : List Value).toArray 1 from by rw [hargs], lg_entry_eq]
  generalize (lg_sl ([.ref (ad 49)]) ++ List.replicate (1 - (lg_sl ([.ref (ad 49)])).length) Slot.unset).toArray = ls at hl ⊢
  have hl : lv_has ls 1 [(0, .ref (ad 49))] := hl
  show W p l e rmX6_askedType s m args below meth c s.heap [] 0 0 _ _
  refine lv_aload_n hx hb dX6_askedType_0 rfl (lv_at hl 0 rfl) ?_
  refine r_getR C hw (k := 2) (r := 50) dq_49 ln_49 rfl vc_6 inX6 (by decide) rfl gw2_72 dX6_askedType_1 ?_
  obtain ⟨S_4, r_4, h_4, hf⟩ := bd_some hf
  refine r_bi hw (r_runV (rest := []) C hw (m_X2_topType l D cA ad base fu h_4) mvX2_topType gw5_144 ⟨rfl, rfl, Nat.le_of_ble_eq_true rfl, Nat.le_of_ble_eq_true rfl⟩ dq_50 ln_50 vc_2 rfl hl.1 rfl (Nat.le_of_ble_eq_true rfl) dX6_askedType_4 (Nat.zero_le _) (Nat.zero_le _)) (fun H locs hw => ?_)
  exact r_iret C hw hr hlocks hf dX6_askedType_7
noncomputable def fX6_depth (fu : Nat) (S : St) : Option (St × Int32) :=
  bd (fX2_depth fu S) fun S_4 r_4 =>
  some (S_4, r_4)
theorem mvX6_depth : MV yX6_depth cX6_depth 1 (some .int) RX6 0 := ⟨gw6_129, gw6_127, gw6_128, gw1_11, by decide +kernel⟩
def rmX6_depth : Room := { frames := 1, cells := 0, slots := 0, locals := 20 }
set_option maxHeartbeats 4000000 in
set_option maxRecDepth 100000 in
theorem m_X6_depth (l : Launch) (D : va_G) (cA : FieldType → ClassId) (ad : Nat → Nat) (base : Nat) (fu : Nat) {S S' : St} {r : Int32} (hf : fX6_depth fu S = some (S', r)) : Met l yX6_depth (GC yX6_depth cX6_depth 1 (some .int)) rmX6_depth (va_Pc [.ref (ad 49)] (wd D cA ad base S)) (QI D cA ad base S' r) 0 0 (aB base) := by
  refine Met.ofW (cc := cX6_depth) (maxL := 1) (ret := (some .int)) (by decide) rfl ?_
  intro p e s m args below meth c s₁ B hml hv
  obtain ⟨hargs, hwd⟩ := hv
  have hr := B.returns
  have hlocks := B.notSynchronized
  obtain ⟨C, hw⟩ := CX.of (own := RX6) rfl B hml hwd
  have hx := C.1
  have hb := C.2.1
  have hl := lv_entry ([.ref (ad 49)]) (n := 1) (Nat.le_of_ble_eq_true rfl)
  rw [show entryFrame m args 1 = entryFrame m ([.ref (ad 49)] : List Value).toArray 1 from by rw [hargs], lg_entry_eq]
  generalize (lg_sl ([.ref (ad 49)]) ++ List.replicate (1 - (lg_sl ([.ref (ad 49)])).length) Slot.unset).toArray = ls at hl ⊢
  have hl : lv_has ls 1 [(0, .ref (ad 49))] := hl
  show W p l e rmX6_depth s m args below meth c s.heap [] 0 0 _ _
  refine lv_aload_n hx hb dX6_depth_0 rfl (lv_at hl 0 rfl) ?_
  refine r_getR C hw (k := 2) (r := 50) dq_49 ln_49 rfl vc_6 inX6 (by decide) rfl gw2_72 dX6_depth_1 ?_
  obtain ⟨S_4, r_4, h_4, hf⟩ := bd_some hf
  refine r_bi hw (r_runV (rest := []) C hw (m_X2_depth l D cA ad base fu h_4) mvX2_depth gw5_164 ⟨rfl, rfl, Nat.le_of_ble_eq_true rfl, Nat.le_of_ble_eq_true rfl⟩ dq_50 ln_50 vc_2 rfl hl.1 rfl (Nat.le_of_ble_eq_true rfl) dX6_depth_4 (Nat.zero_le _) (Nat.zero_le _)) (fun H locs hw => ?_)
  exact r_iret C hw hr hlocks hf dX6_depth_7
noncomputable def fX6_place (fu : Nat) (S : St) : Option (St × Int32) :=
  bd (fX2_topPlace fu S) fun S_4 r_4 =>
  some (S_4, r_4)
theorem mvX6_place : MV yX6_place cX6_place 1 (some .int) RX6 0 := ⟨gw6_133, gw6_131, gw6_132, gw1_11, by decide +kernel⟩
def rmX6_place : Room := { frames := 1, cells := 0, slots := 0, locals := 20 }
set_option maxHeartbeats 4000000 in
set_option maxRecDepth 100000 in
theorem m_X6_place (l : Launch) (D : va_G) (cA : FieldType → ClassId) (ad : Nat → Nat) (base : Nat) (fu : Nat) {S S' : St} {r : Int32} (hf : fX6_place fu S = some (S', r)) : Met l yX6_place (GC yX6_place cX6_place 1 (some .int)) rmX6_place (va_Pc [.ref (ad 49)] (wd D cA ad base S)) (QI D cA ad base S' r) 0 0 (aB base) := by
  refine Met.ofW (cc := cX6_place) (maxL := 1) (ret := (some .int)) (by decide) rfl ?_
  intro p e s m args below meth c s₁ B hml hv
  obtain ⟨hargs, hwd⟩ := hv
  have hr := B.returns
  have hlocks := B.notSynchronized
  obtain ⟨C, hw⟩ := CX.of (own := RX6) rfl B hml hwd
  have hx := C.1
  have hb := C.2.1
  have hl := lv_entry ([.ref (ad 49)]) (n := 1) (Nat.le_of_ble_eq_true rfl)
  rw [show entryFrame m args 1 = entryFrame m ([.ref (ad 49)] : List Value).toArray 1 from by rw [hargs], lg_entry_eq]
  generalize (lg_sl ([.ref (ad 49)]) ++ List.replicate (1 - (lg_sl ([.ref (ad 49)])).length) Slot.unset).toArray = ls at hl ⊢
  have hl : lv_has ls 1 [(0, .ref (ad 49))] := hl
  show W p l e rmX6_place s m args below meth c s.heap [] 0 0 _ _
  refine lv_aload_n hx hb dX6_place_0 rfl (lv_at hl 0 rfl) ?_
  refine r_getR C hw (k := 2) (r := 50) dq_49 ln_49 rfl vc_6 inX6 (by decide) rfl gw2_72 dX6_place_1 ?_
  obtain ⟨S_4, r_4, h_4, hf⟩ := bd_some hf
  refine r_bi hw (r_runV (rest := []) C hw (m_X2_topPlace l D cA ad base fu h_4) mvX2_topPlace gw6_100 ⟨rfl, rfl, Nat.le_of_ble_eq_true rfl, Nat.le_of_ble_eq_true rfl⟩ dq_50 ln_50 vc_2 rfl hl.1 rfl (Nat.le_of_ble_eq_true rfl) dX6_place_4 (Nat.zero_le _) (Nat.zero_le _)) (fun H locs hw => ?_)
  exact r_iret C hw hr hlocks hf dX6_place_7
noncomputable def fX6_sent (fu : Nat) (S : St) : Option (St × Int32) :=
  some (S, (S.1 49 6))
theorem mvX6_sent : MV yX6_sent cX6_sent 1 (some .int) RX6 0 := ⟨gw6_165, gw6_163, gw6_164, gw1_11, by decide +kernel⟩
def rmX6_sent : Room := { frames := 0, cells := 0, slots := 0, locals := 0 }
set_option maxHeartbeats 4000000 in
set_option maxRecDepth 100000 in
theorem m_X6_sent (l : Launch) (D : va_G) (cA : FieldType → ClassId) (ad : Nat → Nat) (base : Nat) (fu : Nat) {S S' : St} {r : Int32} (hf : fX6_sent fu S = some (S', r)) : Met l yX6_sent (GC yX6_sent cX6_sent 1 (some .int)) rmX6_sent (va_Pc [.ref (ad 49)] (wd D cA ad base S)) (QI D cA ad base S' r) 0 0 (aB base) := by
  refine Met.ofW (cc := cX6_sent) (maxL := 1) (ret := (some .int)) (by decide) rfl ?_
  intro p e s m args below meth c s₁ B hml hv
  obtain ⟨hargs, hwd⟩ := hv
  have hr := B.returns
  have hlocks := B.notSynchronized
  obtain ⟨C, hw⟩ := CX.of (own := RX6) rfl B hml hwd
  have hx := C.1
  have hb := C.2.1
  have hl := lv_entry ([.ref (ad 49)]) (n := 1) (Nat.le_of_ble_eq_true rfl)
  rw [show entryFrame m args 1 = entryFrame m ([.ref (ad 49)] : List Value).toArray 1 from by rw [hargs], lg_entry_eq]
  generalize (lg_sl ([.ref (ad 49)]) ++ List.replicate (1 - (lg_sl ([.ref (ad 49)])).length) Slot.unset).toArray = ls at hl ⊢
  have hl : lv_has ls 1 [(0, .ref (ad 49))] := hl
  show W p l e rmX6_sent s m args below meth c s.heap [] 0 0 _ _
  refine lv_aload_n hx hb dX6_sent_0 rfl (lv_at hl 0 rfl) ?_
  refine r_getI C hw (k := 6) dq_49 ln_49 rfl vc_6 inX6 (by decide) rfl gw2_76 dX6_sent_1 ?_
  exact r_iret C hw hr hlocks hf dX6_sent_4
noncomputable def fX6_sentEver (fu : Nat) (S : St) : Option (St × Int32) :=
  some (S, (S.1 49 7))
theorem mvX6_sentEver : MV yX6_sentEver cX6_sentEver 1 (some .int) RX6 0 := ⟨gw3_102, gw3_100, gw3_101, gw1_11, by decide +kernel⟩
def rmX6_sentEver : Room := { frames := 0, cells := 0, slots := 0, locals := 0 }
set_option maxHeartbeats 4000000 in
set_option maxRecDepth 100000 in
theorem m_X6_sentEver (l : Launch) (D : va_G) (cA : FieldType → ClassId) (ad : Nat → Nat) (base : Nat) (fu : Nat) {S S' : St} {r : Int32} (hf : fX6_sentEver fu S = some (S', r)) : Met l yX6_sentEver (GC yX6_sentEver cX6_sentEver 1 (some .int)) rmX6_sentEver (va_Pc [.ref (ad 49)] (wd D cA ad base S)) (QI D cA ad base S' r) 0 0 (aB base) := by
  refine Met.ofW (cc := cX6_sentEver) (maxL := 1) (ret := (some .int)) (by decide) rfl ?_
  intro p e s m args below meth c s₁ B hml hv
  obtain ⟨hargs, hwd⟩ := hv
  have hr := B.returns
  have hlocks := B.notSynchronized
  obtain ⟨C, hw⟩ := CX.of (own := RX6) rfl B hml hwd
  have hx := C.1
  have hb := C.2.1
  have hl := lv_entry ([.ref (ad 49)]) (n := 1) (Nat.le_of_ble_eq_true rfl)
  rw [show entryFrame m args 1 = entryFrame m ([.ref (ad 49)] : List Value).toArray 1 from by rw [hargs], lg_entry_eq]
  generalize (lg_sl ([.ref (ad 49)]) ++ List.replicate (1 - (lg_sl ([.ref (ad 49)])).length) Slot.unset).toArray = ls at hl ⊢
  have hl : lv_has ls 1 [(0, .ref (ad 49))] := hl
  show W p l e rmX6_sentEver s m args below meth c s.heap [] 0 0 _ _
  refine lv_aload_n hx hb dX6_sentEver_0 rfl (lv_at hl 0 rfl) ?_
  refine r_getI C hw (k := 7) dq_49 ln_49 rfl vc_6 inX6 (by decide) rfl gw2_77 dX6_sentEver_1 ?_
  exact r_iret C hw hr hlocks hf dX6_sentEver_4
noncomputable def fX6_firstChains (fu : Nat) (S : St) : Option (St × Int32) :=
  bd (fX2_firstChains fu S) fun S_4 r_4 =>
  some (S_4, r_4)
theorem mvX6_firstChains : MV yX6_firstChains cX6_firstChains 1 (some .int) RX6 0 := ⟨gw6_149, gw6_147, gw6_148, gw1_11, by decide +kernel⟩
def rmX6_firstChains : Room := { frames := 1, cells := 0, slots := 0, locals := 20 }
set_option maxHeartbeats 4000000 in
set_option maxRecDepth 100000 in
theorem m_X6_firstChains (l : Launch) (D : va_G) (cA : FieldType → ClassId) (ad : Nat → Nat) (base : Nat) (fu : Nat) {S S' : St} {r : Int32} (hf : fX6_firstChains fu S = some (S', r)) : Met l yX6_firstChains (GC yX6_firstChains cX6_firstChains 1 (some .int)) rmX6_firstChains (va_Pc [.ref (ad 49)] (wd D cA ad base S)) (QI D cA ad base S' r) 0 0 (aB base) := by
  refine Met.ofW (cc := cX6_firstChains) (maxL := 1) (ret := (some .int)) (by decide) rfl ?_
  intro p e s m args below meth c s₁ B hml hv
  obtain ⟨hargs, hwd⟩ := hv
  have hr := B.returns
  have hlocks := B.notSynchronized
  obtain ⟨C, hw⟩ := CX.of (own := RX6) rfl B hml hwd
  have hx := C.1
  have hb := C.2.1
  have hl := lv_entry ([.ref (ad 49)]) (n := 1) (Nat.le_of_ble_eq_true rfl)
  rw [show entryFrame m args 1 = entryFrame m ([.ref (ad 49)] : List Value).toArray 1 from by rw [hargs], lg_entry_eq]
  generalize (lg_sl ([.ref (ad 49)]) ++ List.replicate (1 - (lg_sl ([.ref (ad 49)])).length) Slot.unset).toArray = ls at hl ⊢
  have hl : lv_has ls 1 [(0, .ref (ad 49))] := hl
  show W p l e rmX6_firstChains s m args below meth c s.heap [] 0 0 _ _
  refine lv_aload_n hx hb dX6_firstChains_0 rfl (lv_at hl 0 rfl) ?_
  refine r_getR C hw (k := 2) (r := 50) dq_49 ln_49 rfl vc_6 inX6 (by decide) rfl gw2_72 dX6_firstChains_1 ?_
  obtain ⟨S_4, r_4, h_4, hf⟩ := bd_some hf
  refine r_bi hw (r_runV (rest := []) C hw (m_X2_firstChains l D cA ad base fu h_4) mvX2_firstChains gw6_150 ⟨rfl, rfl, Nat.le_of_ble_eq_true rfl, Nat.le_of_ble_eq_true rfl⟩ dq_50 ln_50 vc_2 rfl hl.1 rfl (Nat.le_of_ble_eq_true rfl) dX6_firstChains_4 (Nat.zero_le _) (Nat.zero_le _)) (fun H locs hw => ?_)
  exact r_iret C hw hr hlocks hf dX6_firstChains_7
noncomputable def fX6_firstName (fu : Nat) (S : St) : Option (St × Int32) :=
  bd (fX2_firstName fu S) fun S_4 r_4 =>
  some (S_4, r_4)
theorem mvX6_firstName : MV yX6_firstName cX6_firstName 1 (some .int) RX6 0 := ⟨gw6_157, gw6_155, gw6_156, gw1_11, by decide +kernel⟩
def rmX6_firstName : Room := { frames := 1, cells := 0, slots := 0, locals := 20 }
set_option maxHeartbeats 4000000 in
set_option maxRecDepth 100000 in
theorem m_X6_firstName (l : Launch) (D : va_G) (cA : FieldType → ClassId) (ad : Nat → Nat) (base : Nat) (fu : Nat) {S S' : St} {r : Int32} (hf : fX6_firstName fu S = some (S', r)) : Met l yX6_firstName (GC yX6_firstName cX6_firstName 1 (some .int)) rmX6_firstName (va_Pc [.ref (ad 49)] (wd D cA ad base S)) (QI D cA ad base S' r) 0 0 (aB base) := by
  refine Met.ofW (cc := cX6_firstName) (maxL := 1) (ret := (some .int)) (by decide) rfl ?_
  intro p e s m args below meth c s₁ B hml hv
  obtain ⟨hargs, hwd⟩ := hv
  have hr := B.returns
  have hlocks := B.notSynchronized
  obtain ⟨C, hw⟩ := CX.of (own := RX6) rfl B hml hwd
  have hx := C.1
  have hb := C.2.1
  have hl := lv_entry ([.ref (ad 49)]) (n := 1) (Nat.le_of_ble_eq_true rfl)
  rw [show entryFrame m args 1 = entryFrame m ([.ref (ad 49)] : List Value).toArray 1 from by rw [hargs], lg_entry_eq]
  generalize (lg_sl ([.ref (ad 49)]) ++ List.replicate (1 - (lg_sl ([.ref (ad 49)])).length) Slot.unset).toArray = ls at hl ⊢
  have hl : lv_has ls 1 [(0, .ref (ad 49))] := hl
  show W p l e rmX6_firstName s m args below meth c s.heap [] 0 0 _ _
  refine lv_aload_n hx hb dX6_firstName_0 rfl (lv_at hl 0 rfl) ?_
  refine r_getR C hw (k := 2) (r := 50) dq_49 ln_49 rfl vc_6 inX6 (by decide) rfl gw2_72 dX6_firstName_1 ?_
  obtain ⟨S_4, r_4, h_4, hf⟩ := bd_some hf
  refine r_bi hw (r_runV (rest := []) C hw (m_X2_firstName l D cA ad base fu h_4) mvX2_firstName gw6_158 ⟨rfl, rfl, Nat.le_of_ble_eq_true rfl, Nat.le_of_ble_eq_true rfl⟩ dq_50 ln_50 vc_2 rfl hl.1 rfl (Nat.le_of_ble_eq_true rfl) dX6_firstName_4 (Nat.zero_le _) (Nat.zero_le _)) (fun H locs hw => ?_)
  exact r_iret C hw hr hlocks hf dX6_firstName_7
noncomputable def fX6_foundSize (fu : Nat) (S : St) : Option (St × Int32) :=
  some (S, (S.1 49 11))
theorem mvX6_foundSize : MV yX6_foundSize cX6_foundSize 1 (some .int) RX6 0 := ⟨gw6_145, gw6_143, gw6_144, gw1_11, by decide +kernel⟩
def rmX6_foundSize : Room := { frames := 0, cells := 0, slots := 0, locals := 0 }
set_option maxHeartbeats 4000000 in
set_option maxRecDepth 100000 in
theorem m_X6_foundSize (l : Launch) (D : va_G) (cA : FieldType → ClassId) (ad : Nat → Nat) (base : Nat) (fu : Nat) {S S' : St} {r : Int32} (hf : fX6_foundSize fu S = some (S', r)) : Met l yX6_foundSize (GC yX6_foundSize cX6_foundSize 1 (some .int)) rmX6_foundSize (va_Pc [.ref (ad 49)] (wd D cA ad base S)) (QI D cA ad base S' r) 0 0 (aB base) := by
  refine Met.ofW (cc := cX6_foundSize) (maxL := 1) (ret := (some .int)) (by decide) rfl ?_
  intro p e s m args below meth c s₁ B hml hv
  obtain ⟨hargs, hwd⟩ := hv
  have hr := B.returns
  have hlocks := B.notSynchronized
  obtain ⟨C, hw⟩ := CX.of (own := RX6) rfl B hml hwd
  have hx := C.1
  have hb := C.2.1
  have hl := lv_entry ([.ref (ad 49)]) (n := 1) (Nat.le_of_ble_eq_true rfl)
  rw [show entryFrame m args 1 = entryFrame m ([.ref (ad 49)] : List Value).toArray 1 from by rw [hargs], lg_entry_eq]
  generalize (lg_sl ([.ref (ad 49)]) ++ List.replicate (1 - (lg_sl ([.ref (ad 49)])).length) Slot.unset).toArray = ls at hl ⊢
  have hl : lv_has ls 1 [(0, .ref (ad 49))] := hl
  show W p l e rmX6_foundSize s m args below meth c s.heap [] 0 0 _ _
  refine lv_aload_n hx hb dX6_foundSize_0 rfl (lv_at hl 0 rfl) ?_
  refine r_getI C hw (k := 11) dq_49 ln_49 rfl vc_6 inX6 (by decide) rfl gw2_81 dX6_foundSize_1 ?_
  exact r_iret C hw hr hlocks hf dX6_foundSize_4
noncomputable def fX6_found (fu : Nat) (x1 : Int32) (S : St) : Option (St × Int32) :=
  if x1 < 0 then
    some (S, (0 : Int32))
  else
    if (S.1 49 11) ≤ x1 then
      some (S, (0 : Int32))
    else
      gd (ck x1 10) <|
      some (S, (S.1 60 (x1).toNatClampNeg))
theorem mvX6_found : MV yX6_found cX6_found 2 (some .int) RX6 1 := ⟨gw3_66, gw3_64, gw3_65, gw1_11, by decide +kernel⟩
def rmX6_found : Room := { frames := 0, cells := 0, slots := 0, locals := 0 }
set_option maxHeartbeats 4000000 in
set_option maxRecDepth 100000 in
theorem m_X6_found (l : Launch) (D : va_G) (cA : FieldType → ClassId) (ad : Nat → Nat) (base : Nat) (fu : Nat) {S S' : St} {x1 : Int32} {r : Int32} (hf : fX6_found fu x1 S = some (S', r)) : Met l yX6_found (GC yX6_found cX6_found 2 (some .int)) rmX6_found (va_Pc [.ref (ad 49), .int x1] (wd D cA ad base S)) (QI D cA ad base S' r) 0 0 (aB base) := by
  refine Met.ofW (cc := cX6_found) (maxL := 2) (ret := (some .int)) (by decide) rfl ?_
  intro p e s m args below meth c s₁ B hml hv
  obtain ⟨hargs, hwd⟩ := hv
  have hr := B.returns
  have hlocks := B.notSynchronized
  obtain ⟨C, hw⟩ := CX.of (own := RX6) rfl B hml hwd
  have hx := C.1
  have hb := C.2.1
  have hl := lv_entry ([.ref (ad 49), .int x1]) (n := 2) (Nat.le_of_ble_eq_true rfl)
  rw [show entryFrame m args 2 = entryFrame m ([.ref (ad 49), .int x1] : List Value).toArray 2 from by rw [hargs], lg_entry_eq]
  generalize (lg_sl ([.ref (ad 49), .int x1]) ++ List.replicate (2 - (lg_sl ([.ref (ad 49), .int x1])).length) Slot.unset).toArray = ls at hl ⊢
  have hl : lv_has ls 2 [(0, .ref (ad 49)), (1, .int x1)] := hl
  show W p l e rmX6_found s m args below meth c s.heap [] 0 0 _ _
  refine lv_iload_n hx hb dX6_found_0 rfl (lv_at hl 1 rfl) ?_
  refine lv_if_lt (tgt := 21) hx hb dX6_found_1 (by decide) (fun c_1 => ?_) (fun c_1 => ?_)
  · have hf := if_t hf c_1
    refine lv_iconst (v := (0 : Int32)) hx hb dX6_found_21 (by decide) ?_
    exact r_iret C hw hr hlocks hf dX6_found_22
  · have hf := if_f hf c_1
    refine lv_iload_n hx hb dX6_found_4 rfl (lv_at hl 1 rfl) ?_
    refine lv_aload_n hx hb dX6_found_5 rfl (lv_at hl 0 rfl) ?_
    refine r_getI C hw (k := 11) dq_49 ln_49 rfl vc_6 inX6 (by decide) rfl gw2_81 dX6_found_6 ?_
    refine lv_icmp_ge (tgt := 21) hx hb dX6_found_9 (by decide) (fun c_9 => ?_) (fun c_9 => ?_)
    · have hf := if_t hf c_9
      refine lv_iconst (v := (0 : Int32)) hx hb dX6_found_21 (by decide) ?_
      exact r_iret C hw hr hlocks hf dX6_found_22
    · have hf := if_f hf c_9
      refine lv_aload_n hx hb dX6_found_12 rfl (lv_at hl 0 rfl) ?_
      refine r_getR C hw (k := 10) (r := 60) dq_49 ln_49 rfl vc_6 inX6 (by decide) rfl gw2_80 dX6_found_13 ?_
      refine lv_iload_n hx hb dX6_found_16 rfl (lv_at hl 1 rfl) ?_
      obtain ⟨z_17, hf⟩ := gd_some hf
      refine r_iald C hw (x := 60) dq_60 ln_60 z_17 dX6_found_17 ?_
      refine lv_goto (tgt := 22) hx hb dX6_found_18 (by decide) ?_
      exact r_iret C hw hr hlocks hf dX6_found_22
noncomputable def fX6_begin (fu : Nat) (x1 : Int32) (x2 : Int32) (S : St) : Option (St × Int32) :=
  sI 49 5 (4 : Int32) S fun S_2 =>
  sI 49 6 (0 : Int32) S_2 fun S_7 =>
  sI 49 11 (0 : Int32) S_7 fun S_12 =>
  bd (fX2_clear fu S_12) fun S_19 _ =>
  bd (fX2_push fu x1 x2 S_19) fun S_28 r_28 =>
  some (S_28, (0 : Int32))
theorem mvX6_begin : MV yX6_begin cX6_begin 3 none RX6 2 := ⟨gw5_118, gw5_116, gw5_117, gw1_11, by decide +kernel⟩
def rmX6_begin : Room := { frames := 2, cells := 0, slots := 0, locals := 42 }
set_option maxHeartbeats 4000000 in
set_option maxRecDepth 100000 in
theorem m_X6_begin (l : Launch) (D : va_G) (cA : FieldType → ClassId) (ad : Nat → Nat) (base : Nat) (fu : Nat) {S S' : St} {x1 : Int32} {x2 : Int32} {r : Int32} (hf : fX6_begin fu x1 x2 S = some (S', r)) : Met l yX6_begin (GC yX6_begin cX6_begin 3 none) rmX6_begin (va_Pc [.ref (ad 49), .int x1, .int x2] (wd D cA ad base S)) (QV D cA ad base S') 0 0 (aB base) := by
  refine Met.ofW (cc := cX6_begin) (maxL := 3) (ret := none) (by decide) rfl ?_
  intro p e s m args below meth c s₁ B hml hv
  obtain ⟨hargs, hwd⟩ := hv
  have hr := B.returns
  have hlocks := B.notSynchronized
  obtain ⟨C, hw⟩ := CX.of (own := RX6) rfl B hml hwd
  have hx := C.1
  have hb := C.2.1
  have hl := lv_entry ([.ref (ad 49), .int x1, .int x2]) (n := 3) (Nat.le_of_ble_eq_true rfl)
  rw [show entryFrame m args 3 = entryFrame m ([.ref (ad 49), .int x1, .int x2] : List Value).toArray 3 from by rw [hargs], lg_entry_eq]
  generalize (lg_sl ([.ref (ad 49), .int x1, .int x2]) ++ List.replicate (3 - (lg_sl ([.ref (ad 49), .int x1, .int x2])).length) Slot.unset).toArray = ls at hl ⊢
  have hl : lv_has ls 3 [(0, .ref (ad 49)), (1, .int x1), (2, .int x2)] := hl
  show W p l e rmX6_begin s m args below meth c s.heap [] 0 0 _ _
  refine lv_aload_n hx hb dX6_begin_0 rfl (lv_at hl 0 rfl) ?_
  refine lv_iconst (v := (4 : Int32)) hx hb dX6_begin_1 (by decide) ?_
  obtain ⟨S_2, e_2, hf⟩ := sI_some hf
  refine r_putI C hw (k := 5) (ty0 := tyX6) dq_49 ln_49 rfl vc_6 inX6 tyX6_ok nmX6 (by decide) rfl rfl gw2_75 rfl rfl dX6_begin_2 e_2 (fun H locs hw => ?_)
  refine lv_aload_n hx hb dX6_begin_5 rfl (lv_at hl 0 rfl) ?_
  refine lv_iconst (v := (0 : Int32)) hx hb dX6_begin_6 (by decide) ?_
  obtain ⟨S_7, e_7, hf⟩ := sI_some hf
  refine r_putI C hw (k := 6) (ty0 := tyX6) dq_49 ln_49 rfl vc_6 inX6 tyX6_ok nmX6 (by decide) rfl rfl gw2_76 rfl rfl dX6_begin_7 e_7 (fun H locs hw => ?_)
  refine lv_aload_n hx hb dX6_begin_10 rfl (lv_at hl 0 rfl) ?_
  refine lv_iconst (v := (0 : Int32)) hx hb dX6_begin_11 (by decide) ?_
  obtain ⟨S_12, e_12, hf⟩ := sI_some hf
  refine r_putI C hw (k := 11) (ty0 := tyX6) dq_49 ln_49 rfl vc_6 inX6 tyX6_ok nmX6 (by decide) rfl rfl gw2_81 rfl rfl dX6_begin_12 e_12 (fun H locs hw => ?_)
  refine lv_aload_n hx hb dX6_begin_15 rfl (lv_at hl 0 rfl) ?_
  refine r_getR C hw (k := 2) (r := 50) dq_49 ln_49 rfl vc_6 inX6 (by decide) rfl gw2_72 dX6_begin_16 ?_
  obtain ⟨S_19, r_19, h_19, hf⟩ := bd_some hf
  refine r_bv hw (r_runV (rest := []) C hw (m_X2_clear l D cA ad base fu h_19) mvX2_clear gw5_119 ⟨rfl, rfl, Nat.le_of_ble_eq_true rfl, Nat.le_of_ble_eq_true rfl⟩ dq_50 ln_50 vc_2 rfl hl.1 rfl (Nat.le_of_ble_eq_true rfl) dX6_begin_19 (Nat.zero_le _) (Nat.zero_le _)) (fun H locs hw => ?_)
  refine lv_aload_n hx hb dX6_begin_22 rfl (lv_at hl 0 rfl) ?_
  refine r_getR C hw (k := 2) (r := 50) dq_49 ln_49 rfl vc_6 inX6 (by decide) rfl gw2_72 dX6_begin_23 ?_
  refine lv_iload_n hx hb dX6_begin_26 rfl (lv_at hl 1 rfl) ?_
  refine lv_iload_n hx hb dX6_begin_27 rfl (lv_at hl 2 rfl) ?_
  obtain ⟨S_28, r_28, h_28, hf⟩ := bd_some hf
  refine r_bi hw (r_runV (rest := []) C hw (m_X2_push l D cA ad base fu h_28) mvX2_push gw5_123 ⟨rfl, rfl, Nat.le_of_ble_eq_true rfl, Nat.le_of_ble_eq_true rfl⟩ dq_50 ln_50 vc_2 rfl hl.1 rfl (Nat.le_of_ble_eq_true rfl) dX6_begin_28 (Nat.zero_le _) (Nat.zero_le _)) (fun H locs hw => ?_)
  refine lv_pop hx hb dX6_begin_31 rfl ?_
  exact r_vret C hw hr hlocks hf dX6_begin_32
noncomputable def fX6_endFrame_30 (fu : Nat) (n : Nat) : Int32 → Int32 → St → Option (St × Int32) :=
  Nat.rec (motive := fun _ => Int32 → Int32 → St → Option (St × Int32)) (fun _ _ _ => none) (fun _ k_30 x2 x3 S =>
    bd (fX1_sizeOf fu x2 S) fun S_36 r_36 =>
    if r_36 ≤ x3 then
      some (S_36, (0 : Int32))
    else
      if (10 : Int32) ≤ x3 then
        some (S_36, (0 : Int32))
      else
        bd (fX1_valueOf fu x2 x3 S_36) fun S_59 r_59 =>
        gd (ck x3 10) <|
        sI 60 (x3).toNatClampNeg r_59 S_59 fun S_62 =>
        sI 49 11 (x3 + (1 : Int32)) S_62 fun S_67 =>
        k_30 x2 (x3 + (1 : Int32)) S_67) n
theorem fX6_endFrame_30_s (fu : Nat) (n : Nat) (x2 : Int32) (x3 : Int32) (S : St) : fX6_endFrame_30 fu (n + 1) x2 x3 S = (
    bd (fX1_sizeOf fu x2 S) fun S_36 r_36 =>
    if r_36 ≤ x3 then
      some (S_36, (0 : Int32))
    else
      if (10 : Int32) ≤ x3 then
        some (S_36, (0 : Int32))
      else
        bd (fX1_valueOf fu x2 x3 S_36) fun S_59 r_59 =>
        gd (ck x3 10) <|
        sI 60 (x3).toNatClampNeg r_59 S_59 fun S_62 =>
        sI 49 11 (x3 + (1 : Int32)) S_62 fun S_67 =>
        (fX6_endFrame_30 fu n) x2 (x3 + (1 : Int32)) S_67) := rfl
noncomputable def fX6_endFrame (fu : Nat) (x1 : Int32) (x2 : Int32) (S : St) : Option (St × Int32) :=
  bd (fX2_pop fu S) fun S_4 _ =>
  bd (fX2_depth fu S_4) fun S_11 r_11 =>
  if r_11 ≤ 0 then
    sI 49 5 x1 S_11 fun S_20 =>
    sI 49 11 (0 : Int32) S_20 fun S_25 =>
    fX6_endFrame_30 fu fu x2 (0 : Int32) S_25
  else
    some (S_11, (0 : Int32))
theorem mvX6_endFrame : MV yX6_endFrame cX6_endFrame 4 none RX6 2 := ⟨gw5_159, gw5_158, gs_26, gw1_11, by decide +kernel⟩
def rmX6_endFrame : Room := { frames := 2, cells := 0, slots := 0, locals := 43 }
set_option maxHeartbeats 4000000 in
set_option maxRecDepth 100000 in
theorem m_X6_endFrame (l : Launch) (D : va_G) (cA : FieldType → ClassId) (ad : Nat → Nat) (base : Nat) (fu : Nat) {S S' : St} {x1 : Int32} {x2 : Int32} {r : Int32} (hf : fX6_endFrame fu x1 x2 S = some (S', r)) : Met l yX6_endFrame (GC yX6_endFrame cX6_endFrame 4 none) rmX6_endFrame (va_Pc [.ref (ad 49), .int x1, .int x2] (wd D cA ad base S)) (QV D cA ad base S') 0 0 (aB base) := by
  refine Met.ofW (cc := cX6_endFrame) (maxL := 4) (ret := none) (by decide) rfl ?_
  intro p e s m args below meth c s₁ B hml hv
  obtain ⟨hargs, hwd⟩ := hv
  have hr := B.returns
  have hlocks := B.notSynchronized
  obtain ⟨C, hw⟩ := CX.of (own := RX6) rfl B hml hwd
  have hx := C.1
  have hb := C.2.1
  have hl := lv_entry ([.ref (ad 49), .int x1, .int x2]) (n := 4) (Nat.le_of_ble_eq_true rfl)
  rw [show entryFrame m args 4 = entryFrame m ([.ref (ad 49), .int x1, .int x2] : List Value).toArray 4 from by rw [hargs], lg_entry_eq]
  generalize (lg_sl ([.ref (ad 49), .int x1, .int x2]) ++ List.replicate (4 - (lg_sl ([.ref (ad 49), .int x1, .int x2])).length) Slot.unset).toArray = ls at hl ⊢
  have hl : lv_has ls 4 [(0, .ref (ad 49)), (1, .int x1), (2, .int x2)] := hl
  have L_30 : ∀ (n_30 : Nat) (x2 : Int32) (x3 : Int32) (S : St) (H : Heap) (locs : List Loc) (ls : Array Slot), fX6_endFrame_30 fu n_30 x2 x3 S = some (S', r) → lv_has ls 4 [(0, .ref (ad 49)), (2, .int x2), (3, .int x3)] → WS D cA ad base s S H locs → W p l e rmX6_endFrame s m args below meth c H locs 0 0 (MQ below (QV D cA ad base S') args s 0 0 (aB base)) (F0 m 30 ls []) := by
    intro n_30
    induction n_30 with
    | zero =>
      intro x2 x3 S H locs ls hf hl hw
      exact (no_none hf).elim
    | succ n_30 ih_30 =>
      intro x2 x3 S H locs ls hf hl hw
      rw [fX6_endFrame_30_s] at hf
      refine lv_iload_n hx hb dX6_endFrame_30 rfl (lv_at hl 2 rfl) ?_
      refine lv_aload_n hx hb dX6_endFrame_31 rfl (lv_at hl 0 rfl) ?_
      refine r_getR C hw (k := 1) (r := 42) dq_49 ln_49 rfl vc_6 inX6 (by decide) rfl gw2_71 dX6_endFrame_32 ?_
      refine lv_iload_n hx hb dX6_endFrame_35 rfl (lv_at hl 1 rfl) ?_
      obtain ⟨S_36, r_36, h_36, hf⟩ := bd_some hf
      refine r_bi hw (r_runV (rest := [.int x3]) C hw (m_X1_sizeOf l D cA ad base fu h_36) mvX1_sizeOf gw5_168 ⟨rfl, rfl, Nat.le_of_ble_eq_true rfl, Nat.le_of_ble_eq_true rfl⟩ dq_42 ln_42 vc_1 rfl hl.1 rfl (Nat.le_of_ble_eq_true rfl) dX6_endFrame_36 (Nat.zero_le _) (Nat.zero_le _)) (fun H locs hw => ?_)
      refine lv_icmp_ge (tgt := 76) hx hb dX6_endFrame_39 (by decide) (fun c_39 => ?_) (fun c_39 => ?_)
      · have hf := if_t hf c_39
        exact r_vret C hw hr hlocks hf dX6_endFrame_76
      · have hf := if_f hf c_39
        refine lv_iload_n hx hb dX6_endFrame_42 rfl (lv_at hl 2 rfl) ?_
        refine lv_bipush (v := (10 : Int32)) hx hb dX6_endFrame_43 (by decide) ?_
        refine lv_icmp_ge (tgt := 76) hx hb dX6_endFrame_45 (by decide) (fun c_45 => ?_) (fun c_45 => ?_)
        · have hf := if_t hf c_45
          exact r_vret C hw hr hlocks hf dX6_endFrame_76
        · have hf := if_f hf c_45
          refine lv_aload_n hx hb dX6_endFrame_48 rfl (lv_at hl 0 rfl) ?_
          refine r_getR C hw (k := 10) (r := 60) dq_49 ln_49 rfl vc_6 inX6 (by decide) rfl gw2_80 dX6_endFrame_49 ?_
          refine lv_iload_n hx hb dX6_endFrame_52 rfl (lv_at hl 2 rfl) ?_
          refine lv_aload_n hx hb dX6_endFrame_53 rfl (lv_at hl 0 rfl) ?_
          refine r_getR C hw (k := 1) (r := 42) dq_49 ln_49 rfl vc_6 inX6 (by decide) rfl gw2_71 dX6_endFrame_54 ?_
          refine lv_iload_n hx hb dX6_endFrame_57 rfl (lv_at hl 1 rfl) ?_
          refine lv_iload_n hx hb dX6_endFrame_58 rfl (lv_at hl 2 rfl) ?_
          obtain ⟨S_59, r_59, h_59, hf⟩ := bd_some hf
          refine r_bi hw (r_runV (rest := [.int x3, .ref (ad 60)]) C hw (m_X1_valueOf l D cA ad base fu h_59) mvX1_valueOf gw5_172 ⟨rfl, rfl, Nat.le_of_ble_eq_true rfl, Nat.le_of_ble_eq_true rfl⟩ dq_42 ln_42 vc_1 rfl hl.1 rfl (Nat.le_of_ble_eq_true rfl) dX6_endFrame_59 (Nat.zero_le _) (Nat.zero_le _)) (fun H locs hw => ?_)
          obtain ⟨z_62, hf⟩ := gd_some hf
          obtain ⟨S_62, e_62, hf⟩ := sI_some hf
          refine r_iast C hw (x := 60) dq_60 ln_60 z_62 dX6_endFrame_62 e_62 (fun H locs hw => ?_)
          refine lv_aload_n hx hb dX6_endFrame_63 rfl (lv_at hl 0 rfl) ?_
          refine lv_iload_n hx hb dX6_endFrame_64 rfl (lv_at hl 2 rfl) ?_
          refine lv_iconst (v := (1 : Int32)) hx hb dX6_endFrame_65 (by decide) ?_
          refine lv_iadd hx hb dX6_endFrame_66 ?_
          obtain ⟨S_67, e_67, hf⟩ := sI_some hf
          refine r_putI C hw (k := 11) (ty0 := tyX6) dq_49 ln_49 rfl vc_6 inX6 tyX6_ok nmX6 (by decide) rfl rfl gw2_81 rfl rfl dX6_endFrame_67 e_67 (fun H locs hw => ?_)
          refine lv_iinc (v := (x3 + (1 : Int32))) (lv' := [(3, .int (x3 + (1 : Int32))), (0, .ref (ad 49)), (2, .int x2)]) hx hb dX6_endFrame_70 hl (k := 2) rfl rfl (by decide) rfl (fun ls hl => ?_)
          refine lv_goto (tgt := 30) hx hb dX6_endFrame_73 (by decide) ?_
          exact ih_30 _ _ _ _ _ _ hf (lv_sub hl [1, 2, 0] rfl) hw
  show W p l e rmX6_endFrame s m args below meth c s.heap [] 0 0 _ _
  refine lv_aload_n hx hb dX6_endFrame_0 rfl (lv_at hl 0 rfl) ?_
  refine r_getR C hw (k := 2) (r := 50) dq_49 ln_49 rfl vc_6 inX6 (by decide) rfl gw2_72 dX6_endFrame_1 ?_
  obtain ⟨S_4, r_4, h_4, hf⟩ := bd_some hf
  refine r_bv hw (r_runV (rest := []) C hw (m_X2_pop l D cA ad base fu h_4) mvX2_pop gw5_160 ⟨rfl, rfl, Nat.le_of_ble_eq_true rfl, Nat.le_of_ble_eq_true rfl⟩ dq_50 ln_50 vc_2 rfl hl.1 rfl (Nat.le_of_ble_eq_true rfl) dX6_endFrame_4 (Nat.zero_le _) (Nat.zero_le _)) (fun H locs hw => ?_)
  refine lv_aload_n hx hb dX6_endFrame_7 rfl (lv_at hl 0 rfl) ?_
  refine r_getR C hw (k := 2) (r := 50) dq_49 ln_49 rfl vc_6 inX6 (by decide) rfl gw2_72 dX6_endFrame_8 ?_
  obtain ⟨S_11, r_11, h_11, hf⟩ := bd_some hf
  refine r_bi hw (r_runV (rest := []) C hw (m_X2_depth l D cA ad base fu h_11) mvX2_depth gw5_164 ⟨rfl, rfl, Nat.le_of_ble_eq_true rfl, Nat.le_of_ble_eq_true rfl⟩ dq_50 ln_50 vc_2 rfl hl.1 rfl (Nat.le_of_ble_eq_true rfl) dX6_endFrame_11 (Nat.zero_le _) (Nat.zero_le _)) (fun H locs hw => ?_)
  refine lv_if_le (tgt := 18) hx hb dX6_endFrame_14 (by decide) (fun c_14 => ?_) (fun c_14 => ?_)
  · have hf := if_t hf c_14
    refine lv_aload_n hx hb dX6_endFrame_18 rfl (lv_at hl 0 rfl) ?_
    refine lv_iload_n hx hb dX6_endFrame_19 rfl (lv_at hl 1 rfl) ?_
    obtain ⟨S_20, e_20, hf⟩ := sI_some hf
    refine r_putI C hw (k := 5) (ty0 := tyX6) dq_49 ln_49 rfl vc_6 inX6 tyX6_ok nmX6 (by decide) rfl rfl gw2_75 rfl rfl dX6_endFrame_20 e_20 (fun H locs hw => ?_)
    refine lv_aload_n hx hb dX6_endFrame_23 rfl (lv_at hl 0 rfl) ?_
    refine lv_iconst (v := (0 : Int32)) hx hb dX6_endFrame_24 (by decide) ?_
    obtain ⟨S_25, e_25, hf⟩ := sI_some hf
    refine r_putI C hw (k := 11) (ty0 := tyX6) dq_49 ln_49 rfl vc_6 inX6 tyX6_ok nmX6 (by decide) rfl rfl gw2_81 rfl rfl dX6_endFrame_25 e_25 (fun H locs hw => ?_)
    refine lv_iconst (v := (0 : Int32)) hx hb dX6_endFrame_28 (by decide) ?_
    refine lv_istore_n (lv' := [(3, .int (0 : Int32)), (0, .ref (ad 49)), (1, .int x1), (2, .int x2)]) hx hb dX6_endFrame_29 rfl hl (by decide) rfl (fun ls hl => ?_)
    exact L_30 fu _ _ _ _ _ _ hf (lv_sub hl [1, 3, 0] rfl) hw
  · have hf := if_f hf c_14
    exact r_vret C hw hr hlocks hf dX6_endFrame_17
noncomputable def fX6_followAlias (fu : Nat) (x1 : Int32) (S : St) : Option (St × Int32) :=
  bd (fX2_topChains fu S) fun S_4 r_4 =>
  if r_4 < (8 : Int32) then
    bd (fX1_valueOf fu x1 (0 : Int32) S_4) fun S_31 r_31 =>
    bd (fX2_follow fu r_31 S_31) fun S_34 _ =>
    some (S_34, (0 : Int32))
  else
    bd (fX6_endFrame fu (3 : Int32) (-1 : Int32) S_4) fun S_15 _ =>
    some (S_15, (0 : Int32))
theorem mvX6_followAlias : MV yX6_followAlias cX6_followAlias 2 none RX6 1 := ⟨gw5_180, gw5_179, gs_27, gw1_11, by decide +kernel⟩
def rmX6_followAlias : Room := { frames := 3, cells := 0, slots := 0, locals := 66 }
set_option maxHeartbeats 4000000 in
set_option maxRecDepth 100000 in
theorem m_X6_followAlias (l : Launch) (D : va_G) (cA : FieldType → ClassId) (ad : Nat → Nat) (base : Nat) (fu : Nat) {S S' : St} {x1 : Int32} {r : Int32} (hf : fX6_followAlias fu x1 S = some (S', r)) : Met l yX6_followAlias (GC yX6_followAlias cX6_followAlias 2 none) rmX6_followAlias (va_Pc [.ref (ad 49), .int x1] (wd D cA ad base S)) (QV D cA ad base S') 0 0 (aB base) := by
  refine Met.ofW (cc := cX6_followAlias) (maxL := 2) (ret := none) (by decide) rfl ?_
  intro p e s m args below meth c s₁ B hml hv
  obtain ⟨hargs, hwd⟩ := hv
  have hr := B.returns
  have hlocks := B.notSynchronized
  obtain ⟨C, hw⟩ := CX.of (own := RX6) rfl B hml hwd
  have hx := C.1
  have hb := C.2.1
  have hl := lv_entry ([.ref (ad 49), .int x1]) (n := 2) (Nat.le_of_ble_eq_true rfl)
  rw [show entryFrame m args 2 = entryFrame m ([.ref (ad 49), .int x1] : List Value).toArray 2 from by rw [hargs], lg_entry_eq]
  generalize (lg_sl ([.ref (ad 49), .int x1]) ++ List.replicate (2 - (lg_sl ([.ref (ad 49), .int x1])).length) Slot.unset).toArray = ls at hl ⊢
  have hl : lv_has ls 2 [(0, .ref (ad 49)), (1, .int x1)] := hl
  show W p l e rmX6_followAlias s m args below meth c s.heap [] 0 0 _ _
  refine lv_aload_n hx hb dX6_followAlias_0 rfl (lv_at hl 0 rfl) ?_
  refine r_getR C hw (k := 2) (r := 50) dq_49 ln_49 rfl vc_6 inX6 (by decide) rfl gw2_72 dX6_followAlias_1 ?_
  obtain ⟨S_4, r_4, h_4, hf⟩ := bd_some hf
  refine r_bi hw (r_runV (rest := []) C hw (m_X2_topChains l D cA ad base fu h_4) mvX2_topChains gw5_181 ⟨rfl, rfl, Nat.le_of_ble_eq_true rfl, Nat.le_of_ble_eq_true rfl⟩ dq_50 ln_50 vc_2 rfl hl.1 rfl (Nat.le_of_ble_eq_true rfl) dX6_followAlias_4 (Nat.zero_le _) (Nat.zero_le _)) (fun H locs hw => ?_)
  refine lv_bipush (v := (8 : Int32)) hx hb dX6_followAlias_7 (by decide) ?_
  refine lv_icmp_lt (tgt := 21) hx hb dX6_followAlias_9 (by decide) (fun c_9 => ?_) (fun c_9 => ?_)
  · have hf := if_t hf c_9
    refine lv_aload_n hx hb dX6_followAlias_21 rfl (lv_at hl 0 rfl) ?_
    refine r_getR C hw (k := 2) (r := 50) dq_49 ln_49 rfl vc_6 inX6 (by decide) rfl gw2_72 dX6_followAlias_22 ?_
    refine lv_aload_n hx hb dX6_followAlias_25 rfl (lv_at hl 0 rfl) ?_
    refine r_getR C hw (k := 1) (r := 42) dq_49 ln_49 rfl vc_6 inX6 (by decide) rfl gw2_71 dX6_followAlias_26 ?_
    refine lv_iload_n hx hb dX6_followAlias_29 rfl (lv_at hl 1 rfl) ?_
    refine lv_iconst (v := (0 : Int32)) hx hb dX6_followAlias_30 (by decide) ?_
    obtain ⟨S_31, r_31, h_31, hf⟩ := bd_some hf
    refine r_bi hw (r_runV (rest := [.ref (ad 50)]) C hw (m_X1_valueOf l D cA ad base fu h_31) mvX1_valueOf gw5_172 ⟨rfl, rfl, Nat.le_of_ble_eq_true rfl, Nat.le_of_ble_eq_true rfl⟩ dq_42 ln_42 vc_1 rfl hl.1 rfl (Nat.le_of_ble_eq_true rfl) dX6_followAlias_31 (Nat.zero_le _) (Nat.zero_le _)) (fun H locs hw => ?_)
    obtain ⟨S_34, r_34, h_34, hf⟩ := bd_some hf
    refine r_bv hw (r_runV (rest := []) C hw (m_X2_follow l D cA ad base fu h_34) mvX2_follow gw5_185 ⟨rfl, rfl, Nat.le_of_ble_eq_true rfl, Nat.le_of_ble_eq_true rfl⟩ dq_50 ln_50 vc_2 rfl hl.1 rfl (Nat.le_of_ble_eq_true rfl) dX6_followAlias_34 (Nat.zero_le _) (Nat.zero_le _)) (fun H locs hw => ?_)
    exact r_vret C hw hr hlocks hf dX6_followAlias_37
  · have hf := if_f hf c_9
    refine lv_aload_n hx hb dX6_followAlias_12 rfl (lv_at hl 0 rfl) ?_
    refine lv_iconst (v := (3 : Int32)) hx hb dX6_followAlias_13 (by decide) ?_
    refine lv_iconst (v := (-1 : Int32)) hx hb dX6_followAlias_14 (by decide) ?_
    obtain ⟨S_15, r_15, h_15, hf⟩ := bd_some hf
    refine r_bv hw (r_runV (rest := []) C hw (m_X6_endFrame l D cA ad base fu h_15) mvX6_endFrame gw5_156 ⟨rfl, rfl, Nat.le_of_ble_eq_true rfl, Nat.le_of_ble_eq_true rfl⟩ dq_49 ln_49 vc_6 rfl hl.1 rfl (Nat.le_of_ble_eq_true rfl) dX6_followAlias_15 (Nat.zero_le _) (Nat.zero_le _)) (fun H locs hw => ?_)
    refine lv_goto (tgt := 37) hx hb dX6_followAlias_18 (by decide) ?_
    exact r_vret C hw hr hlocks hf dX6_followAlias_37
noncomputable def fX6_placeOf_4 (fu : Nat) (n : Nat) : Int32 → Int32 → St → Option (St × Int32) :=
  Nat.rec (motive := fun _ => Int32 → Int32 → St → Option (St × Int32)) (fun _ _ _ => none) (fun _ k_4 x2 x3 S =>
    if (6 : Int32) ≤ x3 then
      some (S, (0 : Int32))
    else
      if x2 = 0 then
        some (S, (0 : Int32))
      else
        bd (fX1_setOf fu x2 (2 : Int32) S) fun S_20 r_20 =>
        if r_20 = (-1 : Int32) then
          bd (fX3_above fu x2 S_20) fun S_34 r_34 =>
          k_4 r_34 (x3 + (1 : Int32)) S_34
        else
          some (S_20, x2)) n
theorem fX6_placeOf_4_s (fu : Nat) (n : Nat) (x2 : Int32) (x3 : Int32) (S : St) : fX6_placeOf_4 fu (n + 1) x2 x3 S = (
    if (6 : Int32) ≤ x3 then
      some (S, (0 : Int32))
    else
      if x2 = 0 then
        some (S, (0 : Int32))
      else
        bd (fX1_setOf fu x2 (2 : Int32) S) fun S_20 r_20 =>
        if r_20 = (-1 : Int32) then
          bd (fX3_above fu x2 S_20) fun S_34 r_34 =>
          (fX6_placeOf_4 fu n) r_34 (x3 + (1 : Int32)) S_34
        else
          some (S_20, x2)) := rfl
noncomputable def fX6_placeOf (fu : Nat) (x1 : Int32) (S : St) : Option (St × Int32) :=
  fX6_placeOf_4 fu fu x1 (0 : Int32) S
theorem mvX6_placeOf : MV yX6_placeOf cX6_placeOf 4 (some .int) RX6 1 := ⟨gw5_200, gw5_199, gs_29, gw1_11, by decide +kernel⟩
def rmX6_placeOf : Room := { frames := 2, cells := 0, slots := 0, locals := 46 }
set_option maxHeartbeats 4000000 in
set_option maxRecDepth 100000 in
theorem m_X6_placeOf (l : Launch) (D : va_G) (cA : FieldType → ClassId) (ad : Nat → Nat) (base : Nat) (fu : Nat) {S S' : St} {x1 : Int32} {r : Int32} (hf : fX6_placeOf fu x1 S = some (S', r)) : Met l yX6_placeOf (GC yX6_placeOf cX6_placeOf 4 (some .int)) rmX6_placeOf (va_Pc [.ref (ad 49), .int x1] (wd D cA ad base S)) (QI D cA ad base S' r) 0 0 (aB base) := by
  refine Met.ofW (cc := cX6_placeOf) (maxL := 4) (ret := (some .int)) (by decide) rfl ?_
  intro p e s m args below meth c s₁ B hml hv
  obtain ⟨hargs, hwd⟩ := hv
  have hr := B.returns
  have hlocks := B.notSynchronized
  obtain ⟨C, hw⟩ := CX.of (own := RX6) rfl B hml hwd
  have hx := C.1
  have hb := C.2.1
  have hl := lv_entry ([.ref (ad 49), .int x1]) (n := 4) (Nat.le_of_ble_eq_true rfl)
  rw [show entryFrame m args 4 = entryFrame m ([.ref (ad 49), .int x1] : List Value).toArray 4 from by rw [hargs], lg_entry_eq]
  generalize (lg_sl ([.ref (ad 49), .int x1]) ++ List.replicate (4 - (lg_sl ([.ref (ad 49), .int x1])).length) Slot.unset).toArray = ls at hl ⊢
  have hl : lv_has ls 4 [(0, .ref (ad 49)), (1, .int x1)] := hl
  have L_4 : ∀ (n_4 : Nat) (x2 : Int32) (x3 : Int32) (S : St) (H : Heap) (locs : List Loc) (ls : Array Slot), fX6_placeOf_4 fu n_4 x2 x3 S = some (S', r) → lv_has ls 4 [(0, .ref (ad 49)), (2, .int x2), (3, .int x3)] → WS D cA ad base s S H locs → W p l e rmX6_placeOf s m args below meth c H locs 0 0 (MQ below (QI D cA ad base S' r) args s 0 0 (aB base)) (F0 m 4 ls []) := by
    intro n_4
    induction n_4 with
    | zero =>
      intro x2 x3 S H locs ls hf hl hw
      exact (no_none hf).elim
    | succ n_4 ih_4 =>
      intro x2 x3 S H locs ls hf hl hw
      rw [fX6_placeOf_4_s] at hf
      refine lv_iload_n hx hb dX6_placeOf_4 rfl (lv_at hl 2 rfl) ?_
      refine lv_bipush (v := (6 : Int32)) hx hb dX6_placeOf_5 (by decide) ?_
      refine lv_icmp_ge (tgt := 44) hx hb dX6_placeOf_7 (by decide) (fun c_7 => ?_) (fun c_7 => ?_)
      · have hf := if_t hf c_7
        refine lv_iconst (v := (0 : Int32)) hx hb dX6_placeOf_44 (by decide) ?_
        exact r_iret C hw hr hlocks hf dX6_placeOf_45
      · have hf := if_f hf c_7
        refine lv_iload_n hx hb dX6_placeOf_10 rfl (lv_at hl 1 rfl) ?_
        refine lv_if_eq (tgt := 44) hx hb dX6_placeOf_11 (by decide) (fun c_11 => ?_) (fun c_11 => ?_)
        · have hf := if_t hf c_11
          refine lv_iconst (v := (0 : Int32)) hx hb dX6_placeOf_44 (by decide) ?_
          exact r_iret C hw hr hlocks hf dX6_placeOf_45
        · have hf := if_f hf c_11
          refine lv_aload_n hx hb dX6_placeOf_14 rfl (lv_at hl 0 rfl) ?_
          refine r_getR C hw (k := 1) (r := 42) dq_49 ln_49 rfl vc_6 inX6 (by decide) rfl gw2_71 dX6_placeOf_15 ?_
          refine lv_iload_n hx hb dX6_placeOf_18 rfl (lv_at hl 1 rfl) ?_
          refine lv_iconst (v := (2 : Int32)) hx hb dX6_placeOf_19 (by decide) ?_
          obtain ⟨S_20, r_20, h_20, hf⟩ := bd_some hf
          refine r_bi hw (r_runV (rest := []) C hw (m_X1_setOf l D cA ad base fu h_20) mvX1_setOf gw5_148 ⟨rfl, rfl, Nat.le_of_ble_eq_true rfl, Nat.le_of_ble_eq_true rfl⟩ dq_42 ln_42 vc_1 rfl hl.1 rfl (Nat.le_of_ble_eq_true rfl) dX6_placeOf_20 (Nat.zero_le _) (Nat.zero_le _)) (fun H locs hw => ?_)
          refine lv_iconst (v := (-1 : Int32)) hx hb dX6_placeOf_23 (by decide) ?_
          refine lv_icmp_eq (tgt := 29) hx hb dX6_placeOf_24 (by decide) (fun c_24 => ?_) (fun c_24 => ?_)
          · have hf := if_t hf c_24
            refine lv_aload_n hx hb dX6_placeOf_29 rfl (lv_at hl 0 rfl) ?_
            refine r_getR C hw (k := 0) (r := 3) dq_49 ln_49 rfl vc_6 inX6 (by decide) rfl gw2_70 dX6_placeOf_30 ?_
            refine lv_iload_n hx hb dX6_placeOf_33 rfl (lv_at hl 1 rfl) ?_
            obtain ⟨S_34, r_34, h_34, hf⟩ := bd_some hf
            refine r_bi hw (r_runV (rest := []) C hw (m_X3_above l D cA ad base fu h_34) mvX3_above gw5_201 ⟨rfl, rfl, Nat.le_of_ble_eq_true rfl, Nat.le_of_ble_eq_true rfl⟩ dq_3 ln_3 vc_3 rfl hl.1 rfl (Nat.le_of_ble_eq_true rfl) dX6_placeOf_34 (Nat.zero_le _) (Nat.zero_le _)) (fun H locs hw => ?_)
            refine lv_istore_n (lv' := [(2, .int r_34), (0, .ref (ad 49)), (3, .int x3)]) hx hb dX6_placeOf_37 rfl hl (by decide) rfl (fun ls hl => ?_)
            refine lv_iinc (v := (x3 + (1 : Int32))) (lv' := [(3, .int (x3 + (1 : Int32))), (2, .int r_34), (0, .ref (ad 49))]) hx hb dX6_placeOf_38 hl (k := 2) rfl rfl (by decide) rfl (fun ls hl => ?_)
            refine lv_goto (tgt := 4) hx hb dX6_placeOf_41 (by decide) ?_
            exact ih_4 _ _ _ _ _ _ hf (lv_sub hl [2, 1, 0] rfl) hw
          · have hf := if_f hf c_24
            refine lv_iload_n hx hb dX6_placeOf_27 rfl (lv_at hl 1 rfl) ?_
            exact r_iret C hw hr hlocks hf dX6_placeOf_28
  show W p l e rmX6_placeOf s m args below meth c s.heap [] 0 0 _ _
  refine lv_iload_n hx hb dX6_placeOf_0 rfl (lv_at hl 1 rfl) ?_
  refine lv_istore_n (lv' := [(2, .int x1), (0, .ref (ad 49)), (1, .int x1)]) hx hb dX6_placeOf_1 rfl hl (by decide) rfl (fun ls hl => ?_)
  refine lv_iconst (v := (0 : Int32)) hx hb dX6_placeOf_2 (by decide) ?_
  refine lv_istore_n (lv' := [(3, .int (0 : Int32)), (2, .int x1), (0, .ref (ad 49)), (1, .int x1)]) hx hb dX6_placeOf_3 rfl hl (by decide) rfl (fun ls hl => ?_)
  exact L_4 fu _ _ _ _ _ _ hf (lv_sub hl [2, 1, 0] rfl) hw
noncomputable def fX6_sendTo (fu : Nat) (x1 : Int32) (S : St) : Option (St × Int32) :=
  if (S.1 49 6) < (40 : Int32) then
    bd (fX2_addTried fu x1 S) fun S_20 _ =>
    sI 49 9 x1 S_20 fun S_25 =>
    sI 49 6 ((S_25.1 49 6) + (1 : Int32)) S_25 fun S_35 =>
    sI 49 7 ((S_35.1 49 7) + (1 : Int32)) S_35 fun S_45 =>
    sI 49 8 (1 : Int32) S_45 fun S_50 =>
    some (S_50, (0 : Int32))
  else
    sI 49 5 (3 : Int32) S fun S_11 =>
    some (S_11, (0 : Int32))
theorem mvX6_sendTo : MV yX6_sendTo cX6_sendTo 2 none RX6 1 := ⟨gw5_217, gw5_216, gs_31, gw1_11, by decide +kernel⟩
def rmX6_sendTo : Room := { frames := 1, cells := 0, slots := 0, locals := 21 }
set_option maxHeartbeats 4000000 in
set_option maxRecDepth 100000 in
theorem m_X6_sendTo (l : Launch) (D : va_G) (cA : FieldType → ClassId) (ad : Nat → Nat) (base : Nat) (fu : Nat) {S S' : St} {x1 : Int32} {r : Int32} (hf : fX6_sendTo fu x1 S = some (S', r)) : Met l yX6_sendTo (GC yX6_sendTo cX6_sendTo 2 none) rmX6_sendTo (va_Pc [.ref (ad 49), .int x1] (wd D cA ad base S)) (QV D cA ad base S') 0 0 (aB base) := by
  refine Met.ofW (cc := cX6_sendTo) (maxL := 2) (ret := none) (by decide) rfl ?_
  intro p e s m args below meth c s₁ B hml hv
  obtain ⟨hargs, hwd⟩ := hv
  have hr := B.returns
  have hlocks := B.notSynchronized
  obtain ⟨C, hw⟩ := CX.of (own := RX6) rfl B hml hwd
  have hx := C.1
  have hb := C.2.1
  have hl := lv_entry ([.ref (ad 49), .int x1]) (n := 2) (Nat.le_of_ble_eq_true rfl)
  rw [show entryFrame m args 2 = entryFrame m ([.ref (ad 49), .int x1] : List Value).toArray 2 from by rw [hargs], lg_entry_eq]
  generalize (lg_sl ([.ref (ad 49), .int x1]) ++ List.replicate (2 - (lg_sl ([.ref (ad 49), .int x1])).length) Slot.unset).toArray = ls at hl ⊢
  have hl : lv_has ls 2 [(0, .ref (ad 49)), (1, .int x1)] := hl
  show W p l e rmX6_sendTo s m args below meth c s.heap [] 0 0 _ _
  refine lv_aload_n hx hb dX6_sendTo_0 rfl (lv_at hl 0 rfl) ?_
  refine r_getI C hw (k := 6) dq_49 ln_49 rfl vc_6 inX6 (by decide) rfl gw2_76 dX6_sendTo_1 ?_
  refine lv_bipush (v := (40 : Int32)) hx hb dX6_sendTo_4 (by decide) ?_
  refine lv_icmp_lt (tgt := 15) hx hb dX6_sendTo_6 (by decide) (fun c_6 => ?_) (fun c_6 => ?_)
  · have hf := if_t hf c_6
    refine lv_aload_n hx hb dX6_sendTo_15 rfl (lv_at hl 0 rfl) ?_
    refine r_getR C hw (k := 2) (r := 50) dq_49 ln_49 rfl vc_6 inX6 (by decide) rfl gw2_72 dX6_sendTo_16 ?_
    refine lv_iload_n hx hb dX6_sendTo_19 rfl (lv_at hl 1 rfl) ?_
    obtain ⟨S_20, r_20, h_20, hf⟩ := bd_some hf
    refine r_bv hw (r_runV (rest := []) C hw (m_X2_addTried l D cA ad base fu h_20) mvX2_addTried gw5_218 ⟨rfl, rfl, Nat.le_of_ble_eq_true rfl, Nat.le_of_ble_eq_true rfl⟩ dq_50 ln_50 vc_2 rfl hl.1 rfl (Nat.le_of_ble_eq_true rfl) dX6_sendTo_20 (Nat.zero_le _) (Nat.zero_le _)) (fun H locs hw => ?_)
    refine lv_aload_n hx hb dX6_sendTo_23 rfl (lv_at hl 0 rfl) ?_
    refine lv_iload_n hx hb dX6_sendTo_24 rfl (lv_at hl 1 rfl) ?_
    obtain ⟨S_25, e_25, hf⟩ := sI_some hf
    refine r_putI C hw (k := 9) (ty0 := tyX6) dq_49 ln_49 rfl vc_6 inX6 tyX6_ok nmX6 (by decide) rfl rfl gw2_79 rfl rfl dX6_sendTo_25 e_25 (fun H locs hw => ?_)
    refine lv_aload_n hx hb dX6_sendTo_28 rfl (lv_at hl 0 rfl) ?_
    refine lv_dup hx hb dX6_sendTo_29 rfl ?_
    refine r_getI C hw (k := 6) dq_49 ln_49 rfl vc_6 inX6 (by decide) rfl gw2_76 dX6_sendTo_30 ?_
    refine lv_iconst (v := (1 : Int32)) hx hb dX6_sendTo_33 (by decide) ?_
    refine lv_iadd hx hb dX6_sendTo_34 ?_
    obtain ⟨S_35, e_35, hf⟩ := sI_some hf
    refine r_putI C hw (k := 6) (ty0 := tyX6) dq_49 ln_49 rfl vc_6 inX6 tyX6_ok nmX6 (by decide) rfl rfl gw2_76 rfl rfl dX6_sendTo_35 e_35 (fun H locs hw => ?_)
    refine lv_aload_n hx hb dX6_sendTo_38 rfl (lv_at hl 0 rfl) ?_
    refine lv_dup hx hb dX6_sendTo_39 rfl ?_
    refine r_getI C hw (k := 7) dq_49 ln_49 rfl vc_6 inX6 (by decide) rfl gw2_77 dX6_sendTo_40 ?_
    refine lv_iconst (v := (1 : Int32)) hx hb dX6_sendTo_43 (by decide) ?_
    refine lv_iadd hx hb dX6_sendTo_44 ?_
    obtain ⟨S_45, e_45, hf⟩ := sI_some hf
    refine r_putI C hw (k := 7) (ty0 := tyX6) dq_49 ln_49 rfl vc_6 inX6 tyX6_ok nmX6 (by decide) rfl rfl gw2_77 rfl rfl dX6_sendTo_45 e_45 (fun H locs hw => ?_)
    refine lv_aload_n hx hb dX6_sendTo_48 rfl (lv_at hl 0 rfl) ?_
    refine lv_iconst (v := (1 : Int32)) hx hb dX6_sendTo_49 (by decide) ?_
    obtain ⟨S_50, e_50, hf⟩ := sI_some hf
    refine r_putI C hw (k := 8) (ty0 := tyX6) dq_49 ln_49 rfl vc_6 inX6 tyX6_ok nmX6 (by decide) rfl rfl gw2_78 rfl rfl dX6_sendTo_50 e_50 (fun H locs hw => ?_)
    exact r_vret C hw hr hlocks hf dX6_sendTo_53
  · have hf := if_f hf c_6
    refine lv_aload_n hx hb dX6_sendTo_9 rfl (lv_at hl 0 rfl) ?_
    refine lv_iconst (v := (3 : Int32)) hx hb dX6_sendTo_10 (by decide) ?_
    obtain ⟨S_11, e_11, hf⟩ := sI_some hf
    refine r_putI C hw (k := 5) (ty0 := tyX6) dq_49 ln_49 rfl vc_6 inX6 tyX6_ok nmX6 (by decide) rfl rfl gw2_75 rfl rfl dX6_sendTo_11 e_11 (fun H locs hw => ?_)
    exact r_vret C hw hr hlocks hf dX6_sendTo_14
noncomputable def fX6_tryHints_2 (fu : Nat) (n : Nat) : Int32 → St → Option (St × Int32) :=
  Nat.rec (motive := fun _ => Int32 → St → Option (St × Int32)) (fun _ _ => none) (fun _ k_2 x1 S =>
    if (S.1 49 4) ≤ x1 then
      some (S, (0 : Int32))
    else
      gd (ck x1 4) <|
      bd (fX2_hasTried fu (S.1 59 (x1).toNatClampNeg) S) fun S_20 r_20 =>
      if r_20 = 0 then
        gd (ck x1 4) <|
        bd (fX6_sendTo fu (S_20.1 59 (x1).toNatClampNeg) S_20) fun S_33 _ =>
        some (S_33, (1 : Int32))
      else
        k_2 (x1 + (1 : Int32)) S_20) n
theorem fX6_tryHints_2_s (fu : Nat) (n : Nat) (x1 : Int32) (S : St) : fX6_tryHints_2 fu (n + 1) x1 S = (
    if (S.1 49 4) ≤ x1 then
      some (S, (0 : Int32))
    else
      gd (ck x1 4) <|
      bd (fX2_hasTried fu (S.1 59 (x1).toNatClampNeg) S) fun S_20 r_20 =>
      if r_20 = 0 then
        gd (ck x1 4) <|
        bd (fX6_sendTo fu (S_20.1 59 (x1).toNatClampNeg) S_20) fun S_33 _ =>
        some (S_33, (1 : Int32))
      else
        (fX6_tryHints_2 fu n) (x1 + (1 : Int32)) S_20) := rfl
noncomputable def fX6_tryHints (fu : Nat) (S : St) : Option (St × Int32) :=
  fX6_tryHints_2 fu fu (0 : Int32) S
theorem mvX6_tryHints : MV yX6_tryHints cX6_tryHints 2 (some .boolean) RX6 0 := ⟨gw5_209, gw5_208, gs_30, gw1_11, by decide +kernel⟩
def rmX6_tryHints : Room := { frames := 2, cells := 0, slots := 0, locals := 42 }
set_option maxHeartbeats 4000000 in
set_option maxRecDepth 100000 in
theorem m_X6_tryHints (l : Launch) (D : va_G) (cA : FieldType → ClassId) (ad : Nat → Nat) (base : Nat) (fu : Nat) {S S' : St} {r : Int32} (hf : fX6_tryHints fu S = some (S', r)) : Met l yX6_tryHints (GC yX6_tryHints cX6_tryHints 2 (some .boolean)) rmX6_tryHints (va_Pc [.ref (ad 49)] (wd D cA ad base S)) (QI D cA ad base S' r) 0 0 (aB base) := by
  refine Met.ofW (cc := cX6_tryHints) (maxL := 2) (ret := (some .boolean)) (by decide) rfl ?_
  intro p e s m args below meth c s₁ B hml hv
  obtain ⟨hargs, hwd⟩ := hv
  have hr := B.returns
  have hlocks := B.notSynchronized
  obtain ⟨C, hw⟩ := CX.of (own := RX6) rfl B hml hwd
  have hx := C.1
  have hb := C.2.1
  have hl := lv_entry ([.ref (ad 49)]) (n := 2) (Nat.le_of_ble_eq_true rfl)
  rw [show entryFrame m args 2 = entryFrame m ([.ref (ad 49)] : List Value).toArray 2 from by rw [hargs], lg_entry_eq]
  generalize (lg_sl ([.ref (ad 49)]) ++ List.replicate (2 - (lg_sl ([.ref (ad 49)])).length) Slot.unset).toArray = ls at hl ⊢
  have hl : lv_has ls 2 [(0, .ref (ad 49))] := hl
  have L_2 : ∀ (n_2 : Nat) (x1 : Int32) (S : St) (H : Heap) (locs : List Loc) (ls : Array Slot), fX6_tryHints_2 fu n_2 x1 S = some (S', r) → lv_has ls 2 [(0, .ref (ad 49)), (1, .int x1)] → WS D cA ad base s S H locs → W p l e rmX6_tryHints s m args below meth c H locs 0 0 (MQ below (QI D cA ad base S' r) args s 0 0 (aB base)) (F0 m 2 ls []) := by
    intro n_2
    induction n_2 with
    | zero =>
      intro x1 S H locs ls hf hl hw
      exact (no_none hf).elim
    | succ n_2 ih_2 =>
      intro x1 S H locs ls hf hl hw
      rw [fX6_tryHints_2_s] at hf
      refine lv_iload_n hx hb dX6_tryHints_2 rfl (lv_at hl 1 rfl) ?_
      refine lv_aload_n hx hb dX6_tryHints_3 rfl (lv_at hl 0 rfl) ?_
      refine r_getI C hw (k := 4) dq_49 ln_49 rfl vc_6 inX6 (by decide) rfl gw2_74 dX6_tryHints_4 ?_
      refine lv_icmp_ge (tgt := 44) hx hb dX6_tryHints_7 (by decide) (fun c_7 => ?_) (fun c_7 => ?_)
      · have hf := if_t hf c_7
        refine lv_iconst (v := (0 : Int32)) hx hb dX6_tryHints_44 (by decide) ?_
        exact r_zret C hw hr hlocks rfl hf dX6_tryHints_45
      · have hf := if_f hf c_7
        refine lv_aload_n hx hb dX6_tryHints_10 rfl (lv_at hl 0 rfl) ?_
        refine r_getR C hw (k := 2) (r := 50) dq_49 ln_49 rfl vc_6 inX6 (by decide) rfl gw2_72 dX6_tryHints_11 ?_
        refine lv_aload_n hx hb dX6_tryHints_14 rfl (lv_at hl 0 rfl) ?_
        refine r_getR C hw (k := 3) (r := 59) dq_49 ln_49 rfl vc_6 inX6 (by decide) rfl gw2_73 dX6_tryHints_15 ?_
        refine lv_iload_n hx hb dX6_tryHints_18 rfl (lv_at hl 1 rfl) ?_
        obtain ⟨z_19, hf⟩ := gd_some hf
        refine r_iald C hw (x := 59) dq_59 ln_59 z_19 dX6_tryHints_19 ?_
        obtain ⟨S_20, r_20, h_20, hf⟩ := bd_some hf
        refine r_bi hw (r_runV (rest := []) C hw (m_X2_hasTried l D cA ad base fu h_20) mvX2_hasTried gw5_210 ⟨rfl, rfl, Nat.le_of_ble_eq_true rfl, Nat.le_of_ble_eq_true rfl⟩ dq_50 ln_50 vc_2 rfl hl.1 rfl (Nat.le_of_ble_eq_true rfl) dX6_tryHints_20 (Nat.zero_le _) (Nat.zero_le _)) (fun H locs hw => ?_)
        refine lv_if_ne (tgt := 38) hx hb dX6_tryHints_23 (by decide) (fun c_23 => ?_) (fun c_23 => ?_)
        · have hf := if_f hf c_23
          refine lv_iinc (v := (x1 + (1 : Int32))) (lv' := [(1, .int (x1 + (1 : Int32))), (0, .ref (ad 49))]) hx hb dX6_tryHints_38 hl (k := 1) rfl rfl (by decide) rfl (fun ls hl => ?_)
          refine lv_goto (tgt := 2) hx hb dX6_tryHints_41 (by decide) ?_
          exact ih_2 _ _ _ _ _ hf (lv_sub hl [1, 0] rfl) hw
        · have hf := if_t hf c_23
          refine lv_aload_n hx hb dX6_tryHints_26 rfl (lv_at hl 0 rfl) ?_
          refine lv_aload_n hx hb dX6_tryHints_27 rfl (lv_at hl 0 rfl) ?_
          refine r_getR C hw (k := 3) (r := 59) dq_49 ln_49 rfl vc_6 inX6 (by decide) rfl gw2_73 dX6_tryHints_28 ?_
          refine lv_iload_n hx hb dX6_tryHints_31 rfl (lv_at hl 1 rfl) ?_
          obtain ⟨z_32, hf⟩ := gd_some hf
          refine r_iald C hw (x := 59) dq_59 ln_59 z_32 dX6_tryHints_32 ?_
          obtain ⟨S_33, r_33, h_33, hf⟩ := bd_some hf
          refine r_bv hw (r_runV (rest := []) C hw (m_X6_sendTo l D cA ad base fu h_33) mvX6_sendTo gw5_214 ⟨rfl, rfl, Nat.le_of_ble_eq_true rfl, Nat.le_of_ble_eq_true rfl⟩ dq_49 ln_49 vc_6 rfl hl.1 rfl (Nat.le_of_ble_eq_true rfl) dX6_tryHints_33 (Nat.zero_le _) (Nat.zero_le _)) (fun H locs hw => ?_)
          refine lv_iconst (v := (1 : Int32)) hx hb dX6_tryHints_36 (by decide) ?_
          exact r_zret C hw hr hlocks rfl hf dX6_tryHints_37
  show W p l e rmX6_tryHints s m args below meth c s.heap [] 0 0 _ _
  refine lv_iconst (v := (0 : Int32)) hx hb dX6_tryHints_0 (by decide) ?_
  refine lv_istore_n (lv' := [(1, .int (0 : Int32)), (0, .ref (ad 49))]) hx hb dX6_tryHints_1 rfl hl (by decide) rfl (fun ls hl => ?_)
  exact L_2 fu _ _ _ _ _ hf (lv_sub hl [1, 0] rfl) hw
noncomputable def fX6_tryHosts_35 (fu : Nat) (k_2 : Int32 → Int32 → St → Option (St × Int32)) (n : Nat) : Int32 → Int32 → Int32 → Int32 → St → Option (St × Int32) :=
  Nat.rec (motive := fun _ => Int32 → Int32 → Int32 → Int32 → St → Option (St × Int32)) (fun _ _ _ _ _ => none) (fun _ k_35 x1 x2 x3 x4 S =>
    bd (fX1_sizeOf fu x3 S) fun S_42 r_42 =>
    if r_42 ≤ x4 then
      k_2 x1 (x2 + (1 : Int32)) S_42
    else
      bd (fX1_valueOf fu x3 x4 S_42) fun S_55 r_55 =>
      bd (fX2_hasTried fu r_55 S_55) fun S_66 r_66 =>
      if r_66 = 0 then
        bd (fX6_sendTo fu r_55 S_66) fun S_75 _ =>
        some (S_75, (1 : Int32))
      else
        k_35 x1 x2 x3 (x4 + (1 : Int32)) S_66) n
theorem fX6_tryHosts_35_s (fu : Nat) (k_2 : Int32 → Int32 → St → Option (St × Int32)) (n : Nat) (x1 : Int32) (x2 : Int32) (x3 : Int32) (x4 : Int32) (S : St) : fX6_tryHosts_35 fu k_2 (n + 1) x1 x2 x3 x4 S = (
    bd (fX1_sizeOf fu x3 S) fun S_42 r_42 =>
    if r_42 ≤ x4 then
      k_2 x1 (x2 + (1 : Int32)) S_42
    else
      bd (fX1_valueOf fu x3 x4 S_42) fun S_55 r_55 =>
      bd (fX2_hasTried fu r_55 S_55) fun S_66 r_66 =>
      if r_66 = 0 then
        bd (fX6_sendTo fu r_55 S_66) fun S_75 _ =>
        some (S_75, (1 : Int32))
      else
        (fX6_tryHosts_35 fu k_2 n) x1 x2 x3 (x4 + (1 : Int32)) S_66) := rfl
noncomputable def fX6_tryHosts_2 (fu : Nat) (n : Nat) : Int32 → Int32 → St → Option (St × Int32) :=
  Nat.rec (motive := fun _ => Int32 → Int32 → St → Option (St × Int32)) (fun _ _ _ => none) (fun _ k_2 x1 x2 S =>
    bd (fX1_sizeOf fu x1 S) fun S_8 r_8 =>
    if r_8 ≤ x2 then
      some (S_8, (0 : Int32))
    else
      bd (fX1_valueOf fu x1 x2 S_8) fun S_24 r_24 =>
      bd (fX1_setOf fu r_24 (1 : Int32) S_24) fun S_28 r_28 =>
      fX6_tryHosts_35 fu k_2 fu x1 x2 r_28 (0 : Int32) S_28) n
theorem fX6_tryHosts_2_s (fu : Nat) (n : Nat) (x1 : Int32) (x2 : Int32) (S : St) : fX6_tryHosts_2 fu (n + 1) x1 x2 S = (
    bd (fX1_sizeOf fu x1 S) fun S_8 r_8 =>
    if r_8 ≤ x2 then
      some (S_8, (0 : Int32))
    else
      bd (fX1_valueOf fu x1 x2 S_8) fun S_24 r_24 =>
      bd (fX1_setOf fu r_24 (1 : Int32) S_24) fun S_28 r_28 =>
      fX6_tryHosts_35 fu (fX6_tryHosts_2 fu n) fu x1 x2 r_28 (0 : Int32) S_28) := rfl
noncomputable def fX6_tryHosts (fu : Nat) (x1 : Int32) (S : St) : Option (St × Int32) :=
  fX6_tryHosts_2 fu fu x1 (0 : Int32) S
theorem mvX6_tryHosts : MV yX6_tryHosts cX6_tryHosts 6 (some .boolean) RX6 1 := ⟨gw5_225, gw5_224, gs_32, gw1_11, by decide +kernel⟩
def rmX6_tryHosts : Room := { frames := 2, cells := 0, slots := 0, locals := 46 }
set_option maxHeartbeats 4000000 in
set_option maxRecDepth 100000 in
theorem m_X6_tryHosts (l : Launch) (D : va_G) (cA : FieldType → ClassId) (ad : Nat → Nat) (base : Nat) (fu : Nat) {S S' : St} {x1 : Int32} {r : Int32} (hf : fX6_tryHosts fu x1 S = some (S', r)) : Met l yX6_tryHosts (GC yX6_tryHosts cX6_tryHosts 6 (some .boolean)) rmX6_tryHosts (va_Pc [.ref (ad 49), .int x1] (wd D cA ad base S)) (QI D cA ad base S' r) 0 0 (aB base) := by
  refine Met.ofW (cc := cX6_tryHosts) (maxL := 6) (ret := (some .boolean)) (by decide) rfl ?_
  intro p e s m args below meth c s₁ B hml hv
  obtain ⟨hargs, hwd⟩ := hv
  have hr := B.returns
  have hlocks := B.notSynchronized
  obtain ⟨C, hw⟩ := CX.of (own := RX6) rfl B hml hwd
  have hx := C.1
  have hb := C.2.1
  have hl := lv_entry ([.ref (ad 49), .int x1]) (n := 6) (Nat.le_of_ble_eq_true rfl)
  rw [show entryFrame m args 6 = entryFrame m ([.ref (ad 49), .int x1] : List Value).toArray 6 from by rw [hargs], lg_entry_eq]
  generalize (lg_sl ([.ref (ad 49), .int x1]) ++ List.replicate (6 - (lg_sl ([.ref (ad 49), .int x1])).length) Slot.unset).toArray = ls at hl ⊢
  have hl : lv_has ls 6 [(0, .ref (ad 49)), (1, .int x1)] := hl
  have L_2 : ∀ (n_2 : Nat) (x1 : Int32) (x2 : Int32) (S : St) (H : Heap) (locs : List Loc) (ls : Array Slot), fX6_tryHosts_2 fu n_2 x1 x2 S = some (S', r) → lv_has ls 6 [(0, .ref (ad 49)), (1, .int x1), (2, .int x2)] → WS D cA ad base s S H locs → W p l e rmX6_tryHosts s m args below meth c H locs 0 0 (MQ below (QI D cA ad base S' r) args s 0 0 (aB base)) (F0 m 2 ls []) := by
    intro n_2
    induction n_2 with
    | zero =>
      intro x1 x2 S H locs ls hf hl hw
      exact (no_none hf).elim
    | succ n_2 ih_2 =>
      have L_35 : ∀ (n_35 : Nat) (x1 : Int32) (x2 : Int32) (x3 : Int32) (x4 : Int32) (S : St) (H : Heap) (locs : List Loc) (ls : Array Slot), fX6_tryHosts_35 fu (fX6_tryHosts_2 fu n_2) n_35 x1 x2 x3 x4 S = some (S', r) → lv_has ls 6 [(0, .ref (ad 49)), (1, .int x1), (2, .int x2), (3, .int x3), (4, .int x4)] → WS D cA ad base s S H locs → W p l e rmX6_tryHosts s m args below meth c H locs 0 0 (MQ below (QI D cA ad base S' r) args s 0 0 (aB base)) (F0 m 35 ls []) := by
        intro n_35
        induction n_35 with
        | zero =>
          intro x1 x2 x3 x4 S H locs ls hf hl hw
          exact (no_none hf).elim
        | succ n_35 ih_35 =>
          intro x1 x2 x3 x4 S H locs ls hf hl hw
          rw [fX6_tryHosts_35_s] at hf
          refine lv_iload hx hb dX6_tryHosts_35 (lv_at hl 4 rfl) ?_
          refine lv_aload_n hx hb dX6_tryHosts_37 rfl (lv_at hl 0 rfl) ?_
          refine r_getR C hw (k := 1) (r := 42) dq_49 ln_49 rfl vc_6 inX6 (by decide) rfl gw2_71 dX6_tryHosts_38 ?_
          refine lv_iload_n hx hb dX6_tryHosts_41 rfl (lv_at hl 3 rfl) ?_
          obtain ⟨S_42, r_42, h_42, hf⟩ := bd_some hf
          refine r_bi hw (r_runV (rest := [.int x4]) C hw (m_X1_sizeOf l D cA ad base fu h_42) mvX1_sizeOf gw5_168 ⟨rfl, rfl, Nat.le_of_ble_eq_true rfl, Nat.le_of_ble_eq_true rfl⟩ dq_42 ln_42 vc_1 rfl hl.1 rfl (Nat.le_of_ble_eq_true rfl) dX6_tryHosts_42 (Nat.zero_le _) (Nat.zero_le _)) (fun H locs hw => ?_)
          refine lv_icmp_ge (tgt := 86) hx hb dX6_tryHosts_45 (by decide) (fun c_45 => ?_) (fun c_45 => ?_)
          · have hf := if_t hf c_45
            refine lv_iinc (v := (x2 + (1 : Int32))) (lv' := [(2, .int (x2 + (1 : Int32))), (0, .ref (ad 49)), (1, .int x1), (3, .int x3), (4, .int x4)]) hx hb dX6_tryHosts_86 hl (k := 2) rfl rfl (by decide) rfl (fun ls hl => ?_)
            refine lv_goto (tgt := 2) hx hb dX6_tryHosts_89 (by decide) ?_
            exact ih_2 _ _ _ _ _ _ hf (lv_sub hl [1, 2, 0] rfl) hw
          · have hf := if_f hf c_45
            refine lv_aload_n hx hb dX6_tryHosts_48 rfl (lv_at hl 0 rfl) ?_
            refine r_getR C hw (k := 1) (r := 42) dq_49 ln_49 rfl vc_6 inX6 (by decide) rfl gw2_71 dX6_tryHosts_49 ?_
            refine lv_iload_n hx hb dX6_tryHosts_52 rfl (lv_at hl 3 rfl) ?_
            refine lv_iload hx hb dX6_tryHosts_53 (lv_at hl 4 rfl) ?_
            obtain ⟨S_55, r_55, h_55, hf⟩ := bd_some hf
            refine r_bi hw (r_runV (rest := []) C hw (m_X1_valueOf l D cA ad base fu h_55) mvX1_valueOf gw5_172 ⟨rfl, rfl, Nat.le_of_ble_eq_true rfl, Nat.le_of_ble_eq_true rfl⟩ dq_42 ln_42 vc_1 rfl hl.1 rfl (Nat.le_of_ble_eq_true rfl) dX6_tryHosts_55 (Nat.zero_le _) (Nat.zero_le _)) (fun H locs hw => ?_)
            refine lv_istore (lv' := [(5, .int r_55), (0, .ref (ad 49)), (1, .int x1), (2, .int x2), (3, .int x3), (4, .int x4)]) hx hb dX6_tryHosts_58 hl (by decide) rfl (fun ls hl => ?_)
            refine lv_aload_n hx hb dX6_tryHosts_60 rfl (lv_at hl 1 rfl) ?_
            refine r_getR C hw (k := 2) (r := 50) dq_49 ln_49 rfl vc_6 inX6 (by decide) rfl gw2_72 dX6_tryHosts_61 ?_
            refine lv_iload hx hb dX6_tryHosts_64 (lv_at hl 0 rfl) ?_
            obtain ⟨S_66, r_66, h_66, hf⟩ := bd_some hf
            refine r_bi hw (r_runV (rest := []) C hw (m_X2_hasTried l D cA ad base fu h_66) mvX2_hasTried gw5_210 ⟨rfl, rfl, Nat.le_of_ble_eq_true rfl, Nat.le_of_ble_eq_true rfl⟩ dq_50 ln_50 vc_2 rfl hl.1 rfl (Nat.le_of_ble_eq_true rfl) dX6_tryHosts_66 (Nat.zero_le _) (Nat.zero_le _)) (fun H locs hw => ?_)
            refine lv_if_ne (tgt := 80) hx hb dX6_tryHosts_69 (by decide) (fun c_69 => ?_) (fun c_69 => ?_)
            · have hf := if_f hf c_69
              refine lv_iinc (v := (x4 + (1 : Int32))) (lv' := [(4, .int (x4 + (1 : Int32))), (5, .int r_55), (0, .ref (ad 49)), (1, .int x1), (2, .int x2), (3, .int x3)]) hx hb dX6_tryHosts_80 hl (k := 5) rfl rfl (by decide) rfl (fun ls hl => ?_)
              refine lv_goto (tgt := 35) hx hb dX6_tryHosts_83 (by decide) ?_
              exact ih_35 _ _ _ _ _ _ _ _ hf (lv_sub hl [2, 3, 4, 5, 0] rfl) hw
            · have hf := if_t hf c_69
              refine lv_aload_n hx hb dX6_tryHosts_72 rfl (lv_at hl 1 rfl) ?_
              refine lv_iload hx hb dX6_tryHosts_73 (lv_at hl 0 rfl) ?_
              obtain ⟨S_75, r_75, h_75, hf⟩ := bd_some hf
              refine r_bv hw (r_runV (rest := []) C hw (m_X6_sendTo l D cA ad base fu h_75) mvX6_sendTo gw5_214 ⟨rfl, rfl, Nat.le_of_ble_eq_true rfl, Nat.le_of_ble_eq_true rfl⟩ dq_49 ln_49 vc_6 rfl hl.1 rfl (Nat.le_of_ble_eq_true rfl) dX6_tryHosts_75 (Nat.zero_le _) (Nat.zero_le _)) (fun H locs hw => ?_)
              refine lv_iconst (v := (1 : Int32)) hx hb dX6_tryHosts_78 (by decide) ?_
              exact r_zret C hw hr hlocks rfl hf dX6_tryHosts_79
      intro x1 x2 S H locs ls hf hl hw
      rw [fX6_tryHosts_2_s] at hf
      refine lv_iload_n hx hb dX6_tryHosts_2 rfl (lv_at hl 2 rfl) ?_
      refine lv_aload_n hx hb dX6_tryHosts_3 rfl (lv_at hl 0 rfl) ?_
      refine r_getR C hw (k := 1) (r := 42) dq_49 ln_49 rfl vc_6 inX6 (by decide) rfl gw2_71 dX6_tryHosts_4 ?_
      refine lv_iload_n hx hb dX6_tryHosts_7 rfl (lv_at hl 1 rfl) ?_
      obtain ⟨S_8, r_8, h_8, hf⟩ := bd_some hf
      refine r_bi hw (r_runV (rest := [.int x2]) C hw (m_X1_sizeOf l D cA ad base fu h_8) mvX1_sizeOf gw5_168 ⟨rfl, rfl, Nat.le_of_ble_eq_true rfl, Nat.le_of_ble_eq_true rfl⟩ dq_42 ln_42 vc_1 rfl hl.1 rfl (Nat.le_of_ble_eq_true rfl) dX6_tryHosts_8 (Nat.zero_le _) (Nat.zero_le _)) (fun H locs hw => ?_)
      refine lv_icmp_ge (tgt := 92) hx hb dX6_tryHosts_11 (by decide) (fun c_11 => ?_) (fun c_11 => ?_)
      · have hf := if_t hf c_11
        refine lv_iconst (v := (0 : Int32)) hx hb dX6_tryHosts_92 (by decide) ?_
        exact r_zret C hw hr hlocks rfl hf dX6_tryHosts_93
      · have hf := if_f hf c_11
        refine lv_aload_n hx hb dX6_tryHosts_14 rfl (lv_at hl 0 rfl) ?_
        refine r_getR C hw (k := 1) (r := 42) dq_49 ln_49 rfl vc_6 inX6 (by decide) rfl gw2_71 dX6_tryHosts_15 ?_
        refine lv_aload_n hx hb dX6_tryHosts_18 rfl (lv_at hl 0 rfl) ?_
        refine r_getR C hw (k := 1) (r := 42) dq_49 ln_49 rfl vc_6 inX6 (by decide) rfl gw2_71 dX6_tryHosts_19 ?_
        refine lv_iload_n hx hb dX6_tryHosts_22 rfl (lv_at hl 1 rfl) ?_
        refine lv_iload_n hx hb dX6_tryHosts_23 rfl (lv_at hl 2 rfl) ?_
        obtain ⟨S_24, r_24, h_24, hf⟩ := bd_some hf
        refine r_bi hw (r_runV (rest := [.ref (ad 42)]) C hw (m_X1_valueOf l D cA ad base fu h_24) mvX1_valueOf gw5_172 ⟨rfl, rfl, Nat.le_of_ble_eq_true rfl, Nat.le_of_ble_eq_true rfl⟩ dq_42 ln_42 vc_1 rfl hl.1 rfl (Nat.le_of_ble_eq_true rfl) dX6_tryHosts_24 (Nat.zero_le _) (Nat.zero_le _)) (fun H locs hw => ?_)
        refine lv_iconst (v := (1 : Int32)) hx hb dX6_tryHosts_27 (by decide) ?_
        obtain ⟨S_28, r_28, h_28, hf⟩ := bd_some hf
        refine r_bi hw (r_runV (rest := []) C hw (m_X1_setOf l D cA ad base fu h_28) mvX1_setOf gw5_148 ⟨rfl, rfl, Nat.le_of_ble_eq_true rfl, Nat.le_of_ble_eq_true rfl⟩ dq_42 ln_42 vc_1 rfl hl.1 rfl (Nat.le_of_ble_eq_true rfl) dX6_tryHosts_28 (Nat.zero_le _) (Nat.zero_le _)) (fun H locs hw => ?_)
        refine lv_istore_n (lv' := [(3, .int r_28), (0, .ref (ad 49)), (1, .int x1), (2, .int x2)]) hx hb dX6_tryHosts_31 rfl hl (by decide) rfl (fun ls hl => ?_)
        refine lv_iconst (v := (0 : Int32)) hx hb dX6_tryHosts_32 (by decide) ?_
        refine lv_istore (lv' := [(4, .int (0 : Int32)), (3, .int r_28), (0, .ref (ad 49)), (1, .int x1), (2, .int x2)]) hx hb dX6_tryHosts_33 hl (by decide) rfl (fun ls hl => ?_)
        exact L_35 fu _ _ _ _ _ _ _ _ hf (lv_sub hl [2, 3, 4, 1, 0] rfl) hw
  show W p l e rmX6_tryHosts s m args below meth c s.heap [] 0 0 _ _
  refine lv_iconst (v := (0 : Int32)) hx hb dX6_tryHosts_0 (by decide) ?_
  refine lv_istore_n (lv' := [(2, .int (0 : Int32)), (0, .ref (ad 49)), (1, .int x1)]) hx hb dX6_tryHosts_1 rfl hl (by decide) rfl (fun ls hl => ?_)
  exact L_2 fu _ _ _ _ _ _ hf (lv_sub hl [1, 2, 0] rfl) hw
noncomputable def fX6_sendForHost_66 (fu : Nat) (k_2 : Int32 → Int32 → St → Option (St × Int32)) (x1 : Int32) (x2 : Int32) (S : St) : Option (St × Int32) :=
  k_2 x1 (x2 + (1 : Int32)) S
noncomputable def fX6_sendForHost_2 (fu : Nat) (n : Nat) : Int32 → Int32 → St → Option (St × Int32) :=
  Nat.rec (motive := fun _ => Int32 → Int32 → St → Option (St × Int32)) (fun _ _ _ => none) (fun _ k_2 x1 x2 S =>
    bd (fX1_sizeOf fu x1 S) fun S_8 r_8 =>
    if r_8 ≤ x2 then
      some (S_8, (0 : Int32))
    else
      bd (fX1_valueOf fu x1 x2 S_8) fun S_20 r_20 =>
      bd (fX1_setOf fu r_20 (1 : Int32) S_20) fun S_30 r_30 =>
      if r_30 = (-1 : Int32) then
        bd (fX2_hasSentFor fu r_20 S_30) fun S_42 r_42 =>
        if r_42 = 0 then
          bd (fX2_addSentFor fu r_20 S_42) fun S_53 _ =>
          bd (fX2_push fu r_20 (1 : Int32) S_53) fun S_62 r_62 =>
          gd (isB r_62) <|
          some (S_62, r_62)
        else
          fX6_sendForHost_66 fu k_2 x1 x2 S_42
      else
        fX6_sendForHost_66 fu k_2 x1 x2 S_30) n
theorem fX6_sendForHost_2_s (fu : Nat) (n : Nat) (x1 : Int32) (x2 : Int32) (S : St) : fX6_sendForHost_2 fu (n + 1) x1 x2 S = (
    bd (fX1_sizeOf fu x1 S) fun S_8 r_8 =>
    if r_8 ≤ x2 then
      some (S_8, (0 : Int32))
    else
      bd (fX1_valueOf fu x1 x2 S_8) fun S_20 r_20 =>
      bd (fX1_setOf fu r_20 (1 : Int32) S_20) fun S_30 r_30 =>
      if r_30 = (-1 : Int32) then
        bd (fX2_hasSentFor fu r_20 S_30) fun S_42 r_42 =>
        if r_42 = 0 then
          bd (fX2_addSentFor fu r_20 S_42) fun S_53 _ =>
          bd (fX2_push fu r_20 (1 : Int32) S_53) fun S_62 r_62 =>
          gd (isB r_62) <|
          some (S_62, r_62)
        else
          fX6_sendForHost_66 fu (fX6_sendForHost_2 fu n) x1 x2 S_42
      else
        fX6_sendForHost_66 fu (fX6_sendForHost_2 fu n) x1 x2 S_30) := rfl
noncomputable def fX6_sendForHost (fu : Nat) (x1 : Int32) (S : St) : Option (St × Int32) :=
  fX6_sendForHost_2 fu fu x1 (0 : Int32) S
theorem mvX6_sendForHost : MV yX6_sendForHost cX6_sendForHost 4 (some .boolean) RX6 1 := ⟨gw5_229, gw5_228, gs_33, gw1_11, by decide +kernel⟩
def rmX6_sendForHost : Room := { frames := 2, cells := 0, slots := 0, locals := 46 }
set_option maxHeartbeats 4000000 in
set_option maxRecDepth 100000 in
theorem m_X6_sendForHost (l : Launch) (D : va_G) (cA : FieldType → ClassId) (ad : Nat → Nat) (base : Nat) (fu : Nat) {S S' : St} {x1 : Int32} {r : Int32} (hf : fX6_sendForHost fu x1 S = some (S', r)) : Met l yX6_sendForHost (GC yX6_sendForHost cX6_sendForHost 4 (some .boolean)) rmX6_sendForHost (va_Pc [.ref (ad 49), .int x1] (wd D cA ad base S)) (QI D cA ad base S' r) 0 0 (aB base) := by
  refine Met.ofW (cc := cX6_sendForHost) (maxL := 4) (ret := (some .boolean)) (by decide) rfl ?_
  intro p e s m args below meth c s₁ B hml hv
  obtain ⟨hargs, hwd⟩ := hv
  have hr := B.returns
  have hlocks := B.notSynchronized
  obtain ⟨C, hw⟩ := CX.of (own := RX6) rfl B hml hwd
  have hx := C.1
  have hb := C.2.1
  have hl := lv_entry ([.ref (ad 49), .int x1]) (n := 4) (Nat.le_of_ble_eq_true rfl)
  rw [show entryFrame m args 4 = entryFrame m ([.ref (ad 49), .int x1] : List Value).toArray 4 from by rw [hargs], lg_entry_eq]
  generalize (lg_sl ([.ref (ad 49), .int x1]) ++ List.replicate (4 - (lg_sl ([.ref (ad 49), .int x1])).length) Slot.unset).toArray = ls at hl ⊢
  have hl : lv_has ls 4 [(0, .ref (ad 49)), (1, .int x1)] := hl
  have L_2 : ∀ (n_2 : Nat) (x1 : Int32) (x2 : Int32) (S : St) (H : Heap) (locs : List Loc) (ls : Array Slot), fX6_sendForHost_2 fu n_2 x1 x2 S = some (S', r) → lv_has ls 4 [(0, .ref (ad 49)), (1, .int x1), (2, .int x2)] → WS D cA ad base s S H locs → W p l e rmX6_sendForHost s m args below meth c H locs 0 0 (MQ below (QI D cA ad base S' r) args s 0 0 (aB base)) (F0 m 2 ls []) := by
    intro n_2
    induction n_2 with
    | zero =>
      intro x1 x2 S H locs ls hf hl hw
      exact (no_none hf).elim
    | succ n_2 ih_2 =>
      have J_66 : ∀ (x1 : Int32) (x2 : Int32) (S : St) (H : Heap) (locs : List Loc) (ls : Array Slot), fX6_sendForHost_66 fu (fX6_sendForHost_2 fu n_2) x1 x2 S = some (S', r) → lv_has ls 4 [(0, .ref (ad 49)), (1, .int x1), (2, .int x2)] → WS D cA ad base s S H locs → W p l e rmX6_sendForHost s m args below meth c H locs 0 0 (MQ below (QI D cA ad base S' r) args s 0 0 (aB base)) (F0 m 66 ls []) := by
        intro x1 x2 S H locs ls hf hl hw
        refine lv_iinc (v := (x2 + (1 : Int32))) (lv' := [(2, .int (x2 + (1 : Int32))), (0, .ref (ad 49)), (1, .int x1)]) hx hb dX6_sendForHost_66 hl (k := 2) rfl rfl (by decide) rfl (fun ls hl => ?_)
        refine lv_goto (tgt := 2) hx hb dX6_sendForHost_69 (by decide) ?_
        exact ih_2 _ _ _ _ _ _ hf (lv_sub hl [1, 2, 0] rfl) hw
      intro x1 x2 S H locs ls hf hl hw
      rw [fX6_sendForHost_2_s] at hf
      refine lv_iload_n hx hb dX6_sendForHost_2 rfl (lv_at hl 2 rfl) ?_
      refine lv_aload_n hx hb dX6_sendForHost_3 rfl (lv_at hl 0 rfl) ?_
      refine r_getR C hw (k := 1) (r := 42) dq_49 ln_49 rfl vc_6 inX6 (by decide) rfl gw2_71 dX6_sendForHost_4 ?_
      refine lv_iload_n hx hb dX6_sendForHost_7 rfl (lv_at hl 1 rfl) ?_
      obtain ⟨S_8, r_8, h_8, hf⟩ := bd_some hf
      refine r_bi hw (r_runV (rest := [.int x2]) C hw (m_X1_sizeOf l D cA ad base fu h_8) mvX1_sizeOf gw5_168 ⟨rfl, rfl, Nat.le_of_ble_eq_true rfl, Nat.le_of_ble_eq_true rfl⟩ dq_42 ln_42 vc_1 rfl hl.1 rfl (Nat.le_of_ble_eq_true rfl) dX6_sendForHost_8 (Nat.zero_le _) (Nat.zero_le _)) (fun H locs hw => ?_)
      refine lv_icmp_ge (tgt := 72) hx hb dX6_sendForHost_11 (by decide) (fun c_11 => ?_) (fun c_11 => ?_)
      · have hf := if_t hf c_11
        refine lv_iconst (v := (0 : Int32)) hx hb dX6_sendForHost_72 (by decide) ?_
        exact r_zret C hw hr hlocks rfl hf dX6_sendForHost_73
      · have hf := if_f hf c_11
        refine lv_aload_n hx hb dX6_sendForHost_14 rfl (lv_at hl 0 rfl) ?_
        refine r_getR C hw (k := 1) (r := 42) dq_49 ln_49 rfl vc_6 inX6 (by decide) rfl gw2_71 dX6_sendForHost_15 ?_
        refine lv_iload_n hx hb dX6_sendForHost_18 rfl (lv_at hl 1 rfl) ?_
        refine lv_iload_n hx hb dX6_sendForHost_19 rfl (lv_at hl 2 rfl) ?_
        obtain ⟨S_20, r_20, h_20, hf⟩ := bd_some hf
        refine r_bi hw (r_runV (rest := []) C hw (m_X1_valueOf l D cA ad base fu h_20) mvX1_valueOf gw5_172 ⟨rfl, rfl, Nat.le_of_ble_eq_true rfl, Nat.le_of_ble_eq_true rfl⟩ dq_42 ln_42 vc_1 rfl hl.1 rfl (Nat.le_of_ble_eq_true rfl) dX6_sendForHost_20 (Nat.zero_le _) (Nat.zero_le _)) (fun H locs hw => ?_)
        refine lv_istore_n (lv' := [(3, .int r_20), (0, .ref (ad 49)), (1, .int x1), (2, .int x2)]) hx hb dX6_sendForHost_23 rfl hl (by decide) rfl (fun ls hl => ?_)
        refine lv_aload_n hx hb dX6_sendForHost_24 rfl (lv_at hl 1 rfl) ?_
        refine r_getR C hw (k := 1) (r := 42) dq_49 ln_49 rfl vc_6 inX6 (by decide) rfl gw2_71 dX6_sendForHost_25 ?_
        refine lv_iload_n hx hb dX6_sendForHost_28 rfl (lv_at hl 0 rfl) ?_
        refine lv_iconst (v := (1 : Int32)) hx hb dX6_sendForHost_29 (by decide) ?_
        obtain ⟨S_30, r_30, h_30, hf⟩ := bd_some hf
        refine r_bi hw (r_runV (rest := []) C hw (m_X1_setOf l D cA ad base fu h_30) mvX1_setOf gw5_148 ⟨rfl, rfl, Nat.le_of_ble_eq_true rfl, Nat.le_of_ble_eq_true rfl⟩ dq_42 ln_42 vc_1 rfl hl.1 rfl (Nat.le_of_ble_eq_true rfl) dX6_sendForHost_30 (Nat.zero_le _) (Nat.zero_le _)) (fun H locs hw => ?_)
        refine lv_iconst (v := (-1 : Int32)) hx hb dX6_sendForHost_33 (by decide) ?_
        refine lv_icmp_ne (tgt := 66) hx hb dX6_sendForHost_34 (by decide) (fun c_34 => ?_) (fun c_34 => ?_)
        · have hf := if_f hf c_34
          exact J_66 _ _ _ _ _ _ hf (lv_sub hl [1, 2, 3] rfl) hw
        · have hf := if_t hf c_34
          refine lv_aload_n hx hb dX6_sendForHost_37 rfl (lv_at hl 1 rfl) ?_
          refine r_getR C hw (k := 2) (r := 50) dq_49 ln_49 rfl vc_6 inX6 (by decide) rfl gw2_72 dX6_sendForHost_38 ?_
          refine lv_iload_n hx hb dX6_sendForHost_41 rfl (lv_at hl 0 rfl) ?_
          obtain ⟨S_42, r_42, h_42, hf⟩ := bd_some hf
          refine r_bi hw (r_runV (rest := []) C hw (m_X2_hasSentFor l D cA ad base fu h_42) mvX2_hasSentFor gw5_230 ⟨rfl, rfl, Nat.le_of_ble_eq_true rfl, Nat.le_of_ble_eq_true rfl⟩ dq_50 ln_50 vc_2 rfl hl.1 rfl (Nat.le_of_ble_eq_true rfl) dX6_sendForHost_42 (Nat.zero_le _) (Nat.zero_le _)) (fun H locs hw => ?_)
          refine lv_if_ne (tgt := 66) hx hb dX6_sendForHost_45 (by decide) (fun c_45 => ?_) (fun c_45 => ?_)
          · have hf := if_f hf c_45
            exact J_66 _ _ _ _ _ _ hf (lv_sub hl [1, 2, 3] rfl) hw
          · have hf := if_t hf c_45
            refine lv_aload_n hx hb dX6_sendForHost_48 rfl (lv_at hl 1 rfl) ?_
            refine r_getR C hw (k := 2) (r := 50) dq_49 ln_49 rfl vc_6 inX6 (by decide) rfl gw2_72 dX6_sendForHost_49 ?_
            refine lv_iload_n hx hb dX6_sendForHost_52 rfl (lv_at hl 0 rfl) ?_
            obtain ⟨S_53, r_53, h_53, hf⟩ := bd_some hf
            refine r_bv hw (r_runV (rest := []) C hw (m_X2_addSentFor l D cA ad base fu h_53) mvX2_addSentFor gw5_234 ⟨rfl, rfl, Nat.le_of_ble_eq_true rfl, Nat.le_of_ble_eq_true rfl⟩ dq_50 ln_50 vc_2 rfl hl.1 rfl (Nat.le_of_ble_eq_true rfl) dX6_sendForHost_53 (Nat.zero_le _) (Nat.zero_le _)) (fun H locs hw => ?_)
            refine lv_aload_n hx hb dX6_sendForHost_56 rfl (lv_at hl 1 rfl) ?_
            refine r_getR C hw (k := 2) (r := 50) dq_49 ln_49 rfl vc_6 inX6 (by decide) rfl gw2_72 dX6_sendForHost_57 ?_
            refine lv_iload_n hx hb dX6_sendForHost_60 rfl (lv_at hl 0 rfl) ?_
            refine lv_iconst (v := (1 : Int32)) hx hb dX6_sendForHost_61 (by decide) ?_
            obtain ⟨S_62, r_62, h_62, hf⟩ := bd_some hf
            refine r_bi hw (r_runV (rest := []) C hw (m_X2_push l D cA ad base fu h_62) mvX2_push gw5_123 ⟨rfl, rfl, Nat.le_of_ble_eq_true rfl, Nat.le_of_ble_eq_true rfl⟩ dq_50 ln_50 vc_2 rfl hl.1 rfl (Nat.le_of_ble_eq_true rfl) dX6_sendForHost_62 (Nat.zero_le _) (Nat.zero_le _)) (fun H locs hw => ?_)
            obtain ⟨z_65, hf⟩ := gd_some hf
            exact r_zret C hw hr hlocks z_65 hf dX6_sendForHost_65
  show W p l e rmX6_sendForHost s m args below meth c s.heap [] 0 0 _ _
  refine lv_iconst (v := (0 : Int32)) hx hb dX6_sendForHost_0 (by decide) ?_
  refine lv_istore_n (lv' := [(2, .int (0 : Int32)), (0, .ref (ad 49)), (1, .int x1)]) hx hb dX6_sendForHost_1 rfl hl (by decide) rfl (fun ls hl => ?_)
  exact L_2 fu _ _ _ _ _ _ hf (lv_sub hl [1, 2, 0] rfl) hw
noncomputable def fX6_moveOut_41 (fu : Nat) (x3 : Int32) (t0 : Int32) (S : St) : Option (St × Int32) :=
  if t0 = 0 then
    bd (fX6_sendForHost fu x3 S) fun S_50 r_50 =>
    if r_50 = 0 then
      bd (fX6_endFrame fu (3 : Int32) (-1 : Int32) S_50) fun S_59 _ =>
      some (S_59, (0 : Int32))
    else
      some (S_50, (0 : Int32))
  else
    some (S, (0 : Int32))
noncomputable def fX6_moveOut (fu : Nat) (x1 : Int32) (S : St) : Option (St × Int32) :=
  bd (fX6_placeOf fu x1 S) fun S_2 r_2 =>
  bd (fX2_lead fu r_2 S_2) fun S_11 _ =>
  bd (fX1_setOf fu r_2 (2 : Int32) S_11) fun S_20 r_20 =>
  if r_20 = (-1 : Int32) then
    bd (fX6_tryHints fu S_20) fun S_30 r_30 =>
    fX6_moveOut_41 fu r_20 r_30 S_30
  else
    bd (fX6_tryHosts fu r_20 S_20) fun S_38 r_38 =>
    fX6_moveOut_41 fu r_20 r_38 S_38
theorem mvX6_moveOut : MV yX6_moveOut cX6_moveOut 5 none RX6 1 := ⟨gw5_196, gw5_195, gs_28, gw1_11, by decide +kernel⟩
def rmX6_moveOut : Room := { frames := 3, cells := 0, slots := 0, locals := 71 }
set_option maxHeartbeats 4000000 in
set_option maxRecDepth 100000 in
theorem m_X6_moveOut (l : Launch) (D : va_G) (cA : FieldType → ClassId) (ad : Nat → Nat) (base : Nat) (fu : Nat) {S S' : St} {x1 : Int32} {r : Int32} (hf : fX6_moveOut fu x1 S = some (S', r)) : Met l yX6_moveOut (GC yX6_moveOut cX6_moveOut 5 none) rmX6_moveOut (va_Pc [.ref (ad 49), .int x1] (wd D cA ad base S)) (QV D cA ad base S') 0 0 (aB base) := by
  refine Met.ofW (cc := cX6_moveOut) (maxL := 5) (ret := none) (by decide) rfl ?_
  intro p e s m args below meth c s₁ B hml hv
  obtain ⟨hargs, hwd⟩ := hv
  have hr := B.returns
  have hlocks := B.notSynchronized
  obtain ⟨C, hw⟩ := CX.of (own := RX6) rfl B hml hwd
  have hx := C.1
  have hb := C.2.1
  have hl := lv_entry ([.ref (ad 49), .int x1]) (n := 5) (Nat.le_of_ble_eq_true rfl)
  rw [show entryFrame m args 5 = entryFrame m ([.ref (ad 49), .int x1] : List Value).toArray 5 from by rw [hargs], lg_entry_eq]
  generalize (lg_sl ([.ref (ad 49), .int x1]) ++ List.replicate (5 - (lg_sl ([.ref (ad 49), .int x1])).length) Slot.unset).toArray = ls at hl ⊢
  have hl : lv_has ls 5 [(0, .ref (ad 49)), (1, .int x1)] := hl
  have J_41 : ∀ (x3 : Int32) (t0 : Int32) (S : St) (H : Heap) (locs : List Loc) (ls : Array Slot), fX6_moveOut_41 fu x3 t0 S = some (S', r) → lv_has ls 5 [(0, .ref (ad 49)), (3, .int x3)] → WS D cA ad base s S H locs → W p l e rmX6_moveOut s m args below meth c H locs 0 0 (MQ below (QV D cA ad base S') args s 0 0 (aB base)) (F0 m 41 ls [.int t0]) := by
    intro x3 t0 S H locs ls hf hl hw
    refine lv_istore (lv' := [(4, .int t0), (0, .ref (ad 49)), (3, .int x3)]) hx hb dX6_moveOut_41 hl (by decide) rfl (fun ls hl => ?_)
    refine lv_iload hx hb dX6_moveOut_43 (lv_at hl 0 rfl) ?_
    refine lv_if_ne (tgt := 62) hx hb dX6_moveOut_45 (by decide) (fun c_45 => ?_) (fun c_45 => ?_)
    · have hf := if_f hf c_45
      exact r_vret C hw hr hlocks hf dX6_moveOut_62
    · have hf := if_t hf c_45
      refine lv_aload_n hx hb dX6_moveOut_48 rfl (lv_at hl 1 rfl) ?_
      refine lv_iload_n hx hb dX6_moveOut_49 rfl (lv_at hl 2 rfl) ?_
      obtain ⟨S_50, r_50, h_50, hf⟩ := bd_some hf
      refine r_bi hw (r_runV (rest := []) C hw (m_X6_sendForHost l D cA ad base fu h_50) mvX6_sendForHost gw5_226 ⟨rfl, rfl, Nat.le_of_ble_eq_true rfl, Nat.le_of_ble_eq_true rfl⟩ dq_49 ln_49 vc_6 rfl hl.1 rfl (Nat.le_of_ble_eq_true rfl) dX6_moveOut_50 (Nat.zero_le _) (Nat.zero_le _)) (fun H locs hw => ?_)
      refine lv_if_ne (tgt := 62) hx hb dX6_moveOut_53 (by decide) (fun c_53 => ?_) (fun c_53 => ?_)
      · have hf := if_f hf c_53
        exact r_vret C hw hr hlocks hf dX6_moveOut_62
      · have hf := if_t hf c_53
        refine lv_aload_n hx hb dX6_moveOut_56 rfl (lv_at hl 1 rfl) ?_
        refine lv_iconst (v := (3 : Int32)) hx hb dX6_moveOut_57 (by decide) ?_
        refine lv_iconst (v := (-1 : Int32)) hx hb dX6_moveOut_58 (by decide) ?_
        obtain ⟨S_59, r_59, h_59, hf⟩ := bd_some hf
        refine r_bv hw (r_runV (rest := []) C hw (m_X6_endFrame l D cA ad base fu h_59) mvX6_endFrame gw5_156 ⟨rfl, rfl, Nat.le_of_ble_eq_true rfl, Nat.le_of_ble_eq_true rfl⟩ dq_49 ln_49 vc_6 rfl hl.1 rfl (Nat.le_of_ble_eq_true rfl) dX6_moveOut_59 (Nat.zero_le _) (Nat.zero_le _)) (fun H locs hw => ?_)
        exact r_vret C hw hr hlocks hf dX6_moveOut_62
  show W p l e rmX6_moveOut s m args below meth c s.heap [] 0 0 _ _
  refine lv_aload_n hx hb dX6_moveOut_0 rfl (lv_at hl 0 rfl) ?_
  refine lv_iload_n hx hb dX6_moveOut_1 rfl (lv_at hl 1 rfl) ?_
  obtain ⟨S_2, r_2, h_2, hf⟩ := bd_some hf
  refine r_bi hw (r_runV (rest := []) C hw (m_X6_placeOf l D cA ad base fu h_2) mvX6_placeOf gw5_197 ⟨rfl, rfl, Nat.le_of_ble_eq_true rfl, Nat.le_of_ble_eq_true rfl⟩ dq_49 ln_49 vc_6 rfl hl.1 rfl (Nat.le_of_ble_eq_true rfl) dX6_moveOut_2 (Nat.zero_le _) (Nat.zero_le _)) (fun H locs hw => ?_)
  refine lv_istore_n (lv' := [(2, .int r_2), (0, .ref (ad 49)), (1, .int x1)]) hx hb dX6_moveOut_5 rfl hl (by decide) rfl (fun ls hl => ?_)
  refine lv_aload_n hx hb dX6_moveOut_6 rfl (lv_at hl 1 rfl) ?_
  refine r_getR C hw (k := 2) (r := 50) dq_49 ln_49 rfl vc_6 inX6 (by decide) rfl gw2_72 dX6_moveOut_7 ?_
  refine lv_iload_n hx hb dX6_moveOut_10 rfl (lv_at hl 0 rfl) ?_
  obtain ⟨S_11, r_11, h_11, hf⟩ := bd_some hf
  refine r_bv hw (r_runV (rest := []) C hw (m_X2_lead l D cA ad base fu h_11) mvX2_lead gw5_202 ⟨rfl, rfl, Nat.le_of_ble_eq_true rfl, Nat.le_of_ble_eq_true rfl⟩ dq_50 ln_50 vc_2 rfl hl.1 rfl (Nat.le_of_ble_eq_true rfl) dX6_moveOut_11 (Nat.zero_le _) (Nat.zero_le _)) (fun H locs hw => ?_)
  refine lv_aload_n hx hb dX6_moveOut_14 rfl (lv_at hl 1 rfl) ?_
  refine r_getR C hw (k := 1) (r := 42) dq_49 ln_49 rfl vc_6 inX6 (by decide) rfl gw2_71 dX6_moveOut_15 ?_
  refine lv_iload_n hx hb dX6_moveOut_18 rfl (lv_at hl 0 rfl) ?_
  refine lv_iconst (v := (2 : Int32)) hx hb dX6_moveOut_19 (by decide) ?_
  obtain ⟨S_20, r_20, h_20, hf⟩ := bd_some hf
  refine r_bi hw (r_runV (rest := []) C hw (m_X1_setOf l D cA ad base fu h_20) mvX1_setOf gw5_148 ⟨rfl, rfl, Nat.le_of_ble_eq_true rfl, Nat.le_of_ble_eq_true rfl⟩ dq_42 ln_42 vc_1 rfl hl.1 rfl (Nat.le_of_ble_eq_true rfl) dX6_moveOut_20 (Nat.zero_le _) (Nat.zero_le _)) (fun H locs hw => ?_)
  refine lv_istore_n (lv' := [(3, .int r_20), (2, .int r_2), (0, .ref (ad 49)), (1, .int x1)]) hx hb dX6_moveOut_23 rfl hl (by decide) rfl (fun ls hl => ?_)
  refine lv_iload_n hx hb dX6_moveOut_24 rfl (lv_at hl 0 rfl) ?_
  refine lv_iconst (v := (-1 : Int32)) hx hb dX6_moveOut_25 (by decide) ?_
  refine lv_icmp_ne (tgt := 36) hx hb dX6_moveOut_26 (by decide) (fun c_26 => ?_) (fun c_26 => ?_)
  · have hf := if_f hf c_26
    refine lv_aload_n hx hb dX6_moveOut_36 rfl (lv_at hl 2 rfl) ?_
    refine lv_iload_n hx hb dX6_moveOut_37 rfl (lv_at hl 0 rfl) ?_
    obtain ⟨S_38, r_38, h_38, hf⟩ := bd_some hf
    refine r_bi hw (r_runV (rest := []) C hw (m_X6_tryHosts l D cA ad base fu h_38) mvX6_tryHosts gw5_222 ⟨rfl, rfl, Nat.le_of_ble_eq_true rfl, Nat.le_of_ble_eq_true rfl⟩ dq_49 ln_49 vc_6 rfl hl.1 rfl (Nat.le_of_ble_eq_true rfl) dX6_moveOut_38 (Nat.zero_le _) (Nat.zero_le _)) (fun H locs hw => ?_)
    exact J_41 _ _ _ _ _ _ hf (lv_sub hl [2, 0] rfl) hw
  · have hf := if_t hf c_26
    refine lv_aload_n hx hb dX6_moveOut_29 rfl (lv_at hl 2 rfl) ?_
    obtain ⟨S_30, r_30, h_30, hf⟩ := bd_some hf
    refine r_bi hw (r_runV (rest := []) C hw (m_X6_tryHints l D cA ad base fu h_30) mvX6_tryHints gw5_206 ⟨rfl, rfl, Nat.le_of_ble_eq_true rfl, Nat.le_of_ble_eq_true rfl⟩ dq_49 ln_49 vc_6 rfl hl.1 rfl (Nat.le_of_ble_eq_true rfl) dX6_moveOut_30 (Nat.zero_le _) (Nat.zero_le _)) (fun H locs hw => ?_)
    refine lv_goto (tgt := 41) hx hb dX6_moveOut_33 (by decide) ?_
    exact J_41 _ _ _ _ _ _ hf (lv_sub hl [2, 0] rfl) hw
noncomputable def fX6_move_56 (fu : Nat) (x1 : Int32) (x2 : Int32) (t0 : Int32) (S : St) : Option (St × Int32) :=
  if t0 = (-1 : Int32) then
    bd (fX1_held fu x1 (0 : Int32) S) fun S_79 r_79 =>
    if r_79 = 0 then
      bd (fX6_endFrame fu (2 : Int32) (-1 : Int32) S_79) fun S_88 _ =>
      some (S_88, (0 : Int32))
    else
      bd (fX1_held fu x1 x2 S_79) fun S_100 r_100 =>
      if r_100 = 0 then
        bd (fX6_endFrame fu (1 : Int32) (-1 : Int32) S_100) fun S_109 _ =>
        some (S_109, (0 : Int32))
      else
        bd (fX6_moveOut fu x1 S_100) fun S_117 _ =>
        some (S_117, (0 : Int32))
  else
    bd (fX6_followAlias fu t0 S) fun S_67 _ =>
    some (S_67, (0 : Int32))
noncomputable def fX6_move (fu : Nat) (S : St) : Option (St × Int32) :=
  bd (fX2_topName fu S) fun S_4 r_4 =>
  bd (fX2_topType fu S_4) fun S_12 r_12 =>
  bd (fX1_setOf fu r_4 r_12 S_12) fun S_22 r_22 =>
  if r_22 = (-1 : Int32) then
    if r_12 = (5 : Int32) then
      fX6_move_56 fu r_4 r_12 (-1 : Int32) S_22
    else
      bd (fX1_setOf fu r_4 (5 : Int32) S_22) fun S_53 r_53 =>
      fX6_move_56 fu r_4 r_12 r_53 S_53
  else
    bd (fX6_endFrame fu (0 : Int32) r_22 S_22) fun S_34 _ =>
    some (S_34, (0 : Int32))
theorem mvX6_move : MV yX6_move cX6_move 5 none RX6 0 := ⟨gw5_139, gw5_138, gs_24, gw1_11, by decide +kernel⟩
def rmX6_move : Room := { frames := 4, cells := 0, slots := 0, locals := 95 }
set_option maxHeartbeats 4000000 in
set_option maxRecDepth 100000 in
theorem m_X6_move (l : Launch) (D : va_G) (cA : FieldType → ClassId) (ad : Nat → Nat) (base : Nat) (fu : Nat) {S S' : St} {r : Int32} (hf : fX6_move fu S = some (S', r)) : Met l yX6_move (GC yX6_move cX6_move 5 none) rmX6_move (va_Pc [.ref (ad 49)] (wd D cA ad base S)) (QV D cA ad base S') 0 0 (aB base) := by
  refine Met.ofW (cc := cX6_move) (maxL := 5) (ret := none) (by decide) rfl ?_
  intro p e s m args below meth c s₁ B hml hv
  obtain ⟨hargs, hwd⟩ := hv
  have hr := B.returns
  have hlocks := B.notSynchronized
  obtain ⟨C, hw⟩ := CX.of (own := RX6) rfl B hml hwd
  have hx := C.1
  have hb := C.2.1
  have hl := lv_entry ([.ref (ad 49)]) (n := 5) (Nat.le_of_ble_eq_true rfl)
  rw [show entryFrame m args 5 = entryFrame m ([.ref (ad 49)] : List Value).toArray 5 from by rw [hargs], lg_entry_eq]
  generalize (lg_sl ([.ref (ad 49)]) ++ List.replicate (5 - (lg_sl ([.ref (ad 49)])).length) Slot.unset).toArray = ls at hl ⊢
  have hl : lv_has ls 5 [(0, .ref (ad 49))] := hl
  have J_56 : ∀ (x1 : Int32) (x2 : Int32) (t0 : Int32) (S : St) (H : Heap) (locs : List Loc) (ls : Array Slot), fX6_move_56 fu x1 x2 t0 S = some (S', r) → lv_has ls 5 [(0, .ref (ad 49)), (1, .int x1), (2, .int x2)] → WS D cA ad base s S H locs → W p l e rmX6_move s m args below meth c H locs 0 0 (MQ below (QV D cA ad base S') args s 0 0 (aB base)) (F0 m 56 ls [.int t0]) := by
    intro x1 x2 t0 S H locs ls hf hl hw
    refine lv_istore (lv' := [(4, .int t0), (0, .ref (ad 49)), (1, .int x1), (2, .int x2)]) hx hb dX6_move_56 hl (by decide) rfl (fun ls hl => ?_)
    refine lv_iload hx hb dX6_move_58 (lv_at hl 0 rfl) ?_
    refine lv_iconst (v := (-1 : Int32)) hx hb dX6_move_60 (by decide) ?_
    refine lv_icmp_eq (tgt := 73) hx hb dX6_move_61 (by decide) (fun c_61 => ?_) (fun c_61 => ?_)
    · have hf := if_t hf c_61
      refine lv_aload_n hx hb dX6_move_73 rfl (lv_at hl 1 rfl) ?_
      refine r_getR C hw (k := 1) (r := 42) dq_49 ln_49 rfl vc_6 inX6 (by decide) rfl gw2_71 dX6_move_74 ?_
      refine lv_iload_n hx hb dX6_move_77 rfl (lv_at hl 2 rfl) ?_
      refine lv_iconst (v := (0 : Int32)) hx hb dX6_move_78 (by decide) ?_
      obtain ⟨S_79, r_79, h_79, hf⟩ := bd_some hf
      refine r_bi hw (r_runV (rest := []) C hw (m_X1_held l D cA ad base fu h_79) mvX1_held gw5_189 ⟨rfl, rfl, Nat.le_of_ble_eq_true rfl, Nat.le_of_ble_eq_true rfl⟩ dq_42 ln_42 vc_1 rfl hl.1 rfl (Nat.le_of_ble_eq_true rfl) dX6_move_79 (Nat.zero_le _) (Nat.zero_le _)) (fun H locs hw => ?_)
      refine lv_if_ne (tgt := 94) hx hb dX6_move_82 (by decide) (fun c_82 => ?_) (fun c_82 => ?_)
      · have hf := if_f hf c_82
        refine lv_aload_n hx hb dX6_move_94 rfl (lv_at hl 1 rfl) ?_
        refine r_getR C hw (k := 1) (r := 42) dq_49 ln_49 rfl vc_6 inX6 (by decide) rfl gw2_71 dX6_move_95 ?_
        refine lv_iload_n hx hb dX6_move_98 rfl (lv_at hl 2 rfl) ?_
        refine lv_iload_n hx hb dX6_move_99 rfl (lv_at hl 3 rfl) ?_
        obtain ⟨S_100, r_100, h_100, hf⟩ := bd_some hf
        refine r_bi hw (r_runV (rest := []) C hw (m_X1_held l D cA ad base fu h_100) mvX1_held gw5_189 ⟨rfl, rfl, Nat.le_of_ble_eq_true rfl, Nat.le_of_ble_eq_true rfl⟩ dq_42 ln_42 vc_1 rfl hl.1 rfl (Nat.le_of_ble_eq_true rfl) dX6_move_100 (Nat.zero_le _) (Nat.zero_le _)) (fun H locs hw => ?_)
        refine lv_if_ne (tgt := 115) hx hb dX6_move_103 (by decide) (fun c_103 => ?_) (fun c_103 => ?_)
        · have hf := if_f hf c_103
          refine lv_aload_n hx hb dX6_move_115 rfl (lv_at hl 1 rfl) ?_
          refine lv_iload_n hx hb dX6_move_116 rfl (lv_at hl 2 rfl) ?_
          obtain ⟨S_117, r_117, h_117, hf⟩ := bd_some hf
          refine r_bv hw (r_runV (rest := []) C hw (m_X6_moveOut l D cA ad base fu h_117) mvX6_moveOut gw5_193 ⟨rfl, rfl, Nat.le_of_ble_eq_true rfl, Nat.le_of_ble_eq_true rfl⟩ dq_49 ln_49 vc_6 rfl hl.1 rfl (Nat.le_of_ble_eq_true rfl) dX6_move_117 (Nat.zero_le _) (Nat.zero_le _)) (fun H locs hw => ?_)
          exact r_vret C hw hr hlocks hf dX6_move_120
        · have hf := if_t hf c_103
          refine lv_aload_n hx hb dX6_move_106 rfl (lv_at hl 1 rfl) ?_
          refine lv_iconst (v := (1 : Int32)) hx hb dX6_move_107 (by decide) ?_
          refine lv_iconst (v := (-1 : Int32)) hx hb dX6_move_108 (by decide) ?_
          obtain ⟨S_109, r_109, h_109, hf⟩ := bd_some hf
          refine r_bv hw (r_runV (rest := []) C hw (m_X6_endFrame l D cA ad base fu h_109) mvX6_endFrame gw5_156 ⟨rfl, rfl, Nat.le_of_ble_eq_true rfl, Nat.le_of_ble_eq_true rfl⟩ dq_49 ln_49 vc_6 rfl hl.1 rfl (Nat.le_of_ble_eq_true rfl) dX6_move_109 (Nat.zero_le _) (Nat.zero_le _)) (fun H locs hw => ?_)
          refine lv_goto (tgt := 120) hx hb dX6_move_112 (by decide) ?_
          exact r_vret C hw hr hlocks hf dX6_move_120
      · have hf := if_t hf c_82
        refine lv_aload_n hx hb dX6_move_85 rfl (lv_at hl 1 rfl) ?_
        refine lv_iconst (v := (2 : Int32)) hx hb dX6_move_86 (by decide) ?_
        refine lv_iconst (v := (-1 : Int32)) hx hb dX6_move_87 (by decide) ?_
        obtain ⟨S_88, r_88, h_88, hf⟩ := bd_some hf
        refine r_bv hw (r_runV (rest := []) C hw (m_X6_endFrame l D cA ad base fu h_88) mvX6_endFrame gw5_156 ⟨rfl, rfl, Nat.le_of_ble_eq_true rfl, Nat.le_of_ble_eq_true rfl⟩ dq_49 ln_49 vc_6 rfl hl.1 rfl (Nat.le_of_ble_eq_true rfl) dX6_move_88 (Nat.zero_le _) (Nat.zero_le _)) (fun H locs hw => ?_)
        refine lv_goto (tgt := 120) hx hb dX6_move_91 (by decide) ?_
        exact r_vret C hw hr hlocks hf dX6_move_120
    · have hf := if_f hf c_61
      refine lv_aload_n hx hb dX6_move_64 rfl (lv_at hl 1 rfl) ?_
      refine lv_iload hx hb dX6_move_65 (lv_at hl 0 rfl) ?_
      obtain ⟨S_67, r_67, h_67, hf⟩ := bd_some hf
      refine r_bv hw (r_runV (rest := []) C hw (m_X6_followAlias l D cA ad base fu h_67) mvX6_followAlias gw5_177 ⟨rfl, rfl, Nat.le_of_ble_eq_true rfl, Nat.le_of_ble_eq_true rfl⟩ dq_49 ln_49 vc_6 rfl hl.1 rfl (Nat.le_of_ble_eq_true rfl) dX6_move_67 (Nat.zero_le _) (Nat.zero_le _)) (fun H locs hw => ?_)
      refine lv_goto (tgt := 120) hx hb dX6_move_70 (by decide) ?_
      exact r_vret C hw hr hlocks hf dX6_move_120
  show W p l e rmX6_move s m args below meth c s.heap [] 0 0 _ _
  refine lv_aload_n hx hb dX6_move_0 rfl (lv_at hl 0 rfl) ?_
  refine r_getR C hw (k := 2) (r := 50) dq_49 ln_49 rfl vc_6 inX6 (by decide) rfl gw2_72 dX6_move_1 ?_
  obtain ⟨S_4, r_4, h_4, hf⟩ := bd_some hf
  refine r_bi hw (r_runV (rest := []) C hw (m_X2_topName l D cA ad base fu h_4) mvX2_topName gw5_140 ⟨rfl, rfl, Nat.le_of_ble_eq_true rfl, Nat.le_of_ble_eq_true rfl⟩ dq_50 ln_50 vc_2 rfl hl.1 rfl (Nat.le_of_ble_eq_true rfl) dX6_move_4 (Nat.zero_le _) (Nat.zero_le _)) (fun H locs hw => ?_)
  refine lv_istore_n (lv' := [(1, .int r_4), (0, .ref (ad 49))]) hx hb dX6_move_7 rfl hl (by decide) rfl (fun ls hl => ?_)
  refine lv_aload_n hx hb dX6_move_8 rfl (lv_at hl 1 rfl) ?_
  refine r_getR C hw (k := 2) (r := 50) dq_49 ln_49 rfl vc_6 inX6 (by decide) rfl gw2_72 dX6_move_9 ?_
  obtain ⟨S_12, r_12, h_12, hf⟩ := bd_some hf
  refine r_bi hw (r_runV (rest := []) C hw (m_X2_topType l D cA ad base fu h_12) mvX2_topType gw5_144 ⟨rfl, rfl, Nat.le_of_ble_eq_true rfl, Nat.le_of_ble_eq_true rfl⟩ dq_50 ln_50 vc_2 rfl hl.1 rfl (Nat.le_of_ble_eq_true rfl) dX6_move_12 (Nat.zero_le _) (Nat.zero_le _)) (fun H locs hw => ?_)
  refine lv_istore_n (lv' := [(2, .int r_12), (1, .int r_4), (0, .ref (ad 49))]) hx hb dX6_move_15 rfl hl (by decide) rfl (fun ls hl => ?_)
  refine lv_aload_n hx hb dX6_move_16 rfl (lv_at hl 2 rfl) ?_
  refine r_getR C hw (k := 1) (r := 42) dq_49 ln_49 rfl vc_6 inX6 (by decide) rfl gw2_71 dX6_move_17 ?_
  refine lv_iload_n hx hb dX6_move_20 rfl (lv_at hl 1 rfl) ?_
  refine lv_iload_n hx hb dX6_move_21 rfl (lv_at hl 0 rfl) ?_
  obtain ⟨S_22, r_22, h_22, hf⟩ := bd_some hf
  refine r_bi hw (r_runV (rest := []) C hw (m_X1_setOf l D cA ad base fu h_22) mvX1_setOf gw5_148 ⟨rfl, rfl, Nat.le_of_ble_eq_true rfl, Nat.le_of_ble_eq_true rfl⟩ dq_42 ln_42 vc_1 rfl hl.1 rfl (Nat.le_of_ble_eq_true rfl) dX6_move_22 (Nat.zero_le _) (Nat.zero_le _)) (fun H locs hw => ?_)
  refine lv_istore_n (lv' := [(3, .int r_22), (2, .int r_12), (1, .int r_4), (0, .ref (ad 49))]) hx hb dX6_move_25 rfl hl (by decide) rfl (fun ls hl => ?_)
  refine lv_iload_n hx hb dX6_move_26 rfl (lv_at hl 0 rfl) ?_
  refine lv_iconst (v := (-1 : Int32)) hx hb dX6_move_27 (by decide) ?_
  refine lv_icmp_eq (tgt := 38) hx hb dX6_move_28 (by decide) (fun c_28 => ?_) (fun c_28 => ?_)
  · have hf := if_t hf c_28
    refine lv_iload_n hx hb dX6_move_38 rfl (lv_at hl 1 rfl) ?_
    refine lv_iconst (v := (5 : Int32)) hx hb dX6_move_39 (by decide) ?_
    refine lv_icmp_ne (tgt := 47) hx hb dX6_move_40 (by decide) (fun c_40 => ?_) (fun c_40 => ?_)
    · have hf := if_f hf c_40
      refine lv_aload_n hx hb dX6_move_47 rfl (lv_at hl 3 rfl) ?_
      refine r_getR C hw (k := 1) (r := 42) dq_49 ln_49 rfl vc_6 inX6 (by decide) rfl gw2_71 dX6_move_48 ?_
      refine lv_iload_n hx hb dX6_move_51 rfl (lv_at hl 2 rfl) ?_
      refine lv_iconst (v := (5 : Int32)) hx hb dX6_move_52 (by decide) ?_
      obtain ⟨S_53, r_53, h_53, hf⟩ := bd_some hf
      refine r_bi hw (r_runV (rest := []) C hw (m_X1_setOf l D cA ad base fu h_53) mvX1_setOf gw5_148 ⟨rfl, rfl, Nat.le_of_ble_eq_true rfl, Nat.le_of_ble_eq_true rfl⟩ dq_42 ln_42 vc_1 rfl hl.1 rfl (Nat.le_of_ble_eq_true rfl) dX6_move_53 (Nat.zero_le _) (Nat.zero_le _)) (fun H locs hw => ?_)
      exact J_56 _ _ _ _ _ _ _ hf (lv_sub hl [3, 2, 1] rfl) hw
    · have hf := if_t hf c_40
      refine lv_iconst (v := (-1 : Int32)) hx hb dX6_move_43 (by decide) ?_
      refine lv_goto (tgt := 56) hx hb dX6_move_44 (by decide) ?_
      exact J_56 _ _ _ _ _ _ _ hf (lv_sub hl [3, 2, 1] rfl) hw
  · have hf := if_f hf c_28
    refine lv_aload_n hx hb dX6_move_31 rfl (lv_at hl 3 rfl) ?_
    refine lv_iconst (v := (0 : Int32)) hx hb dX6_move_32 (by decide) ?_
    refine lv_iload_n hx hb dX6_move_33 rfl (lv_at hl 0 rfl) ?_
    obtain ⟨S_34, r_34, h_34, hf⟩ := bd_some hf
    refine r_bv hw (r_runV (rest := []) C hw (m_X6_endFrame l D cA ad base fu h_34) mvX6_endFrame gw5_156 ⟨rfl, rfl, Nat.le_of_ble_eq_true rfl, Nat.le_of_ble_eq_true rfl⟩ dq_49 ln_49 vc_6 rfl hl.1 rfl (Nat.le_of_ble_eq_true rfl) dX6_move_34 (Nat.zero_le _) (Nat.zero_le _)) (fun H locs hw => ?_)
    exact r_vret C hw hr hlocks hf dX6_move_37
noncomputable def fX6_goOn_58 (fu : Nat) (S : St) : Option (St × Int32) :=
  if (S.1 49 8) = 0 then
    some (S, (0 : Int32))
  else
    some (S, (1 : Int32))
noncomputable def fX6_goOn_38 (fu : Nat) (S : St) : Option (St × Int32) :=
  if (S.1 49 8) = 0 then
    if (S.1 49 5) = (4 : Int32) then
      sI 49 5 (3 : Int32) S fun S_55 =>
      fX6_goOn_58 fu S_55
    else
      fX6_goOn_58 fu S
  else
    fX6_goOn_58 fu S
noncomputable def fX6_goOn_7 (fu : Nat) (n : Nat) : Int32 → St → Option (St × Int32) :=
  Nat.rec (motive := fun _ => Int32 → St → Option (St × Int32)) (fun _ _ => none) (fun _ k_7 x1 S =>
    if (1000000 : Int32) ≤ x1 then
      fX6_goOn_38 fu S
    else
      if (S.1 49 5) = (4 : Int32) then
        if (S.1 49 8) = 0 then
          bd (fX6_move fu S) fun S_29 _ =>
          k_7 (x1 + (1 : Int32)) S_29
        else
          fX6_goOn_38 fu S
      else
        fX6_goOn_38 fu S) n
theorem fX6_goOn_7_s (fu : Nat) (n : Nat) (x1 : Int32) (S : St) : fX6_goOn_7 fu (n + 1) x1 S = (
    if (1000000 : Int32) ≤ x1 then
      fX6_goOn_38 fu S
    else
      if (S.1 49 5) = (4 : Int32) then
        if (S.1 49 8) = 0 then
          bd (fX6_move fu S) fun S_29 _ =>
          (fX6_goOn_7 fu n) (x1 + (1 : Int32)) S_29
        else
          fX6_goOn_38 fu S
      else
        fX6_goOn_38 fu S) := rfl
noncomputable def fX6_goOn (fu : Nat) (S : St) : Option (St × Int32) :=
  sI 49 8 (0 : Int32) S fun S_2 =>
  fX6_goOn_7 fu fu (0 : Int32) S_2
theorem mvX6_goOn : MV yX6_goOn cX6_goOn 2 (some .int) RX6 0 := ⟨gw5_134, gw5_132, gw5_133, gw1_11, by decide +kernel⟩
def rmX6_goOn : Room := { frames := 5, cells := 0, slots := 0, locals := 119 }
set_option maxHeartbeats 4000000 in
set_option maxRecDepth 100000 in
theorem m_X6_goOn (l : Launch) (D : va_G) (cA : FieldType → ClassId) (ad : Nat → Nat) (base : Nat) (fu : Nat) {S S' : St} {r : Int32} (hf : fX6_goOn fu S = some (S', r)) : Met l yX6_goOn (GC yX6_goOn cX6_goOn 2 (some .int)) rmX6_goOn (va_Pc [.ref (ad 49)] (wd D cA ad base S)) (QI D cA ad base S' r) 0 0 (aB base) := by
  refine Met.ofW (cc := cX6_goOn) (maxL := 2) (ret := (some .int)) (by decide) rfl ?_
  intro p e s m args below meth c s₁ B hml hv
  obtain ⟨hargs, hwd⟩ := hv
  have hr := B.returns
  have hlocks := B.notSynchronized
  obtain ⟨C, hw⟩ := CX.of (own := RX6) rfl B hml hwd
  have hx := C.1
  have hb := C.2.1
  have hl := lv_entry ([.ref (ad 49)]) (n := 2) (Nat.le_of_ble_eq_true rfl)
  rw [show entryFrame m args 2 = entryFrame m ([.ref (ad 49)] : List Value).toArray 2 from by rw [hargs], lg_entry_eq]
  generalize (lg_sl ([.ref (ad 49)]) ++ List.replicate (2 - (lg_sl ([.ref (ad 49)])).length) Slot.unset).toArray = ls at hl ⊢
  have hl : lv_has ls 2 [(0, .ref (ad 49))] := hl
  have J_58 : ∀ (S : St) (H : Heap) (locs : List Loc) (ls : Array Slot), fX6_goOn_58 fu S = some (S', r) → lv_has ls 2 [(0, .ref (ad 49))] → WS D cA ad base s S H locs → W p l e rmX6_goOn s m args below meth c H locs 0 0 (MQ below (QI D cA ad base S' r) args s 0 0 (aB base)) (F0 m 58 ls []) := by
    intro  S H locs ls hf hl hw
    refine lv_aload_n hx hb dX6_goOn_58 rfl (lv_at hl 0 rfl) ?_
    refine r_getI C hw (k := 8) dq_49 ln_49 rfl vc_6 inX6 (by decide) rfl gw2_78 dX6_goOn_59 ?_
    refine lv_if_eq (tgt := 69) hx hb dX6_goOn_62 (by decide) (fun c_62 => ?_) (fun c_62 => ?_)
    · have hf := if_t hf c_62
      refine lv_iconst (v := (0 : Int32)) hx hb dX6_goOn_69 (by decide) ?_
      exact r_iret C hw hr hlocks hf dX6_goOn_70
    · have hf := if_f hf c_62
      refine lv_iconst (v := (1 : Int32)) hx hb dX6_goOn_65 (by decide) ?_
      refine lv_goto (tgt := 70) hx hb dX6_goOn_66 (by decide) ?_
      exact r_iret C hw hr hlocks hf dX6_goOn_70
  have J_38 : ∀ (S : St) (H : Heap) (locs : List Loc) (ls : Array Slot), fX6_goOn_38 fu S = some (S', r) → lv_has ls 2 [(0, .ref (ad 49))] → WS D cA ad base s S H locs → W p l e rmX6_goOn s m args below meth c H locs 0 0 (MQ below (QI D cA ad base S' r) args s 0 0 (aB base)) (F0 m 38 ls []) := by
    intro  S H locs ls hf hl hw
    refine lv_aload_n hx hb dX6_goOn_38 rfl (lv_at hl 0 rfl) ?_
    refine r_getI C hw (k := 8) dq_49 ln_49 rfl vc_6 inX6 (by decide) rfl gw2_78 dX6_goOn_39 ?_
    refine lv_if_ne (tgt := 58) hx hb dX6_goOn_42 (by decide) (fun c_42 => ?_) (fun c_42 => ?_)
    · have hf := if_f hf c_42
      exact J_58 _ _ _ _ hf (lv_sub hl [0] rfl) hw
    · have hf := if_t hf c_42
      refine lv_aload_n hx hb dX6_goOn_45 rfl (lv_at hl 0 rfl) ?_
      refine r_getI C hw (k := 5) dq_49 ln_49 rfl vc_6 inX6 (by decide) rfl gw2_75 dX6_goOn_46 ?_
      refine lv_iconst (v := (4 : Int32)) hx hb dX6_goOn_49 (by decide) ?_
      refine lv_icmp_ne (tgt := 58) hx hb dX6_goOn_50 (by decide) (fun c_50 => ?_) (fun c_50 => ?_)
      · have hf := if_f hf c_50
        exact J_58 _ _ _ _ hf (lv_sub hl [0] rfl) hw
      · have hf := if_t hf c_50
        refine lv_aload_n hx hb dX6_goOn_53 rfl (lv_at hl 0 rfl) ?_
        refine lv_iconst (v := (3 : Int32)) hx hb dX6_goOn_54 (by decide) ?_
        obtain ⟨S_55, e_55, hf⟩ := sI_some hf
        refine r_putI C hw (k := 5) (ty0 := tyX6) dq_49 ln_49 rfl vc_6 inX6 tyX6_ok nmX6 (by decide) rfl rfl gw2_75 rfl rfl dX6_goOn_55 e_55 (fun H locs hw => ?_)
        exact J_58 _ _ _ _ hf (lv_sub hl [0] rfl) hw
  have L_7 : ∀ (n_7 : Nat) (x1 : Int32) (S : St) (H : Heap) (locs : List Loc) (ls : Array Slot), fX6_goOn_7 fu n_7 x1 S = some (S', r) → lv_has ls 2 [(0, .ref (ad 49)), (1, .int x1)] → WS D cA ad base s S H locs → W p l e rmX6_goOn s m args below meth c H locs 0 0 (MQ below (QI D cA ad base S' r) args s 0 0 (aB base)) (F0 m 7 ls []) := by
    intro n_7
    induction n_7 with
    | zero =>
      intro x1 S H locs ls hf hl hw
      exact (no_none hf).elim
    | succ n_7 ih_7 =>
      intro x1 S H locs ls hf hl hw
      rw [fX6_goOn_7_s] at hf
      refine lv_iload_n hx hb dX6_goOn_7 rfl (lv_at hl 1 rfl) ?_
      refine lv_ldc hx hb C.2.2.2.1 (C.2.2.2.2.1 _ (gw_of gw5_135 rfl)) dX6_goOn_8 ?_
      refine lv_icmp_ge (tgt := 38) hx hb dX6_goOn_10 (by decide) (fun c_10 => ?_) (fun c_10 => ?_)
      · have hf := if_t hf c_10
        exact J_38 _ _ _ _ hf (lv_sub hl [0] rfl) hw
      · have hf := if_f hf c_10
        refine lv_aload_n hx hb dX6_goOn_13 rfl (lv_at hl 0 rfl) ?_
        refine r_getI C hw (k := 5) dq_49 ln_49 rfl vc_6 inX6 (by decide) rfl gw2_75 dX6_goOn_14 ?_
        refine lv_iconst (v := (4 : Int32)) hx hb dX6_goOn_17 (by decide) ?_
        refine lv_icmp_ne (tgt := 38) hx hb dX6_goOn_18 (by decide) (fun c_18 => ?_) (fun c_18 => ?_)
        · have hf := if_f hf c_18
          exact J_38 _ _ _ _ hf (lv_sub hl [0] rfl) hw
        · have hf := if_t hf c_18
          refine lv_aload_n hx hb dX6_goOn_21 rfl (lv_at hl 0 rfl) ?_
          refine r_getI C hw (k := 8) dq_49 ln_49 rfl vc_6 inX6 (by decide) rfl gw2_78 dX6_goOn_22 ?_
          refine lv_if_ne (tgt := 38) hx hb dX6_goOn_25 (by decide) (fun c_25 => ?_) (fun c_25 => ?_)
          · have hf := if_f hf c_25
            exact J_38 _ _ _ _ hf (lv_sub hl [0] rfl) hw
          · have hf := if_t hf c_25
            refine lv_aload_n hx hb dX6_goOn_28 rfl (lv_at hl 0 rfl) ?_
            obtain ⟨S_29, r_29, h_29, hf⟩ := bd_some hf
            refine r_bv hw (r_runV (rest := []) C hw (m_X6_move l D cA ad base fu h_29) mvX6_move gw5_136 ⟨rfl, rfl, Nat.le_of_ble_eq_true rfl, Nat.le_of_ble_eq_true rfl⟩ dq_49 ln_49 vc_6 rfl hl.1 rfl (Nat.le_of_ble_eq_true rfl) dX6_goOn_29 (Nat.zero_le _) (Nat.zero_le _)) (fun H locs hw => ?_)
            refine lv_iinc (v := (x1 + (1 : Int32))) (lv' := [(1, .int (x1 + (1 : Int32))), (0, .ref (ad 49))]) hx hb dX6_goOn_32 hl (k := 1) rfl rfl (by decide) rfl (fun ls hl => ?_)
            refine lv_goto (tgt := 7) hx hb dX6_goOn_35 (by decide) ?_
            exact ih_7 _ _ _ _ _ hf (lv_sub hl [1, 0] rfl) hw
  show W p l e rmX6_goOn s m args below meth c s.heap [] 0 0 _ _
  refine lv_aload_n hx hb dX6_goOn_0 rfl (lv_at hl 0 rfl) ?_
  refine lv_iconst (v := (0 : Int32)) hx hb dX6_goOn_1 (by decide) ?_
  obtain ⟨S_2, e_2, hf⟩ := sI_some hf
  refine r_putI C hw (k := 8) (ty0 := tyX6) dq_49 ln_49 rfl vc_6 inX6 tyX6_ok nmX6 (by decide) rfl rfl gw2_78 rfl rfl dX6_goOn_2 e_2 (fun H locs hw => ?_)
  refine lv_iconst (v := (0 : Int32)) hx hb dX6_goOn_5 (by decide) ?_
  refine lv_istore_n (lv' := [(1, .int (0 : Int32)), (0, .ref (ad 49))]) hx hb dX6_goOn_6 rfl hl (by decide) rfl (fun ls hl => ?_)
  exact L_7 fu _ _ _ _ _ hf (lv_sub hl [1, 0] rfl) hw
noncomputable def fX6_isAnsweredBy (fu : Nat) (S : St) : Option (St × Int32) :=
  bd (fX6_id fu S) fun S_2 r_2 =>
  bd (fX6_askedName fu S_2) fun S_6 r_6 =>
  bd (fX6_askedType fu S_6) fun S_10 r_10 =>
  bd (fX4_isReplyTo fu r_2 r_6 r_10 S_10) fun S_13 r_13 =>
  gd (isB r_13) <|
  some (S_13, r_13)
theorem mvX6_isAnsweredBy : MV yX6_isAnsweredBy cX6_isAnsweredBy 2 (some .boolean) RX6 1 := ⟨gw6_34, gw6_32, gw6_33, gw1_11, by decide +kernel⟩
def rmX6_isAnsweredBy : Room := { frames := 2, cells := 0, slots := 0, locals := 40 }
set_option maxHeartbeats 4000000 in
set_option maxRecDepth 100000 in
theorem m_X6_isAnsweredBy (l : Launch) (D : va_G) (cA : FieldType → ClassId) (ad : Nat → Nat) (base : Nat) (fu : Nat) {S S' : St} {r : Int32} (hf : fX6_isAnsweredBy fu S = some (S', r)) : Met l yX6_isAnsweredBy (GC yX6_isAnsweredBy cX6_isAnsweredBy 2 (some .boolean)) rmX6_isAnsweredBy (va_Pc [.ref (ad 49), .ref (ad 26)] (wd D cA ad base S)) (QI D cA ad base S' r) 0 0 (aB base) := by
  refine Met.ofW (cc := cX6_isAnsweredBy) (maxL := 2) (ret := (some .boolean)) (by decide) rfl ?_
  intro p e s m args below meth c s₁ B hml hv
  obtain ⟨hargs, hwd⟩ := hv
  have hr := B.returns
  have hlocks := B.notSynchronized
  obtain ⟨C, hw⟩ := CX.of (own := RX6) rfl B hml hwd
  have hx := C.1
  have hb := C.2.1
  have hl := lv_entry ([.ref (ad 49), .ref (ad 26)]) (n := 2) (Nat.le_of_ble_eq_true rfl)
  rw [show entryFrame m args 2 = entryFrame m ([.ref (ad 49), .ref (ad 26)] : List Value).toArray 2 from by rw [hargs], lg_entry_eq]
  generalize (lg_sl ([.ref (ad 49), .ref (ad 26)]) ++ List.replicate (2 - (lg_sl ([.ref (ad 49), .ref (ad 26)])).length) Slot.unset).toArray = ls at hl ⊢
  have hl : lv_has ls 2 [(0, .ref (ad 49)), (1, .ref (ad 26))] := hl
  show W p l e rmX6_isAnsweredBy s m args below meth c s.heap [] 0 0 _ _
  refine lv_aload_n hx hb dX6_isAnsweredBy_0 rfl (lv_at hl 1 rfl) ?_
  refine lv_aload_n hx hb dX6_isAnsweredBy_1 rfl (lv_at hl 0 rfl) ?_
  obtain ⟨S_2, r_2, h_2, hf⟩ := bd_some hf
  refine r_bi hw (r_runV (rest := [.ref (ad 26)]) C hw (m_X6_id l D cA ad base fu h_2) mvX6_id gw6_35 ⟨rfl, rfl, Nat.le_of_ble_eq_true rfl, Nat.le_of_ble_eq_true rfl⟩ dq_49 ln_49 vc_6 rfl hl.1 rfl (Nat.le_of_ble_eq_true rfl) dX6_isAnsweredBy_2 (Nat.zero_le _) (Nat.zero_le _)) (fun H locs hw => ?_)
  refine lv_aload_n hx hb dX6_isAnsweredBy_5 rfl (lv_at hl 0 rfl) ?_
  obtain ⟨S_6, r_6, h_6, hf⟩ := bd_some hf
  refine r_bi hw (r_runV (rest := [.int r_2, .ref (ad 26)]) C hw (m_X6_askedName l D cA ad base fu h_6) mvX6_askedName gw6_36 ⟨rfl, rfl, Nat.le_of_ble_eq_true rfl, Nat.le_of_ble_eq_true rfl⟩ dq_49 ln_49 vc_6 rfl hl.1 rfl (Nat.le_of_ble_eq_true rfl) dX6_isAnsweredBy_6 (Nat.zero_le _) (Nat.zero_le _)) (fun H locs hw => ?_)
  refine lv_aload_n hx hb dX6_isAnsweredBy_9 rfl (lv_at hl 0 rfl) ?_
  obtain ⟨S_10, r_10, h_10, hf⟩ := bd_some hf
  refine r_bi hw (r_runV (rest := [.int r_6, .int r_2, .ref (ad 26)]) C hw (m_X6_askedType l D cA ad base fu h_10) mvX6_askedType gw6_37 ⟨rfl, rfl, Nat.le_of_ble_eq_true rfl, Nat.le_of_ble_eq_true rfl⟩ dq_49 ln_49 vc_6 rfl hl.1 rfl (Nat.le_of_ble_eq_true rfl) dX6_isAnsweredBy_10 (Nat.zero_le _) (Nat.zero_le _)) (fun H locs hw => ?_)
  obtain ⟨S_13, r_13, h_13, hf⟩ := bd_some hf
  refine r_bi hw (r_runV (rest := []) C hw (m_X4_isReplyTo l D cA ad base fu h_13) mvX4_isReplyTo gw6_38 ⟨rfl, rfl, Nat.le_of_ble_eq_true rfl, Nat.le_of_ble_eq_true rfl⟩ dq_26 ln_26 vc_4 rfl hl.1 rfl (Nat.le_of_ble_eq_true rfl) dX6_isAnsweredBy_13 (Nat.zero_le _) (Nat.zero_le _)) (fun H locs hw => ?_)
  obtain ⟨z_16, hf⟩ := gd_some hf
  exact r_zret C hw hr hlocks z_16 hf dX6_isAnsweredBy_16
noncomputable def fX6_unsigned (fu : Nat) (x0 : Int32) (S : St) : Option (St × Int64) :=
  some (S, ((x0).toInt64 &&& (4294967295 : Int64)))
theorem msX6_unsigned : MS yX6_unsigned cX6_unsigned 1 (some .long) 1 := ⟨gw6_61, gw6_60, gw1_11, by decide +kernel⟩
def rmX6_unsigned : Room := { frames := 0, cells := 0, slots := 0, locals := 0 }
set_option maxHeartbeats 4000000 in
set_option maxRecDepth 100000 in
theorem m_X6_unsigned (l : Launch) (D : va_G) (cA : FieldType → ClassId) (ad : Nat → Nat) (base : Nat) (fu : Nat) {S S' : St} {x0 : Int32} {r : Int64} (hf : fX6_unsigned fu x0 S = some (S', r)) : Met l yX6_unsigned (GC yX6_unsigned cX6_unsigned 1 (some .long)) rmX6_unsigned (va_Pc [.int x0] (wd D cA ad base S)) (QL D cA ad base S' r) 0 0 (aB base) := by
  refine Met.ofW (cc := cX6_unsigned) (maxL := 1) (ret := (some .long)) (by decide) rfl ?_
  intro p e s m args below meth c s₁ B hml hv
  obtain ⟨hargs, hwd⟩ := hv
  have hr := B.returns
  have hlocks := B.notSynchronized
  obtain ⟨C, hw⟩ := CX.of (own := RX6) rfl B hml hwd
  have hx := C.1
  have hb := C.2.1
  have hl := lv_entry ([.int x0]) (n := 1) (Nat.le_of_ble_eq_true rfl)
  rw [show entryFrame m args 1 = entryFrame m ([.int x0] : List Value).toArray 1 from by rw [hargs], lg_entry_eq]
  generalize (lg_sl ([.int x0]) ++ List.replicate (1 - (lg_sl ([.int x0])).length) Slot.unset).toArray = ls at hl ⊢
  have hl : lv_has ls 1 [(0, .int x0)] := hl
  show W p l e rmX6_unsigned s m args below meth c s.heap [] 0 0 _ _
  refine lv_iload_n hx hb dX6_unsigned_0 rfl (lv_at hl 0 rfl) ?_
  refine lv_i2l hx hb dX6_unsigned_1 rfl ?_
  refine lv_ldc2 hx hb C.2.2.2.1 (C.2.2.2.2.1 _ (gw_of gw6_62 rfl)) dX6_unsigned_2 ?_
  refine lv_land hx hb dX6_unsigned_5 ?_
  exact r_lret C hw hr hlocks hf dX6_unsigned_6
noncomputable def fX6_addUnlike_31 (fu : Nat) (x1 : Int32) (x2 : Int32) (S : St) : Option (St × Int32) :=
  if x1 < 0 then
    some (S, x1)
  else
    if x1 < (10 : Int32) then
      gd (ck x1 10) <|
      sI 61 (x1).toNatClampNeg x2 S fun S_49 =>
      some (S_49, (x1 + (1 : Int32)))
    else
      some (S, x1)
noncomputable def fX6_addUnlike_2 (fu : Nat) (n : Nat) : Int32 → Int32 → Int32 → St → Option (St × Int32) :=
  Nat.rec (motive := fun _ => Int32 → Int32 → Int32 → St → Option (St × Int32)) (fun _ _ _ _ => none) (fun _ k_2 x1 x2 x3 S =>
    if x1 ≤ x3 then
      fX6_addUnlike_31 fu x1 x2 S
    else
      if (10 : Int32) ≤ x3 then
        fX6_addUnlike_31 fu x1 x2 S
      else
        gd (ck x3 10) <|
        if (S.1 61 (x3).toNatClampNeg) = x2 then
          some (S, x1)
        else
          k_2 x1 x2 (x3 + (1 : Int32)) S) n
theorem fX6_addUnlike_2_s (fu : Nat) (n : Nat) (x1 : Int32) (x2 : Int32) (x3 : Int32) (S : St) : fX6_addUnlike_2 fu (n + 1) x1 x2 x3 S = (
    if x1 ≤ x3 then
      fX6_addUnlike_31 fu x1 x2 S
    else
      if (10 : Int32) ≤ x3 then
        fX6_addUnlike_31 fu x1 x2 S
      else
        gd (ck x3 10) <|
        if (S.1 61 (x3).toNatClampNeg) = x2 then
          some (S, x1)
        else
          (fX6_addUnlike_2 fu n) x1 x2 (x3 + (1 : Int32)) S) := rfl
noncomputable def fX6_addUnlike (fu : Nat) (x1 : Int32) (x2 : Int32) (S : St) : Option (St × Int32) :=
  fX6_addUnlike_2 fu fu x1 x2 (0 : Int32) S
theorem mvX6_addUnlike : MV yX6_addUnlike cX6_addUnlike 4 (some .int) RX6 2 := ⟨gw6_70, gw6_69, gs_36, gw1_11, by decide +kernel⟩
def rmX6_addUnlike : Room := { frames := 0, cells := 0, slots := 0, locals := 0 }
set_option maxHeartbeats 4000000 in
set_option maxRecDepth 100000 in
theorem m_X6_addUnlike (l : Launch) (D : va_G) (cA : FieldType → ClassId) (ad : Nat → Nat) (base : Nat) (fu : Nat) {S S' : St} {x1 : Int32} {x2 : Int32} {r : Int32} (hf : fX6_addUnlike fu x1 x2 S = some (S', r)) : Met l yX6_addUnlike (GC yX6_addUnlike cX6_addUnlike 4 (some .int)) rmX6_addUnlike (va_Pc [.ref (ad 49), .int x1, .int x2] (wd D cA ad base S)) (QI D cA ad base S' r) 0 0 (aB base) := by
  refine Met.ofW (cc := cX6_addUnlike) (maxL := 4) (ret := (some .int)) (by decide) rfl ?_
  intro p e s m args below meth c s₁ B hml hv
  obtain ⟨hargs, hwd⟩ := hv
  have hr := B.returns
  have hlocks := B.notSynchronized
  obtain ⟨C, hw⟩ := CX.of (own := RX6) rfl B hml hwd
  have hx := C.1
  have hb := C.2.1
  have hl := lv_entry ([.ref (ad 49), .int x1, .int x2]) (n := 4) (Nat.le_of_ble_eq_true rfl)
  rw [show entryFrame m args 4 = entryFrame m ([.ref (ad 49), .int x1, .int x2] : List Value).toArray 4 from by rw [hargs], lg_entry_eq]
  generalize (lg_sl ([.ref (ad 49), .int x1, .int x2]) ++ List.replicate (4 - (lg_sl ([.ref (ad 49), .int x1, .int x2])).length) Slot.unset).toArray = ls at hl ⊢
  have hl : lv_has ls 4 [(0, .ref (ad 49)), (1, .int x1), (2, .int x2)] := hl
  have J_31 : ∀ (x1 : Int32) (x2 : Int32) (S : St) (H : Heap) (locs : List Loc) (ls : Array Slot), fX6_addUnlike_31 fu x1 x2 S = some (S', r) → lv_has ls 4 [(0, .ref (ad 49)), (1, .int x1), (2, .int x2)] → WS D cA ad base s S H locs → W p l e rmX6_addUnlike s m args below meth c H locs 0 0 (MQ below (QI D cA ad base S' r) args s 0 0 (aB base)) (F0 m 31 ls []) := by
    intro x1 x2 S H locs ls hf hl hw
    refine lv_iload_n hx hb dX6_addUnlike_31 rfl (lv_at hl 1 rfl) ?_
    refine lv_if_lt (tgt := 41) hx hb dX6_addUnlike_32 (by decide) (fun c_32 => ?_) (fun c_32 => ?_)
    · have hf := if_t hf c_32
      refine lv_iload_n hx hb dX6_addUnlike_41 rfl (lv_at hl 1 rfl) ?_
      exact r_iret C hw hr hlocks hf dX6_addUnlike_42
    · have hf := if_f hf c_32
      refine lv_iload_n hx hb dX6_addUnlike_35 rfl (lv_at hl 1 rfl) ?_
      refine lv_bipush (v := (10 : Int32)) hx hb dX6_addUnlike_36 (by decide) ?_
      refine lv_icmp_lt (tgt := 43) hx hb dX6_addUnlike_38 (by decide) (fun c_38 => ?_) (fun c_38 => ?_)
      · have hf := if_t hf c_38
        refine lv_aload_n hx hb dX6_addUnlike_43 rfl (lv_at hl 0 rfl) ?_
        refine r_getR C hw (k := 12) (r := 61) dq_49 ln_49 rfl vc_6 inX6 (by decide) rfl gw2_82 dX6_addUnlike_44 ?_
        refine lv_iload_n hx hb dX6_addUnlike_47 rfl (lv_at hl 1 rfl) ?_
        refine lv_iload_n hx hb dX6_addUnlike_48 rfl (lv_at hl 2 rfl) ?_
        obtain ⟨z_49, hf⟩ := gd_some hf
        obtain ⟨S_49, e_49, hf⟩ := sI_some hf
        refine r_iast C hw (x := 61) dq_61 ln_61 z_49 dX6_addUnlike_49 e_49 (fun H locs hw => ?_)
        refine lv_iload_n hx hb dX6_addUnlike_50 rfl (lv_at hl 1 rfl) ?_
        refine lv_iconst (v := (1 : Int32)) hx hb dX6_addUnlike_51 (by decide) ?_
        refine lv_iadd hx hb dX6_addUnlike_52 ?_
        exact r_iret C hw hr hlocks hf dX6_addUnlike_53
      · have hf := if_f hf c_38
        refine lv_iload_n hx hb dX6_addUnlike_41 rfl (lv_at hl 1 rfl) ?_
        exact r_iret C hw hr hlocks hf dX6_addUnlike_42
  have L_2 : ∀ (n_2 : Nat) (x1 : Int32) (x2 : Int32) (x3 : Int32) (S : St) (H : Heap) (locs : List Loc) (ls : Array Slot), fX6_addUnlike_2 fu n_2 x1 x2 x3 S = some (S', r) → lv_has ls 4 [(0, .ref (ad 49)), (1, .int x1), (2, .int x2), (3, .int x3)] → WS D cA ad base s S H locs → W p l e rmX6_addUnlike s m args below meth c H locs 0 0 (MQ below (QI D cA ad base S' r) args s 0 0 (aB base)) (F0 m 2 ls []) := by
    intro n_2
    induction n_2 with
    | zero =>
      intro x1 x2 x3 S H locs ls hf hl hw
      exact (no_none hf).elim
    | succ n_2 ih_2 =>
      intro x1 x2 x3 S H locs ls hf hl hw
      rw [fX6_addUnlike_2_s] at hf
      refine lv_iload_n hx hb dX6_addUnlike_2 rfl (lv_at hl 3 rfl) ?_
      refine lv_iload_n hx hb dX6_addUnlike_3 rfl (lv_at hl 1 rfl) ?_
      refine lv_icmp_ge (tgt := 31) hx hb dX6_addUnlike_4 (by decide) (fun c_4 => ?_) (fun c_4 => ?_)
      · have hf := if_t hf c_4
        exact J_31 _ _ _ _ _ _ hf (lv_sub hl [0, 1, 2] rfl) hw
      · have hf := if_f hf c_4
        refine lv_iload_n hx hb dX6_addUnlike_7 rfl (lv_at hl 3 rfl) ?_
        refine lv_bipush (v := (10 : Int32)) hx hb dX6_addUnlike_8 (by decide) ?_
        refine lv_icmp_ge (tgt := 31) hx hb dX6_addUnlike_10 (by decide) (fun c_10 => ?_) (fun c_10 => ?_)
        · have hf := if_t hf c_10
          exact J_31 _ _ _ _ _ _ hf (lv_sub hl [0, 1, 2] rfl) hw
        · have hf := if_f hf c_10
          refine lv_aload_n hx hb dX6_addUnlike_13 rfl (lv_at hl 0 rfl) ?_
          refine r_getR C hw (k := 12) (r := 61) dq_49 ln_49 rfl vc_6 inX6 (by decide) rfl gw2_82 dX6_addUnlike_14 ?_
          refine lv_iload_n hx hb dX6_addUnlike_17 rfl (lv_at hl 3 rfl) ?_
          obtain ⟨z_18, hf⟩ := gd_some hf
          refine r_iald C hw (x := 61) dq_61 ln_61 z_18 dX6_addUnlike_18 ?_
          refine lv_iload_n hx hb dX6_addUnlike_19 rfl (lv_at hl 2 rfl) ?_
          refine lv_icmp_ne (tgt := 25) hx hb dX6_addUnlike_20 (by decide) (fun c_20 => ?_) (fun c_20 => ?_)
          · have hf := if_f hf c_20
            refine lv_iinc (v := (x3 + (1 : Int32))) (lv' := [(3, .int (x3 + (1 : Int32))), (0, .ref (ad 49)), (1, .int x1), (2, .int x2)]) hx hb dX6_addUnlike_25 hl (k := 3) rfl rfl (by decide) rfl (fun ls hl => ?_)
            refine lv_goto (tgt := 2) hx hb dX6_addUnlike_28 (by decide) ?_
            exact ih_2 _ _ _ _ _ _ _ hf (lv_sub hl [1, 2, 3, 0] rfl) hw
          · have hf := if_t hf c_20
            refine lv_iload_n hx hb dX6_addUnlike_23 rfl (lv_at hl 1 rfl) ?_
            exact r_iret C hw hr hlocks hf dX6_addUnlike_24
  show W p l e rmX6_addUnlike s m args below meth c s.heap [] 0 0 _ _
  refine lv_iconst (v := (0 : Int32)) hx hb dX6_addUnlike_0 (by decide) ?_
  refine lv_istore_n (lv' := [(3, .int (0 : Int32)), (0, .ref (ad 49)), (1, .int x1), (2, .int x2)]) hx hb dX6_addUnlike_1 rfl hl (by decide) rfl (fun ls hl => ?_)
  exact L_2 fu _ _ _ _ _ _ _ hf (lv_sub hl [1, 2, 3, 0] rfl) hw
noncomputable def fX6_keepSet_63 (fu : Nat) (k_11 : Int32 → Int32 → Int32 → Int32 → Int64 → Int32 → St → Option (St × Int32)) (x2 : Int32) (x3 : Int32) (x4 : Int32) (x5 : Int32) (x6 : Int64) (x8 : Int32) (S : St) : Option (St × Int32) :=
  k_11 x2 x3 x4 x5 x6 (x8 + (1 : Int32)) S
noncomputable def fX6_keepSet_11 (fu : Nat) (n : Nat) : Int32 → Int32 → Int32 → Int32 → Int64 → Int32 → St → Option (St × Int32) :=
  Nat.rec (motive := fun _ => Int32 → Int32 → Int32 → Int32 → Int64 → Int32 → St → Option (St × Int32)) (fun _ _ _ _ _ _ _ => none) (fun _ k_11 x2 x3 x4 x5 x6 x8 S =>
    bd (fX5_size fu 30 S) fun S_14 r_14 =>
    if r_14 ≤ x8 then
      if x5 ≤ 0 then
        some (S_14, x5)
      else
        bd (fX1_put fu x3 x4 x5 x6 S_14) fun S_89 _ =>
        some (S_89, x5)
    else
      bd (fX5_isOf fu 30 x8 x2 x3 x4 S_14) fun S_27 r_27 =>
      if r_27 = 0 then
        fX6_keepSet_63 fu k_11 x2 x3 x4 x5 x6 x8 S_27
      else
        bd (fX5_life fu 30 x8 S_27) fun S_38 r_38 =>
        bd (fX6_unsigned fu r_38 S_38) fun S_41 r_41 =>
        bd (fX5_value fu 30 x8 S_41) fun S_55 r_55 =>
        bd (fX6_addUnlike fu x5 r_55 S_55) fun S_58 r_58 =>
        fX6_keepSet_63 fu k_11 x2 x3 x4 r_58 (if r_41 < x6 then r_41 else x6) x8 S_58) n
theorem fX6_keepSet_11_s (fu : Nat) (n : Nat) (x2 : Int32) (x3 : Int32) (x4 : Int32) (x5 : Int32) (x6 : Int64) (x8 : Int32) (S : St) : fX6_keepSet_11 fu (n + 1) x2 x3 x4 x5 x6 x8 S = (
    bd (fX5_size fu 30 S) fun S_14 r_14 =>
    if r_14 ≤ x8 then
      if x5 ≤ 0 then
        some (S_14, x5)
      else
        bd (fX1_put fu x3 x4 x5 x6 S_14) fun S_89 _ =>
        some (S_89, x5)
    else
      bd (fX5_isOf fu 30 x8 x2 x3 x4 S_14) fun S_27 r_27 =>
      if r_27 = 0 then
        fX6_keepSet_63 fu (fX6_keepSet_11 fu n) x2 x3 x4 x5 x6 x8 S_27
      else
        bd (fX5_life fu 30 x8 S_27) fun S_38 r_38 =>
        bd (fX6_unsigned fu r_38 S_38) fun S_41 r_41 =>
        bd (fX5_value fu 30 x8 S_41) fun S_55 r_55 =>
        bd (fX6_addUnlike fu x5 r_55 S_55) fun S_58 r_58 =>
        fX6_keepSet_63 fu (fX6_keepSet_11 fu n) x2 x3 x4 r_58 (if r_41 < x6 then r_41 else x6) x8 S_58) := rfl
noncomputable def fX6_keepSet (fu : Nat) (x2 : Int32) (x3 : Int32) (x4 : Int32) (S : St) : Option (St × Int32) :=
  fX6_keepSet_11 fu fu x2 x3 x4 (0 : Int32) (4294967296 : Int64) (0 : Int32) S
theorem mvX6_keepSet : MV yX6_keepSet cX6_keepSet 9 (some .int) RX6 4 := ⟨gw6_51, gw6_50, gs_35, gw1_11, by decide +kernel⟩
def rmX6_keepSet : Room := { frames := 2, cells := 0, slots := 0, locals := 52 }
set_option maxHeartbeats 4000000 in
set_option maxRecDepth 100000 in
theorem m_X6_keepSet (l : Launch) (D : va_G) (cA : FieldType → ClassId) (ad : Nat → Nat) (base : Nat) (fu : Nat) {S S' : St} {x2 : Int32} {x3 : Int32} {x4 : Int32} {r : Int32} (hf : fX6_keepSet fu x2 x3 x4 S = some (S', r)) : Met l yX6_keepSet (GC yX6_keepSet cX6_keepSet 9 (some .int)) rmX6_keepSet (va_Pc [.ref (ad 49), .ref (ad 30), .int x2, .int x3, .int x4] (wd D cA ad base S)) (QI D cA ad base S' r) 0 0 (aB base) := by
  refine Met.ofW (cc := cX6_keepSet) (maxL := 9) (ret := (some .int)) (by decide) rfl ?_
  intro p e s m args below meth c s₁ B hml hv
  obtain ⟨hargs, hwd⟩ := hv
  have hr := B.returns
  have hlocks := B.notSynchronized
  obtain ⟨C, hw⟩ := CX.of (own := RX6) rfl B hml hwd
  have hx := C.1
  have hb := C.2.1
  have hl := lv_entry ([.ref (ad 49), .ref (ad 30), .int x2, .int x3, .int x4]) (n := 9) (Nat.le_of_ble_eq_true rfl)
  rw [show entryFrame m args 9 = entryFrame m ([.ref (ad 49), .ref (ad 30), .int x2, .int x3, .int x4] : List Value).toArray 9 from by rw [hargs], lg_entry_eq]
  generalize (lg_sl ([.ref (ad 49), .ref (ad 30), .int x2, .int x3, .int x4]) ++ List.replicate (9 - (lg_sl ([.ref (ad 49), .ref (ad 30), .int x2, .int x3, .int x4])).length) Slot.unset).toArray = ls at hl ⊢
  have hl : lv_has ls 9 [(0, .ref (ad 49)), (1, .ref (ad 30)), (2, .int x2), (3, .int x3), (4, .int x4)] := hl
  have L_11 : ∀ (n_11 : Nat) (x2 : Int32) (x3 : Int32) (x4 : Int32) (x5 : Int32) (x6 : Int64) (x8 : Int32) (S : St) (H : Heap) (locs : List Loc) (ls : Array Slot), fX6_keepSet_11 fu n_11 x2 x3 x4 x5 x6 x8 S = some (S', r) → lv_has ls 9 [(0, .ref (ad 49)), (1, .ref (ad 30)), (2, .int x2), (3, .int x3), (4, .int x4), (5, .int x5), (6, .long x6), (8, .int x8)] → WS D cA ad base s S H locs → W p l e rmX6_keepSet s m args below meth c H locs 0 0 (MQ below (QI D cA ad base S' r) args s 0 0 (aB base)) (F0 m 11 ls []) := by
    intro n_11
    induction n_11 with
    | zero =>
      intro x2 x3 x4 x5 x6 x8 S H locs ls hf hl hw
      exact (no_none hf).elim
    | succ n_11 ih_11 =>
      have J_63 : ∀ (x2 : Int32) (x3 : Int32) (x4 : Int32) (x5 : Int32) (x6 : Int64) (x8 : Int32) (S : St) (H : Heap) (locs : List Loc) (ls : Array Slot), fX6_keepSet_63 fu (fX6_keepSet_11 fu n_11) x2 x3 x4 x5 x6 x8 S = some (S', r) → lv_has ls 9 [(0, .ref (ad 49)), (1, .ref (ad 30)), (2, .int x2), (3, .int x3), (4, .int x4), (5, .int x5), (6, .long x6), (8, .int x8)] → WS D cA ad base s S H locs → W p l e rmX6_keepSet s m args below meth c H locs 0 0 (MQ below (QI D cA ad base S' r) args s 0 0 (aB base)) (F0 m 63 ls []) := by
        intro x2 x3 x4 x5 x6 x8 S H locs ls hf hl hw
        refine lv_iinc (v := (x8 + (1 : Int32))) (lv' := [(8, .int (x8 + (1 : Int32))), (0, .ref (ad 49)), (1, .ref (ad 30)), (2, .int x2), (3, .int x3), (4, .int x4), (5, .int x5), (6, .long x6)]) hx hb dX6_keepSet_63 hl (k := 7) rfl rfl (by decide) rfl (fun ls hl => ?_)
        refine lv_goto (tgt := 11) hx hb dX6_keepSet_66 (by decide) ?_
        exact ih_11 _ _ _ _ _ _ _ _ _ _ hf (lv_sub hl [1, 2, 3, 4, 5, 6, 7, 0] rfl) hw
      intro x2 x3 x4 x5 x6 x8 S H locs ls hf hl hw
      rw [fX6_keepSet_11_s] at hf
      refine lv_iload hx hb dX6_keepSet_11 (lv_at hl 7 rfl) ?_
      refine lv_aload_n hx hb dX6_keepSet_13 rfl (lv_at hl 1 rfl) ?_
      obtain ⟨S_14, r_14, h_14, hf⟩ := bd_some hf
      refine r_bi hw (r_runV (rest := [.int x8]) C hw (m_X5_size l D cA ad base fu 30 kRo_30 h_14) mvX5_size gw6_53 ⟨rfl, rfl, Nat.le_of_ble_eq_true rfl, Nat.le_of_ble_eq_true rfl⟩ dq_30 ln_30 vc_5 rfl hl.1 rfl (Nat.le_of_ble_eq_true rfl) dX6_keepSet_14 (Nat.zero_le _) (Nat.zero_le _)) (fun H locs hw => ?_)
      refine lv_icmp_ge (tgt := 69) hx hb dX6_keepSet_17 (by decide) (fun c_17 => ?_) (fun c_17 => ?_)
      · have hf := if_t hf c_17
        refine lv_iload hx hb dX6_keepSet_69 (lv_at hl 5 rfl) ?_
        refine lv_if_le (tgt := 92) hx hb dX6_keepSet_71 (by decide) (fun c_71 => ?_) (fun c_71 => ?_)
        · have hf := if_t hf c_71
          refine lv_iload hx hb dX6_keepSet_92 (lv_at hl 5 rfl) ?_
          exact r_iret C hw hr hlocks hf dX6_keepSet_94
        · have hf := if_f hf c_71
          refine lv_aload_n hx hb dX6_keepSet_74 rfl (lv_at hl 0 rfl) ?_
          refine r_getR C hw (k := 1) (r := 42) dq_49 ln_49 rfl vc_6 inX6 (by decide) rfl gw2_71 dX6_keepSet_75 ?_
          refine lv_iload_n hx hb dX6_keepSet_78 rfl (lv_at hl 3 rfl) ?_
          refine lv_iload hx hb dX6_keepSet_79 (lv_at hl 4 rfl) ?_
          refine lv_aload_n hx hb dX6_keepSet_81 rfl (lv_at hl 0 rfl) ?_
          refine r_getR C hw (k := 12) (r := 61) dq_49 ln_49 rfl vc_6 inX6 (by decide) rfl gw2_82 dX6_keepSet_82 ?_
          refine lv_iload hx hb dX6_keepSet_85 (lv_at hl 5 rfl) ?_
          refine lv_lload hx hb dX6_keepSet_87 (lv_at hl 6 rfl) ?_
          obtain ⟨S_89, r_89, h_89, hf⟩ := bd_some hf
          refine r_bv hw (r_runV (rest := []) C hw (m_X1_put l D cA ad base fu h_89) mvX1_put gw6_71 ⟨rfl, rfl, Nat.le_of_ble_eq_true rfl, Nat.le_of_ble_eq_true rfl⟩ dq_42 ln_42 vc_1 rfl hl.1 rfl (Nat.le_of_ble_eq_true rfl) dX6_keepSet_89 (Nat.zero_le _) (Nat.zero_le _)) (fun H locs hw => ?_)
          refine lv_iload hx hb dX6_keepSet_92 (lv_at hl 5 rfl) ?_
          exact r_iret C hw hr hlocks hf dX6_keepSet_94
      · have hf := if_f hf c_17
        refine lv_aload_n hx hb dX6_keepSet_20 rfl (lv_at hl 1 rfl) ?_
        refine lv_iload hx hb dX6_keepSet_21 (lv_at hl 7 rfl) ?_
        refine lv_iload_n hx hb dX6_keepSet_23 rfl (lv_at hl 2 rfl) ?_
        refine lv_iload_n hx hb dX6_keepSet_24 rfl (lv_at hl 3 rfl) ?_
        refine lv_iload hx hb dX6_keepSet_25 (lv_at hl 4 rfl) ?_
        obtain ⟨S_27, r_27, h_27, hf⟩ := bd_some hf
        refine r_bi hw (r_runV (rest := []) C hw (m_X5_isOf l D cA ad base fu 30 kRo_30 h_27) mvX5_isOf gw6_54 ⟨rfl, rfl, Nat.le_of_ble_eq_true rfl, Nat.le_of_ble_eq_true rfl⟩ dq_30 ln_30 vc_5 rfl hl.1 rfl (Nat.le_of_ble_eq_true rfl) dX6_keepSet_27 (Nat.zero_le _) (Nat.zero_le _)) (fun H locs hw => ?_)
        refine lv_if_eq (tgt := 63) hx hb dX6_keepSet_30 (by decide) (fun c_30 => ?_) (fun c_30 => ?_)
        · have hf := if_t hf c_30
          exact J_63 _ _ _ _ _ _ _ _ _ _ hf (lv_sub hl [0, 1, 2, 3, 4, 5, 6, 7] rfl) hw
        · have hf := if_f hf c_30
          refine lv_lload hx hb dX6_keepSet_33 (lv_at hl 6 rfl) ?_
          refine lv_aload_n hx hb dX6_keepSet_35 rfl (lv_at hl 1 rfl) ?_
          refine lv_iload hx hb dX6_keepSet_36 (lv_at hl 7 rfl) ?_
          obtain ⟨S_38, r_38, h_38, hf⟩ := bd_some hf
          refine r_bi hw (r_runV (rest := [.long x6]) C hw (m_X5_life l D cA ad base fu 30 kRo_30 h_38) mvX5_life gw6_58 ⟨rfl, rfl, Nat.le_of_ble_eq_true rfl, Nat.le_of_ble_eq_true rfl⟩ dq_30 ln_30 vc_5 rfl hl.1 rfl (Nat.le_of_ble_eq_true rfl) dX6_keepSet_38 (Nat.zero_le _) (Nat.zero_le _)) (fun H locs hw => ?_)
          obtain ⟨S_41, r_41, h_41, hf⟩ := bd_some hf
          refine r_bl hw (r_runS (rest := [.long x6]) C hw (m_X6_unsigned l D cA ad base fu h_41) msX6_unsigned gw6_59 ⟨rfl, rfl, Nat.le_of_ble_eq_true rfl, Nat.le_of_ble_eq_true rfl⟩ rfl hl.1 rfl (Nat.le_of_ble_eq_true rfl) dX6_keepSet_41 (Nat.zero_le _) (Nat.zero_le _)) (fun H locs hw => ?_)
          refine r_min C hl.1 gw6_63 (Nat.le_of_ble_eq_true rfl) (Nat.le_of_ble_eq_true rfl) (Nat.zero_le _) (Nat.zero_le _) dX6_keepSet_44 ?_
          refine lv_lstore (lv' := [(6, .long (if r_41 < x6 then r_41 else x6)), (0, .ref (ad 49)), (1, .ref (ad 30)), (2, .int x2), (3, .int x3), (4, .int x4), (5, .int x5), (8, .int x8)]) hx hb dX6_keepSet_47 hl (by decide) rfl (fun ls hl => ?_)
          refine lv_aload_n hx hb dX6_keepSet_49 rfl (lv_at hl 1 rfl) ?_
          refine lv_iload hx hb dX6_keepSet_50 (lv_at hl 6 rfl) ?_
          refine lv_aload_n hx hb dX6_keepSet_52 rfl (lv_at hl 2 rfl) ?_
          refine lv_iload hx hb dX6_keepSet_53 (lv_at hl 7 rfl) ?_
          obtain ⟨S_55, r_55, h_55, hf⟩ := bd_some hf
          refine r_bi hw (r_runV (rest := [.int x5, .ref (ad 49)]) C hw (m_X5_value l D cA ad base fu 30 kRo_30 h_55) mvX5_value gw6_66 ⟨rfl, rfl, Nat.le_of_ble_eq_true rfl, Nat.le_of_ble_eq_true rfl⟩ dq_30 ln_30 vc_5 rfl hl.1 rfl (Nat.le_of_ble_eq_true rfl) dX6_keepSet_55 (Nat.zero_le _) (Nat.zero_le _)) (fun H locs hw => ?_)
          obtain ⟨S_58, r_58, h_58, hf⟩ := bd_some hf
          refine r_bi hw (r_runV (rest := []) C hw (m_X6_addUnlike l D cA ad base fu h_58) mvX6_addUnlike gw6_67 ⟨rfl, rfl, Nat.le_of_ble_eq_true rfl, Nat.le_of_ble_eq_true rfl⟩ dq_49 ln_49 vc_6 rfl hl.1 rfl (Nat.le_of_ble_eq_true rfl) dX6_keepSet_58 (Nat.zero_le _) (Nat.zero_le _)) (fun H locs hw => ?_)
          refine lv_istore (lv' := [(5, .int r_58), (6, .long (if r_41 < x6 then r_41 else x6)), (0, .ref (ad 49)), (1, .ref (ad 30)), (2, .int x2), (3, .int x3), (4, .int x4), (8, .int x8)]) hx hb dX6_keepSet_61 hl (by decide) rfl (fun ls hl => ?_)
          exact J_63 _ _ _ _ _ _ _ _ _ _ hf (lv_sub hl [2, 3, 4, 5, 6, 0, 1, 7] rfl) hw
  show W p l e rmX6_keepSet s m args below meth c s.heap [] 0 0 _ _
  refine lv_iconst (v := (0 : Int32)) hx hb dX6_keepSet_0 (by decide) ?_
  refine lv_istore (lv' := [(5, .int (0 : Int32)), (0, .ref (ad 49)), (1, .ref (ad 30)), (2, .int x2), (3, .int x3), (4, .int x4)]) hx hb dX6_keepSet_1 hl (by decide) rfl (fun ls hl => ?_)
  refine lv_ldc2 hx hb C.2.2.2.1 (C.2.2.2.2.1 _ (gw_of gw6_52 rfl)) dX6_keepSet_3 ?_
  refine lv_lstore (lv' := [(6, .long (4294967296 : Int64)), (5, .int (0 : Int32)), (0, .ref (ad 49)), (1, .ref (ad 30)), (2, .int x2), (3, .int x3), (4, .int x4)]) hx hb dX6_keepSet_6 hl (by decide) rfl (fun ls hl => ?_)
  refine lv_iconst (v := (0 : Int32)) hx hb dX6_keepSet_8 (by decide) ?_
  refine lv_istore (lv' := [(8, .int (0 : Int32)), (6, .long (4294967296 : Int64)), (5, .int (0 : Int32)), (0, .ref (ad 49)), (1, .ref (ad 30)), (2, .int x2), (3, .int x3), (4, .int x4)]) hx hb dX6_keepSet_9 hl (by decide) rfl (fun ls hl => ?_)
  exact L_11 fu _ _ _ _ _ _ _ _ _ _ hf (lv_sub hl [3, 4, 5, 6, 7, 2, 1, 0] rfl) hw
noncomputable def fX6_keepFirstAlias_2 (fu : Nat) (n : Nat) : Int32 → Int32 → St → Option (St × Int32) :=
  Nat.rec (motive := fun _ => Int32 → Int32 → St → Option (St × Int32)) (fun _ _ _ => none) (fun _ k_2 x2 x3 S =>
    bd (fX5_size fu 30 S) fun S_4 r_4 =>
    if r_4 ≤ x3 then
      some (S_4, (0 : Int32))
    else
      bd (fX5_isOf fu 30 x3 (0 : Int32) x2 (5 : Int32) S_4) fun S_15 r_15 =>
      if r_15 = 0 then
        k_2 x2 (x3 + (1 : Int32)) S_15
      else
        bd (fX5_value fu 30 x3 S_15) fun S_28 r_28 =>
        gd (ck (0 : Int32) 10) <|
        sI 61 ((0 : Int32)).toNatClampNeg r_28 S_28 fun S_31 =>
        bd (fX5_life fu 30 x3 S_31) fun S_45 r_45 =>
        bd (fX6_unsigned fu r_45 S_45) fun S_48 r_48 =>
        bd (fX1_put fu x2 (5 : Int32) (1 : Int32) r_48 S_48) fun S_51 _ =>
        some (S_51, (1 : Int32))) n
theorem fX6_keepFirstAlias_2_s (fu : Nat) (n : Nat) (x2 : Int32) (x3 : Int32) (S : St) : fX6_keepFirstAlias_2 fu (n + 1) x2 x3 S = (
    bd (fX5_size fu 30 S) fun S_4 r_4 =>
    if r_4 ≤ x3 then
      some (S_4, (0 : Int32))
    else
      bd (fX5_isOf fu 30 x3 (0 : Int32) x2 (5 : Int32) S_4) fun S_15 r_15 =>
      if r_15 = 0 then
        (fX6_keepFirstAlias_2 fu n) x2 (x3 + (1 : Int32)) S_15
      else
        bd (fX5_value fu 30 x3 S_15) fun S_28 r_28 =>
        gd (ck (0 : Int32) 10) <|
        sI 61 ((0 : Int32)).toNatClampNeg r_28 S_28 fun S_31 =>
        bd (fX5_life fu 30 x3 S_31) fun S_45 r_45 =>
        bd (fX6_unsigned fu r_45 S_45) fun S_48 r_48 =>
        bd (fX1_put fu x2 (5 : Int32) (1 : Int32) r_48 S_48) fun S_51 _ =>
        some (S_51, (1 : Int32))) := rfl
noncomputable def fX6_keepFirstAlias (fu : Nat) (x2 : Int32) (S : St) : Option (St × Int32) :=
  fX6_keepFirstAlias_2 fu fu x2 (0 : Int32) S
theorem mvX6_keepFirstAlias : MV yX6_keepFirstAlias cX6_keepFirstAlias 4 (some .boolean) RX6 2 := ⟨gw6_82, gw6_81, gs_38, gw1_11, by decide +kernel⟩
def rmX6_keepFirstAlias : Room := { frames := 2, cells := 0, slots := 0, locals := 52 }
set_option maxHeartbeats 4000000 in
set_option maxRecDepth 100000 in
theorem m_X6_keepFirstAlias (l : Launch) (D : va_G) (cA : FieldType → ClassId) (ad : Nat → Nat) (base : Nat) (fu : Nat) {S S' : St} {x2 : Int32} {r : Int32} (hf : fX6_keepFirstAlias fu x2 S = some (S', r)) : Met l yX6_keepFirstAlias (GC yX6_keepFirstAlias cX6_keepFirstAlias 4 (some .boolean)) rmX6_keepFirstAlias (va_Pc [.ref (ad 49), .ref (ad 30), .int x2] (wd D cA ad base S)) (QI D cA ad base S' r) 0 0 (aB base) := by
  refine Met.ofW (cc := cX6_keepFirstAlias) (maxL := 4) (ret := (some .boolean)) (by decide) rfl ?_
  intro p e s m args below meth c s₁ B hml hv
  obtain ⟨hargs, hwd⟩ := hv
  have hr := B.returns
  have hlocks := B.notSynchronized
  obtain ⟨C, hw⟩ := CX.of (own := RX6) rfl B hml hwd
  have hx := C.1
  have hb := C.2.1
  have hl := lv_entry ([.ref (ad 49), .ref (ad 30), .int x2]) (n := 4) (Nat.le_of_ble_eq_true rfl)
  rw [show entryFrame m args 4 = entryFrame m ([.ref (ad 49), .ref (ad 30), .int x2] : List Value).toArray 4 from by rw [hargs], lg_entry_eq]
  generalize (lg_sl ([.ref (ad 49), .ref (ad 30), .int x2]) ++ List.replicate (4 - (lg_sl ([.ref (ad 49), .ref (ad 30), .int x2])).length) Slot.unset).toArray = ls at hl ⊢
  have hl : lv_has ls 4 [(0, .ref (ad 49)), (1, .ref (ad 30)), (2, .int x2)] := hl
  have L_2 : ∀ (n_2 : Nat) (x2 : Int32) (x3 : Int32) (S : St) (H : Heap) (locs : List Loc) (ls : Array Slot), fX6_keepFirstAlias_2 fu n_2 x2 x3 S = some (S', r) → lv_has ls 4 [(0, .ref (ad 49)), (1, .ref (ad 30)), (2, .int x2), (3, .int x3)] → WS D cA ad base s S H locs → W p l e rmX6_keepFirstAlias s m args below meth c H locs 0 0 (MQ below (QI D cA ad base S' r) args s 0 0 (aB base)) (F0 m 2 ls []) := by
    intro n_2
    induction n_2 with
    | zero =>
      intro x2 x3 S H locs ls hf hl hw
      exact (no_none hf).elim
    | succ n_2 ih_2 =>
      intro x2 x3 S H locs ls hf hl hw
      rw [fX6_keepFirstAlias_2_s] at hf
      refine lv_iload_n hx hb dX6_keepFirstAlias_2 rfl (lv_at hl 3 rfl) ?_
      refine lv_aload_n hx hb dX6_keepFirstAlias_3 rfl (lv_at hl 1 rfl) ?_
      obtain ⟨S_4, r_4, h_4, hf⟩ := bd_some hf
      refine r_bi hw (r_runV (rest := [.int x3]) C hw (m_X5_size l D cA ad base fu 30 kRo_30 h_4) mvX5_size gw6_53 ⟨rfl, rfl, Nat.le_of_ble_eq_true rfl, Nat.le_of_ble_eq_true rfl⟩ dq_30 ln_30 vc_5 rfl hl.1 rfl (Nat.le_of_ble_eq_true rfl) dX6_keepFirstAlias_4 (Nat.zero_le _) (Nat.zero_le _)) (fun H locs hw => ?_)
      refine lv_icmp_ge (tgt := 62) hx hb dX6_keepFirstAlias_7 (by decide) (fun c_7 => ?_) (fun c_7 => ?_)
      · have hf := if_t hf c_7
        refine lv_iconst (v := (0 : Int32)) hx hb dX6_keepFirstAlias_62 (by decide) ?_
        exact r_zret C hw hr hlocks rfl hf dX6_keepFirstAlias_63
      · have hf := if_f hf c_7
        refine lv_aload_n hx hb dX6_keepFirstAlias_10 rfl (lv_at hl 1 rfl) ?_
        refine lv_iload_n hx hb dX6_keepFirstAlias_11 rfl (lv_at hl 3 rfl) ?_
        refine lv_iconst (v := (0 : Int32)) hx hb dX6_keepFirstAlias_12 (by decide) ?_
        refine lv_iload_n hx hb dX6_keepFirstAlias_13 rfl (lv_at hl 2 rfl) ?_
        refine lv_iconst (v := (5 : Int32)) hx hb dX6_keepFirstAlias_14 (by decide) ?_
        obtain ⟨S_15, r_15, h_15, hf⟩ := bd_some hf
        refine r_bi hw (r_runV (rest := []) C hw (m_X5_isOf l D cA ad base fu 30 kRo_30 h_15) mvX5_isOf gw6_54 ⟨rfl, rfl, Nat.le_of_ble_eq_true rfl, Nat.le_of_ble_eq_true rfl⟩ dq_30 ln_30 vc_5 rfl hl.1 rfl (Nat.le_of_ble_eq_true rfl) dX6_keepFirstAlias_15 (Nat.zero_le _) (Nat.zero_le _)) (fun H locs hw => ?_)
        refine lv_if_eq (tgt := 56) hx hb dX6_keepFirstAlias_18 (by decide) (fun c_18 => ?_) (fun c_18 => ?_)
        · have hf := if_t hf c_18
          refine lv_iinc (v := (x3 + (1 : Int32))) (lv' := [(3, .int (x3 + (1 : Int32))), (0, .ref (ad 49)), (1, .ref (ad 30)), (2, .int x2)]) hx hb dX6_keepFirstAlias_56 hl (k := 3) rfl rfl (by decide) rfl (fun ls hl => ?_)
          refine lv_goto (tgt := 2) hx hb dX6_keepFirstAlias_59 (by decide) ?_
          exact ih_2 _ _ _ _ _ _ hf (lv_sub hl [1, 2, 3, 0] rfl) hw
        · have hf := if_f hf c_18
          refine lv_aload_n hx hb dX6_keepFirstAlias_21 rfl (lv_at hl 0 rfl) ?_
          refine r_getR C hw (k := 12) (r := 61) dq_49 ln_49 rfl vc_6 inX6 (by decide) rfl gw2_82 dX6_keepFirstAlias_22 ?_
          refine lv_iconst (v := (0 : Int32)) hx hb dX6_keepFirstAlias_25 (by decide) ?_
          refine lv_aload_n hx hb dX6_keepFirstAlias_26 rfl (lv_at hl 1 rfl) ?_
          refine lv_iload_n hx hb dX6_keepFirstAlias_27 rfl (lv_at hl 3 rfl) ?_
          obtain ⟨S_28, r_28, h_28, hf⟩ := bd_some hf
          refine r_bi hw (r_runV (rest := [.int (0 : Int32), .ref (ad 61)]) C hw (m_X5_value l D cA ad base fu 30 kRo_30 h_28) mvX5_value gw6_66 ⟨rfl, rfl, Nat.le_of_ble_eq_true rfl, Nat.le_of_ble_eq_true rfl⟩ dq_30 ln_30 vc_5 rfl hl.1 rfl (Nat.le_of_ble_eq_true rfl) dX6_keepFirstAlias_28 (Nat.zero_le _) (Nat.zero_le _)) (fun H locs hw => ?_)
          obtain ⟨z_31, hf⟩ := gd_some hf
          obtain ⟨S_31, e_31, hf⟩ := sI_some hf
          refine r_iast C hw (x := 61) dq_61 ln_61 z_31 dX6_keepFirstAlias_31 e_31 (fun H locs hw => ?_)
          refine lv_aload_n hx hb dX6_keepFirstAlias_32 rfl (lv_at hl 0 rfl) ?_
          refine r_getR C hw (k := 1) (r := 42) dq_49 ln_49 rfl vc_6 inX6 (by decide) rfl gw2_71 dX6_keepFirstAlias_33 ?_
          refine lv_iload_n hx hb dX6_keepFirstAlias_36 rfl (lv_at hl 2 rfl) ?_
          refine lv_iconst (v := (5 : Int32)) hx hb dX6_keepFirstAlias_37 (by decide) ?_
          refine lv_aload_n hx hb dX6_keepFirstAlias_38 rfl (lv_at hl 0 rfl) ?_
          refine r_getR C hw (k := 12) (r := 61) dq_49 ln_49 rfl vc_6 inX6 (by decide) rfl gw2_82 dX6_keepFirstAlias_39 ?_
          refine lv_iconst (v := (1 : Int32)) hx hb dX6_keepFirstAlias_42 (by decide) ?_
          refine lv_aload_n hx hb dX6_keepFirstAlias_43 rfl (lv_at hl 1 rfl) ?_
          refine lv_iload_n hx hb dX6_keepFirstAlias_44 rfl (lv_at hl 3 rfl) ?_
          obtain ⟨S_45, r_45, h_45, hf⟩ := bd_some hf
          refine r_bi hw (r_runV (rest := [.int (1 : Int32), .ref (ad 61), .int (5 : Int32), .int x2, .ref (ad 42)]) C hw (m_X5_life l D cA ad base fu 30 kRo_30 h_45) mvX5_life gw6_58 ⟨rfl, rfl, Nat.le_of_ble_eq_true rfl, Nat.le_of_ble_eq_true rfl⟩ dq_30 ln_30 vc_5 rfl hl.1 rfl (Nat.le_of_ble_eq_true rfl) dX6_keepFirstAlias_45 (Nat.zero_le _) (Nat.zero_le _)) (fun H locs hw => ?_)
          obtain ⟨S_48, r_48, h_48, hf⟩ := bd_some hf
          refine r_bl hw (r_runS (rest := [.int (1 : Int32), .ref (ad 61), .int (5 : Int32), .int x2, .ref (ad 42)]) C hw (m_X6_unsigned l D cA ad base fu h_48) msX6_unsigned gw6_59 ⟨rfl, rfl, Nat.le_of_ble_eq_true rfl, Nat.le_of_ble_eq_true rfl⟩ rfl hl.1 rfl (Nat.le_of_ble_eq_true rfl) dX6_keepFirstAlias_48 (Nat.zero_le _) (Nat.zero_le _)) (fun H locs hw => ?_)
          obtain ⟨S_51, r_51, h_51, hf⟩ := bd_some hf
          refine r_bv hw (r_runV (rest := []) C hw (m_X1_put l D cA ad base fu h_51) mvX1_put gw6_71 ⟨rfl, rfl, Nat.le_of_ble_eq_true rfl, Nat.le_of_ble_eq_true rfl⟩ dq_42 ln_42 vc_1 rfl hl.1 rfl (Nat.le_of_ble_eq_true rfl) dX6_keepFirstAlias_51 (Nat.zero_le _) (Nat.zero_le _)) (fun H locs hw => ?_)
          refine lv_iconst (v := (1 : Int32)) hx hb dX6_keepFirstAlias_54 (by decide) ?_
          exact r_zret C hw hr hlocks rfl hf dX6_keepFirstAlias_55
  show W p l e rmX6_keepFirstAlias s m args below meth c s.heap [] 0 0 _ _
  refine lv_iconst (v := (0 : Int32)) hx hb dX6_keepFirstAlias_0 (by decide) ?_
  refine lv_istore_n (lv' := [(3, .int (0 : Int32)), (0, .ref (ad 49)), (1, .ref (ad 30)), (2, .int x2)]) hx hb dX6_keepFirstAlias_1 rfl hl (by decide) rfl (fun ls hl => ?_)
  exact L_2 fu _ _ _ _ _ _ hf (lv_sub hl [1, 2, 3, 0] rfl) hw
noncomputable def fX6_keepNothing (fu : Nat) (x2 : Int32) (x3 : Int32) (x4 : Int32) (S : St) : Option (St × Int32) :=
  bd (fX5_life fu 30 x2 S) fun S_2 r_2 =>
  bd (fX6_unsigned fu r_2 S_2) fun S_5 r_5 =>
  bd (fX5_value fu 30 x2 S_5) fun S_10 r_10 =>
  bd (fX6_unsigned fu r_10 S_10) fun S_13 r_13 =>
  bd (fX1_put fu x3 x4 (0 : Int32) (if r_13 < r_5 then r_13 else r_5) S_13) fun S_35 _ =>
  some (S_35, (0 : Int32))
theorem mvX6_keepNothing : MV yX6_keepNothing cX6_keepNothing 7 none RX6 4 := ⟨gw6_94, gw6_93, gs_39, gw1_11, by decide +kernel⟩
def rmX6_keepNothing : Room := { frames := 2, cells := 0, slots := 0, locals := 52 }
set_option maxHeartbeats 4000000 in
set_option maxRecDepth 100000 in
theorem m_X6_keepNothing (l : Launch) (D : va_G) (cA : FieldType → ClassId) (ad : Nat → Nat) (base : Nat) (fu : Nat) {S S' : St} {x2 : Int32} {x3 : Int32} {x4 : Int32} {r : Int32} (hf : fX6_keepNothing fu x2 x3 x4 S = some (S', r)) : Met l yX6_keepNothing (GC yX6_keepNothing cX6_keepNothing 7 none) rmX6_keepNothing (va_Pc [.ref (ad 49), .ref (ad 30), .int x2, .int x3, .int x4] (wd D cA ad base S)) (QV D cA ad base S') 0 0 (aB base) := by
  refine Met.ofW (cc := cX6_keepNothing) (maxL := 7) (ret := none) (by decide) rfl ?_
  intro p e s m args below meth c s₁ B hml hv
  obtain ⟨hargs, hwd⟩ := hv
  have hr := B.returns
  have hlocks := B.notSynchronized
  obtain ⟨C, hw⟩ := CX.of (own := RX6) rfl B hml hwd
  have hx := C.1
  have hb := C.2.1
  have hl := lv_entry ([.ref (ad 49), .ref (ad 30), .int x2, .int x3, .int x4]) (n := 7) (Nat.le_of_ble_eq_true rfl)
  rw [show entryFrame m args 7 = entryFrame m ([.ref (ad 49), .ref (ad 30), .int x2, .int x3, .int x4] : List Value).toArray 7 from by rw [hargs], lg_entry_eq]
  generalize (lg_sl ([.ref (ad 49), .ref (ad 30), .int x2, .int x3, .int x4]) ++ List.replicate (7 - (lg_sl ([.ref (ad 49), .ref (ad 30), .int x2, .int x3, .int x4])).length) Slot.unset).toArray = ls at hl ⊢
  have hl : lv_has ls 7 [(0, .ref (ad 49)), (1, .ref (ad 30)), (2, .int x2), (3, .int x3), (4, .int x4)] := hl
  show W p l e rmX6_keepNothing s m args below meth c s.heap [] 0 0 _ _
  refine lv_aload_n hx hb dX6_keepNothing_0 rfl (lv_at hl 1 rfl) ?_
  refine lv_iload_n hx hb dX6_keepNothing_1 rfl (lv_at hl 2 rfl) ?_
  obtain ⟨S_2, r_2, h_2, hf⟩ := bd_some hf
  refine r_bi hw (r_runV (rest := []) C hw (m_X5_life l D cA ad base fu 30 kRo_30 h_2) mvX5_life gw6_58 ⟨rfl, rfl, Nat.le_of_ble_eq_true rfl, Nat.le_of_ble_eq_true rfl⟩ dq_30 ln_30 vc_5 rfl hl.1 rfl (Nat.le_of_ble_eq_true rfl) dX6_keepNothing_2 (Nat.zero_le _) (Nat.zero_le _)) (fun H locs hw => ?_)
  obtain ⟨S_5, r_5, h_5, hf⟩ := bd_some hf
  refine r_bl hw (r_runS (rest := []) C hw (m_X6_unsigned l D cA ad base fu h_5) msX6_unsigned gw6_59 ⟨rfl, rfl, Nat.le_of_ble_eq_true rfl, Nat.le_of_ble_eq_true rfl⟩ rfl hl.1 rfl (Nat.le_of_ble_eq_true rfl) dX6_keepNothing_5 (Nat.zero_le _) (Nat.zero_le _)) (fun H locs hw => ?_)
  refine lv_aload_n hx hb dX6_keepNothing_8 rfl (lv_at hl 1 rfl) ?_
  refine lv_iload_n hx hb dX6_keepNothing_9 rfl (lv_at hl 2 rfl) ?_
  obtain ⟨S_10, r_10, h_10, hf⟩ := bd_some hf
  refine r_bi hw (r_runV (rest := [.long r_5]) C hw (m_X5_value l D cA ad base fu 30 kRo_30 h_10) mvX5_value gw6_66 ⟨rfl, rfl, Nat.le_of_ble_eq_true rfl, Nat.le_of_ble_eq_true rfl⟩ dq_30 ln_30 vc_5 rfl hl.1 rfl (Nat.le_of_ble_eq_true rfl) dX6_keepNothing_10 (Nat.zero_le _) (Nat.zero_le _)) (fun H locs hw => ?_)
  obtain ⟨S_13, r_13, h_13, hf⟩ := bd_some hf
  refine r_bl hw (r_runS (rest := [.long r_5]) C hw (m_X6_unsigned l D cA ad base fu h_13) msX6_unsigned gw6_59 ⟨rfl, rfl, Nat.le_of_ble_eq_true rfl, Nat.le_of_ble_eq_true rfl⟩ rfl hl.1 rfl (Nat.le_of_ble_eq_true rfl) dX6_keepNothing_13 (Nat.zero_le _) (Nat.zero_le _)) (fun H locs hw => ?_)
  refine r_min C hl.1 gw6_63 (Nat.le_of_ble_eq_true rfl) (Nat.le_of_ble_eq_true rfl) (Nat.zero_le _) (Nat.zero_le _) dX6_keepNothing_16 ?_
  refine lv_lstore (lv' := [(5, .long (if r_13 < r_5 then r_13 else r_5)), (0, .ref (ad 49)), (1, .ref (ad 30)), (2, .int x2), (3, .int x3), (4, .int x4)]) hx hb dX6_keepNothing_19 hl (by decide) rfl (fun ls hl => ?_)
  refine lv_aload_n hx hb dX6_keepNothing_21 rfl (lv_at hl 1 rfl) ?_
  refine r_getR C hw (k := 1) (r := 42) dq_49 ln_49 rfl vc_6 inX6 (by decide) rfl gw2_71 dX6_keepNothing_22 ?_
  refine lv_iload_n hx hb dX6_keepNothing_25 rfl (lv_at hl 4 rfl) ?_
  refine lv_iload hx hb dX6_keepNothing_26 (lv_at hl 5 rfl) ?_
  refine lv_aload_n hx hb dX6_keepNothing_28 rfl (lv_at hl 1 rfl) ?_
  refine r_getR C hw (k := 12) (r := 61) dq_49 ln_49 rfl vc_6 inX6 (by decide) rfl gw2_82 dX6_keepNothing_29 ?_
  refine lv_iconst (v := (0 : Int32)) hx hb dX6_keepNothing_32 (by decide) ?_
  refine lv_lload hx hb dX6_keepNothing_33 (lv_at hl 0 rfl) ?_
  obtain ⟨S_35, r_35, h_35, hf⟩ := bd_some hf
  refine r_bv hw (r_runV (rest := []) C hw (m_X1_put l D cA ad base fu h_35) mvX1_put gw6_71 ⟨rfl, rfl, Nat.le_of_ble_eq_true rfl, Nat.le_of_ble_eq_true rfl⟩ dq_42 ln_42 vc_1 rfl hl.1 rfl (Nat.le_of_ble_eq_true rfl) dX6_keepNothing_35 (Nat.zero_le _) (Nat.zero_le _)) (fun H locs hw => ?_)
  exact r_vret C hw hr hlocks hf dX6_keepNothing_38
noncomputable def fX6_keepReferral_115 (fu : Nat) (n : Nat) : Int32 → Int32 → St → Option (St × Int32) :=
  Nat.rec (motive := fun _ => Int32 → Int32 → St → Option (St × Int32)) (fun _ _ _ => none) (fun _ k_115 x6 x7 S =>
    if x6 ≤ x7 then
      some (S, (0 : Int32))
    else
      if (10 : Int32) ≤ x7 then
        some (S, (0 : Int32))
      else
        gd (ck x7 10) <|
        bd (fX6_keepSet fu (2 : Int32) (S.1 62 (x7).toNatClampNeg) (1 : Int32) S) fun S_140 r_140 =>
        k_115 x6 (x7 + (1 : Int32)) S_140) n
theorem fX6_keepReferral_115_s (fu : Nat) (n : Nat) (x6 : Int32) (x7 : Int32) (S : St) : fX6_keepReferral_115 fu (n + 1) x6 x7 S = (
    if x6 ≤ x7 then
      some (S, (0 : Int32))
    else
      if (10 : Int32) ≤ x7 then
        some (S, (0 : Int32))
      else
        gd (ck x7 10) <|
        bd (fX6_keepSet fu (2 : Int32) (S.1 62 (x7).toNatClampNeg) (1 : Int32) S) fun S_140 r_140 =>
        (fX6_keepReferral_115 fu n) x6 (x7 + (1 : Int32)) S_140) := rfl
noncomputable def fX6_keepReferral_112 (fu : Nat) (x6 : Int32) (S : St) : Option (St × Int32) :=
  fX6_keepReferral_115 fu fu x6 (0 : Int32) S
noncomputable def fX6_keepReferral_78 (fu : Nat) (n : Nat) : Int32 → Int32 → St → Option (St × Int32) :=
  Nat.rec (motive := fun _ => Int32 → Int32 → St → Option (St × Int32)) (fun _ _ _ => none) (fun _ k_78 x6 x7 S =>
    if x6 ≤ x7 then
      fX6_keepReferral_112 fu x6 S
    else
      if (10 : Int32) ≤ x7 then
        fX6_keepReferral_112 fu x6 S
      else
        gd (ck x7 10) <|
        gd (ck x7 10) <|
        sI 62 (x7).toNatClampNeg (S.1 61 (x7).toNatClampNeg) S fun S_105 =>
        k_78 x6 (x7 + (1 : Int32)) S_105) n
theorem fX6_keepReferral_78_s (fu : Nat) (n : Nat) (x6 : Int32) (x7 : Int32) (S : St) : fX6_keepReferral_78 fu (n + 1) x6 x7 S = (
    if x6 ≤ x7 then
      fX6_keepReferral_112 fu x6 S
    else
      if (10 : Int32) ≤ x7 then
        fX6_keepReferral_112 fu x6 S
      else
        gd (ck x7 10) <|
        gd (ck x7 10) <|
        sI 62 (x7).toNatClampNeg (S.1 61 (x7).toNatClampNeg) S fun S_105 =>
        (fX6_keepReferral_78 fu n) x6 (x7 + (1 : Int32)) S_105) := rfl
noncomputable def fX6_keepReferral (fu : Nat) (x2 : Int32) (S : St) : Option (St × Int32) :=
  bd (fX5_first fu 30 (1 : Int32) (2 : Int32) S) fun S_3 r_3 =>
  if r_3 = (-1 : Int32) then
    some (S_3, (0 : Int32))
  else
    bd (fX5_owner fu 30 r_3 S_3) fun S_15 r_15 =>
    bd (fX2_topPlace fu S_15) fun S_24 r_24 =>
    if r_15 = r_24 then
      some (S_24, (0 : Int32))
    else
      bd (fX3_isIn fu r_15 r_24 S_24) fun S_44 r_44 =>
      if r_44 = 0 then
        some (S_44, (0 : Int32))
      else
        bd (fX3_isIn fu x2 r_15 S_44) fun S_57 r_57 =>
        if r_57 = 0 then
          some (S_57, (0 : Int32))
        else
          bd (fX6_keepSet fu (1 : Int32) r_15 (2 : Int32) S_57) fun S_70 r_70 =>
          fX6_keepReferral_78 fu fu r_70 (0 : Int32) S_70
theorem mvX6_keepReferral : MV yX6_keepReferral cX6_keepReferral 8 none RX6 2 := ⟨gw6_98, gw6_97, gs_40, gw1_11, by decide +kernel⟩
def rmX6_keepReferral : Room := { frames := 3, cells := 0, slots := 0, locals := 80 }
set_option maxHeartbeats 4000000 in
set_option maxRecDepth 100000 in
theorem m_X6_keepReferral (l : Launch) (D : va_G) (cA : FieldType → ClassId) (ad : Nat → Nat) (base : Nat) (fu : Nat) {S S' : St} {x2 : Int32} {r : Int32} (hf : fX6_keepReferral fu x2 S = some (S', r)) : Met l yX6_keepReferral (GC yX6_keepReferral cX6_keepReferral 8 none) rmX6_keepReferral (va_Pc [.ref (ad 49), .ref (ad 30), .int x2] (wd D cA ad base S)) (QV D cA ad base S') 0 0 (aB base) := by
  refine Met.ofW (cc := cX6_keepReferral) (maxL := 8) (ret := none) (by decide) rfl ?_
  intro p e s m args below meth c s₁ B hml hv
  obtain ⟨hargs, hwd⟩ := hv
  have hr := B.returns
  have hlocks := B.notSynchronized
  obtain ⟨C, hw⟩ := CX.of (own := RX6) rfl B hml hwd
  have hx := C.1
  have hb := C.2.1
  have hl := lv_entry ([.ref (ad 49), .ref (ad 30), .int x2]) (n := 8) (Nat.le_of_ble_eq_true rfl)
  rw [show entryFrame m args 8 = entryFrame m ([.ref (ad 49), .ref (ad 30), .int x2] : List Value).toArray 8 from by rw [hargs], lg_entry_eq]
  generalize (lg_sl ([.ref (ad 49), .ref (ad 30), .int x2]) ++ List.replicate (8 - (lg_sl ([.ref (ad 49), .ref (ad 30), .int x2])).length) Slot.unset).toArray = ls at hl ⊢
  have hl : lv_has ls 8 [(0, .ref (ad 49)), (1, .ref (ad 30)), (2, .int x2)] := hl
  have L_115 : ∀ (n_115 : Nat) (x6 : Int32) (x7 : Int32) (S : St) (H : Heap) (locs : List Loc) (ls : Array Slot), fX6_keepReferral_115 fu n_115 x6 x7 S = some (S', r) → lv_has ls 8 [(0, .ref (ad 49)), (1, .ref (ad 30)), (6, .int x6), (7, .int x7)] → WS D cA ad base s S H locs → W p l e rmX6_keepReferral s m args below meth c H locs 0 0 (MQ below (QV D cA ad base S') args s 0 0 (aB base)) (F0 m 115 ls []) := by
    intro n_115
    induction n_115 with
    | zero =>
      intro x6 x7 S H locs ls hf hl hw
      exact (no_none hf).elim
    | succ n_115 ih_115 =>
      intro x6 x7 S H locs ls hf hl hw
      rw [fX6_keepReferral_115_s] at hf
      refine lv_iload hx hb dX6_keepReferral_115 (lv_at hl 3 rfl) ?_
      refine lv_iload hx hb dX6_keepReferral_117 (lv_at hl 2 rfl) ?_
      refine lv_icmp_ge (tgt := 150) hx hb dX6_keepReferral_119 (by decide) (fun c_119 => ?_) (fun c_119 => ?_)
      · have hf := if_t hf c_119
        exact r_vret C hw hr hlocks hf dX6_keepReferral_150
      · have hf := if_f hf c_119
        refine lv_iload hx hb dX6_keepReferral_122 (lv_at hl 3 rfl) ?_
        refine lv_bipush (v := (10 : Int32)) hx hb dX6_keepReferral_124 (by decide) ?_
        refine lv_icmp_ge (tgt := 150) hx hb dX6_keepReferral_126 (by decide) (fun c_126 => ?_) (fun c_126 => ?_)
        · have hf := if_t hf c_126
          exact r_vret C hw hr hlocks hf dX6_keepReferral_150
        · have hf := if_f hf c_126
          refine lv_aload_n hx hb dX6_keepReferral_129 rfl (lv_at hl 0 rfl) ?_
          refine lv_aload_n hx hb dX6_keepReferral_130 rfl (lv_at hl 1 rfl) ?_
          refine lv_iconst (v := (2 : Int32)) hx hb dX6_keepReferral_131 (by decide) ?_
          refine lv_aload_n hx hb dX6_keepReferral_132 rfl (lv_at hl 0 rfl) ?_
          refine r_getR C hw (k := 13) (r := 62) dq_49 ln_49 rfl vc_6 inX6 (by decide) rfl gw2_83 dX6_keepReferral_133 ?_
          refine lv_iload hx hb dX6_keepReferral_136 (lv_at hl 3 rfl) ?_
          obtain ⟨z_138, hf⟩ := gd_some hf
          refine r_iald C hw (x := 62) dq_62 ln_62 z_138 dX6_keepReferral_138 ?_
          refine lv_iconst (v := (1 : Int32)) hx hb dX6_keepReferral_139 (by decide) ?_
          obtain ⟨S_140, r_140, h_140, hf⟩ := bd_some hf
          refine r_bi hw (r_runV (rest := []) C hw (m_X6_keepSet l D cA ad base fu h_140) mvX6_keepSet gw6_48 ⟨rfl, rfl, Nat.le_of_ble_eq_true rfl, Nat.le_of_ble_eq_true rfl⟩ dq_49 ln_49 vc_6 rfl hl.1 rfl (Nat.le_of_ble_eq_true rfl) dX6_keepReferral_140 (Nat.zero_le _) (Nat.zero_le _)) (fun H locs hw => ?_)
          refine lv_pop hx hb dX6_keepReferral_143 rfl ?_
          refine lv_iinc (v := (x7 + (1 : Int32))) (lv' := [(7, .int (x7 + (1 : Int32))), (0, .ref (ad 49)), (1, .ref (ad 30)), (6, .int x6)]) hx hb dX6_keepReferral_144 hl (k := 3) rfl rfl (by decide) rfl (fun ls hl => ?_)
          refine lv_goto (tgt := 115) hx hb dX6_keepReferral_147 (by decide) ?_
          exact ih_115 _ _ _ _ _ _ hf (lv_sub hl [1, 2, 3, 0] rfl) hw
  have J_112 : ∀ (x6 : Int32) (S : St) (H : Heap) (locs : List Loc) (ls : Array Slot), fX6_keepReferral_112 fu x6 S = some (S', r) → lv_has ls 8 [(0, .ref (ad 49)), (1, .ref (ad 30)), (6, .int x6)] → WS D cA ad base s S H locs → W p l e rmX6_keepReferral s m args below meth c H locs 0 0 (MQ below (QV D cA ad base S') args s 0 0 (aB base)) (F0 m 112 ls []) := by
    intro x6 S H locs ls hf hl hw
    refine lv_iconst (v := (0 : Int32)) hx hb dX6_keepReferral_112 (by decide) ?_
    refine lv_istore (lv' := [(7, .int (0 : Int32)), (0, .ref (ad 49)), (1, .ref (ad 30)), (6, .int x6)]) hx hb dX6_keepReferral_113 hl (by decide) rfl (fun ls hl => ?_)
    exact L_115 fu _ _ _ _ _ _ hf (lv_sub hl [1, 2, 3, 0] rfl) hw
  have L_78 : ∀ (n_78 : Nat) (x6 : Int32) (x7 : Int32) (S : St) (H : Heap) (locs : List Loc) (ls : Array Slot), fX6_keepReferral_78 fu n_78 x6 x7 S = some (S', r) → lv_has ls 8 [(0, .ref (ad 49)), (1, .ref (ad 30)), (6, .int x6), (7, .int x7)] → WS D cA ad base s S H locs → W p l e rmX6_keepReferral s m args below meth c H locs 0 0 (MQ below (QV D cA ad base S') args s 0 0 (aB base)) (F0 m 78 ls []) := by
    intro n_78
    induction n_78 with
    | zero =>
      intro x6 x7 S H locs ls hf hl hw
      exact (no_none hf).elim
    | succ n_78 ih_78 =>
      intro x6 x7 S H locs ls hf hl hw
      rw [fX6_keepReferral_78_s] at hf
      refine lv_iload hx hb dX6_keepReferral_78 (lv_at hl 3 rfl) ?_
      refine lv_iload hx hb dX6_keepReferral_80 (lv_at hl 2 rfl) ?_
      refine lv_icmp_ge (tgt := 112) hx hb dX6_keepReferral_82 (by decide) (fun c_82 => ?_) (fun c_82 => ?_)
      · have hf := if_t hf c_82
        exact J_112 _ _ _ _ _ hf (lv_sub hl [0, 1, 2] rfl) hw
      · have hf := if_f hf c_82
        refine lv_iload hx hb dX6_keepReferral_85 (lv_at hl 3 rfl) ?_
        refine lv_bipush (v := (10 : Int32)) hx hb dX6_keepReferral_87 (by decide) ?_
        refine lv_icmp_ge (tgt := 112) hx hb dX6_keepReferral_89 (by decide) (fun c_89 => ?_) (fun c_89 => ?_)
        · have hf := if_t hf c_89
          exact J_112 _ _ _ _ _ hf (lv_sub hl [0, 1, 2] rfl) hw
        · have hf := if_f hf c_89
          refine lv_aload_n hx hb dX6_keepReferral_92 rfl (lv_at hl 0 rfl) ?_
          refine r_getR C hw (k := 13) (r := 62) dq_49 ln_49 rfl vc_6 inX6 (by decide) rfl gw2_83 dX6_keepReferral_93 ?_
          refine lv_iload hx hb dX6_keepReferral_96 (lv_at hl 3 rfl) ?_
          refine lv_aload_n hx hb dX6_keepReferral_98 rfl (lv_at hl 0 rfl) ?_
          refine r_getR C hw (k := 12) (r := 61) dq_49 ln_49 rfl vc_6 inX6 (by decide) rfl gw2_82 dX6_keepReferral_99 ?_
          refine lv_iload hx hb dX6_keepReferral_102 (lv_at hl 3 rfl) ?_
          obtain ⟨z_104, hf⟩ := gd_some hf
          refine r_iald C hw (x := 61) dq_61 ln_61 z_104 dX6_keepReferral_104 ?_
          obtain ⟨z_105, hf⟩ := gd_some hf
          obtain ⟨S_105, e_105, hf⟩ := sI_some hf
          refine r_iast C hw (x := 62) dq_62 ln_62 z_105 dX6_keepReferral_105 e_105 (fun H locs hw => ?_)
          refine lv_iinc (v := (x7 + (1 : Int32))) (lv' := [(7, .int (x7 + (1 : Int32))), (0, .ref (ad 49)), (1, .ref (ad 30)), (6, .int x6)]) hx hb dX6_keepReferral_106 hl (k := 3) rfl rfl (by decide) rfl (fun ls hl => ?_)
          refine lv_goto (tgt := 78) hx hb dX6_keepReferral_109 (by decide) ?_
          exact ih_78 _ _ _ _ _ _ hf (lv_sub hl [1, 2, 3, 0] rfl) hw
  show W p l e rmX6_keepReferral s m args below meth c s.heap [] 0 0 _ _
  refine lv_aload_n hx hb dX6_keepReferral_0 rfl (lv_at hl 1 rfl) ?_
  refine lv_iconst (v := (1 : Int32)) hx hb dX6_keepReferral_1 (by decide) ?_
  refine lv_iconst (v := (2 : Int32)) hx hb dX6_keepReferral_2 (by decide) ?_
  obtain ⟨S_3, r_3, h_3, hf⟩ := bd_some hf
  refine r_bi hw (r_runV (rest := []) C hw (m_X5_first l D cA ad base fu 30 kRo_30 h_3) mvX5_first gw6_83 ⟨rfl, rfl, Nat.le_of_ble_eq_true rfl, Nat.le_of_ble_eq_true rfl⟩ dq_30 ln_30 vc_5 rfl hl.1 rfl (Nat.le_of_ble_eq_true rfl) dX6_keepReferral_3 (Nat.zero_le _) (Nat.zero_le _)) (fun H locs hw => ?_)
  refine lv_istore_n (lv' := [(3, .int r_3), (0, .ref (ad 49)), (1, .ref (ad 30)), (2, .int x2)]) hx hb dX6_keepReferral_6 rfl hl (by decide) rfl (fun ls hl => ?_)
  refine lv_iload_n hx hb dX6_keepReferral_7 rfl (lv_at hl 0 rfl) ?_
  refine lv_iconst (v := (-1 : Int32)) hx hb dX6_keepReferral_8 (by decide) ?_
  refine lv_icmp_ne (tgt := 13) hx hb dX6_keepReferral_9 (by decide) (fun c_9 => ?_) (fun c_9 => ?_)
  · have hf := if_f hf c_9
    refine lv_aload_n hx hb dX6_keepReferral_13 rfl (lv_at hl 2 rfl) ?_
    refine lv_iload_n hx hb dX6_keepReferral_14 rfl (lv_at hl 0 rfl) ?_
    obtain ⟨S_15, r_15, h_15, hf⟩ := bd_some hf
    refine r_bi hw (r_runV (rest := []) C hw (m_X5_owner l D cA ad base fu 30 kRo_30 h_15) mvX5_owner gw6_99 ⟨rfl, rfl, Nat.le_of_ble_eq_true rfl, Nat.le_of_ble_eq_true rfl⟩ dq_30 ln_30 vc_5 rfl hl.1 rfl (Nat.le_of_ble_eq_true rfl) dX6_keepReferral_15 (Nat.zero_le _) (Nat.zero_le _)) (fun H locs hw => ?_)
    refine lv_istore (lv' := [(4, .int r_15), (3, .int r_3), (0, .ref (ad 49)), (1, .ref (ad 30)), (2, .int x2)]) hx hb dX6_keepReferral_18 hl (by decide) rfl (fun ls hl => ?_)
    refine lv_aload_n hx hb dX6_keepReferral_20 rfl (lv_at hl 2 rfl) ?_
    refine r_getR C hw (k := 2) (r := 50) dq_49 ln_49 rfl vc_6 inX6 (by decide) rfl gw2_72 dX6_keepReferral_21 ?_
    obtain ⟨S_24, r_24, h_24, hf⟩ := bd_some hf
    refine r_bi hw (r_runV (rest := []) C hw (m_X2_topPlace l D cA ad base fu h_24) mvX2_topPlace gw6_100 ⟨rfl, rfl, Nat.le_of_ble_eq_true rfl, Nat.le_of_ble_eq_true rfl⟩ dq_50 ln_50 vc_2 rfl hl.1 rfl (Nat.le_of_ble_eq_true rfl) dX6_keepReferral_24 (Nat.zero_le _) (Nat.zero_le _)) (fun H locs hw => ?_)
    refine lv_istore (lv' := [(5, .int r_24), (4, .int r_15), (3, .int r_3), (0, .ref (ad 49)), (1, .ref (ad 30)), (2, .int x2)]) hx hb dX6_keepReferral_27 hl (by decide) rfl (fun ls hl => ?_)
    refine lv_iload hx hb dX6_keepReferral_29 (lv_at hl 1 rfl) ?_
    refine lv_iload hx hb dX6_keepReferral_31 (lv_at hl 0 rfl) ?_
    refine lv_icmp_eq (tgt := 63) hx hb dX6_keepReferral_33 (by decide) (fun c_33 => ?_) (fun c_33 => ?_)
    · have hf := if_t hf c_33
      exact r_vret C hw hr hlocks hf dX6_keepReferral_63
    · have hf := if_f hf c_33
      refine lv_aload_n hx hb dX6_keepReferral_36 rfl (lv_at hl 3 rfl) ?_
      refine r_getR C hw (k := 0) (r := 3) dq_49 ln_49 rfl vc_6 inX6 (by decide) rfl gw2_70 dX6_keepReferral_37 ?_
      refine lv_iload hx hb dX6_keepReferral_40 (lv_at hl 1 rfl) ?_
      refine lv_iload hx hb dX6_keepReferral_42 (lv_at hl 0 rfl) ?_
      obtain ⟨S_44, r_44, h_44, hf⟩ := bd_some hf
      refine r_bi hw (r_runV (rest := []) C hw (m_X3_isIn l D cA ad base fu h_44) mvX3_isIn gw6_104 ⟨rfl, rfl, Nat.le_of_ble_eq_true rfl, Nat.le_of_ble_eq_true rfl⟩ dq_3 ln_3 vc_3 rfl hl.1 rfl (Nat.le_of_ble_eq_true rfl) dX6_keepReferral_44 (Nat.zero_le _) (Nat.zero_le _)) (fun H locs hw => ?_)
      refine lv_if_eq (tgt := 63) hx hb dX6_keepReferral_47 (by decide) (fun c_47 => ?_) (fun c_47 => ?_)
      · have hf := if_t hf c_47
        exact r_vret C hw hr hlocks hf dX6_keepReferral_63
      · have hf := if_f hf c_47
        refine lv_aload_n hx hb dX6_keepReferral_50 rfl (lv_at hl 3 rfl) ?_
        refine r_getR C hw (k := 0) (r := 3) dq_49 ln_49 rfl vc_6 inX6 (by decide) rfl gw2_70 dX6_keepReferral_51 ?_
        refine lv_iload_n hx hb dX6_keepReferral_54 rfl (lv_at hl 5 rfl) ?_
        refine lv_iload hx hb dX6_keepReferral_55 (lv_at hl 1 rfl) ?_
        obtain ⟨S_57, r_57, h_57, hf⟩ := bd_some hf
        refine r_bi hw (r_runV (rest := []) C hw (m_X3_isIn l D cA ad base fu h_57) mvX3_isIn gw6_104 ⟨rfl, rfl, Nat.le_of_ble_eq_true rfl, Nat.le_of_ble_eq_true rfl⟩ dq_3 ln_3 vc_3 rfl hl.1 rfl (Nat.le_of_ble_eq_true rfl) dX6_keepReferral_57 (Nat.zero_le _) (Nat.zero_le _)) (fun H locs hw => ?_)
        refine lv_if_ne (tgt := 64) hx hb dX6_keepReferral_60 (by decide) (fun c_60 => ?_) (fun c_60 => ?_)
        · have hf := if_f hf c_60
          refine lv_aload_n hx hb dX6_keepReferral_64 rfl (lv_at hl 3 rfl) ?_
          refine lv_aload_n hx hb dX6_keepReferral_65 rfl (lv_at hl 4 rfl) ?_
          refine lv_iconst (v := (1 : Int32)) hx hb dX6_keepReferral_66 (by decide) ?_
          refine lv_iload hx hb dX6_keepReferral_67 (lv_at hl 1 rfl) ?_
          refine lv_iconst (v := (2 : Int32)) hx hb dX6_keepReferral_69 (by decide) ?_
          obtain ⟨S_70, r_70, h_70, hf⟩ := bd_some hf
          refine r_bi hw (r_runV (rest := []) C hw (m_X6_keepSet l D cA ad base fu h_70) mvX6_keepSet gw6_48 ⟨rfl, rfl, Nat.le_of_ble_eq_true rfl, Nat.le_of_ble_eq_true rfl⟩ dq_49 ln_49 vc_6 rfl hl.1 rfl (Nat.le_of_ble_eq_true rfl) dX6_keepReferral_70 (Nat.zero_le _) (Nat.zero_le _)) (fun H locs hw => ?_)
          refine lv_istore (lv' := [(6, .int r_70), (5, .int r_24), (4, .int r_15), (3, .int r_3), (0, .ref (ad 49)), (1, .ref (ad 30)), (2, .int x2)]) hx hb dX6_keepReferral_73 hl (by decide) rfl (fun ls hl => ?_)
          refine lv_iconst (v := (0 : Int32)) hx hb dX6_keepReferral_75 (by decide) ?_
          refine lv_istore (lv' := [(7, .int (0 : Int32)), (6, .int r_70), (5, .int r_24), (4, .int r_15), (3, .int r_3), (0, .ref (ad 49)), (1, .ref (ad 30)), (2, .int x2)]) hx hb dX6_keepReferral_76 hl (by decide) rfl (fun ls hl => ?_)
          exact L_78 fu _ _ _ _ _ _ hf (lv_sub hl [5, 6, 1, 0] rfl) hw
        · have hf := if_t hf c_60
          exact r_vret C hw hr hlocks hf dX6_keepReferral_63
  · have hf := if_t hf c_9
    exact r_vret C hw hr hlocks hf dX6_keepReferral_12
noncomputable def fX6_learn_122 (fu : Nat) (x3 : Int32) (S : St) : Option (St × Int32) :=
  bd (fX6_keepReferral fu x3 S) fun S_125 _ =>
  some (S_125, (0 : Int32))
noncomputable def fX6_learn_87 (fu : Nat) (x3 : Int32) (x4 : Int32) (x5 : Int32) (x6 : Int32) (S : St) : Option (St × Int32) :=
  if x5 = (-1 : Int32) then
    fX6_learn_122 fu x3 S
  else
    if x6 = 0 then
      bd (fX4_flags fu S) fun S_99 r_99 =>
      if (r_99 &&& (1024 : Int32)) = 0 then
        fX6_learn_122 fu x3 S_99
      else
        bd (fX6_keepNothing fu x5 x3 x4 S_99) fun S_116 _ =>
        some (S_116, (0 : Int32))
    else
      fX6_learn_122 fu x3 S
noncomputable def fX6_learn_45 (fu : Nat) (x3 : Int32) (x4 : Int32) (S : St) : Option (St × Int32) :=
  bd (fX5_first fu 30 (1 : Int32) (6 : Int32) S) fun S_49 r_49 =>
  bd (fX4_flags fu S_49) fun S_55 r_55 =>
  if r_49 = (-1 : Int32) then
    fX6_learn_87 fu x3 x4 r_49 (r_55 &&& (15 : Int32)) S_55
  else
    if (r_55 &&& (15 : Int32)) = (3 : Int32) then
      bd (fX6_keepNothing fu r_49 x3 (0 : Int32) S_55) fun S_81 _ =>
      some (S_81, (0 : Int32))
    else
      fX6_learn_87 fu x3 x4 r_49 (r_55 &&& (15 : Int32)) S_55
noncomputable def fX6_learn (fu : Nat) (S : St) : Option (St × Int32) :=
  bd (fX4_rows fu S) fun S_1 _ =>
  bd (fX6_askedName fu S_1) fun S_6 r_6 =>
  bd (fX6_askedType fu S_6) fun S_11 r_11 =>
  bd (fX6_keepSet fu (0 : Int32) r_6 r_11 S_11) fun S_22 r_22 =>
  if r_22 ≤ 0 then
    if r_11 = (5 : Int32) then
      fX6_learn_45 fu r_6 r_11 S_22
    else
      bd (fX6_keepFirstAlias fu r_6 S_22) fun S_38 r_38 =>
      if r_38 = 0 then
        fX6_learn_45 fu r_6 r_11 S_38
      else
        some (S_38, (0 : Int32))
  else
    some (S_22, (0 : Int32))
theorem mvX6_learn : MV yX6_learn cX6_learn 7 none RX6 1 := ⟨gw6_46, gw6_44, gw6_45, gw1_11, by decide +kernel⟩
def rmX6_learn : Room := { frames := 4, cells := 0, slots := 0, locals := 107 }
set_option maxHeartbeats 4000000 in
set_option maxRecDepth 100000 in
theorem m_X6_learn (l : Launch) (D : va_G) (cA : FieldType → ClassId) (ad : Nat → Nat) (base : Nat) (fu : Nat) {S S' : St} {r : Int32} (hf : fX6_learn fu S = some (S', r)) : Met l yX6_learn (GC yX6_learn cX6_learn 7 none) rmX6_learn (va_Pc [.ref (ad 49), .ref (ad 26)] (wd D cA ad base S)) (QV D cA ad base S') 0 0 (aB base) := by
  refine Met.ofW (cc := cX6_learn) (maxL := 7) (ret := none) (by decide) rfl ?_
  intro p e s m args below meth c s₁ B hml hv
  obtain ⟨hargs, hwd⟩ := hv
  have hr := B.returns
  have hlocks := B.notSynchronized
  obtain ⟨C, hw⟩ := CX.of (own := RX6) rfl B hml hwd
  have hx := C.1
  have hb := C.2.1
  have hl := lv_entry ([.ref (ad 49), .ref (ad 26)]) (n := 7) (Nat.le_of_ble_eq_true rfl)
  rw [show entryFrame m args 7 = entryFrame m ([.ref (ad 49), .ref (ad 26)] : List Value).toArray 7 from by rw [hargs], lg_entry_eq]
  generalize (lg_sl ([.ref (ad 49), .ref (ad 26)]) ++ List.replicate (7 - (lg_sl ([.ref (ad 49), .ref (ad 26)])).length) Slot.unset).toArray = ls at hl ⊢
  have hl : lv_has ls 7 [(0, .ref (ad 49)), (1, .ref (ad 26))] := hl
  have J_122 : ∀ (x3 : Int32) (S : St) (H : Heap) (locs : List Loc) (ls : Array Slot), fX6_learn_122 fu x3 S = some (S', r) → lv_has ls 7 [(0, .ref (ad 49)), (2, .ref (ad 30)), (3, .int x3)] → WS D cA ad base s S H locs → W p l e rmX6_learn s m args below meth c H locs 0 0 (MQ below (QV D cA ad base S') args s 0 0 (aB base)) (F0 m 122 ls []) := by
    intro x3 S H locs ls hf hl hw
    refine lv_aload_n hx hb dX6_learn_122 rfl (lv_at hl 0 rfl) ?_
    refine lv_aload_n hx hb dX6_learn_123 rfl (lv_at hl 1 rfl) ?_
    refine lv_iload_n hx hb dX6_learn_124 rfl (lv_at hl 2 rfl) ?_
    obtain ⟨S_125, r_125, h_125, hf⟩ := bd_some hf
    refine r_bv hw (r_runV (rest := []) C hw (m_X6_keepReferral l D cA ad base fu h_125) mvX6_keepReferral gw6_95 ⟨rfl, rfl, Nat.le_of_ble_eq_true rfl, Nat.le_of_ble_eq_true rfl⟩ dq_49 ln_49 vc_6 rfl hl.1 rfl (Nat.le_of_ble_eq_true rfl) dX6_learn_125 (Nat.zero_le _) (Nat.zero_le _)) (fun H locs hw => ?_)
    exact r_vret C hw hr hlocks hf dX6_learn_128
  have J_87 : ∀ (x3 : Int32) (x4 : Int32) (x5 : Int32) (x6 : Int32) (S : St) (H : Heap) (locs : List Loc) (ls : Array Slot), fX6_learn_87 fu x3 x4 x5 x6 S = some (S', r) → lv_has ls 7 [(0, .ref (ad 49)), (1, .ref (ad 26)), (2, .ref (ad 30)), (3, .int x3), (4, .int x4), (5, .int x5), (6, .int x6)] → WS D cA ad base s S H locs → W p l e rmX6_learn s m args below meth c H locs 0 0 (MQ below (QV D cA ad base S') args s 0 0 (aB base)) (F0 m 87 ls []) := by
    intro x3 x4 x5 x6 S H locs ls hf hl hw
    refine lv_iload hx hb dX6_learn_87 (lv_at hl 5 rfl) ?_
    refine lv_iconst (v := (-1 : Int32)) hx hb dX6_learn_89 (by decide) ?_
    refine lv_icmp_eq (tgt := 122) hx hb dX6_learn_90 (by decide) (fun c_90 => ?_) (fun c_90 => ?_)
    · have hf := if_t hf c_90
      exact J_122 _ _ _ _ _ hf (lv_sub hl [0, 2, 3] rfl) hw
    · have hf := if_f hf c_90
      refine lv_iload hx hb dX6_learn_93 (lv_at hl 6 rfl) ?_
      refine lv_if_ne (tgt := 122) hx hb dX6_learn_95 (by decide) (fun c_95 => ?_) (fun c_95 => ?_)
      · have hf := if_f hf c_95
        exact J_122 _ _ _ _ _ hf (lv_sub hl [0, 2, 3] rfl) hw
      · have hf := if_t hf c_95
        refine lv_aload_n hx hb dX6_learn_98 rfl (lv_at hl 1 rfl) ?_
        obtain ⟨S_99, r_99, h_99, hf⟩ := bd_some hf
        refine r_bi hw (r_runV (rest := []) C hw (m_X4_flags l D cA ad base fu h_99) mvX4_flags gw6_87 ⟨rfl, rfl, Nat.le_of_ble_eq_true rfl, Nat.le_of_ble_eq_true rfl⟩ dq_26 ln_26 vc_4 rfl hl.1 rfl (Nat.le_of_ble_eq_true rfl) dX6_learn_99 (Nat.zero_le _) (Nat.zero_le _)) (fun H locs hw => ?_)
        refine lv_sipush (v := (1024 : Int32)) hx hb dX6_learn_102 (by decide) ?_
        refine lv_iand hx hb dX6_learn_105 ?_
        refine lv_if_eq (tgt := 122) hx hb dX6_learn_106 (by decide) (fun c_106 => ?_) (fun c_106 => ?_)
        · have hf := if_t hf c_106
          exact J_122 _ _ _ _ _ hf (lv_sub hl [0, 2, 3] rfl) hw
        · have hf := if_f hf c_106
          refine lv_aload_n hx hb dX6_learn_109 rfl (lv_at hl 0 rfl) ?_
          refine lv_aload_n hx hb dX6_learn_110 rfl (lv_at hl 2 rfl) ?_
          refine lv_iload hx hb dX6_learn_111 (lv_at hl 5 rfl) ?_
          refine lv_iload_n hx hb dX6_learn_113 rfl (lv_at hl 3 rfl) ?_
          refine lv_iload hx hb dX6_learn_114 (lv_at hl 4 rfl) ?_
          obtain ⟨S_116, r_116, h_116, hf⟩ := bd_some hf
          refine r_bv hw (r_runV (rest := []) C hw (m_X6_keepNothing l D cA ad base fu h_116) mvX6_keepNothing gw6_91 ⟨rfl, rfl, Nat.le_of_ble_eq_true rfl, Nat.le_of_ble_eq_true rfl⟩ dq_49 ln_49 vc_6 rfl hl.1 rfl (Nat.le_of_ble_eq_true rfl) dX6_learn_116 (Nat.zero_le _) (Nat.zero_le _)) (fun H locs hw => ?_)
          refine lv_goto (tgt := 128) hx hb dX6_learn_119 (by decide) ?_
          exact r_vret C hw hr hlocks hf dX6_learn_128
  have J_45 : ∀ (x3 : Int32) (x4 : Int32) (S : St) (H : Heap) (locs : List Loc) (ls : Array Slot), fX6_learn_45 fu x3 x4 S = some (S', r) → lv_has ls 7 [(0, .ref (ad 49)), (1, .ref (ad 26)), (2, .ref (ad 30)), (3, .int x3), (4, .int x4)] → WS D cA ad base s S H locs → W p l e rmX6_learn s m args below meth c H locs 0 0 (MQ below (QV D cA ad base S') args s 0 0 (aB base)) (F0 m 45 ls []) := by
    intro x3 x4 S H locs ls hf hl hw
    refine lv_aload_n hx hb dX6_learn_45 rfl (lv_at hl 2 rfl) ?_
    refine lv_iconst (v := (1 : Int32)) hx hb dX6_learn_46 (by decide) ?_
    refine lv_bipush (v := (6 : Int32)) hx hb dX6_learn_47 (by decide) ?_
    obtain ⟨S_49, r_49, h_49, hf⟩ := bd_some hf
    refine r_bi hw (r_runV (rest := []) C hw (m_X5_first l D cA ad base fu 30 kRo_30 h_49) mvX5_first gw6_83 ⟨rfl, rfl, Nat.le_of_ble_eq_true rfl, Nat.le_of_ble_eq_true rfl⟩ dq_30 ln_30 vc_5 rfl hl.1 rfl (Nat.le_of_ble_eq_true rfl) dX6_learn_49 (Nat.zero_le _) (Nat.zero_le _)) (fun H locs hw => ?_)
    refine lv_istore (lv' := [(5, .int r_49), (0, .ref (ad 49)), (1, .ref (ad 26)), (2, .ref (ad 30)), (3, .int x3), (4, .int x4)]) hx hb dX6_learn_52 hl (by decide) rfl (fun ls hl => ?_)
    refine lv_aload_n hx hb dX6_learn_54 rfl (lv_at hl 2 rfl) ?_
    obtain ⟨S_55, r_55, h_55, hf⟩ := bd_some hf
    refine r_bi hw (r_runV (rest := []) C hw (m_X4_flags l D cA ad base fu h_55) mvX4_flags gw6_87 ⟨rfl, rfl, Nat.le_of_ble_eq_true rfl, Nat.le_of_ble_eq_true rfl⟩ dq_26 ln_26 vc_4 rfl hl.1 rfl (Nat.le_of_ble_eq_true rfl) dX6_learn_55 (Nat.zero_le _) (Nat.zero_le _)) (fun H locs hw => ?_)
    refine lv_bipush (v := (15 : Int32)) hx hb dX6_learn_58 (by decide) ?_
    refine lv_iand hx hb dX6_learn_60 ?_
    refine lv_istore (lv' := [(6, .int (r_55 &&& (15 : Int32))), (5, .int r_49), (0, .ref (ad 49)), (1, .ref (ad 26)), (2, .ref (ad 30)), (3, .int x3), (4, .int x4)]) hx hb dX6_learn_61 hl (by decide) rfl (fun ls hl => ?_)
    refine lv_iload hx hb dX6_learn_63 (lv_at hl 1 rfl) ?_
    refine lv_iconst (v := (-1 : Int32)) hx hb dX6_learn_65 (by decide) ?_
    refine lv_icmp_eq (tgt := 87) hx hb dX6_learn_66 (by decide) (fun c_66 => ?_) (fun c_66 => ?_)
    · have hf := if_t hf c_66
      exact J_87 _ _ _ _ _ _ _ _ hf (lv_sub hl [2, 3, 4, 5, 6, 1, 0] rfl) hw
    · have hf := if_f hf c_66
      refine lv_iload hx hb dX6_learn_69 (lv_at hl 0 rfl) ?_
      refine lv_iconst (v := (3 : Int32)) hx hb dX6_learn_71 (by decide) ?_
      refine lv_icmp_ne (tgt := 87) hx hb dX6_learn_72 (by decide) (fun c_72 => ?_) (fun c_72 => ?_)
      · have hf := if_f hf c_72
        exact J_87 _ _ _ _ _ _ _ _ hf (lv_sub hl [2, 3, 4, 5, 6, 1, 0] rfl) hw
      · have hf := if_t hf c_72
        refine lv_aload_n hx hb dX6_learn_75 rfl (lv_at hl 2 rfl) ?_
        refine lv_aload_n hx hb dX6_learn_76 rfl (lv_at hl 4 rfl) ?_
        refine lv_iload hx hb dX6_learn_77 (lv_at hl 1 rfl) ?_
        refine lv_iload_n hx hb dX6_learn_79 rfl (lv_at hl 5 rfl) ?_
        refine lv_iconst (v := (0 : Int32)) hx hb dX6_learn_80 (by decide) ?_
        obtain ⟨S_81, r_81, h_81, hf⟩ := bd_some hf
        refine r_bv hw (r_runV (rest := []) C hw (m_X6_keepNothing l D cA ad base fu h_81) mvX6_keepNothing gw6_91 ⟨rfl, rfl, Nat.le_of_ble_eq_true rfl, Nat.le_of_ble_eq_true rfl⟩ dq_49 ln_49 vc_6 rfl hl.1 rfl (Nat.le_of_ble_eq_true rfl) dX6_learn_81 (Nat.zero_le _) (Nat.zero_le _)) (fun H locs hw => ?_)
        refine lv_goto (tgt := 128) hx hb dX6_learn_84 (by decide) ?_
        exact r_vret C hw hr hlocks hf dX6_learn_128
  show W p l e rmX6_learn s m args below meth c s.heap [] 0 0 _ _
  refine lv_aload_n hx hb dX6_learn_0 rfl (lv_at hl 1 rfl) ?_
  obtain ⟨S_1, r_1, h_1, hf⟩ := bd_some hf
  refine r_br hw (r_runV (rest := []) C hw (m_X4_rows l D cA ad base fu h_1) mvX4_rows gw6_47 ⟨rfl, rfl, Nat.le_of_ble_eq_true rfl, Nat.le_of_ble_eq_true rfl⟩ dq_26 ln_26 vc_4 rfl hl.1 rfl (Nat.le_of_ble_eq_true rfl) dX6_learn_1 (Nat.zero_le _) (Nat.zero_le _)) (fun H locs hw => ?_)
  refine lv_astore_n (lv' := [(2, .ref (ad 30)), (0, .ref (ad 49)), (1, .ref (ad 26))]) hx hb dX6_learn_4 rfl hl (by decide) rfl (fun ls hl => ?_)
  refine lv_aload_n hx hb dX6_learn_5 rfl (lv_at hl 1 rfl) ?_
  obtain ⟨S_6, r_6, h_6, hf⟩ := bd_some hf
  refine r_bi hw (r_runV (rest := []) C hw (m_X6_askedName l D cA ad base fu h_6) mvX6_askedName gw6_36 ⟨rfl, rfl, Nat.le_of_ble_eq_true rfl, Nat.le_of_ble_eq_true rfl⟩ dq_49 ln_49 vc_6 rfl hl.1 rfl (Nat.le_of_ble_eq_true rfl) dX6_learn_6 (Nat.zero_le _) (Nat.zero_le _)) (fun H locs hw => ?_)
  refine lv_istore_n (lv' := [(3, .int r_6), (2, .ref (ad 30)), (0, .ref (ad 49)), (1, .ref (ad 26))]) hx hb dX6_learn_9 rfl hl (by decide) rfl (fun ls hl => ?_)
  refine lv_aload_n hx hb dX6_learn_10 rfl (lv_at hl 2 rfl) ?_
  obtain ⟨S_11, r_11, h_11, hf⟩ := bd_some hf
  refine r_bi hw (r_runV (rest := []) C hw (m_X6_askedType l D cA ad base fu h_11) mvX6_askedType gw6_37 ⟨rfl, rfl, Nat.le_of_ble_eq_true rfl, Nat.le_of_ble_eq_true rfl⟩ dq_49 ln_49 vc_6 rfl hl.1 rfl (Nat.le_of_ble_eq_true rfl) dX6_learn_11 (Nat.zero_le _) (Nat.zero_le _)) (fun H locs hw => ?_)
  refine lv_istore (lv' := [(4, .int r_11), (3, .int r_6), (2, .ref (ad 30)), (0, .ref (ad 49)), (1, .ref (ad 26))]) hx hb dX6_learn_14 hl (by decide) rfl (fun ls hl => ?_)
  refine lv_aload_n hx hb dX6_learn_16 rfl (lv_at hl 3 rfl) ?_
  refine lv_aload_n hx hb dX6_learn_17 rfl (lv_at hl 2 rfl) ?_
  refine lv_iconst (v := (0 : Int32)) hx hb dX6_learn_18 (by decide) ?_
  refine lv_iload_n hx hb dX6_learn_19 rfl (lv_at hl 1 rfl) ?_
  refine lv_iload hx hb dX6_learn_20 (lv_at hl 0 rfl) ?_
  obtain ⟨S_22, r_22, h_22, hf⟩ := bd_some hf
  refine r_bi hw (r_runV (rest := []) C hw (m_X6_keepSet l D cA ad base fu h_22) mvX6_keepSet gw6_48 ⟨rfl, rfl, Nat.le_of_ble_eq_true rfl, Nat.le_of_ble_eq_true rfl⟩ dq_49 ln_49 vc_6 rfl hl.1 rfl (Nat.le_of_ble_eq_true rfl) dX6_learn_22 (Nat.zero_le _) (Nat.zero_le _)) (fun H locs hw => ?_)
  refine lv_if_le (tgt := 29) hx hb dX6_learn_25 (by decide) (fun c_25 => ?_) (fun c_25 => ?_)
  · have hf := if_t hf c_25
    refine lv_iload hx hb dX6_learn_29 (lv_at hl 0 rfl) ?_
    refine lv_iconst (v := (5 : Int32)) hx hb dX6_learn_31 (by decide) ?_
    refine lv_icmp_eq (tgt := 45) hx hb dX6_learn_32 (by decide) (fun c_32 => ?_) (fun c_32 => ?_)
    · have hf := if_t hf c_32
      exact J_45 _ _ _ _ _ _ hf (lv_sub hl [3, 4, 2, 1, 0] rfl) hw
    · have hf := if_f hf c_32
      refine lv_aload_n hx hb dX6_learn_35 rfl (lv_at hl 3 rfl) ?_
      refine lv_aload_n hx hb dX6_learn_36 rfl (lv_at hl 2 rfl) ?_
      refine lv_iload_n hx hb dX6_learn_37 rfl (lv_at hl 1 rfl) ?_
      obtain ⟨S_38, r_38, h_38, hf⟩ := bd_some hf
      refine r_bi hw (r_runV (rest := []) C hw (m_X6_keepFirstAlias l D cA ad base fu h_38) mvX6_keepFirstAlias gw6_79 ⟨rfl, rfl, Nat.le_of_ble_eq_true rfl, Nat.le_of_ble_eq_true rfl⟩ dq_49 ln_49 vc_6 rfl hl.1 rfl (Nat.le_of_ble_eq_true rfl) dX6_learn_38 (Nat.zero_le _) (Nat.zero_le _)) (fun H locs hw => ?_)
      refine lv_if_eq (tgt := 45) hx hb dX6_learn_41 (by decide) (fun c_41 => ?_) (fun c_41 => ?_)
      · have hf := if_t hf c_41
        exact J_45 _ _ _ _ _ _ hf (lv_sub hl [3, 4, 2, 1, 0] rfl) hw
      · have hf := if_f hf c_41
        exact r_vret C hw hr hlocks hf dX6_learn_44
  · have hf := if_f hf c_25
    exact r_vret C hw hr hlocks hf dX6_learn_28
