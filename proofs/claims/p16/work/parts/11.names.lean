noncomputable def fX8_clear (fu : Nat) (q : Nat) (S : St) : Option (St × Int32) :=
  sI q 2 (0 : Int32) S fun S_2 =>
  some (S_2, (0 : Int32))
theorem mvX8_clear : MV yX8_clear cX8_clear 1 none RX8 0 := ⟨gw2_208, gw2_206, gw2_207, gw1_4, by decide +kernel⟩
def rmX8_clear : Room := { frames := 0, cells := 0, slots := 0, locals := 0 }
set_option maxHeartbeats 4000000 in
set_option maxRecDepth 100000 in
theorem m_X8_clear (l : Launch) (D : va_G) (cA : FieldType → ClassId) (ad : Nat → Nat) (base : Nat) (fu : Nat) (q : Nat) (hq : isSpell q) {S S' : St} {r : Int32} (hf : fX8_clear fu q S = some (S', r)) : Met l yX8_clear (GC yX8_clear cX8_clear 1 none) rmX8_clear (va_Pc [.ref (ad q)] (wd D cA ad base S)) (QV D cA ad base S') 0 0 (aB base) := by
  refine Met.ofW (cc := cX8_clear) (maxL := 1) (ret := none) (by decide) rfl ?_
  intro p e s m args below meth c s₁ B hml hv
  obtain ⟨hargs, hwd⟩ := hv
  have hr := B.returns
  have hlocks := B.notSynchronized
  obtain ⟨C, hw⟩ := CX.of (own := RX8) rfl B hml hwd
  have hx := C.1
  have hb := C.2.1
  have hl := lv_entry ([.ref (ad q)]) (n := 1) (Nat.le_of_ble_eq_true rfl)
  rw [show entryFrame m args 1 = entryFrame m ([.ref (ad q)] : List Value).toArray 1 from by rw [hargs], lg_entry_eq]
  generalize (lg_sl ([.ref (ad q)]) ++ List.replicate (1 - (lg_sl ([.ref (ad q)])).length) Slot.unset).toArray = ls at hl ⊢
  have hl : lv_has ls 1 [(0, .ref (ad q))] := hl
  show W p l e rmX8_clear s m args below meth c s.heap [] 0 0 _ _
  refine lv_aload_n hx hb dX8_clear_0 rfl (lv_at hl 0 rfl) ?_
  refine lv_iconst (v := (0 : Int32)) hx hb dX8_clear_1 (by decide) ?_
  obtain ⟨S_2, e_2, hf⟩ := sI_some hf
  refine r_putI C hw (k := 2) (ty0 := tyX8) hq.1 hq.2.1 rfl vc_8 inX8 tyX8_ok nmX8 (by decide) rfl rfl gw1_79 rfl rfl dX8_clear_2 e_2 (fun H locs hw => ?_)
  exact r_vret C hw hr hlocks hf dX8_clear_5
noncomputable def fX8_size (fu : Nat) (q : Nat) (S : St) : Option (St × Int32) :=
  some (S, (S.1 q 2))
theorem mvX8_size : MV yX8_size cX8_size 1 (some .int) RX8 0 := ⟨gw2_217, gw2_215, gw2_216, gw1_4, by decide +kernel⟩
def rmX8_size : Room := { frames := 0, cells := 0, slots := 0, locals := 0 }
set_option maxHeartbeats 4000000 in
set_option maxRecDepth 100000 in
theorem m_X8_size (l : Launch) (D : va_G) (cA : FieldType → ClassId) (ad : Nat → Nat) (base : Nat) (fu : Nat) (q : Nat) (hq : isSpell q) {S S' : St} {r : Int32} (hf : fX8_size fu q S = some (S', r)) : Met l yX8_size (GC yX8_size cX8_size 1 (some .int)) rmX8_size (va_Pc [.ref (ad q)] (wd D cA ad base S)) (QI D cA ad base S' r) 0 0 (aB base) := by
  refine Met.ofW (cc := cX8_size) (maxL := 1) (ret := (some .int)) (by decide) rfl ?_
  intro p e s m args below meth c s₁ B hml hv
  obtain ⟨hargs, hwd⟩ := hv
  have hr := B.returns
  have hlocks := B.notSynchronized
  obtain ⟨C, hw⟩ := CX.of (own := RX8) rfl B hml hwd
  have hx := C.1
  have hb := C.2.1
  have hl := lv_entry ([.ref (ad q)]) (n := 1) (Nat.le_of_ble_eq_true rfl)
  rw [show entryFrame m args 1 = entryFrame m ([.ref (ad q)] : List Value).toArray 1 from by rw [hargs], lg_entry_eq]
  generalize (lg_sl ([.ref (ad q)]) ++ List.replicate (1 - (lg_sl ([.ref (ad q)])).length) Slot.unset).toArray = ls at hl ⊢
  have hl : lv_has ls 1 [(0, .ref (ad q))] := hl
  show W p l e rmX8_size s m args below meth c s.heap [] 0 0 _ _
  refine lv_aload_n hx hb dX8_size_0 rfl (lv_at hl 0 rfl) ?_
  refine r_getI C hw (k := 2) hq.1 hq.2.1 rfl vc_8 inX8 (by decide) rfl gw1_79 dX8_size_1 ?_
  exact r_iret C hw hr hlocks hf dX8_size_4
noncomputable def fX8_labelAt (fu : Nat) (q : Nat) (x1 : Int32) (S : St) : Option (St × Int64) :=
  if x1 < 0 then
    some (S, (0 : Int64))
  else
    if (S.1 q 2) ≤ x1 then
      some (S, (0 : Int64))
    else
      gd (ck x1 6) <|
      some (S, (S.2 (q + 1) (x1).toNatClampNeg))
theorem mvX8_labelAt : MV yX8_labelAt cX8_labelAt 2 (some .long) RX8 1 := ⟨gw2_221, gw2_219, gw2_220, gw1_4, by decide +kernel⟩
def rmX8_labelAt : Room := { frames := 0, cells := 0, slots := 0, locals := 0 }
set_option maxHeartbeats 4000000 in
set_option maxRecDepth 100000 in
theorem m_X8_labelAt (l : Launch) (D : va_G) (cA : FieldType → ClassId) (ad : Nat → Nat) (base : Nat) (fu : Nat) (q : Nat) (hq : isSpell q) {S S' : St} {x1 : Int32} {r : Int64} (hf : fX8_labelAt fu q x1 S = some (S', r)) : Met l yX8_labelAt (GC yX8_labelAt cX8_labelAt 2 (some .long)) rmX8_labelAt (va_Pc [.ref (ad q), .int x1] (wd D cA ad base S)) (QL D cA ad base S' r) 0 0 (aB base) := by
  refine Met.ofW (cc := cX8_labelAt) (maxL := 2) (ret := (some .long)) (by decide) rfl ?_
  intro p e s m args below meth c s₁ B hml hv
  obtain ⟨hargs, hwd⟩ := hv
  have hr := B.returns
  have hlocks := B.notSynchronized
  obtain ⟨C, hw⟩ := CX.of (own := RX8) rfl B hml hwd
  have hx := C.1
  have hb := C.2.1
  have hl := lv_entry ([.ref (ad q), .int x1]) (n := 2) (Nat.le_of_ble_eq_true rfl)
  rw [show entryFrame m args 2 = entryFrame m ([.ref (ad q), .int x1] : List Value).toArray 2 from by rw [hargs], lg_entry_eq]
  generalize (lg_sl ([.ref (ad q), .int x1]) ++ List.replicate (2 - (lg_sl ([.ref (ad q), .int x1])).length) Slot.unset).toArray = ls at hl ⊢
  have hl : lv_has ls 2 [(0, .ref (ad q)), (1, .int x1)] := hl
  show W p l e rmX8_labelAt s m args below meth c s.heap [] 0 0 _ _
  refine lv_iload_n hx hb dX8_labelAt_0 rfl (lv_at hl 1 rfl) ?_
  refine lv_if_lt (tgt := 21) hx hb dX8_labelAt_1 (by decide) (fun c_1 => ?_) (fun c_1 => ?_)
  · have hf := if_t hf c_1
    refine lv_lconst (v := (0 : Int64)) hx hb dX8_labelAt_21 (by decide) ?_
    exact r_lret C hw hr hlocks hf dX8_labelAt_22
  · have hf := if_f hf c_1
    refine lv_iload_n hx hb dX8_labelAt_4 rfl (lv_at hl 1 rfl) ?_
    refine lv_aload_n hx hb dX8_labelAt_5 rfl (lv_at hl 0 rfl) ?_
    refine r_getI C hw (k := 2) hq.1 hq.2.1 rfl vc_8 inX8 (by decide) rfl gw1_79 dX8_labelAt_6 ?_
    refine lv_icmp_ge (tgt := 21) hx hb dX8_labelAt_9 (by decide) (fun c_9 => ?_) (fun c_9 => ?_)
    · have hf := if_t hf c_9
      refine lv_lconst (v := (0 : Int64)) hx hb dX8_labelAt_21 (by decide) ?_
      exact r_lret C hw hr hlocks hf dX8_labelAt_22
    · have hf := if_f hf c_9
      refine lv_aload_n hx hb dX8_labelAt_12 rfl (lv_at hl 0 rfl) ?_
      refine r_getR C hw (k := 0) (r := (q + 1)) hq.1 hq.2.1 rfl vc_8 inX8 (by decide) rfl gw1_77 dX8_labelAt_13 ?_
      refine lv_iload_n hx hb dX8_labelAt_16 rfl (lv_at hl 1 rfl) ?_
      obtain ⟨z_17, hf⟩ := gd_some hf
      refine r_lald C hw (x := (q + 1)) hq.2.2.1 hq.2.2.2.1 z_17 dX8_labelAt_17 ?_
      refine lv_goto (tgt := 22) hx hb dX8_labelAt_18 (by decide) ?_
      exact r_lret C hw hr hlocks hf dX8_labelAt_22
noncomputable def fX8_lengthAt (fu : Nat) (q : Nat) (x1 : Int32) (S : St) : Option (St × Int32) :=
  if x1 < 0 then
    some (S, (0 : Int32))
  else
    if (S.1 q 2) ≤ x1 then
      some (S, (0 : Int32))
    else
      gd (ck x1 6) <|
      some (S, (S.1 (q + 2) (x1).toNatClampNeg))
theorem mvX8_lengthAt : MV yX8_lengthAt cX8_lengthAt 2 (some .int) RX8 1 := ⟨gw2_229, gw2_227, gw2_228, gw1_4, by decide +kernel⟩
def rmX8_lengthAt : Room := { frames := 0, cells := 0, slots := 0, locals := 0 }
set_option maxHeartbeats 4000000 in
set_option maxRecDepth 100000 in
theorem m_X8_lengthAt (l : Launch) (D : va_G) (cA : FieldType → ClassId) (ad : Nat → Nat) (base : Nat) (fu : Nat) (q : Nat) (hq : isSpell q) {S S' : St} {x1 : Int32} {r : Int32} (hf : fX8_lengthAt fu q x1 S = some (S', r)) : Met l yX8_lengthAt (GC yX8_lengthAt cX8_lengthAt 2 (some .int)) rmX8_lengthAt (va_Pc [.ref (ad q), .int x1] (wd D cA ad base S)) (QI D cA ad base S' r) 0 0 (aB base) := by
  refine Met.ofW (cc := cX8_lengthAt) (maxL := 2) (ret := (some .int)) (by decide) rfl ?_
  intro p e s m args below meth c s₁ B hml hv
  obtain ⟨hargs, hwd⟩ := hv
  have hr := B.returns
  have hlocks := B.notSynchronized
  obtain ⟨C, hw⟩ := CX.of (own := RX8) rfl B hml hwd
  have hx := C.1
  have hb := C.2.1
  have hl := lv_entry ([.ref (ad q), .int x1]) (n := 2) (Nat.le_of_ble_eq_true rfl)
  rw [show entryFrame m args 2 = entryFrame m ([.ref (ad q), .int x1] : List Value).toArray 2 from by rw [hargs], lg_entry_eq]
  generalize (lg_sl ([.ref (ad q), .int x1]) ++ List.replicate (2 - (lg_sl ([.ref (ad q), .int x1])).length) Slot.unset).toArray = ls at hl ⊢
  have hl : lv_has ls 2 [(0, .ref (ad q)), (1, .int x1)] := hl
  show W p l e rmX8_lengthAt s m args below meth c s.heap [] 0 0 _ _
  refine lv_iload_n hx hb dX8_lengthAt_0 rfl (lv_at hl 1 rfl) ?_
  refine lv_if_lt (tgt := 21) hx hb dX8_lengthAt_1 (by decide) (fun c_1 => ?_) (fun c_1 => ?_)
  · have hf := if_t hf c_1
    refine lv_iconst (v := (0 : Int32)) hx hb dX8_lengthAt_21 (by decide) ?_
    exact r_iret C hw hr hlocks hf dX8_lengthAt_22
  · have hf := if_f hf c_1
    refine lv_iload_n hx hb dX8_lengthAt_4 rfl (lv_at hl 1 rfl) ?_
    refine lv_aload_n hx hb dX8_lengthAt_5 rfl (lv_at hl 0 rfl) ?_
    refine r_getI C hw (k := 2) hq.1 hq.2.1 rfl vc_8 inX8 (by decide) rfl gw1_79 dX8_lengthAt_6 ?_
    refine lv_icmp_ge (tgt := 21) hx hb dX8_lengthAt_9 (by decide) (fun c_9 => ?_) (fun c_9 => ?_)
    · have hf := if_t hf c_9
      refine lv_iconst (v := (0 : Int32)) hx hb dX8_lengthAt_21 (by decide) ?_
      exact r_iret C hw hr hlocks hf dX8_lengthAt_22
    · have hf := if_f hf c_9
      refine lv_aload_n hx hb dX8_lengthAt_12 rfl (lv_at hl 0 rfl) ?_
      refine r_getR C hw (k := 1) (r := (q + 2)) hq.1 hq.2.1 rfl vc_8 inX8 (by decide) rfl gw1_78 dX8_lengthAt_13 ?_
      refine lv_iload_n hx hb dX8_lengthAt_16 rfl (lv_at hl 1 rfl) ?_
      obtain ⟨z_17, hf⟩ := gd_some hf
      refine r_iald C hw (x := (q + 2)) hq.2.2.2.2.1 hq.2.2.2.2.2 z_17 dX8_lengthAt_17 ?_
      refine lv_goto (tgt := 22) hx hb dX8_lengthAt_18 (by decide) ?_
      exact r_iret C hw hr hlocks hf dX8_lengthAt_22
noncomputable def fX8_open (fu : Nat) (q : Nat) (S : St) : Option (St × Int32) :=
  if (S.1 q 2) < (6 : Int32) then
    gd (ck (S.1 q 2) 6) <|
    sJ (q + 1) ((S.1 q 2)).toNatClampNeg (0 : Int64) S fun S_20 =>
    gd (ck (S_20.1 q 2) 6) <|
    sI (q + 2) ((S_20.1 q 2)).toNatClampNeg (0 : Int32) S_20 fun S_30 =>
    sI q 2 ((S_30.1 q 2) + (1 : Int32)) S_30 fun S_38 =>
    some (S_38, (1 : Int32))
  else
    some (S, (0 : Int32))
theorem mvX8_open : MV yX8_open cX8_open 1 (some .boolean) RX8 0 := ⟨gw3_1, gw2_239, gw3_0, gw1_4, by decide +kernel⟩
def rmX8_open : Room := { frames := 0, cells := 0, slots := 0, locals := 0 }
set_option maxHeartbeats 4000000 in
set_option maxRecDepth 100000 in
theorem m_X8_open (l : Launch) (D : va_G) (cA : FieldType → ClassId) (ad : Nat → Nat) (base : Nat) (fu : Nat) (q : Nat) (hq : isSpell q) {S S' : St} {r : Int32} (hf : fX8_open fu q S = some (S', r)) : Met l yX8_open (GC yX8_open cX8_open 1 (some .boolean)) rmX8_open (va_Pc [.ref (ad q)] (wd D cA ad base S)) (QI D cA ad base S' r) 0 0 (aB base) := by
  refine Met.ofW (cc := cX8_open) (maxL := 1) (ret := (some .boolean)) (by decide) rfl ?_
  intro p e s m args below meth c s₁ B hml hv
  obtain ⟨hargs, hwd⟩ := hv
  have hr := B.returns
  have hlocks := B.notSynchronized
  obtain ⟨C, hw⟩ := CX.of (own := RX8) rfl B hml hwd
  have hx := C.1
  have hb := C.2.1
  have hl := lv_entry ([.ref (ad q)]) (n := 1) (Nat.le_of_ble_eq_true rfl)
  rw [show entryFrame m args 1 = entryFrame m ([.ref (ad q)] : List Value).toArray 1 from by rw [hargs], lg_entry_eq]
  generalize (lg_sl ([.ref (ad q)]) ++ List.replicate (1 - (lg_sl ([.ref (ad q)])).length) Slot.unset).toArray = ls at hl ⊢
  have hl : lv_has ls 1 [(0, .ref (ad q))] := hl
  show W p l e rmX8_open s m args below meth c s.heap [] 0 0 _ _
  refine lv_aload_n hx hb dX8_open_0 rfl (lv_at hl 0 rfl) ?_
  refine r_getI C hw (k := 2) hq.1 hq.2.1 rfl vc_8 inX8 (by decide) rfl gw1_79 dX8_open_1 ?_
  refine lv_bipush (v := (6 : Int32)) hx hb dX8_open_4 (by decide) ?_
  refine lv_icmp_lt (tgt := 11) hx hb dX8_open_6 (by decide) (fun c_6 => ?_) (fun c_6 => ?_)
  · have hf := if_t hf c_6
    refine lv_aload_n hx hb dX8_open_11 rfl (lv_at hl 0 rfl) ?_
    refine r_getR C hw (k := 0) (r := (q + 1)) hq.1 hq.2.1 rfl vc_8 inX8 (by decide) rfl gw1_77 dX8_open_12 ?_
    refine lv_aload_n hx hb dX8_open_15 rfl (lv_at hl 0 rfl) ?_
    refine r_getI C hw (k := 2) hq.1 hq.2.1 rfl vc_8 inX8 (by decide) rfl gw1_79 dX8_open_16 ?_
    refine lv_lconst (v := (0 : Int64)) hx hb dX8_open_19 (by decide) ?_
    obtain ⟨z_20, hf⟩ := gd_some hf
    obtain ⟨S_20, e_20, hf⟩ := sJ_some hf
    refine r_last C hw (x := (q + 1)) hq.2.2.1 hq.2.2.2.1 z_20 dX8_open_20 e_20 (fun H locs hw => ?_)
    refine lv_aload_n hx hb dX8_open_21 rfl (lv_at hl 0 rfl) ?_
    refine r_getR C hw (k := 1) (r := (q + 2)) hq.1 hq.2.1 rfl vc_8 inX8 (by decide) rfl gw1_78 dX8_open_22 ?_
    refine lv_aload_n hx hb dX8_open_25 rfl (lv_at hl 0 rfl) ?_
    refine r_getI C hw (k := 2) hq.1 hq.2.1 rfl vc_8 inX8 (by decide) rfl gw1_79 dX8_open_26 ?_
    refine lv_iconst (v := (0 : Int32)) hx hb dX8_open_29 (by decide) ?_
    obtain ⟨z_30, hf⟩ := gd_some hf
    obtain ⟨S_30, e_30, hf⟩ := sI_some hf
    refine r_iast C hw (x := (q + 2)) hq.2.2.2.2.1 hq.2.2.2.2.2 z_30 dX8_open_30 e_30 (fun H locs hw => ?_)
    refine lv_aload_n hx hb dX8_open_31 rfl (lv_at hl 0 rfl) ?_
    refine lv_dup hx hb dX8_open_32 rfl ?_
    refine r_getI C hw (k := 2) hq.1 hq.2.1 rfl vc_8 inX8 (by decide) rfl gw1_79 dX8_open_33 ?_
    refine lv_iconst (v := (1 : Int32)) hx hb dX8_open_36 (by decide) ?_
    refine lv_iadd hx hb dX8_open_37 ?_
    obtain ⟨S_38, e_38, hf⟩ := sI_some hf
    refine r_putI C hw (k := 2) (ty0 := tyX8) hq.1 hq.2.1 rfl vc_8 inX8 tyX8_ok nmX8 (by decide) rfl rfl gw1_79 rfl rfl dX8_open_38 e_38 (fun H locs hw => ?_)
    refine lv_iconst (v := (1 : Int32)) hx hb dX8_open_41 (by decide) ?_
    exact r_zret C hw hr hlocks rfl hf dX8_open_42
  · have hf := if_f hf c_6
    refine lv_iconst (v := (0 : Int32)) hx hb dX8_open_9 (by decide) ?_
    exact r_zret C hw hr hlocks rfl hf dX8_open_10
noncomputable def fX8_add_56 (fu : Nat) (q : Nat) (x2 : Int32) (S : St) : Option (St × Int32) :=
  if x2 = 0 then
    some (S, (0 : Int32))
  else
    if ((S.1 q 2) - (1 : Int32)) < 0 then
      some (S, (0 : Int32))
    else
      gd (ck ((S.1 q 2) - (1 : Int32)) 6) <|
      if (S.1 (q + 2) (((S.1 q 2) - (1 : Int32))).toNatClampNeg) < (10 : Int32) then
        gd (ck ((S.1 q 2) - (1 : Int32)) 6) <|
        gd (ck ((S.1 q 2) - (1 : Int32)) 6) <|
        sJ (q + 1) (((S.1 q 2) - (1 : Int32))).toNatClampNeg (((S.2 (q + 1) (((S.1 q 2) - (1 : Int32))).toNatClampNeg) <<< (((6 : Int32)).toInt64 &&& 63)) + (x2).toInt64) S fun S_101 =>
        gd (ck ((S.1 q 2) - (1 : Int32)) 6) <|
        gd (ck ((S.1 q 2) - (1 : Int32)) 6) <|
        sI (q + 2) (((S.1 q 2) - (1 : Int32))).toNatClampNeg ((S_101.1 (q + 2) (((S.1 q 2) - (1 : Int32))).toNatClampNeg) + (1 : Int32)) S_101 fun S_111 =>
        some (S_111, (1 : Int32))
      else
        some (S, (0 : Int32))
noncomputable def fX8_add_47 (fu : Nat) (q : Nat) (x1 : Int32) (x2 : Int32) (S : St) : Option (St × Int32) :=
  if x1 = (45 : Int32) then
    fX8_add_56 fu q (37 : Int32) S
  else
    fX8_add_56 fu q x2 S
noncomputable def fX8_add_24 (fu : Nat) (q : Nat) (x1 : Int32) (x2 : Int32) (S : St) : Option (St × Int32) :=
  if x1 < (48 : Int32) then
    fX8_add_47 fu q x1 x2 S
  else
    if (57 : Int32) < x1 then
      fX8_add_47 fu q x1 x2 S
    else
      fX8_add_56 fu q ((x1 - (48 : Int32)) + (27 : Int32)) S
noncomputable def fX8_add (fu : Nat) (q : Nat) (x1 : Int32) (S : St) : Option (St × Int32) :=
  if x1 < (97 : Int32) then
    fX8_add_24 fu q x1 (0 : Int32) S
  else
    if (122 : Int32) < x1 then
      fX8_add_24 fu q x1 (0 : Int32) S
    else
      fX8_add_56 fu q ((x1 - (97 : Int32)) + (1 : Int32)) S
theorem mvX8_add : MV yX8_add cX8_add 4 (some .boolean) RX8 1 := ⟨gw3_5, gw3_3, gw3_4, gw1_4, by decide +kernel⟩
def rmX8_add : Room := { frames := 0, cells := 0, slots := 0, locals := 0 }
set_option maxHeartbeats 4000000 in
set_option maxRecDepth 100000 in
theorem m_X8_add (l : Launch) (D : va_G) (cA : FieldType → ClassId) (ad : Nat → Nat) (base : Nat) (fu : Nat) (q : Nat) (hq : isSpell q) {S S' : St} {x1 : Int32} {r : Int32} (hf : fX8_add fu q x1 S = some (S', r)) : Met l yX8_add (GC yX8_add cX8_add 4 (some .boolean)) rmX8_add (va_Pc [.ref (ad q), .int x1] (wd D cA ad base S)) (QI D cA ad base S' r) 0 0 (aB base) := by
  refine Met.ofW (cc := cX8_add) (maxL := 4) (ret := (some .boolean)) (by decide) rfl ?_
  intro p e s m args below meth c s₁ B hml hv
  obtain ⟨hargs, hwd⟩ := hv
  have hr := B.returns
  have hlocks := B.notSynchronized
  obtain ⟨C, hw⟩ := CX.of (own := RX8) rfl B hml hwd
  have hx := C.1
  have hb := C.2.1
  have hl := lv_entry ([.ref (ad q), .int x1]) (n := 4) (Nat.le_of_ble_eq_true rfl)
  rw [show entryFrame m args 4 = entryFrame m ([.ref (ad q), .int x1] : List Value).toArray 4 from by rw [hargs], lg_entry_eq]
  generalize (lg_sl ([.ref (ad q), .int x1]) ++ List.replicate (4 - (lg_sl ([.ref (ad q), .int x1])).length) Slot.unset).toArray = ls at hl ⊢
  have hl : lv_has ls 4 [(0, .ref (ad q)), (1, .int x1)] := hl
  have J_56 : ∀ (x2 : Int32) (S : St) (H : Heap) (locs : List Loc) (ls : Array Slot), fX8_add_56 fu q x2 S = some (S', r) → lv_has ls 4 [(0, .ref (ad q)), (2, .int x2)] → WS D cA ad base s S H locs → W p l e rmX8_add s m args below meth c H locs 0 0 (MQ below (QI D cA ad base S' r) args s 0 0 (aB base)) (F0 m 56 ls []) := by
    intro x2 S H locs ls hf hl hw
    refine lv_aload_n hx hb dX8_add_56 rfl (lv_at hl 0 rfl) ?_
    refine r_getI C hw (k := 2) hq.1 hq.2.1 rfl vc_8 inX8 (by decide) rfl gw1_79 dX8_add_57 ?_
    refine lv_iconst (v := (1 : Int32)) hx hb dX8_add_60 (by decide) ?_
    refine lv_isub hx hb dX8_add_61 ?_
    refine lv_istore_n (lv' := [(3, .int ((S.1 q 2) - (1 : Int32))), (0, .ref (ad q)), (2, .int x2)]) hx hb dX8_add_62 rfl hl (by decide) rfl (fun ls hl => ?_)
    refine lv_iload_n hx hb dX8_add_63 rfl (lv_at hl 2 rfl) ?_
    refine lv_if_eq (tgt := 82) hx hb dX8_add_64 (by decide) (fun c_64 => ?_) (fun c_64 => ?_)
    · have hf := if_t hf c_64
      refine lv_iconst (v := (0 : Int32)) hx hb dX8_add_82 (by decide) ?_
      exact r_zret C hw hr hlocks rfl hf dX8_add_83
    · have hf := if_f hf c_64
      refine lv_iload_n hx hb dX8_add_67 rfl (lv_at hl 0 rfl) ?_
      refine lv_if_lt (tgt := 82) hx hb dX8_add_68 (by decide) (fun c_68 => ?_) (fun c_68 => ?_)
      · have hf := if_t hf c_68
        refine lv_iconst (v := (0 : Int32)) hx hb dX8_add_82 (by decide) ?_
        exact r_zret C hw hr hlocks rfl hf dX8_add_83
      · have hf := if_f hf c_68
        refine lv_aload_n hx hb dX8_add_71 rfl (lv_at hl 1 rfl) ?_
        refine r_getR C hw (k := 1) (r := (q + 2)) hq.1 hq.2.1 rfl vc_8 inX8 (by decide) rfl gw1_78 dX8_add_72 ?_
        refine lv_iload_n hx hb dX8_add_75 rfl (lv_at hl 0 rfl) ?_
        obtain ⟨z_76, hf⟩ := gd_some hf
        refine r_iald C hw (x := (q + 2)) hq.2.2.2.2.1 hq.2.2.2.2.2 z_76 dX8_add_76 ?_
        refine lv_bipush (v := (10 : Int32)) hx hb dX8_add_77 (by decide) ?_
        refine lv_icmp_lt (tgt := 84) hx hb dX8_add_79 (by decide) (fun c_79 => ?_) (fun c_79 => ?_)
        · have hf := if_t hf c_79
          refine lv_aload_n hx hb dX8_add_84 rfl (lv_at hl 1 rfl) ?_
          refine r_getR C hw (k := 0) (r := (q + 1)) hq.1 hq.2.1 rfl vc_8 inX8 (by decide) rfl gw1_77 dX8_add_85 ?_
          refine lv_iload_n hx hb dX8_add_88 rfl (lv_at hl 0 rfl) ?_
          refine lv_aload_n hx hb dX8_add_89 rfl (lv_at hl 1 rfl) ?_
          refine r_getR C hw (k := 0) (r := (q + 1)) hq.1 hq.2.1 rfl vc_8 inX8 (by decide) rfl gw1_77 dX8_add_90 ?_
          refine lv_iload_n hx hb dX8_add_93 rfl (lv_at hl 0 rfl) ?_
          obtain ⟨z_94, hf⟩ := gd_some hf
          refine r_lald C hw (x := (q + 1)) hq.2.2.1 hq.2.2.2.1 z_94 dX8_add_94 ?_
          refine lv_bipush (v := (6 : Int32)) hx hb dX8_add_95 (by decide) ?_
          refine lv_lshl hx hb dX8_add_97 rfl ?_
          refine lv_iload_n hx hb dX8_add_98 rfl (lv_at hl 2 rfl) ?_
          refine lv_i2l hx hb dX8_add_99 rfl ?_
          refine lv_ladd hx hb dX8_add_100 ?_
          obtain ⟨z_101, hf⟩ := gd_some hf
          obtain ⟨S_101, e_101, hf⟩ := sJ_some hf
          refine r_last C hw (x := (q + 1)) hq.2.2.1 hq.2.2.2.1 z_101 dX8_add_101 e_101 (fun H locs hw => ?_)
          refine lv_aload_n hx hb dX8_add_102 rfl (lv_at hl 1 rfl) ?_
          refine r_getR C hw (k := 1) (r := (q + 2)) hq.1 hq.2.1 rfl vc_8 inX8 (by decide) rfl gw1_78 dX8_add_103 ?_
          refine lv_iload_n hx hb dX8_add_106 rfl (lv_at hl 0 rfl) ?_
          refine lv_dup2_11 hx hb dX8_add_107 rfl rfl ?_
          obtain ⟨z_108, hf⟩ := gd_some hf
          refine r_iald C hw (x := (q + 2)) hq.2.2.2.2.1 hq.2.2.2.2.2 z_108 dX8_add_108 ?_
          refine lv_iconst (v := (1 : Int32)) hx hb dX8_add_109 (by decide) ?_
          refine lv_iadd hx hb dX8_add_110 ?_
          obtain ⟨z_111, hf⟩ := gd_some hf
          obtain ⟨S_111, e_111, hf⟩ := sI_some hf
          refine r_iast C hw (x := (q + 2)) hq.2.2.2.2.1 hq.2.2.2.2.2 z_111 dX8_add_111 e_111 (fun H locs hw => ?_)
          refine lv_iconst (v := (1 : Int32)) hx hb dX8_add_112 (by decide) ?_
          exact r_zret C hw hr hlocks rfl hf dX8_add_113
        · have hf := if_f hf c_79
          refine lv_iconst (v := (0 : Int32)) hx hb dX8_add_82 (by decide) ?_
          exact r_zret C hw hr hlocks rfl hf dX8_add_83
  have J_47 : ∀ (x1 : Int32) (x2 : Int32) (S : St) (H : Heap) (locs : List Loc) (ls : Array Slot), fX8_add_47 fu q x1 x2 S = some (S', r) → lv_has ls 4 [(0, .ref (ad q)), (1, .int x1), (2, .int x2)] → WS D cA ad base s S H locs → W p l e rmX8_add s m args below meth c H locs 0 0 (MQ below (QI D cA ad base S' r) args s 0 0 (aB base)) (F0 m 47 ls []) := by
    intro x1 x2 S H locs ls hf hl hw
    refine lv_iload_n hx hb dX8_add_47 rfl (lv_at hl 1 rfl) ?_
    refine lv_bipush (v := (45 : Int32)) hx hb dX8_add_48 (by decide) ?_
    refine lv_icmp_ne (tgt := 56) hx hb dX8_add_50 (by decide) (fun c_50 => ?_) (fun c_50 => ?_)
    · have hf := if_f hf c_50
      exact J_56 _ _ _ _ _ hf (lv_sub hl [0, 2] rfl) hw
    · have hf := if_t hf c_50
      refine lv_bipush (v := (37 : Int32)) hx hb dX8_add_53 (by decide) ?_
      refine lv_istore_n (lv' := [(2, .int (37 : Int32)), (0, .ref (ad q)), (1, .int x1)]) hx hb dX8_add_55 rfl hl (by decide) rfl (fun ls hl => ?_)
      exact J_56 _ _ _ _ _ hf (lv_sub hl [1, 0] rfl) hw
  have J_24 : ∀ (x1 : Int32) (x2 : Int32) (S : St) (H : Heap) (locs : List Loc) (ls : Array Slot), fX8_add_24 fu q x1 x2 S = some (S', r) → lv_has ls 4 [(0, .ref (ad q)), (1, .int x1), (2, .int x2)] → WS D cA ad base s S H locs → W p l e rmX8_add s m args below meth c H locs 0 0 (MQ below (QI D cA ad base S' r) args s 0 0 (aB base)) (F0 m 24 ls []) := by
    intro x1 x2 S H locs ls hf hl hw
    refine lv_iload_n hx hb dX8_add_24 rfl (lv_at hl 1 rfl) ?_
    refine lv_bipush (v := (48 : Int32)) hx hb dX8_add_25 (by decide) ?_
    refine lv_icmp_lt (tgt := 47) hx hb dX8_add_27 (by decide) (fun c_27 => ?_) (fun c_27 => ?_)
    · have hf := if_t hf c_27
      exact J_47 _ _ _ _ _ _ hf (lv_sub hl [0, 1, 2] rfl) hw
    · have hf := if_f hf c_27
      refine lv_iload_n hx hb dX8_add_30 rfl (lv_at hl 1 rfl) ?_
      refine lv_bipush (v := (57 : Int32)) hx hb dX8_add_31 (by decide) ?_
      refine lv_icmp_gt (tgt := 47) hx hb dX8_add_33 (by decide) (fun c_33 => ?_) (fun c_33 => ?_)
      · have hf := if_t hf c_33
        exact J_47 _ _ _ _ _ _ hf (lv_sub hl [0, 1, 2] rfl) hw
      · have hf := if_f hf c_33
        refine lv_iload_n hx hb dX8_add_36 rfl (lv_at hl 1 rfl) ?_
        refine lv_bipush (v := (48 : Int32)) hx hb dX8_add_37 (by decide) ?_
        refine lv_isub hx hb dX8_add_39 ?_
        refine lv_bipush (v := (27 : Int32)) hx hb dX8_add_40 (by decide) ?_
        refine lv_iadd hx hb dX8_add_42 ?_
        refine lv_istore_n (lv' := [(2, .int ((x1 - (48 : Int32)) + (27 : Int32))), (0, .ref (ad q)), (1, .int x1)]) hx hb dX8_add_43 rfl hl (by decide) rfl (fun ls hl => ?_)
        refine lv_goto (tgt := 56) hx hb dX8_add_44 (by decide) ?_
        exact J_56 _ _ _ _ _ hf (lv_sub hl [1, 0] rfl) hw
  show W p l e rmX8_add s m args below meth c s.heap [] 0 0 _ _
  refine lv_iconst (v := (0 : Int32)) hx hb dX8_add_0 (by decide) ?_
  refine lv_istore_n (lv' := [(2, .int (0 : Int32)), (0, .ref (ad q)), (1, .int x1)]) hx hb dX8_add_1 rfl hl (by decide) rfl (fun ls hl => ?_)
  refine lv_iload_n hx hb dX8_add_2 rfl (lv_at hl 2 rfl) ?_
  refine lv_bipush (v := (97 : Int32)) hx hb dX8_add_3 (by decide) ?_
  refine lv_icmp_lt (tgt := 24) hx hb dX8_add_5 (by decide) (fun c_5 => ?_) (fun c_5 => ?_)
  · have hf := if_t hf c_5
    exact J_24 _ _ _ _ _ _ hf (lv_sub hl [1, 2, 0] rfl) hw
  · have hf := if_f hf c_5
    refine lv_iload_n hx hb dX8_add_8 rfl (lv_at hl 2 rfl) ?_
    refine lv_bipush (v := (122 : Int32)) hx hb dX8_add_9 (by decide) ?_
    refine lv_icmp_gt (tgt := 24) hx hb dX8_add_11 (by decide) (fun c_11 => ?_) (fun c_11 => ?_)
    · have hf := if_t hf c_11
      exact J_24 _ _ _ _ _ _ hf (lv_sub hl [1, 2, 0] rfl) hw
    · have hf := if_f hf c_11
      refine lv_iload_n hx hb dX8_add_14 rfl (lv_at hl 2 rfl) ?_
      refine lv_bipush (v := (97 : Int32)) hx hb dX8_add_15 (by decide) ?_
      refine lv_isub hx hb dX8_add_17 ?_
      refine lv_iconst (v := (1 : Int32)) hx hb dX8_add_18 (by decide) ?_
      refine lv_iadd hx hb dX8_add_19 ?_
      refine lv_istore_n (lv' := [(2, .int ((x1 - (97 : Int32)) + (1 : Int32))), (0, .ref (ad q)), (1, .int x1)]) hx hb dX8_add_20 rfl hl (by decide) rfl (fun ls hl => ?_)
      refine lv_goto (tgt := 56) hx hb dX8_add_21 (by decide) ?_
      exact J_56 _ _ _ _ _ hf (lv_sub hl [1, 0] rfl) hw
noncomputable def fX8_readText_84 (fu : Nat) (k_31 : Int32 → St → Option (St × Int32)) (x2 : Int32) (t0 : Int32) (S : St) : Option (St × Int32) :=
  if t0 = 0 then
    some (S, (0 : Int32))
  else
    k_31 (x2 + (1 : Int32)) S
noncomputable def fX8_readText_75 (fu : Nat) (k_31 : Int32 → St → Option (St × Int32)) (x2 : Int32) (S : St) : Option (St × Int32) :=
  fX8_readText_84 fu k_31 x2 (0 : Int32) S
noncomputable def fX8_readText_31 (fu : Nat) (n : Nat) : Int32 → St → Option (St × Int32) :=
  Nat.rec (motive := fun _ => Int32 → St → Option (St × Int32)) (fun _ _ => none) (fun _ k_31 x2 S =>
    bd (fX0_size fu 1 S) fun S_33 r_33 =>
    if r_33 ≤ x2 then
      bd (fX8_lengthAt fu 7 ((S_33.1 7 2) - (1 : Int32)) S_33) fun S_106 r_106 =>
      if r_106 ≤ 0 then
        some (S_106, (0 : Int32))
      else
        some (S_106, (1 : Int32))
    else
      bd (fX0_at fu 1 x2 S_33) fun S_41 r_41 =>
      if r_41 = (46 : Int32) then
        bd (fX8_lengthAt fu 7 ((S_41.1 7 2) - (1 : Int32)) S_41) fun S_58 r_58 =>
        if r_58 ≤ 0 then
          fX8_readText_75 fu k_31 x2 S_58
        else
          bd (fX8_open fu 7 S_58) fun S_65 r_65 =>
          if r_65 = 0 then
            fX8_readText_75 fu k_31 x2 S_65
          else
            fX8_readText_84 fu k_31 x2 (1 : Int32) S_65
      else
        bd (fX8_add fu 7 r_41 S_41) fun S_81 r_81 =>
        fX8_readText_84 fu k_31 x2 r_81 S_81) n
theorem fX8_readText_31_s (fu : Nat) (n : Nat) (x2 : Int32) (S : St) : fX8_readText_31 fu (n + 1) x2 S = (
    bd (fX0_size fu 1 S) fun S_33 r_33 =>
    if r_33 ≤ x2 then
      bd (fX8_lengthAt fu 7 ((S_33.1 7 2) - (1 : Int32)) S_33) fun S_106 r_106 =>
      if r_106 ≤ 0 then
        some (S_106, (0 : Int32))
      else
        some (S_106, (1 : Int32))
    else
      bd (fX0_at fu 1 x2 S_33) fun S_41 r_41 =>
      if r_41 = (46 : Int32) then
        bd (fX8_lengthAt fu 7 ((S_41.1 7 2) - (1 : Int32)) S_41) fun S_58 r_58 =>
        if r_58 ≤ 0 then
          fX8_readText_75 fu (fX8_readText_31 fu n) x2 S_58
        else
          bd (fX8_open fu 7 S_58) fun S_65 r_65 =>
          if r_65 = 0 then
            fX8_readText_75 fu (fX8_readText_31 fu n) x2 S_65
          else
            fX8_readText_84 fu (fX8_readText_31 fu n) x2 (1 : Int32) S_65
      else
        bd (fX8_add fu 7 r_41 S_41) fun S_81 r_81 =>
        fX8_readText_84 fu (fX8_readText_31 fu n) x2 r_81 S_81) := rfl
noncomputable def fX8_readText_24 (fu : Nat) (S : St) : Option (St × Int32) :=
  bd (fX8_open fu 7 S) fun S_25 r_25 =>
  fX8_readText_31 fu fu (0 : Int32) S_25
noncomputable def fX8_readText (fu : Nat) (S : St) : Option (St × Int32) :=
  bd (fX8_clear fu 7 S) fun S_1 _ =>
  bd (fX0_size fu 1 S_1) fun S_5 r_5 =>
  if r_5 = (1 : Int32) then
    bd (fX0_at fu 1 (0 : Int32) S_5) fun S_14 r_14 =>
    if r_14 = (46 : Int32) then
      some (S_14, (1 : Int32))
    else
      fX8_readText_24 fu S_14
  else
    fX8_readText_24 fu S_5
theorem mvX8_readText : MV yX8_readText cX8_readText 5 (some .boolean) RX8 1 := ⟨gw3_115, gw3_113, gw3_114, gw1_4, by decide +kernel⟩
def rmX8_readText : Room := { frames := 1, cells := 0, slots := 0, locals := 23 }
set_option maxHeartbeats 4000000 in
set_option maxRecDepth 100000 in
theorem m_X8_readText (l : Launch) (D : va_G) (cA : FieldType → ClassId) (ad : Nat → Nat) (base : Nat) (fu : Nat) {S S' : St} {r : Int32} (hf : fX8_readText fu S = some (S', r)) : Met l yX8_readText (GC yX8_readText cX8_readText 5 (some .boolean)) rmX8_readText (va_Pc [.ref (ad 7), .ref (ad 1)] (wd D cA ad base S)) (QI D cA ad base S' r) 0 0 (aB base) := by
  refine Met.ofW (cc := cX8_readText) (maxL := 5) (ret := (some .boolean)) (by decide) rfl ?_
  intro p e s m args below meth c s₁ B hml hv
  obtain ⟨hargs, hwd⟩ := hv
  have hr := B.returns
  have hlocks := B.notSynchronized
  obtain ⟨C, hw⟩ := CX.of (own := RX8) rfl B hml hwd
  have hx := C.1
  have hb := C.2.1
  have hl := lv_entry ([.ref (ad 7), .ref (ad 1)]) (n := 5) (Nat.le_of_ble_eq_true rfl)
  rw [show entryFrame m args 5 = entryFrame m ([.ref (ad 7), .ref (ad 1)] : List Value).toArray 5 from by rw [hargs], lg_entry_eq]
  generalize (lg_sl ([.ref (ad 7), .ref (ad 1)]) ++ List.replicate (5 - (lg_sl ([.ref (ad 7), .ref (ad 1)])).length) Slot.unset).toArray = ls at hl ⊢
  have hl : lv_has ls 5 [(0, .ref (ad 7)), (1, .ref (ad 1))] := hl
  have L_31 : ∀ (n_31 : Nat) (x2 : Int32) (S : St) (H : Heap) (locs : List Loc) (ls : Array Slot), fX8_readText_31 fu n_31 x2 S = some (S', r) → lv_has ls 5 [(0, .ref (ad 7)), (1, .ref (ad 1)), (2, .int x2)] → WS D cA ad base s S H locs → W p l e rmX8_readText s m args below meth c H locs 0 0 (MQ below (QI D cA ad base S' r) args s 0 0 (aB base)) (F0 m 31 ls []) := by
    intro n_31
    induction n_31 with
    | zero =>
      intro x2 S H locs ls hf hl hw
      exact (no_none hf).elim
    | succ n_31 ih_31 =>
      have J_84 : ∀ (x2 : Int32) (t0 : Int32) (S : St) (H : Heap) (locs : List Loc) (ls : Array Slot), fX8_readText_84 fu (fX8_readText_31 fu n_31) x2 t0 S = some (S', r) → lv_has ls 5 [(0, .ref (ad 7)), (1, .ref (ad 1)), (2, .int x2)] → WS D cA ad base s S H locs → W p l e rmX8_readText s m args below meth c H locs 0 0 (MQ below (QI D cA ad base S' r) args s 0 0 (aB base)) (F0 m 84 ls [.int t0]) := by
        intro x2 t0 S H locs ls hf hl hw
        refine lv_istore (lv' := [(4, .int t0), (0, .ref (ad 7)), (1, .ref (ad 1)), (2, .int x2)]) hx hb dX8_readText_84 hl (by decide) rfl (fun ls hl => ?_)
        refine lv_iload hx hb dX8_readText_86 (lv_at hl 0 rfl) ?_
        refine lv_if_ne (tgt := 93) hx hb dX8_readText_88 (by decide) (fun c_88 => ?_) (fun c_88 => ?_)
        · have hf := if_f hf c_88
          refine lv_iinc (v := (x2 + (1 : Int32))) (lv' := [(2, .int (x2 + (1 : Int32))), (4, .int t0), (0, .ref (ad 7)), (1, .ref (ad 1))]) hx hb dX8_readText_93 hl (k := 3) rfl rfl (by decide) rfl (fun ls hl => ?_)
          refine lv_goto (tgt := 31) hx hb dX8_readText_96 (by decide) ?_
          exact ih_31 _ _ _ _ _ hf (lv_sub hl [2, 3, 0] rfl) hw
        · have hf := if_t hf c_88
          refine lv_iconst (v := (0 : Int32)) hx hb dX8_readText_91 (by decide) ?_
          exact r_zret C hw hr hlocks rfl hf dX8_readText_92
      have J_75 : ∀ (x2 : Int32) (S : St) (H : Heap) (locs : List Loc) (ls : Array Slot), fX8_readText_75 fu (fX8_readText_31 fu n_31) x2 S = some (S', r) → lv_has ls 5 [(0, .ref (ad 7)), (1, .ref (ad 1)), (2, .int x2)] → WS D cA ad base s S H locs → W p l e rmX8_readText s m args below meth c H locs 0 0 (MQ below (QI D cA ad base S' r) args s 0 0 (aB base)) (F0 m 75 ls []) := by
        intro x2 S H locs ls hf hl hw
        refine lv_iconst (v := (0 : Int32)) hx hb dX8_readText_75 (by decide) ?_
        refine lv_goto (tgt := 84) hx hb dX8_readText_76 (by decide) ?_
        exact J_84 _ _ _ _ _ _ hf (lv_sub hl [0, 1, 2] rfl) hw
      intro x2 S H locs ls hf hl hw
      rw [fX8_readText_31_s] at hf
      refine lv_iload_n hx hb dX8_readText_31 rfl (lv_at hl 2 rfl) ?_
      refine lv_aload_n hx hb dX8_readText_32 rfl (lv_at hl 1 rfl) ?_
      obtain ⟨S_33, r_33, h_33, hf⟩ := bd_some hf
      refine r_bi hw (r_runV (rest := [.int x2]) C hw (m_X0_size l D cA ad base fu 1 kBy_1 h_33) mvX0_size gw3_117 ⟨rfl, rfl, Nat.le_of_ble_eq_true rfl, Nat.le_of_ble_eq_true rfl⟩ dq_1 ln_1 vc_0 rfl hl.1 rfl (Nat.le_of_ble_eq_true rfl) dX8_readText_33 (Nat.zero_le _) (Nat.zero_le _)) (fun H locs hw => ?_)
      refine lv_icmp_ge (tgt := 99) hx hb dX8_readText_36 (by decide) (fun c_36 => ?_) (fun c_36 => ?_)
      · have hf := if_t hf c_36
        refine lv_aload_n hx hb dX8_readText_99 rfl (lv_at hl 0 rfl) ?_
        refine lv_aload_n hx hb dX8_readText_100 rfl (lv_at hl 0 rfl) ?_
        refine r_getI C hw (k := 2) dq_7 ln_7 rfl vc_8 inX8 (by decide) rfl gw1_79 dX8_readText_101 ?_
        refine lv_iconst (v := (1 : Int32)) hx hb dX8_readText_104 (by decide) ?_
        refine lv_isub hx hb dX8_readText_105 ?_
        obtain ⟨S_106, r_106, h_106, hf⟩ := bd_some hf
        refine r_bi hw (r_runV (rest := []) C hw (m_X8_lengthAt l D cA ad base fu 7 kSp_7 h_106) mvX8_lengthAt gw3_120 ⟨rfl, rfl, Nat.le_of_ble_eq_true rfl, Nat.le_of_ble_eq_true rfl⟩ dq_7 ln_7 vc_8 rfl hl.1 rfl (Nat.le_of_ble_eq_true rfl) dX8_readText_106 (Nat.zero_le _) (Nat.zero_le _)) (fun H locs hw => ?_)
        refine lv_if_le (tgt := 116) hx hb dX8_readText_109 (by decide) (fun c_109 => ?_) (fun c_109 => ?_)
        · have hf := if_t hf c_109
          refine lv_iconst (v := (0 : Int32)) hx hb dX8_readText_116 (by decide) ?_
          exact r_zret C hw hr hlocks rfl hf dX8_readText_117
        · have hf := if_f hf c_109
          refine lv_iconst (v := (1 : Int32)) hx hb dX8_readText_112 (by decide) ?_
          refine lv_goto (tgt := 117) hx hb dX8_readText_113 (by decide) ?_
          exact r_zret C hw hr hlocks rfl hf dX8_readText_117
      · have hf := if_f hf c_36
        refine lv_aload_n hx hb dX8_readText_39 rfl (lv_at hl 1 rfl) ?_
        refine lv_iload_n hx hb dX8_readText_40 rfl (lv_at hl 2 rfl) ?_
        obtain ⟨S_41, r_41, h_41, hf⟩ := bd_some hf
        refine r_bi hw (r_runV (rest := []) C hw (m_X0_at l D cA ad base fu 1 kBy_1 h_41) mvX0_at gw3_118 ⟨rfl, rfl, Nat.le_of_ble_eq_true rfl, Nat.le_of_ble_eq_true rfl⟩ dq_1 ln_1 vc_0 rfl hl.1 rfl (Nat.le_of_ble_eq_true rfl) dX8_readText_41 (Nat.zero_le _) (Nat.zero_le _)) (fun H locs hw => ?_)
        refine lv_istore_n (lv' := [(3, .int r_41), (0, .ref (ad 7)), (1, .ref (ad 1)), (2, .int x2)]) hx hb dX8_readText_44 rfl hl (by decide) rfl (fun ls hl => ?_)
        refine lv_iload_n hx hb dX8_readText_45 rfl (lv_at hl 0 rfl) ?_
        refine lv_bipush (v := (46 : Int32)) hx hb dX8_readText_46 (by decide) ?_
        refine lv_icmp_ne (tgt := 79) hx hb dX8_readText_48 (by decide) (fun c_48 => ?_) (fun c_48 => ?_)
        · have hf := if_f hf c_48
          refine lv_aload_n hx hb dX8_readText_79 rfl (lv_at hl 1 rfl) ?_
          refine lv_iload_n hx hb dX8_readText_80 rfl (lv_at hl 0 rfl) ?_
          obtain ⟨S_81, r_81, h_81, hf⟩ := bd_some hf
          refine r_bi hw (r_runV (rest := []) C hw (m_X8_add l D cA ad base fu 7 kSp_7 h_81) mvX8_add gw3_121 ⟨rfl, rfl, Nat.le_of_ble_eq_true rfl, Nat.le_of_ble_eq_true rfl⟩ dq_7 ln_7 vc_8 rfl hl.1 rfl (Nat.le_of_ble_eq_true rfl) dX8_readText_81 (Nat.zero_le _) (Nat.zero_le _)) (fun H locs hw => ?_)
          exact J_84 _ _ _ _ _ _ hf (lv_sub hl [1, 2, 3] rfl) hw
        · have hf := if_t hf c_48
          refine lv_aload_n hx hb dX8_readText_51 rfl (lv_at hl 1 rfl) ?_
          refine lv_aload_n hx hb dX8_readText_52 rfl (lv_at hl 1 rfl) ?_
          refine r_getI C hw (k := 2) dq_7 ln_7 rfl vc_8 inX8 (by decide) rfl gw1_79 dX8_readText_53 ?_
          refine lv_iconst (v := (1 : Int32)) hx hb dX8_readText_56 (by decide) ?_
          refine lv_isub hx hb dX8_readText_57 ?_
          obtain ⟨S_58, r_58, h_58, hf⟩ := bd_some hf
          refine r_bi hw (r_runV (rest := []) C hw (m_X8_lengthAt l D cA ad base fu 7 kSp_7 h_58) mvX8_lengthAt gw3_120 ⟨rfl, rfl, Nat.le_of_ble_eq_true rfl, Nat.le_of_ble_eq_true rfl⟩ dq_7 ln_7 vc_8 rfl hl.1 rfl (Nat.le_of_ble_eq_true rfl) dX8_readText_58 (Nat.zero_le _) (Nat.zero_le _)) (fun H locs hw => ?_)
          refine lv_if_le (tgt := 75) hx hb dX8_readText_61 (by decide) (fun c_61 => ?_) (fun c_61 => ?_)
          · have hf := if_t hf c_61
            exact J_75 _ _ _ _ _ hf (lv_sub hl [1, 2, 3] rfl) hw
          · have hf := if_f hf c_61
            refine lv_aload_n hx hb dX8_readText_64 rfl (lv_at hl 1 rfl) ?_
            obtain ⟨S_65, r_65, h_65, hf⟩ := bd_some hf
            refine r_bi hw (r_runV (rest := []) C hw (m_X8_open l D cA ad base fu 7 kSp_7 h_65) mvX8_open gw3_119 ⟨rfl, rfl, Nat.le_of_ble_eq_true rfl, Nat.le_of_ble_eq_true rfl⟩ dq_7 ln_7 vc_8 rfl hl.1 rfl (Nat.le_of_ble_eq_true rfl) dX8_readText_65 (Nat.zero_le _) (Nat.zero_le _)) (fun H locs hw => ?_)
            refine lv_if_eq (tgt := 75) hx hb dX8_readText_68 (by decide) (fun c_68 => ?_) (fun c_68 => ?_)
            · have hf := if_t hf c_68
              exact J_75 _ _ _ _ _ hf (lv_sub hl [1, 2, 3] rfl) hw
            · have hf := if_f hf c_68
              refine lv_iconst (v := (1 : Int32)) hx hb dX8_readText_71 (by decide) ?_
              refine lv_goto (tgt := 84) hx hb dX8_readText_72 (by decide) ?_
              exact J_84 _ _ _ _ _ _ hf (lv_sub hl [1, 2, 3] rfl) hw
  have J_24 : ∀ (S : St) (H : Heap) (locs : List Loc) (ls : Array Slot), fX8_readText_24 fu S = some (S', r) → lv_has ls 5 [(0, .ref (ad 7)), (1, .ref (ad 1))] → WS D cA ad base s S H locs → W p l e rmX8_readText s m args below meth c H locs 0 0 (MQ below (QI D cA ad base S' r) args s 0 0 (aB base)) (F0 m 24 ls []) := by
    intro  S H locs ls hf hl hw
    refine lv_aload_n hx hb dX8_readText_24 rfl (lv_at hl 0 rfl) ?_
    obtain ⟨S_25, r_25, h_25, hf⟩ := bd_some hf
    refine r_bi hw (r_runV (rest := []) C hw (m_X8_open l D cA ad base fu 7 kSp_7 h_25) mvX8_open gw3_119 ⟨rfl, rfl, Nat.le_of_ble_eq_true rfl, Nat.le_of_ble_eq_true rfl⟩ dq_7 ln_7 vc_8 rfl hl.1 rfl (Nat.le_of_ble_eq_true rfl) dX8_readText_25 (Nat.zero_le _) (Nat.zero_le _)) (fun H locs hw => ?_)
    refine lv_pop hx hb dX8_readText_28 rfl ?_
    refine lv_iconst (v := (0 : Int32)) hx hb dX8_readText_29 (by decide) ?_
    refine lv_istore_n (lv' := [(2, .int (0 : Int32)), (0, .ref (ad 7)), (1, .ref (ad 1))]) hx hb dX8_readText_30 rfl hl (by decide) rfl (fun ls hl => ?_)
    exact L_31 fu _ _ _ _ _ hf (lv_sub hl [1, 2, 0] rfl) hw
  show W p l e rmX8_readText s m args below meth c s.heap [] 0 0 _ _
  refine lv_aload_n hx hb dX8_readText_0 rfl (lv_at hl 0 rfl) ?_
  obtain ⟨S_1, r_1, h_1, hf⟩ := bd_some hf
  refine r_bv hw (r_runV (rest := []) C hw (m_X8_clear l D cA ad base fu 7 kSp_7 h_1) mvX8_clear gw3_116 ⟨rfl, rfl, Nat.le_of_ble_eq_true rfl, Nat.le_of_ble_eq_true rfl⟩ dq_7 ln_7 vc_8 rfl hl.1 rfl (Nat.le_of_ble_eq_true rfl) dX8_readText_1 (Nat.zero_le _) (Nat.zero_le _)) (fun H locs hw => ?_)
  refine lv_aload_n hx hb dX8_readText_4 rfl (lv_at hl 1 rfl) ?_
  obtain ⟨S_5, r_5, h_5, hf⟩ := bd_some hf
  refine r_bi hw (r_runV (rest := []) C hw (m_X0_size l D cA ad base fu 1 kBy_1 h_5) mvX0_size gw3_117 ⟨rfl, rfl, Nat.le_of_ble_eq_true rfl, Nat.le_of_ble_eq_true rfl⟩ dq_1 ln_1 vc_0 rfl hl.1 rfl (Nat.le_of_ble_eq_true rfl) dX8_readText_5 (Nat.zero_le _) (Nat.zero_le _)) (fun H locs hw => ?_)
  refine lv_iconst (v := (1 : Int32)) hx hb dX8_readText_8 (by decide) ?_
  refine lv_icmp_ne (tgt := 24) hx hb dX8_readText_9 (by decide) (fun c_9 => ?_) (fun c_9 => ?_)
  · have hf := if_f hf c_9
    exact J_24 _ _ _ _ hf (lv_sub hl [0, 1] rfl) hw
  · have hf := if_t hf c_9
    refine lv_aload_n hx hb dX8_readText_12 rfl (lv_at hl 1 rfl) ?_
    refine lv_iconst (v := (0 : Int32)) hx hb dX8_readText_13 (by decide) ?_
    obtain ⟨S_14, r_14, h_14, hf⟩ := bd_some hf
    refine r_bi hw (r_runV (rest := []) C hw (m_X0_at l D cA ad base fu 1 kBy_1 h_14) mvX0_at gw3_118 ⟨rfl, rfl, Nat.le_of_ble_eq_true rfl, Nat.le_of_ble_eq_true rfl⟩ dq_1 ln_1 vc_0 rfl hl.1 rfl (Nat.le_of_ble_eq_true rfl) dX8_readText_14 (Nat.zero_le _) (Nat.zero_le _)) (fun H locs hw => ?_)
    refine lv_bipush (v := (46 : Int32)) hx hb dX8_readText_17 (by decide) ?_
    refine lv_icmp_ne (tgt := 24) hx hb dX8_readText_19 (by decide) (fun c_19 => ?_) (fun c_19 => ?_)
    · have hf := if_f hf c_19
      exact J_24 _ _ _ _ hf (lv_sub hl [0, 1] rfl) hw
    · have hf := if_t hf c_19
      refine lv_iconst (v := (1 : Int32)) hx hb dX8_readText_22 (by decide) ?_
      exact r_zret C hw hr hlocks rfl hf dX8_readText_23
noncomputable def fX3_size (fu : Nat) (S : St) : Option (St × Int32) :=
  some (S, (S.1 3 3))
theorem mvX3_size : MV yX3_size cX3_size 1 (some .int) RX3 0 := ⟨gw3_74, gw3_72, gw3_73, gw1_3, by decide +kernel⟩
def rmX3_size : Room := { frames := 0, cells := 0, slots := 0, locals := 0 }
set_option maxHeartbeats 4000000 in
set_option maxRecDepth 100000 in
theorem m_X3_size (l : Launch) (D : va_G) (cA : FieldType → ClassId) (ad : Nat → Nat) (base : Nat) (fu : Nat) {S S' : St} {r : Int32} (hf : fX3_size fu S = some (S', r)) : Met l yX3_size (GC yX3_size cX3_size 1 (some .int)) rmX3_size (va_Pc [.ref (ad 3)] (wd D cA ad base S)) (QI D cA ad base S' r) 0 0 (aB base) := by
  refine Met.ofW (cc := cX3_size) (maxL := 1) (ret := (some .int)) (by decide) rfl ?_
  intro p e s m args below meth c s₁ B hml hv
  obtain ⟨hargs, hwd⟩ := hv
  have hr := B.returns
  have hlocks := B.notSynchronized
  obtain ⟨C, hw⟩ := CX.of (own := RX3) rfl B hml hwd
  have hx := C.1
  have hb := C.2.1
  have hl := lv_entry ([.ref (ad 3)]) (n := 1) (Nat.le_of_ble_eq_true rfl)
  rw [show entryFrame m args 1 = entryFrame m ([.ref (ad 3)] : List Value).toArray 1 from by rw [hargs], lg_entry_eq]
  generalize (lg_sl ([.ref (ad 3)]) ++ List.replicate (1 - (lg_sl ([.ref (ad 3)])).length) Slot.unset).toArray = ls at hl ⊢
  have hl : lv_has ls 1 [(0, .ref (ad 3))] := hl
  show W p l e rmX3_size s m args below meth c s.heap [] 0 0 _ _
  refine lv_aload_n hx hb dX3_size_0 rfl (lv_at hl 0 rfl) ?_
  refine r_getI C hw (k := 3) dq_3 ln_3 rfl vc_3 inX3 (by decide) rfl gw1_59 dX3_size_1 ?_
  exact r_iret C hw hr hlocks hf dX3_size_4
noncomputable def fX3_has (fu : Nat) (x1 : Int32) (S : St) : Option (St × Int32) :=
  if x1 < 0 then
    some (S, (0 : Int32))
  else
    if (S.1 3 3) ≤ x1 then
      some (S, (0 : Int32))
    else
      some (S, (1 : Int32))
theorem mvX3_has : MV yX3_has cX3_has 2 (some .boolean) RX3 1 := ⟨gw3_228, gw3_226, gw3_227, gw1_3, by decide +kernel⟩
def rmX3_has : Room := { frames := 0, cells := 0, slots := 0, locals := 0 }
set_option maxHeartbeats 4000000 in
set_option maxRecDepth 100000 in
theorem m_X3_has (l : Launch) (D : va_G) (cA : FieldType → ClassId) (ad : Nat → Nat) (base : Nat) (fu : Nat) {S S' : St} {x1 : Int32} {r : Int32} (hf : fX3_has fu x1 S = some (S', r)) : Met l yX3_has (GC yX3_has cX3_has 2 (some .boolean)) rmX3_has (va_Pc [.ref (ad 3), .int x1] (wd D cA ad base S)) (QI D cA ad base S' r) 0 0 (aB base) := by
  refine Met.ofW (cc := cX3_has) (maxL := 2) (ret := (some .boolean)) (by decide) rfl ?_
  intro p e s m args below meth c s₁ B hml hv
  obtain ⟨hargs, hwd⟩ := hv
  have hr := B.returns
  have hlocks := B.notSynchronized
  obtain ⟨C, hw⟩ := CX.of (own := RX3) rfl B hml hwd
  have hx := C.1
  have hb := C.2.1
  have hl := lv_entry ([.ref (ad 3), .int x1]) (n := 2) (Nat.le_of_ble_eq_true rfl)
  rw [show entryFrame m args 2 = entryFrame m ([.ref (ad 3), .int x1] : List Value).toArray 2 from by rw [hargs], lg_entry_eq]
  generalize (lg_sl ([.ref (ad 3), .int x1]) ++ List.replicate (2 - (lg_sl ([.ref (ad 3), .int x1])).length) Slot.unset).toArray = ls at hl ⊢
  have hl : lv_has ls 2 [(0, .ref (ad 3)), (1, .int x1)] := hl
  show W p l e rmX3_has s m args below meth c s.heap [] 0 0 _ _
  refine lv_iload_n hx hb dX3_has_0 rfl (lv_at hl 1 rfl) ?_
  refine lv_if_lt (tgt := 16) hx hb dX3_has_1 (by decide) (fun c_1 => ?_) (fun c_1 => ?_)
  · have hf := if_t hf c_1
    refine lv_iconst (v := (0 : Int32)) hx hb dX3_has_16 (by decide) ?_
    exact r_zret C hw hr hlocks rfl hf dX3_has_17
  · have hf := if_f hf c_1
    refine lv_iload_n hx hb dX3_has_4 rfl (lv_at hl 1 rfl) ?_
    refine lv_aload_n hx hb dX3_has_5 rfl (lv_at hl 0 rfl) ?_
    refine r_getI C hw (k := 3) dq_3 ln_3 rfl vc_3 inX3 (by decide) rfl gw1_59 dX3_has_6 ?_
    refine lv_icmp_ge (tgt := 16) hx hb dX3_has_9 (by decide) (fun c_9 => ?_) (fun c_9 => ?_)
    · have hf := if_t hf c_9
      refine lv_iconst (v := (0 : Int32)) hx hb dX3_has_16 (by decide) ?_
      exact r_zret C hw hr hlocks rfl hf dX3_has_17
    · have hf := if_f hf c_9
      refine lv_iconst (v := (1 : Int32)) hx hb dX3_has_12 (by decide) ?_
      refine lv_goto (tgt := 17) hx hb dX3_has_13 (by decide) ?_
      exact r_zret C hw hr hlocks rfl hf dX3_has_17
noncomputable def fX3_above (fu : Nat) (x1 : Int32) (S : St) : Option (St × Int32) :=
  if x1 < 0 then
    some (S, (0 : Int32))
  else
    if (S.1 3 3) ≤ x1 then
      some (S, (0 : Int32))
    else
      gd (ck x1 300) <|
      some (S, (S.1 4 (x1).toNatClampNeg))
theorem mvX3_above : MV yX3_above cX3_above 2 (some .int) RX3 1 := ⟨gw4_12, gw4_10, gw4_11, gw1_3, by decide +kernel⟩
def rmX3_above : Room := { frames := 0, cells := 0, slots := 0, locals := 0 }
set_option maxHeartbeats 4000000 in
set_option maxRecDepth 100000 in
theorem m_X3_above (l : Launch) (D : va_G) (cA : FieldType → ClassId) (ad : Nat → Nat) (base : Nat) (fu : Nat) {S S' : St} {x1 : Int32} {r : Int32} (hf : fX3_above fu x1 S = some (S', r)) : Met l yX3_above (GC yX3_above cX3_above 2 (some .int)) rmX3_above (va_Pc [.ref (ad 3), .int x1] (wd D cA ad base S)) (QI D cA ad base S' r) 0 0 (aB base) := by
  refine Met.ofW (cc := cX3_above) (maxL := 2) (ret := (some .int)) (by decide) rfl ?_
  intro p e s m args below meth c s₁ B hml hv
  obtain ⟨hargs, hwd⟩ := hv
  have hr := B.returns
  have hlocks := B.notSynchronized
  obtain ⟨C, hw⟩ := CX.of (own := RX3) rfl B hml hwd
  have hx := C.1
  have hb := C.2.1
  have hl := lv_entry ([.ref (ad 3), .int x1]) (n := 2) (Nat.le_of_ble_eq_true rfl)
  rw [show entryFrame m args 2 = entryFrame m ([.ref (ad 3), .int x1] : List Value).toArray 2 from by rw [hargs], lg_entry_eq]
  generalize (lg_sl ([.ref (ad 3), .int x1]) ++ List.replicate (2 - (lg_sl ([.ref (ad 3), .int x1])).length) Slot.unset).toArray = ls at hl ⊢
  have hl : lv_has ls 2 [(0, .ref (ad 3)), (1, .int x1)] := hl
  show W p l e rmX3_above s m args below meth c s.heap [] 0 0 _ _
  refine lv_iload_n hx hb dX3_above_0 rfl (lv_at hl 1 rfl) ?_
  refine lv_if_lt (tgt := 21) hx hb dX3_above_1 (by decide) (fun c_1 => ?_) (fun c_1 => ?_)
  · have hf := if_t hf c_1
    refine lv_iconst (v := (0 : Int32)) hx hb dX3_above_21 (by decide) ?_
    exact r_iret C hw hr hlocks hf dX3_above_22
  · have hf := if_f hf c_1
    refine lv_iload_n hx hb dX3_above_4 rfl (lv_at hl 1 rfl) ?_
    refine lv_aload_n hx hb dX3_above_5 rfl (lv_at hl 0 rfl) ?_
    refine r_getI C hw (k := 3) dq_3 ln_3 rfl vc_3 inX3 (by decide) rfl gw1_59 dX3_above_6 ?_
    refine lv_icmp_ge (tgt := 21) hx hb dX3_above_9 (by decide) (fun c_9 => ?_) (fun c_9 => ?_)
    · have hf := if_t hf c_9
      refine lv_iconst (v := (0 : Int32)) hx hb dX3_above_21 (by decide) ?_
      exact r_iret C hw hr hlocks hf dX3_above_22
    · have hf := if_f hf c_9
      refine lv_aload_n hx hb dX3_above_12 rfl (lv_at hl 0 rfl) ?_
      refine r_getR C hw (k := 0) (r := 4) dq_3 ln_3 rfl vc_3 inX3 (by decide) rfl gw1_56 dX3_above_13 ?_
      refine lv_iload_n hx hb dX3_above_16 rfl (lv_at hl 1 rfl) ?_
      obtain ⟨z_17, hf⟩ := gd_some hf
      refine r_iald C hw (x := 4) dq_4 ln_4 z_17 dX3_above_17 ?_
      refine lv_goto (tgt := 22) hx hb dX3_above_18 (by decide) ?_
      exact r_iret C hw hr hlocks hf dX3_above_22
noncomputable def fX3_labelSize (fu : Nat) (x1 : Int32) (S : St) : Option (St × Int32) :=
  if x1 < 0 then
    some (S, (0 : Int32))
  else
    if (S.1 3 3) ≤ x1 then
      some (S, (0 : Int32))
    else
      gd (ck x1 300) <|
      some (S, (S.1 6 (x1).toNatClampNeg))
theorem mvX3_labelSize : MV yX3_labelSize cX3_labelSize 2 (some .int) RX3 1 := ⟨gw4_21, gw4_19, gw4_20, gw1_3, by decide +kernel⟩
def rmX3_labelSize : Room := { frames := 0, cells := 0, slots := 0, locals := 0 }
set_option maxHeartbeats 4000000 in
set_option maxRecDepth 100000 in
theorem m_X3_labelSize (l : Launch) (D : va_G) (cA : FieldType → ClassId) (ad : Nat → Nat) (base : Nat) (fu : Nat) {S S' : St} {x1 : Int32} {r : Int32} (hf : fX3_labelSize fu x1 S = some (S', r)) : Met l yX3_labelSize (GC yX3_labelSize cX3_labelSize 2 (some .int)) rmX3_labelSize (va_Pc [.ref (ad 3), .int x1] (wd D cA ad base S)) (QI D cA ad base S' r) 0 0 (aB base) := by
  refine Met.ofW (cc := cX3_labelSize) (maxL := 2) (ret := (some .int)) (by decide) rfl ?_
  intro p e s m args below meth c s₁ B hml hv
  obtain ⟨hargs, hwd⟩ := hv
  have hr := B.returns
  have hlocks := B.notSynchronized
  obtain ⟨C, hw⟩ := CX.of (own := RX3) rfl B hml hwd
  have hx := C.1
  have hb := C.2.1
  have hl := lv_entry ([.ref (ad 3), .int x1]) (n := 2) (Nat.le_of_ble_eq_true rfl)
  rw [show entryFrame m args 2 = entryFrame m ([.ref (ad 3), .int x1] : List Value).toArray 2 from by rw [hargs], lg_entry_eq]
  generalize (lg_sl ([.ref (ad 3), .int x1]) ++ List.replicate (2 - (lg_sl ([.ref (ad 3), .int x1])).length) Slot.unset).toArray = ls at hl ⊢
  have hl : lv_has ls 2 [(0, .ref (ad 3)), (1, .int x1)] := hl
  show W p l e rmX3_labelSize s m args below meth c s.heap [] 0 0 _ _
  refine lv_iload_n hx hb dX3_labelSize_0 rfl (lv_at hl 1 rfl) ?_
  refine lv_if_lt (tgt := 21) hx hb dX3_labelSize_1 (by decide) (fun c_1 => ?_) (fun c_1 => ?_)
  · have hf := if_t hf c_1
    refine lv_iconst (v := (0 : Int32)) hx hb dX3_labelSize_21 (by decide) ?_
    exact r_iret C hw hr hlocks hf dX3_labelSize_22
  · have hf := if_f hf c_1
    refine lv_iload_n hx hb dX3_labelSize_4 rfl (lv_at hl 1 rfl) ?_
    refine lv_aload_n hx hb dX3_labelSize_5 rfl (lv_at hl 0 rfl) ?_
    refine r_getI C hw (k := 3) dq_3 ln_3 rfl vc_3 inX3 (by decide) rfl gw1_59 dX3_labelSize_6 ?_
    refine lv_icmp_ge (tgt := 21) hx hb dX3_labelSize_9 (by decide) (fun c_9 => ?_) (fun c_9 => ?_)
    · have hf := if_t hf c_9
      refine lv_iconst (v := (0 : Int32)) hx hb dX3_labelSize_21 (by decide) ?_
      exact r_iret C hw hr hlocks hf dX3_labelSize_22
    · have hf := if_f hf c_9
      refine lv_aload_n hx hb dX3_labelSize_12 rfl (lv_at hl 0 rfl) ?_
      refine r_getR C hw (k := 2) (r := 6) dq_3 ln_3 rfl vc_3 inX3 (by decide) rfl gw1_58 dX3_labelSize_13 ?_
      refine lv_iload_n hx hb dX3_labelSize_16 rfl (lv_at hl 1 rfl) ?_
      obtain ⟨z_17, hf⟩ := gd_some hf
      refine r_iald C hw (x := 6) dq_6 ln_6 z_17 dX3_labelSize_17 ?_
      refine lv_goto (tgt := 22) hx hb dX3_labelSize_18 (by decide) ?_
      exact r_iret C hw hr hlocks hf dX3_labelSize_22
noncomputable def fX3_letter (fu : Nat) (x1 : Int32) (x2 : Int32) (S : St) : Option (St × Int32) :=
  if x1 < 0 then
    some (S, (-1 : Int32))
  else
    if (S.1 3 3) ≤ x1 then
      some (S, (-1 : Int32))
    else
      if x2 < 0 then
        some (S, (-1 : Int32))
      else
        gd (ck x1 300) <|
        if x2 < (S.1 6 (x1).toNatClampNeg) then
          gd (ck x1 300) <|
          gd (ck x1 300) <|
          if ((((S.2 5 (x1).toNatClampNeg) >>> ((((6 : Int32) * (((S.1 6 (x1).toNatClampNeg) - (1 : Int32)) - x2))).toInt64 &&& 63))).toInt32 &&& (63 : Int32)) = (37 : Int32) then
            some (S, (45 : Int32))
          else
            if ((((S.2 5 (x1).toNatClampNeg) >>> ((((6 : Int32) * (((S.1 6 (x1).toNatClampNeg) - (1 : Int32)) - x2))).toInt64 &&& 63))).toInt32 &&& (63 : Int32)) ≤ (26 : Int32) then
              some (S, ((((((S.2 5 (x1).toNatClampNeg) >>> ((((6 : Int32) * (((S.1 6 (x1).toNatClampNeg) - (1 : Int32)) - x2))).toInt64 &&& 63))).toInt32 &&& (63 : Int32)) - (1 : Int32)) + (97 : Int32)))
            else
              some (S, ((((((S.2 5 (x1).toNatClampNeg) >>> ((((6 : Int32) * (((S.1 6 (x1).toNatClampNeg) - (1 : Int32)) - x2))).toInt64 &&& 63))).toInt32 &&& (63 : Int32)) - (27 : Int32)) + (48 : Int32)))
        else
          some (S, (-1 : Int32))
theorem mvX3_letter : MV yX3_letter cX3_letter 4 (some .int) RX3 2 := ⟨gw4_53, gw4_51, gw4_52, gw1_3, by decide +kernel⟩
def rmX3_letter : Room := { frames := 0, cells := 0, slots := 0, locals := 0 }
set_option maxHeartbeats 4000000 in
set_option maxRecDepth 100000 in
theorem m_X3_letter (l : Launch) (D : va_G) (cA : FieldType → ClassId) (ad : Nat → Nat) (base : Nat) (fu : Nat) {S S' : St} {x1 : Int32} {x2 : Int32} {r : Int32} (hf : fX3_letter fu x1 x2 S = some (S', r)) : Met l yX3_letter (GC yX3_letter cX3_letter 4 (some .int)) rmX3_letter (va_Pc [.ref (ad 3), .int x1, .int x2] (wd D cA ad base S)) (QI D cA ad base S' r) 0 0 (aB base) := by
  refine Met.ofW (cc := cX3_letter) (maxL := 4) (ret := (some .int)) (by decide) rfl ?_
  intro p e s m args below meth c s₁ B hml hv
  obtain ⟨hargs, hwd⟩ := hv
  have hr := B.returns
  have hlocks := B.notSynchronized
  obtain ⟨C, hw⟩ := CX.of (own := RX3) rfl B hml hwd
  have hx := C.1
  have hb := C.2.1
  have hl := lv_entry ([.ref (ad 3), .int x1, .int x2]) (n := 4) (Nat.le_of_ble_eq_true rfl)
  rw [show entryFrame m args 4 = entryFrame m ([.ref (ad 3), .int x1, .int x2] : List Value).toArray 4 from by rw [hargs], lg_entry_eq]
  generalize (lg_sl ([.ref (ad 3), .int x1, .int x2]) ++ List.replicate (4 - (lg_sl ([.ref (ad 3), .int x1, .int x2])).length) Slot.unset).toArray = ls at hl ⊢
  have hl : lv_has ls 4 [(0, .ref (ad 3)), (1, .int x1), (2, .int x2)] := hl
  show W p l e rmX3_letter s m args below meth c s.heap [] 0 0 _ _
  refine lv_iload_n hx hb dX3_letter_0 rfl (lv_at hl 1 rfl) ?_
  refine lv_if_lt (tgt := 26) hx hb dX3_letter_1 (by decide) (fun c_1 => ?_) (fun c_1 => ?_)
  · have hf := if_t hf c_1
    refine lv_iconst (v := (-1 : Int32)) hx hb dX3_letter_26 (by decide) ?_
    exact r_iret C hw hr hlocks hf dX3_letter_27
  · have hf := if_f hf c_1
    refine lv_iload_n hx hb dX3_letter_4 rfl (lv_at hl 1 rfl) ?_
    refine lv_aload_n hx hb dX3_letter_5 rfl (lv_at hl 0 rfl) ?_
    refine r_getI C hw (k := 3) dq_3 ln_3 rfl vc_3 inX3 (by decide) rfl gw1_59 dX3_letter_6 ?_
    refine lv_icmp_ge (tgt := 26) hx hb dX3_letter_9 (by decide) (fun c_9 => ?_) (fun c_9 => ?_)
    · have hf := if_t hf c_9
      refine lv_iconst (v := (-1 : Int32)) hx hb dX3_letter_26 (by decide) ?_
      exact r_iret C hw hr hlocks hf dX3_letter_27
    · have hf := if_f hf c_9
      refine lv_iload_n hx hb dX3_letter_12 rfl (lv_at hl 2 rfl) ?_
      refine lv_if_lt (tgt := 26) hx hb dX3_letter_13 (by decide) (fun c_13 => ?_) (fun c_13 => ?_)
      · have hf := if_t hf c_13
        refine lv_iconst (v := (-1 : Int32)) hx hb dX3_letter_26 (by decide) ?_
        exact r_iret C hw hr hlocks hf dX3_letter_27
      · have hf := if_f hf c_13
        refine lv_iload_n hx hb dX3_letter_16 rfl (lv_at hl 2 rfl) ?_
        refine lv_aload_n hx hb dX3_letter_17 rfl (lv_at hl 0 rfl) ?_
        refine r_getR C hw (k := 2) (r := 6) dq_3 ln_3 rfl vc_3 inX3 (by decide) rfl gw1_58 dX3_letter_18 ?_
        refine lv_iload_n hx hb dX3_letter_21 rfl (lv_at hl 1 rfl) ?_
        obtain ⟨z_22, hf⟩ := gd_some hf
        refine r_iald C hw (x := 6) dq_6 ln_6 z_22 dX3_letter_22 ?_
        refine lv_icmp_lt (tgt := 28) hx hb dX3_letter_23 (by decide) (fun c_23 => ?_) (fun c_23 => ?_)
        · have hf := if_t hf c_23
          refine lv_aload_n hx hb dX3_letter_28 rfl (lv_at hl 0 rfl) ?_
          refine r_getR C hw (k := 1) (r := 5) dq_3 ln_3 rfl vc_3 inX3 (by decide) rfl gw1_57 dX3_letter_29 ?_
          refine lv_iload_n hx hb dX3_letter_32 rfl (lv_at hl 1 rfl) ?_
          obtain ⟨z_33, hf⟩ := gd_some hf
          refine r_lald C hw (x := 5) dq_5 ln_5 z_33 dX3_letter_33 ?_
          refine lv_bipush (v := (6 : Int32)) hx hb dX3_letter_34 (by decide) ?_
          refine lv_aload_n hx hb dX3_letter_36 rfl (lv_at hl 0 rfl) ?_
          refine r_getR C hw (k := 2) (r := 6) dq_3 ln_3 rfl vc_3 inX3 (by decide) rfl gw1_58 dX3_letter_37 ?_
          refine lv_iload_n hx hb dX3_letter_40 rfl (lv_at hl 1 rfl) ?_
          obtain ⟨z_41, hf⟩ := gd_some hf
          refine r_iald C hw (x := 6) dq_6 ln_6 z_41 dX3_letter_41 ?_
          refine lv_iconst (v := (1 : Int32)) hx hb dX3_letter_42 (by decide) ?_
          refine lv_isub hx hb dX3_letter_43 ?_
          refine lv_iload_n hx hb dX3_letter_44 rfl (lv_at hl 2 rfl) ?_
          refine lv_isub hx hb dX3_letter_45 ?_
          refine lv_imul hx hb dX3_letter_46 ?_
          refine lv_lshr hx hb dX3_letter_47 rfl ?_
          refine lv_l2i hx hb dX3_letter_48 rfl ?_
          refine lv_bipush (v := (63 : Int32)) hx hb dX3_letter_49 (by decide) ?_
          refine lv_iand hx hb dX3_letter_51 ?_
          refine lv_istore_n (lv' := [(3, .int ((((S.2 5 (x1).toNatClampNeg) >>> ((((6 : Int32) * (((S.1 6 (x1).toNatClampNeg) - (1 : Int32)) - x2))).toInt64 &&& 63))).toInt32 &&& (63 : Int32))), (0, .ref (ad 3)), (1, .int x1), (2, .int x2)]) hx hb dX3_letter_52 rfl hl (by decide) rfl (fun ls hl => ?_)
          refine lv_iload_n hx hb dX3_letter_53 rfl (lv_at hl 0 rfl) ?_
          refine lv_bipush (v := (37 : Int32)) hx hb dX3_letter_54 (by decide) ?_
          refine lv_icmp_ne (tgt := 62) hx hb dX3_letter_56 (by decide) (fun c_56 => ?_) (fun c_56 => ?_)
          · have hf := if_f hf c_56
            refine lv_iload_n hx hb dX3_letter_62 rfl (lv_at hl 0 rfl) ?_
            refine lv_bipush (v := (26 : Int32)) hx hb dX3_letter_63 (by decide) ?_
            refine lv_icmp_le (tgt := 78) hx hb dX3_letter_65 (by decide) (fun c_65 => ?_) (fun c_65 => ?_)
            · have hf := if_t hf c_65
              refine lv_iload_n hx hb dX3_letter_78 rfl (lv_at hl 0 rfl) ?_
              refine lv_iconst (v := (1 : Int32)) hx hb dX3_letter_79 (by decide) ?_
              refine lv_isub hx hb dX3_letter_80 ?_
              refine lv_bipush (v := (97 : Int32)) hx hb dX3_letter_81 (by decide) ?_
              refine lv_iadd hx hb dX3_letter_83 ?_
              exact r_iret C hw hr hlocks hf dX3_letter_84
            · have hf := if_f hf c_65
              refine lv_iload_n hx hb dX3_letter_68 rfl (lv_at hl 0 rfl) ?_
              refine lv_bipush (v := (27 : Int32)) hx hb dX3_letter_69 (by decide) ?_
              refine lv_isub hx hb dX3_letter_71 ?_
              refine lv_bipush (v := (48 : Int32)) hx hb dX3_letter_72 (by decide) ?_
              refine lv_iadd hx hb dX3_letter_74 ?_
              refine lv_goto (tgt := 84) hx hb dX3_letter_75 (by decide) ?_
              exact r_iret C hw hr hlocks hf dX3_letter_84
          · have hf := if_t hf c_56
            refine lv_bipush (v := (45 : Int32)) hx hb dX3_letter_59 (by decide) ?_
            exact r_iret C hw hr hlocks hf dX3_letter_61
        · have hf := if_f hf c_23
          refine lv_iconst (v := (-1 : Int32)) hx hb dX3_letter_26 (by decide) ?_
          exact r_iret C hw hr hlocks hf dX3_letter_27
noncomputable def fX3_depth_7 (fu : Nat) (n : Nat) : Int32 → Int32 → Int32 → St → Option (St × Int32) :=
  Nat.rec (motive := fun _ => Int32 → Int32 → Int32 → St → Option (St × Int32)) (fun _ _ _ _ => none) (fun _ k_7 x2 x3 x4 S =>
    if (6 : Int32) ≤ x4 then
      some (S, x2)
    else
      if x3 = 0 then
        some (S, x2)
      else
        bd (fX3_above fu x3 S) fun S_23 r_23 =>
        k_7 (x2 + (1 : Int32)) r_23 (x4 + (1 : Int32)) S_23) n
theorem fX3_depth_7_s (fu : Nat) (n : Nat) (x2 : Int32) (x3 : Int32) (x4 : Int32) (S : St) : fX3_depth_7 fu (n + 1) x2 x3 x4 S = (
    if (6 : Int32) ≤ x4 then
      some (S, x2)
    else
      if x3 = 0 then
        some (S, x2)
      else
        bd (fX3_above fu x3 S) fun S_23 r_23 =>
        (fX3_depth_7 fu n) (x2 + (1 : Int32)) r_23 (x4 + (1 : Int32)) S_23) := rfl
noncomputable def fX3_depth (fu : Nat) (x1 : Int32) (S : St) : Option (St × Int32) :=
  fX3_depth_7 fu fu (0 : Int32) x1 (0 : Int32) S
theorem mvX3_depth : MV yX3_depth cX3_depth 5 (some .int) RX3 1 := ⟨gw4_8, gw4_6, gw4_7, gw1_3, by decide +kernel⟩
def rmX3_depth : Room := { frames := 1, cells := 0, slots := 0, locals := 21 }
set_option maxHeartbeats 4000000 in
set_option maxRecDepth 100000 in
theorem m_X3_depth (l : Launch) (D : va_G) (cA : FieldType → ClassId) (ad : Nat → Nat) (base : Nat) (fu : Nat) {S S' : St} {x1 : Int32} {r : Int32} (hf : fX3_depth fu x1 S = some (S', r)) : Met l yX3_depth (GC yX3_depth cX3_depth 5 (some .int)) rmX3_depth (va_Pc [.ref (ad 3), .int x1] (wd D cA ad base S)) (QI D cA ad base S' r) 0 0 (aB base) := by
  refine Met.ofW (cc := cX3_depth) (maxL := 5) (ret := (some .int)) (by decide) rfl ?_
  intro p e s m args below meth c s₁ B hml hv
  obtain ⟨hargs, hwd⟩ := hv
  have hr := B.returns
  have hlocks := B.notSynchronized
  obtain ⟨C, hw⟩ := CX.of (own := RX3) rfl B hml hwd
  have hx := C.1
  have hb := C.2.1
  have hl := lv_entry ([.ref (ad 3), .int x1]) (n := 5) (Nat.le_of_ble_eq_true rfl)
  rw [show entryFrame m args 5 = entryFrame m ([.ref (ad 3), .int x1] : List Value).toArray 5 from by rw [hargs], lg_entry_eq]
  generalize (lg_sl ([.ref (ad 3), .int x1]) ++ List.replicate (5 - (lg_sl ([.ref (ad 3), .int x1])).length) Slot.unset).toArray = ls at hl ⊢
  have hl : lv_has ls 5 [(0, .ref (ad 3)), (1, .int x1)] := hl
  have L_7 : ∀ (n_7 : Nat) (x2 : Int32) (x3 : Int32) (x4 : Int32) (S : St) (H : Heap) (locs : List Loc) (ls : Array Slot), fX3_depth_7 fu n_7 x2 x3 x4 S = some (S', r) → lv_has ls 5 [(0, .ref (ad 3)), (2, .int x2), (3, .int x3), (4, .int x4)] → WS D cA ad base s S H locs → W p l e rmX3_depth s m args below meth c H locs 0 0 (MQ below (QI D cA ad base S' r) args s 0 0 (aB base)) (F0 m 7 ls []) := by
    intro n_7
    induction n_7 with
    | zero =>
      intro x2 x3 x4 S H locs ls hf hl hw
      exact (no_none hf).elim
    | succ n_7 ih_7 =>
      intro x2 x3 x4 S H locs ls hf hl hw
      rw [fX3_depth_7_s] at hf
      refine lv_iload hx hb dX3_depth_7 (lv_at hl 3 rfl) ?_
      refine lv_bipush (v := (6 : Int32)) hx hb dX3_depth_9 (by decide) ?_
      refine lv_icmp_ge (tgt := 33) hx hb dX3_depth_11 (by decide) (fun c_11 => ?_) (fun c_11 => ?_)
      · have hf := if_t hf c_11
        refine lv_iload_n hx hb dX3_depth_33 rfl (lv_at hl 1 rfl) ?_
        exact r_iret C hw hr hlocks hf dX3_depth_34
      · have hf := if_f hf c_11
        refine lv_iload_n hx hb dX3_depth_14 rfl (lv_at hl 2 rfl) ?_
        refine lv_if_eq (tgt := 33) hx hb dX3_depth_15 (by decide) (fun c_15 => ?_) (fun c_15 => ?_)
        · have hf := if_t hf c_15
          refine lv_iload_n hx hb dX3_depth_33 rfl (lv_at hl 1 rfl) ?_
          exact r_iret C hw hr hlocks hf dX3_depth_34
        · have hf := if_f hf c_15
          refine lv_iinc (v := (x2 + (1 : Int32))) (lv' := [(2, .int (x2 + (1 : Int32))), (0, .ref (ad 3)), (3, .int x3), (4, .int x4)]) hx hb dX3_depth_18 hl (k := 1) rfl rfl (by decide) rfl (fun ls hl => ?_)
          refine lv_aload_n hx hb dX3_depth_21 rfl (lv_at hl 1 rfl) ?_
          refine lv_iload_n hx hb dX3_depth_22 rfl (lv_at hl 2 rfl) ?_
          obtain ⟨S_23, r_23, h_23, hf⟩ := bd_some hf
          refine r_bi hw (r_runV (rest := []) C hw (m_X3_above l D cA ad base fu h_23) mvX3_above gw4_9 ⟨rfl, rfl, Nat.le_of_ble_eq_true rfl, Nat.le_of_ble_eq_true rfl⟩ dq_3 ln_3 vc_3 rfl hl.1 rfl (Nat.le_of_ble_eq_true rfl) dX3_depth_23 (Nat.zero_le _) (Nat.zero_le _)) (fun H locs hw => ?_)
          refine lv_istore_n (lv' := [(3, .int r_23), (2, .int (x2 + (1 : Int32))), (0, .ref (ad 3)), (4, .int x4)]) hx hb dX3_depth_26 rfl hl (by decide) rfl (fun ls hl => ?_)
          refine lv_iinc (v := (x4 + (1 : Int32))) (lv' := [(4, .int (x4 + (1 : Int32))), (3, .int r_23), (2, .int (x2 + (1 : Int32))), (0, .ref (ad 3))]) hx hb dX3_depth_27 hl (k := 3) rfl rfl (by decide) rfl (fun ls hl => ?_)
          refine lv_goto (tgt := 7) hx hb dX3_depth_30 (by decide) ?_
          exact ih_7 _ _ _ _ _ _ _ hf (lv_sub hl [3, 2, 1, 0] rfl) hw
  show W p l e rmX3_depth s m args below meth c s.heap [] 0 0 _ _
  refine lv_iconst (v := (0 : Int32)) hx hb dX3_depth_0 (by decide) ?_
  refine lv_istore_n (lv' := [(2, .int (0 : Int32)), (0, .ref (ad 3)), (1, .int x1)]) hx hb dX3_depth_1 rfl hl (by decide) rfl (fun ls hl => ?_)
  refine lv_iload_n hx hb dX3_depth_2 rfl (lv_at hl 2 rfl) ?_
  refine lv_istore_n (lv' := [(3, .int x1), (2, .int (0 : Int32)), (0, .ref (ad 3)), (1, .int x1)]) hx hb dX3_depth_3 rfl hl (by decide) rfl (fun ls hl => ?_)
  refine lv_iconst (v := (0 : Int32)) hx hb dX3_depth_4 (by decide) ?_
  refine lv_istore (lv' := [(4, .int (0 : Int32)), (3, .int x1), (2, .int (0 : Int32)), (0, .ref (ad 3)), (1, .int x1)]) hx hb dX3_depth_5 hl (by decide) rfl (fun ls hl => ?_)
  exact L_7 fu _ _ _ _ _ _ _ hf (lv_sub hl [3, 2, 1, 0] rfl) hw
noncomputable def fX3_isIn_29 (fu : Nat) (x2 : Int32) (x3 : Int32) (S : St) : Option (St × Int32) :=
  if x3 = x2 then
    some (S, (1 : Int32))
  else
    some (S, (0 : Int32))
noncomputable def fX3_isIn_5 (fu : Nat) (n : Nat) : Int32 → Int32 → Int32 → St → Option (St × Int32) :=
  Nat.rec (motive := fun _ => Int32 → Int32 → Int32 → St → Option (St × Int32)) (fun _ _ _ _ => none) (fun _ k_5 x2 x3 x4 S =>
    if (6 : Int32) ≤ x4 then
      fX3_isIn_29 fu x2 x3 S
    else
      if x3 = x2 then
        fX3_isIn_29 fu x2 x3 S
      else
        bd (fX3_above fu x3 S) fun S_19 r_19 =>
        k_5 x2 r_19 (x4 + (1 : Int32)) S_19) n
theorem fX3_isIn_5_s (fu : Nat) (n : Nat) (x2 : Int32) (x3 : Int32) (x4 : Int32) (S : St) : fX3_isIn_5 fu (n + 1) x2 x3 x4 S = (
    if (6 : Int32) ≤ x4 then
      fX3_isIn_29 fu x2 x3 S
    else
      if x3 = x2 then
        fX3_isIn_29 fu x2 x3 S
      else
        bd (fX3_above fu x3 S) fun S_19 r_19 =>
        (fX3_isIn_5 fu n) x2 r_19 (x4 + (1 : Int32)) S_19) := rfl
noncomputable def fX3_isIn (fu : Nat) (x1 : Int32) (x2 : Int32) (S : St) : Option (St × Int32) :=
  fX3_isIn_5 fu fu x2 x1 (0 : Int32) S
theorem mvX3_isIn : MV yX3_isIn cX3_isIn 5 (some .boolean) RX3 2 := ⟨gw4_99, gw4_97, gw4_98, gw1_3, by decide +kernel⟩
def rmX3_isIn : Room := { frames := 1, cells := 0, slots := 0, locals := 21 }
set_option maxHeartbeats 4000000 in
set_option maxRecDepth 100000 in
theorem m_X3_isIn (l : Launch) (D : va_G) (cA : FieldType → ClassId) (ad : Nat → Nat) (base : Nat) (fu : Nat) {S S' : St} {x1 : Int32} {x2 : Int32} {r : Int32} (hf : fX3_isIn fu x1 x2 S = some (S', r)) : Met l yX3_isIn (GC yX3_isIn cX3_isIn 5 (some .boolean)) rmX3_isIn (va_Pc [.ref (ad 3), .int x1, .int x2] (wd D cA ad base S)) (QI D cA ad base S' r) 0 0 (aB base) := by
  refine Met.ofW (cc := cX3_isIn) (maxL := 5) (ret := (some .boolean)) (by decide) rfl ?_
  intro p e s m args below meth c s₁ B hml hv
  obtain ⟨hargs, hwd⟩ := hv
  have hr := B.returns
  have hlocks := B.notSynchronized
  obtain ⟨C, hw⟩ := CX.of (own := RX3) rfl B hml hwd
  have hx := C.1
  have hb := C.2.1
  have hl := lv_entry ([.ref (ad 3), .int x1, .int x2]) (n := 5) (Nat.le_of_ble_eq_true rfl)
  rw [show entryFrame m args 5 = entryFrame m ([.ref (ad 3), .int x1, .int x2] : List Value).toArray 5 from by rw [hargs], lg_entry_eq]
  generalize (lg_sl ([.ref (ad 3), .int x1, .int x2]) ++ List.replicate (5 - (lg_sl ([.ref (ad 3), .int x1, .int x2])).length) Slot.unset).toArray = ls at hl ⊢
  have hl : lv_has ls 5 [(0, .ref (ad 3)), (1, .int x1), (2, .int x2)] := hl
  have J_29 : ∀ (x2 : Int32) (x3 : Int32) (S : St) (H : Heap) (locs : List Loc) (ls : Array Slot), fX3_isIn_29 fu x2 x3 S = some (S', r) → lv_has ls 5 [(2, .int x2), (3, .int x3)] → WS D cA ad base s S H locs → W p l e rmX3_isIn s m args below meth c H locs 0 0 (MQ below (QI D cA ad base S' r) args s 0 0 (aB base)) (F0 m 29 ls []) := by
    intro x2 x3 S H locs ls hf hl hw
    refine lv_iload_n hx hb dX3_isIn_29 rfl (lv_at hl 1 rfl) ?_
    refine lv_iload_n hx hb dX3_isIn_30 rfl (lv_at hl 0 rfl) ?_
    refine lv_icmp_ne (tgt := 38) hx hb dX3_isIn_31 (by decide) (fun c_31 => ?_) (fun c_31 => ?_)
    · have hf := if_f hf c_31
      refine lv_iconst (v := (0 : Int32)) hx hb dX3_isIn_38 (by decide) ?_
      exact r_zret C hw hr hlocks rfl hf dX3_isIn_39
    · have hf := if_t hf c_31
      refine lv_iconst (v := (1 : Int32)) hx hb dX3_isIn_34 (by decide) ?_
      refine lv_goto (tgt := 39) hx hb dX3_isIn_35 (by decide) ?_
      exact r_zret C hw hr hlocks rfl hf dX3_isIn_39
  have L_5 : ∀ (n_5 : Nat) (x2 : Int32) (x3 : Int32) (x4 : Int32) (S : St) (H : Heap) (locs : List Loc) (ls : Array Slot), fX3_isIn_5 fu n_5 x2 x3 x4 S = some (S', r) → lv_has ls 5 [(0, .ref (ad 3)), (2, .int x2), (3, .int x3), (4, .int x4)] → WS D cA ad base s S H locs → W p l e rmX3_isIn s m args below meth c H locs 0 0 (MQ below (QI D cA ad base S' r) args s 0 0 (aB base)) (F0 m 5 ls []) := by
    intro n_5
    induction n_5 with
    | zero =>
      intro x2 x3 x4 S H locs ls hf hl hw
      exact (no_none hf).elim
    | succ n_5 ih_5 =>
      intro x2 x3 x4 S H locs ls hf hl hw
      rw [fX3_isIn_5_s] at hf
      refine lv_iload hx hb dX3_isIn_5 (lv_at hl 3 rfl) ?_
      refine lv_bipush (v := (6 : Int32)) hx hb dX3_isIn_7 (by decide) ?_
      refine lv_icmp_ge (tgt := 29) hx hb dX3_isIn_9 (by decide) (fun c_9 => ?_) (fun c_9 => ?_)
      · have hf := if_t hf c_9
        exact J_29 _ _ _ _ _ _ hf (lv_sub hl [1, 2] rfl) hw
      · have hf := if_f hf c_9
        refine lv_iload_n hx hb dX3_isIn_12 rfl (lv_at hl 2 rfl) ?_
        refine lv_iload_n hx hb dX3_isIn_13 rfl (lv_at hl 1 rfl) ?_
        refine lv_icmp_eq (tgt := 29) hx hb dX3_isIn_14 (by decide) (fun c_14 => ?_) (fun c_14 => ?_)
        · have hf := if_t hf c_14
          exact J_29 _ _ _ _ _ _ hf (lv_sub hl [1, 2] rfl) hw
        · have hf := if_f hf c_14
          refine lv_aload_n hx hb dX3_isIn_17 rfl (lv_at hl 0 rfl) ?_
          refine lv_iload_n hx hb dX3_isIn_18 rfl (lv_at hl 2 rfl) ?_
          obtain ⟨S_19, r_19, h_19, hf⟩ := bd_some hf
          refine r_bi hw (r_runV (rest := []) C hw (m_X3_above l D cA ad base fu h_19) mvX3_above gw4_9 ⟨rfl, rfl, Nat.le_of_ble_eq_true rfl, Nat.le_of_ble_eq_true rfl⟩ dq_3 ln_3 vc_3 rfl hl.1 rfl (Nat.le_of_ble_eq_true rfl) dX3_isIn_19 (Nat.zero_le _) (Nat.zero_le _)) (fun H locs hw => ?_)
          refine lv_istore_n (lv' := [(3, .int r_19), (0, .ref (ad 3)), (2, .int x2), (4, .int x4)]) hx hb dX3_isIn_22 rfl hl (by decide) rfl (fun ls hl => ?_)
          refine lv_iinc (v := (x4 + (1 : Int32))) (lv' := [(4, .int (x4 + (1 : Int32))), (3, .int r_19), (0, .ref (ad 3)), (2, .int x2)]) hx hb dX3_isIn_23 hl (k := 3) rfl rfl (by decide) rfl (fun ls hl => ?_)
          refine lv_goto (tgt := 5) hx hb dX3_isIn_26 (by decide) ?_
          exact ih_5 _ _ _ _ _ _ _ hf (lv_sub hl [2, 3, 1, 0] rfl) hw
  show W p l e rmX3_isIn s m args below meth c s.heap [] 0 0 _ _
  refine lv_iload_n hx hb dX3_isIn_0 rfl (lv_at hl 1 rfl) ?_
  refine lv_istore_n (lv' := [(3, .int x1), (0, .ref (ad 3)), (1, .int x1), (2, .int x2)]) hx hb dX3_isIn_1 rfl hl (by decide) rfl (fun ls hl => ?_)
  refine lv_iconst (v := (0 : Int32)) hx hb dX3_isIn_2 (by decide) ?_
  refine lv_istore (lv' := [(4, .int (0 : Int32)), (3, .int x1), (0, .ref (ad 3)), (1, .int x1), (2, .int x2)]) hx hb dX3_isIn_3 hl (by decide) rfl (fun ls hl => ?_)
  exact L_5 fu _ _ _ _ _ _ _ hf (lv_sub hl [2, 4, 1, 0] rfl) hw
noncomputable def fX3_textSize_13 (fu : Nat) (n : Nat) : Int32 → Int32 → Int32 → St → Option (St × Int32) :=
  Nat.rec (motive := fun _ => Int32 → Int32 → Int32 → St → Option (St × Int32)) (fun _ _ _ _ => none) (fun _ k_13 x2 x3 x4 S =>
    if (6 : Int32) ≤ x4 then
      some (S, x2)
    else
      if x3 = 0 then
        some (S, x2)
      else
        bd (fX3_labelSize fu x3 S) fun S_27 r_27 =>
        bd (fX3_above fu x3 S_27) fun S_36 r_36 =>
        k_13 (x2 + (r_27 + (1 : Int32))) r_36 (x4 + (1 : Int32)) S_36) n
theorem fX3_textSize_13_s (fu : Nat) (n : Nat) (x2 : Int32) (x3 : Int32) (x4 : Int32) (S : St) : fX3_textSize_13 fu (n + 1) x2 x3 x4 S = (
    if (6 : Int32) ≤ x4 then
      some (S, x2)
    else
      if x3 = 0 then
        some (S, x2)
      else
        bd (fX3_labelSize fu x3 S) fun S_27 r_27 =>
        bd (fX3_above fu x3 S_27) fun S_36 r_36 =>
        (fX3_textSize_13 fu n) (x2 + (r_27 + (1 : Int32))) r_36 (x4 + (1 : Int32)) S_36) := rfl
noncomputable def fX3_textSize (fu : Nat) (x1 : Int32) (S : St) : Option (St × Int32) :=
  if x1 = 0 then
    some (S, (1 : Int32))
  else
    fX3_textSize_13 fu fu (-1 : Int32) x1 (0 : Int32) S
theorem mvX3_textSize : MV yX3_textSize cX3_textSize 5 (some .int) RX3 1 := ⟨gw4_17, gw4_15, gw4_16, gw1_3, by decide +kernel⟩
def rmX3_textSize : Room := { frames := 1, cells := 0, slots := 0, locals := 21 }
set_option maxHeartbeats 4000000 in
set_option maxRecDepth 100000 in
theorem m_X3_textSize (l : Launch) (D : va_G) (cA : FieldType → ClassId) (ad : Nat → Nat) (base : Nat) (fu : Nat) {S S' : St} {x1 : Int32} {r : Int32} (hf : fX3_textSize fu x1 S = some (S', r)) : Met l yX3_textSize (GC yX3_textSize cX3_textSize 5 (some .int)) rmX3_textSize (va_Pc [.ref (ad 3), .int x1] (wd D cA ad base S)) (QI D cA ad base S' r) 0 0 (aB base) := by
  refine Met.ofW (cc := cX3_textSize) (maxL := 5) (ret := (some .int)) (by decide) rfl ?_
  intro p e s m args below meth c s₁ B hml hv
  obtain ⟨hargs, hwd⟩ := hv
  have hr := B.returns
  have hlocks := B.notSynchronized
  obtain ⟨C, hw⟩ := CX.of (own := RX3) rfl B hml hwd
  have hx := C.1
  have hb := C.2.1
  have hl := lv_entry ([.ref (ad 3), .int x1]) (n := 5) (Nat.le_of_ble_eq_true rfl)
  rw [show entryFrame m args 5 = entryFrame m ([.ref (ad 3), .int x1] : List Value).toArray 5 from by rw [hargs], lg_entry_eq]
  generalize (lg_sl ([.ref (ad 3), .int x1]) ++ List.replicate (5 - (lg_sl ([.ref (ad 3), .int x1])).length) Slot.unset).toArray = ls at hl ⊢
  have hl : lv_has ls 5 [(0, .ref (ad 3)), (1, .int x1)] := hl
  have L_13 : ∀ (n_13 : Nat) (x2 : Int32) (x3 : Int32) (x4 : Int32) (S : St) (H : Heap) (locs : List Loc) (ls : Array Slot), fX3_textSize_13 fu n_13 x2 x3 x4 S = some (S', r) → lv_has ls 5 [(0, .ref (ad 3)), (2, .int x2), (3, .int x3), (4, .int x4)] → WS D cA ad base s S H locs → W p l e rmX3_textSize s m args below meth c H locs 0 0 (MQ below (QI D cA ad base S' r) args s 0 0 (aB base)) (F0 m 13 ls []) := by
    intro n_13
    induction n_13 with
    | zero =>
      intro x2 x3 x4 S H locs ls hf hl hw
      exact (no_none hf).elim
    | succ n_13 ih_13 =>
      intro x2 x3 x4 S H locs ls hf hl hw
      rw [fX3_textSize_13_s] at hf
      refine lv_iload hx hb dX3_textSize_13 (lv_at hl 3 rfl) ?_
      refine lv_bipush (v := (6 : Int32)) hx hb dX3_textSize_15 (by decide) ?_
      refine lv_icmp_ge (tgt := 46) hx hb dX3_textSize_17 (by decide) (fun c_17 => ?_) (fun c_17 => ?_)
      · have hf := if_t hf c_17
        refine lv_iload_n hx hb dX3_textSize_46 rfl (lv_at hl 1 rfl) ?_
        exact r_iret C hw hr hlocks hf dX3_textSize_47
      · have hf := if_f hf c_17
        refine lv_iload_n hx hb dX3_textSize_20 rfl (lv_at hl 2 rfl) ?_
        refine lv_if_eq (tgt := 46) hx hb dX3_textSize_21 (by decide) (fun c_21 => ?_) (fun c_21 => ?_)
        · have hf := if_t hf c_21
          refine lv_iload_n hx hb dX3_textSize_46 rfl (lv_at hl 1 rfl) ?_
          exact r_iret C hw hr hlocks hf dX3_textSize_47
        · have hf := if_f hf c_21
          refine lv_iload_n hx hb dX3_textSize_24 rfl (lv_at hl 1 rfl) ?_
          refine lv_aload_n hx hb dX3_textSize_25 rfl (lv_at hl 0 rfl) ?_
          refine lv_iload_n hx hb dX3_textSize_26 rfl (lv_at hl 2 rfl) ?_
          obtain ⟨S_27, r_27, h_27, hf⟩ := bd_some hf
          refine r_bi hw (r_runV (rest := [.int x2]) C hw (m_X3_labelSize l D cA ad base fu h_27) mvX3_labelSize gw4_18 ⟨rfl, rfl, Nat.le_of_ble_eq_true rfl, Nat.le_of_ble_eq_true rfl⟩ dq_3 ln_3 vc_3 rfl hl.1 rfl (Nat.le_of_ble_eq_true rfl) dX3_textSize_27 (Nat.zero_le _) (Nat.zero_le _)) (fun H locs hw => ?_)
          refine lv_iconst (v := (1 : Int32)) hx hb dX3_textSize_30 (by decide) ?_
          refine lv_iadd hx hb dX3_textSize_31 ?_
          refine lv_iadd hx hb dX3_textSize_32 ?_
          refine lv_istore_n (lv' := [(2, .int (x2 + (r_27 + (1 : Int32)))), (0, .ref (ad 3)), (3, .int x3), (4, .int x4)]) hx hb dX3_textSize_33 rfl hl (by decide) rfl (fun ls hl => ?_)
          refine lv_aload_n hx hb dX3_textSize_34 rfl (lv_at hl 1 rfl) ?_
          refine lv_iload_n hx hb dX3_textSize_35 rfl (lv_at hl 2 rfl) ?_
          obtain ⟨S_36, r_36, h_36, hf⟩ := bd_some hf
          refine r_bi hw (r_runV (rest := []) C hw (m_X3_above l D cA ad base fu h_36) mvX3_above gw4_9 ⟨rfl, rfl, Nat.le_of_ble_eq_true rfl, Nat.le_of_ble_eq_true rfl⟩ dq_3 ln_3 vc_3 rfl hl.1 rfl (Nat.le_of_ble_eq_true rfl) dX3_textSize_36 (Nat.zero_le _) (Nat.zero_le _)) (fun H locs hw => ?_)
          refine lv_istore_n (lv' := [(3, .int r_36), (2, .int (x2 + (r_27 + (1 : Int32)))), (0, .ref (ad 3)), (4, .int x4)]) hx hb dX3_textSize_39 rfl hl (by decide) rfl (fun ls hl => ?_)
          refine lv_iinc (v := (x4 + (1 : Int32))) (lv' := [(4, .int (x4 + (1 : Int32))), (3, .int r_36), (2, .int (x2 + (r_27 + (1 : Int32)))), (0, .ref (ad 3))]) hx hb dX3_textSize_40 hl (k := 3) rfl rfl (by decide) rfl (fun ls hl => ?_)
          refine lv_goto (tgt := 13) hx hb dX3_textSize_43 (by decide) ?_
          exact ih_13 _ _ _ _ _ _ _ hf (lv_sub hl [3, 2, 1, 0] rfl) hw
  show W p l e rmX3_textSize s m args below meth c s.heap [] 0 0 _ _
  refine lv_iload_n hx hb dX3_textSize_0 rfl (lv_at hl 1 rfl) ?_
  refine lv_if_ne (tgt := 6) hx hb dX3_textSize_1 (by decide) (fun c_1 => ?_) (fun c_1 => ?_)
  · have hf := if_f hf c_1
    refine lv_iconst (v := (-1 : Int32)) hx hb dX3_textSize_6 (by decide) ?_
    refine lv_istore_n (lv' := [(2, .int (-1 : Int32)), (0, .ref (ad 3)), (1, .int x1)]) hx hb dX3_textSize_7 rfl hl (by decide) rfl (fun ls hl => ?_)
    refine lv_iload_n hx hb dX3_textSize_8 rfl (lv_at hl 2 rfl) ?_
    refine lv_istore_n (lv' := [(3, .int x1), (2, .int (-1 : Int32)), (0, .ref (ad 3)), (1, .int x1)]) hx hb dX3_textSize_9 rfl hl (by decide) rfl (fun ls hl => ?_)
    refine lv_iconst (v := (0 : Int32)) hx hb dX3_textSize_10 (by decide) ?_
    refine lv_istore (lv' := [(4, .int (0 : Int32)), (3, .int x1), (2, .int (-1 : Int32)), (0, .ref (ad 3)), (1, .int x1)]) hx hb dX3_textSize_11 hl (by decide) rfl (fun ls hl => ?_)
    exact L_13 fu _ _ _ _ _ _ _ hf (lv_sub hl [3, 2, 1, 0] rfl) hw
  · have hf := if_t hf c_1
    refine lv_iconst (v := (1 : Int32)) hx hb dX3_textSize_4 (by decide) ?_
    exact r_iret C hw hr hlocks hf dX3_textSize_5
noncomputable def fX3_textByte_64 (fu : Nat) (x3 : Int32) (x4 : Int32) (S : St) : Option (St × Int32) :=
  bd (fX3_labelSize fu x3 S) fun S_68 r_68 =>
  if x4 = r_68 then
    some (S_68, (46 : Int32))
  else
    bd (fX3_letter fu x3 x4 S_68) fun S_83 r_83 =>
    some (S_83, r_83)
noncomputable def fX3_textByte_23 (fu : Nat) (n : Nat) : Int32 → Int32 → Int32 → St → Option (St × Int32) :=
  Nat.rec (motive := fun _ => Int32 → Int32 → Int32 → St → Option (St × Int32)) (fun _ _ _ _ => none) (fun _ k_23 x3 x4 x5 S =>
    if (6 : Int32) ≤ x5 then
      fX3_textByte_64 fu x3 x4 S
    else
      bd (fX3_labelSize fu x3 S) fun S_34 r_34 =>
      if x4 ≤ r_34 then
        fX3_textByte_64 fu x3 x4 S_34
      else
        bd (fX3_labelSize fu x3 S_34) fun S_44 r_44 =>
        bd (fX3_above fu x3 S_44) fun S_54 r_54 =>
        k_23 r_54 (x4 - (r_44 + (1 : Int32))) (x5 + (1 : Int32)) S_54) n
theorem fX3_textByte_23_s (fu : Nat) (n : Nat) (x3 : Int32) (x4 : Int32) (x5 : Int32) (S : St) : fX3_textByte_23 fu (n + 1) x3 x4 x5 S = (
    if (6 : Int32) ≤ x5 then
      fX3_textByte_64 fu x3 x4 S
    else
      bd (fX3_labelSize fu x3 S) fun S_34 r_34 =>
      if x4 ≤ r_34 then
        fX3_textByte_64 fu x3 x4 S_34
      else
        bd (fX3_labelSize fu x3 S_34) fun S_44 r_44 =>
        bd (fX3_above fu x3 S_44) fun S_54 r_54 =>
        (fX3_textByte_23 fu n) r_54 (x4 - (r_44 + (1 : Int32))) (x5 + (1 : Int32)) S_54) := rfl
noncomputable def fX3_textByte (fu : Nat) (x1 : Int32) (x2 : Int32) (S : St) : Option (St × Int32) :=
  if x2 < 0 then
    some (S, (-1 : Int32))
  else
    bd (fX3_textSize fu x1 S) fun S_7 r_7 =>
    if x2 < r_7 then
      fX3_textByte_23 fu fu x1 x2 (0 : Int32) S_7
    else
      some (S_7, (-1 : Int32))
theorem mvX3_textByte : MV yX3_textByte cX3_textByte 6 (some .int) RX3 2 := ⟨gw4_48, gw4_46, gw4_47, gw1_3, by decide +kernel⟩
def rmX3_textByte : Room := { frames := 2, cells := 0, slots := 0, locals := 45 }
set_option maxHeartbeats 4000000 in
set_option maxRecDepth 100000 in
theorem m_X3_textByte (l : Launch) (D : va_G) (cA : FieldType → ClassId) (ad : Nat → Nat) (base : Nat) (fu : Nat) {S S' : St} {x1 : Int32} {x2 : Int32} {r : Int32} (hf : fX3_textByte fu x1 x2 S = some (S', r)) : Met l yX3_textByte (GC yX3_textByte cX3_textByte 6 (some .int)) rmX3_textByte (va_Pc [.ref (ad 3), .int x1, .int x2] (wd D cA ad base S)) (QI D cA ad base S' r) 0 0 (aB base) := by
  refine Met.ofW (cc := cX3_textByte) (maxL := 6) (ret := (some .int)) (by decide) rfl ?_
  intro p e s m args below meth c s₁ B hml hv
  obtain ⟨hargs, hwd⟩ := hv
  have hr := B.returns
  have hlocks := B.notSynchronized
  obtain ⟨C, hw⟩ := CX.of (own := RX3) rfl B hml hwd
  have hx := C.1
  have hb := C.2.1
  have hl := lv_entry ([.ref (ad 3), .int x1, .int x2]) (n := 6) (Nat.le_of_ble_eq_true rfl)
  rw [show entryFrame m args 6 = entryFrame m ([.ref (ad 3), .int x1, .int x2] : List Value).toArray 6 from by rw [hargs], lg_entry_eq]
  generalize (lg_sl ([.ref (ad 3), .int x1, .int x2]) ++ List.replicate (6 - (lg_sl ([.ref (ad 3), .int x1, .int x2])).length) Slot.unset).toArray = ls at hl ⊢
  have hl : lv_has ls 6 [(0, .ref (ad 3)), (1, .int x1), (2, .int x2)] := hl
  have J_64 : ∀ (x3 : Int32) (x4 : Int32) (S : St) (H : Heap) (locs : List Loc) (ls : Array Slot), fX3_textByte_64 fu x3 x4 S = some (S', r) → lv_has ls 6 [(0, .ref (ad 3)), (3, .int x3), (4, .int x4)] → WS D cA ad base s S H locs → W p l e rmX3_textByte s m args below meth c H locs 0 0 (MQ below (QI D cA ad base S' r) args s 0 0 (aB base)) (F0 m 64 ls []) := by
    intro x3 x4 S H locs ls hf hl hw
    refine lv_iload hx hb dX3_textByte_64 (lv_at hl 2 rfl) ?_
    refine lv_aload_n hx hb dX3_textByte_66 rfl (lv_at hl 0 rfl) ?_
    refine lv_iload_n hx hb dX3_textByte_67 rfl (lv_at hl 1 rfl) ?_
    obtain ⟨S_68, r_68, h_68, hf⟩ := bd_some hf
    refine r_bi hw (r_runV (rest := [.int x4]) C hw (m_X3_labelSize l D cA ad base fu h_68) mvX3_labelSize gw4_18 ⟨rfl, rfl, Nat.le_of_ble_eq_true rfl, Nat.le_of_ble_eq_true rfl⟩ dq_3 ln_3 vc_3 rfl hl.1 rfl (Nat.le_of_ble_eq_true rfl) dX3_textByte_68 (Nat.zero_le _) (Nat.zero_le _)) (fun H locs hw => ?_)
    refine lv_icmp_ne (tgt := 79) hx hb dX3_textByte_71 (by decide) (fun c_71 => ?_) (fun c_71 => ?_)
    · have hf := if_f hf c_71
      refine lv_aload_n hx hb dX3_textByte_79 rfl (lv_at hl 0 rfl) ?_
      refine lv_iload_n hx hb dX3_textByte_80 rfl (lv_at hl 1 rfl) ?_
      refine lv_iload hx hb dX3_textByte_81 (lv_at hl 2 rfl) ?_
      obtain ⟨S_83, r_83, h_83, hf⟩ := bd_some hf
      refine r_bi hw (r_runV (rest := []) C hw (m_X3_letter l D cA ad base fu h_83) mvX3_letter gw4_50 ⟨rfl, rfl, Nat.le_of_ble_eq_true rfl, Nat.le_of_ble_eq_true rfl⟩ dq_3 ln_3 vc_3 rfl hl.1 rfl (Nat.le_of_ble_eq_true rfl) dX3_textByte_83 (Nat.zero_le _) (Nat.zero_le _)) (fun H locs hw => ?_)
      exact r_iret C hw hr hlocks hf dX3_textByte_86
    · have hf := if_t hf c_71
      refine lv_bipush (v := (46 : Int32)) hx hb dX3_textByte_74 (by decide) ?_
      refine lv_goto (tgt := 86) hx hb dX3_textByte_76 (by decide) ?_
      exact r_iret C hw hr hlocks hf dX3_textByte_86
  have L_23 : ∀ (n_23 : Nat) (x3 : Int32) (x4 : Int32) (x5 : Int32) (S : St) (H : Heap) (locs : List Loc) (ls : Array Slot), fX3_textByte_23 fu n_23 x3 x4 x5 S = some (S', r) → lv_has ls 6 [(0, .ref (ad 3)), (3, .int x3), (4, .int x4), (5, .int x5)] → WS D cA ad base s S H locs → W p l e rmX3_textByte s m args below meth c H locs 0 0 (MQ below (QI D cA ad base S' r) args s 0 0 (aB base)) (F0 m 23 ls []) := by
    intro n_23
    induction n_23 with
    | zero =>
      intro x3 x4 x5 S H locs ls hf hl hw
      exact (no_none hf).elim
    | succ n_23 ih_23 =>
      intro x3 x4 x5 S H locs ls hf hl hw
      rw [fX3_textByte_23_s] at hf
      refine lv_iload hx hb dX3_textByte_23 (lv_at hl 3 rfl) ?_
      refine lv_bipush (v := (6 : Int32)) hx hb dX3_textByte_25 (by decide) ?_
      refine lv_icmp_ge (tgt := 64) hx hb dX3_textByte_27 (by decide) (fun c_27 => ?_) (fun c_27 => ?_)
      · have hf := if_t hf c_27
        exact J_64 _ _ _ _ _ _ hf (lv_sub hl [0, 1, 2] rfl) hw
      · have hf := if_f hf c_27
        refine lv_iload hx hb dX3_textByte_30 (lv_at hl 2 rfl) ?_
        refine lv_aload_n hx hb dX3_textByte_32 rfl (lv_at hl 0 rfl) ?_
        refine lv_iload_n hx hb dX3_textByte_33 rfl (lv_at hl 1 rfl) ?_
        obtain ⟨S_34, r_34, h_34, hf⟩ := bd_some hf
        refine r_bi hw (r_runV (rest := [.int x4]) C hw (m_X3_labelSize l D cA ad base fu h_34) mvX3_labelSize gw4_18 ⟨rfl, rfl, Nat.le_of_ble_eq_true rfl, Nat.le_of_ble_eq_true rfl⟩ dq_3 ln_3 vc_3 rfl hl.1 rfl (Nat.le_of_ble_eq_true rfl) dX3_textByte_34 (Nat.zero_le _) (Nat.zero_le _)) (fun H locs hw => ?_)
        refine lv_icmp_le (tgt := 64) hx hb dX3_textByte_37 (by decide) (fun c_37 => ?_) (fun c_37 => ?_)
        · have hf := if_t hf c_37
          exact J_64 _ _ _ _ _ _ hf (lv_sub hl [0, 1, 2] rfl) hw
        · have hf := if_f hf c_37
          refine lv_iload hx hb dX3_textByte_40 (lv_at hl 2 rfl) ?_
          refine lv_aload_n hx hb dX3_textByte_42 rfl (lv_at hl 0 rfl) ?_
          refine lv_iload_n hx hb dX3_textByte_43 rfl (lv_at hl 1 rfl) ?_
          obtain ⟨S_44, r_44, h_44, hf⟩ := bd_some hf
          refine r_bi hw (r_runV (rest := [.int x4]) C hw (m_X3_labelSize l D cA ad base fu h_44) mvX3_labelSize gw4_18 ⟨rfl, rfl, Nat.le_of_ble_eq_true rfl, Nat.le_of_ble_eq_true rfl⟩ dq_3 ln_3 vc_3 rfl hl.1 rfl (Nat.le_of_ble_eq_true rfl) dX3_textByte_44 (Nat.zero_le _) (Nat.zero_le _)) (fun H locs hw => ?_)
          refine lv_iconst (v := (1 : Int32)) hx hb dX3_textByte_47 (by decide) ?_
          refine lv_iadd hx hb dX3_textByte_48 ?_
          refine lv_isub hx hb dX3_textByte_49 ?_
          refine lv_istore (lv' := [(4, .int (x4 - (r_44 + (1 : Int32)))), (0, .ref (ad 3)), (3, .int x3), (5, .int x5)]) hx hb dX3_textByte_50 hl (by decide) rfl (fun ls hl => ?_)
          refine lv_aload_n hx hb dX3_textByte_52 rfl (lv_at hl 1 rfl) ?_
          refine lv_iload_n hx hb dX3_textByte_53 rfl (lv_at hl 2 rfl) ?_
          obtain ⟨S_54, r_54, h_54, hf⟩ := bd_some hf
          refine r_bi hw (r_runV (rest := []) C hw (m_X3_above l D cA ad base fu h_54) mvX3_above gw4_9 ⟨rfl, rfl, Nat.le_of_ble_eq_true rfl, Nat.le_of_ble_eq_true rfl⟩ dq_3 ln_3 vc_3 rfl hl.1 rfl (Nat.le_of_ble_eq_true rfl) dX3_textByte_54 (Nat.zero_le _) (Nat.zero_le _)) (fun H locs hw => ?_)
          refine lv_istore_n (lv' := [(3, .int r_54), (4, .int (x4 - (r_44 + (1 : Int32)))), (0, .ref (ad 3)), (5, .int x5)]) hx hb dX3_textByte_57 rfl hl (by decide) rfl (fun ls hl => ?_)
          refine lv_iinc (v := (x5 + (1 : Int32))) (lv' := [(5, .int (x5 + (1 : Int32))), (3, .int r_54), (4, .int (x4 - (r_44 + (1 : Int32)))), (0, .ref (ad 3))]) hx hb dX3_textByte_58 hl (k := 3) rfl rfl (by decide) rfl (fun ls hl => ?_)
          refine lv_goto (tgt := 23) hx hb dX3_textByte_61 (by decide) ?_
          exact ih_23 _ _ _ _ _ _ _ hf (lv_sub hl [3, 1, 2, 0] rfl) hw
  show W p l e rmX3_textByte s m args below meth c s.heap [] 0 0 _ _
  refine lv_iload_n hx hb dX3_textByte_0 rfl (lv_at hl 2 rfl) ?_
  refine lv_if_lt (tgt := 13) hx hb dX3_textByte_1 (by decide) (fun c_1 => ?_) (fun c_1 => ?_)
  · have hf := if_t hf c_1
    refine lv_iconst (v := (-1 : Int32)) hx hb dX3_textByte_13 (by decide) ?_
    exact r_iret C hw hr hlocks hf dX3_textByte_14
  · have hf := if_f hf c_1
    refine lv_iload_n hx hb dX3_textByte_4 rfl (lv_at hl 2 rfl) ?_
    refine lv_aload_n hx hb dX3_textByte_5 rfl (lv_at hl 0 rfl) ?_
    refine lv_iload_n hx hb dX3_textByte_6 rfl (lv_at hl 1 rfl) ?_
    obtain ⟨S_7, r_7, h_7, hf⟩ := bd_some hf
    refine r_bi hw (r_runV (rest := [.int x2]) C hw (m_X3_textSize l D cA ad base fu h_7) mvX3_textSize gw4_49 ⟨rfl, rfl, Nat.le_of_ble_eq_true rfl, Nat.le_of_ble_eq_true rfl⟩ dq_3 ln_3 vc_3 rfl hl.1 rfl (Nat.le_of_ble_eq_true rfl) dX3_textByte_7 (Nat.zero_le _) (Nat.zero_le _)) (fun H locs hw => ?_)
    refine lv_icmp_lt (tgt := 15) hx hb dX3_textByte_10 (by decide) (fun c_10 => ?_) (fun c_10 => ?_)
    · have hf := if_t hf c_10
      refine lv_iload_n hx hb dX3_textByte_15 rfl (lv_at hl 1 rfl) ?_
      refine lv_istore_n (lv' := [(3, .int x1), (0, .ref (ad 3)), (1, .int x1), (2, .int x2)]) hx hb dX3_textByte_16 rfl hl (by decide) rfl (fun ls hl => ?_)
      refine lv_iload_n hx hb dX3_textByte_17 rfl (lv_at hl 3 rfl) ?_
      refine lv_istore (lv' := [(4, .int x2), (3, .int x1), (0, .ref (ad 3)), (1, .int x1), (2, .int x2)]) hx hb dX3_textByte_18 hl (by decide) rfl (fun ls hl => ?_)
      refine lv_iconst (v := (0 : Int32)) hx hb dX3_textByte_20 (by decide) ?_
      refine lv_istore (lv' := [(5, .int (0 : Int32)), (4, .int x2), (3, .int x1), (0, .ref (ad 3)), (1, .int x1), (2, .int x2)]) hx hb dX3_textByte_21 hl (by decide) rfl (fun ls hl => ?_)
      exact L_23 fu _ _ _ _ _ _ _ hf (lv_sub hl [3, 2, 1, 0] rfl) hw
    · have hf := if_f hf c_10
      refine lv_iconst (v := (-1 : Int32)) hx hb dX3_textByte_13 (by decide) ?_
      exact r_iret C hw hr hlocks hf dX3_textByte_14
noncomputable def fX3_child_38 (fu : Nat) (k_3 : Int32 → Int64 → Int32 → St → Option (St × Int32)) (x1 : Int32) (x2 : Int64) (x4 : Int32) (S : St) : Option (St × Int32) :=
  k_3 x1 x2 (x4 + (1 : Int32)) S
noncomputable def fX3_child_3 (fu : Nat) (n : Nat) : Int32 → Int64 → Int32 → St → Option (St × Int32) :=
  Nat.rec (motive := fun _ => Int32 → Int64 → Int32 → St → Option (St × Int32)) (fun _ _ _ _ => none) (fun _ k_3 x1 x2 x4 S =>
    if (S.1 3 3) ≤ x4 then
      some (S, (-1 : Int32))
    else
      gd (ck x4 300) <|
      if (S.1 4 (x4).toNatClampNeg) = x1 then
        gd (ck x4 300) <|
        if (lg_cmp (S.2 5 (x4).toNatClampNeg) x2) = 0 then
          some (S, x4)
        else
          fX3_child_38 fu k_3 x1 x2 x4 S
      else
        fX3_child_38 fu k_3 x1 x2 x4 S) n
theorem fX3_child_3_s (fu : Nat) (n : Nat) (x1 : Int32) (x2 : Int64) (x4 : Int32) (S : St) : fX3_child_3 fu (n + 1) x1 x2 x4 S = (
    if (S.1 3 3) ≤ x4 then
      some (S, (-1 : Int32))
    else
      gd (ck x4 300) <|
      if (S.1 4 (x4).toNatClampNeg) = x1 then
        gd (ck x4 300) <|
        if (lg_cmp (S.2 5 (x4).toNatClampNeg) x2) = 0 then
          some (S, x4)
        else
          fX3_child_38 fu (fX3_child_3 fu n) x1 x2 x4 S
      else
        fX3_child_38 fu (fX3_child_3 fu n) x1 x2 x4 S) := rfl
noncomputable def fX3_child (fu : Nat) (x1 : Int32) (x2 : Int64) (S : St) : Option (St × Int32) :=
  fX3_child_3 fu fu x1 x2 (1 : Int32) S
theorem mvX3_child : MV yX3_child cX3_child 5 (some .int) RX3 2 := ⟨gw2_225, gw2_224, gs_2, gw1_3, by decide +kernel⟩
def rmX3_child : Room := { frames := 0, cells := 0, slots := 0, locals := 0 }
set_option maxHeartbeats 4000000 in
set_option maxRecDepth 100000 in
theorem m_X3_child (l : Launch) (D : va_G) (cA : FieldType → ClassId) (ad : Nat → Nat) (base : Nat) (fu : Nat) {S S' : St} {x1 : Int32} {x2 : Int64} {r : Int32} (hf : fX3_child fu x1 x2 S = some (S', r)) : Met l yX3_child (GC yX3_child cX3_child 5 (some .int)) rmX3_child (va_Pc [.ref (ad 3), .int x1, .long x2] (wd D cA ad base S)) (QI D cA ad base S' r) 0 0 (aB base) := by
  refine Met.ofW (cc := cX3_child) (maxL := 5) (ret := (some .int)) (by decide) rfl ?_
  intro p e s m args below meth c s₁ B hml hv
  obtain ⟨hargs, hwd⟩ := hv
  have hr := B.returns
  have hlocks := B.notSynchronized
  obtain ⟨C, hw⟩ := CX.of (own := RX3) rfl B hml hwd
  have hx := C.1
  have hb := C.2.1
  have hl := lv_entry ([.ref (ad 3), .int x1, .long x2]) (n := 5) (Nat.le_of_ble_eq_true rfl)
  rw [show entryFrame m args 5 = entryFrame m ([.ref (ad 3), .int x1, .long x2] : List Value).toArray 5 from by rw [hargs], lg_entry_eq]
  generalize (lg_sl ([.ref (ad 3), .int x1, .long x2]) ++ List.replicate (5 - (lg_sl ([.ref (ad 3), .int x1, .long x2])).length) Slot.unset).toArray = ls at hl ⊢
  have hl : lv_has ls 5 [(0, .ref (ad 3)), (1, .int x1), (2, .long x2)] := hl
  have L_3 : ∀ (n_3 : Nat) (x1 : Int32) (x2 : Int64) (x4 : Int32) (S : St) (H : Heap) (locs : List Loc) (ls : Array Slot), fX3_child_3 fu n_3 x1 x2 x4 S = some (S', r) → lv_has ls 5 [(0, .ref (ad 3)), (1, .int x1), (2, .long x2), (4, .int x4)] → WS D cA ad base s S H locs → W p l e rmX3_child s m args below meth c H locs 0 0 (MQ below (QI D cA ad base S' r) args s 0 0 (aB base)) (F0 m 3 ls []) := by
    intro n_3
    induction n_3 with
    | zero =>
      intro x1 x2 x4 S H locs ls hf hl hw
      exact (no_none hf).elim
    | succ n_3 ih_3 =>
      have J_38 : ∀ (x1 : Int32) (x2 : Int64) (x4 : Int32) (S : St) (H : Heap) (locs : List Loc) (ls : Array Slot), fX3_child_38 fu (fX3_child_3 fu n_3) x1 x2 x4 S = some (S', r) → lv_has ls 5 [(0, .ref (ad 3)), (1, .int x1), (2, .long x2), (4, .int x4)] → WS D cA ad base s S H locs → W p l e rmX3_child s m args below meth c H locs 0 0 (MQ below (QI D cA ad base S' r) args s 0 0 (aB base)) (F0 m 38 ls []) := by
        intro x1 x2 x4 S H locs ls hf hl hw
        refine lv_iinc (v := (x4 + (1 : Int32))) (lv' := [(4, .int (x4 + (1 : Int32))), (0, .ref (ad 3)), (1, .int x1), (2, .long x2)]) hx hb dX3_child_38 hl (k := 3) rfl rfl (by decide) rfl (fun ls hl => ?_)
        refine lv_goto (tgt := 3) hx hb dX3_child_41 (by decide) ?_
        exact ih_3 _ _ _ _ _ _ _ hf (lv_sub hl [1, 2, 3, 0] rfl) hw
      intro x1 x2 x4 S H locs ls hf hl hw
      rw [fX3_child_3_s] at hf
      refine lv_iload hx hb dX3_child_3 (lv_at hl 3 rfl) ?_
      refine lv_aload_n hx hb dX3_child_5 rfl (lv_at hl 0 rfl) ?_
      refine r_getI C hw (k := 3) dq_3 ln_3 rfl vc_3 inX3 (by decide) rfl gw1_59 dX3_child_6 ?_
      refine lv_icmp_ge (tgt := 44) hx hb dX3_child_9 (by decide) (fun c_9 => ?_) (fun c_9 => ?_)
      · have hf := if_t hf c_9
        refine lv_iconst (v := (-1 : Int32)) hx hb dX3_child_44 (by decide) ?_
        exact r_iret C hw hr hlocks hf dX3_child_45
      · have hf := if_f hf c_9
        refine lv_aload_n hx hb dX3_child_12 rfl (lv_at hl 0 rfl) ?_
        refine r_getR C hw (k := 0) (r := 4) dq_3 ln_3 rfl vc_3 inX3 (by decide) rfl gw1_56 dX3_child_13 ?_
        refine lv_iload hx hb dX3_child_16 (lv_at hl 3 rfl) ?_
        obtain ⟨z_18, hf⟩ := gd_some hf
        refine r_iald C hw (x := 4) dq_4 ln_4 z_18 dX3_child_18 ?_
        refine lv_iload_n hx hb dX3_child_19 rfl (lv_at hl 1 rfl) ?_
        refine lv_icmp_ne (tgt := 38) hx hb dX3_child_20 (by decide) (fun c_20 => ?_) (fun c_20 => ?_)
        · have hf := if_f hf c_20
          exact J_38 _ _ _ _ _ _ _ hf (lv_sub hl [0, 1, 2, 3] rfl) hw
        · have hf := if_t hf c_20
          refine lv_aload_n hx hb dX3_child_23 rfl (lv_at hl 0 rfl) ?_
          refine r_getR C hw (k := 1) (r := 5) dq_3 ln_3 rfl vc_3 inX3 (by decide) rfl gw1_57 dX3_child_24 ?_
          refine lv_iload hx hb dX3_child_27 (lv_at hl 3 rfl) ?_
          obtain ⟨z_29, hf⟩ := gd_some hf
          refine r_lald C hw (x := 5) dq_5 ln_5 z_29 dX3_child_29 ?_
          refine lv_lload_n hx hb dX3_child_30 rfl (lv_at hl 2 rfl) ?_
          refine W.lcmp hx hb dX3_child_31 ?_
          refine lv_if_ne (tgt := 38) hx hb dX3_child_32 (by decide) (fun c_32 => ?_) (fun c_32 => ?_)
          · have hf := if_f hf c_32
            exact J_38 _ _ _ _ _ _ _ hf (lv_sub hl [0, 1, 2, 3] rfl) hw
          · have hf := if_t hf c_32
            refine lv_iload hx hb dX3_child_35 (lv_at hl 3 rfl) ?_
            exact r_iret C hw hr hlocks hf dX3_child_37
  show W p l e rmX3_child s m args below meth c s.heap [] 0 0 _ _
  refine lv_iconst (v := (1 : Int32)) hx hb dX3_child_0 (by decide) ?_
  refine lv_istore (lv' := [(4, .int (1 : Int32)), (0, .ref (ad 3)), (1, .int x1), (2, .long x2)]) hx hb dX3_child_1 hl (by decide) rfl (fun ls hl => ?_)
  exact L_3 fu _ _ _ _ _ _ _ hf (lv_sub hl [1, 2, 3, 0] rfl) hw
noncomputable def fX3_missing_9 (fu : Nat) (n : Nat) : Int32 → Int32 → St → Option (St × Int32) :=
  Nat.rec (motive := fun _ => Int32 → Int32 → St → Option (St × Int32)) (fun _ _ _ => none) (fun _ k_9 x2 x3 S =>
    if x3 < 0 then
      some (S, (0 : Int32))
    else
      bd (fX8_labelAt fu 7 x3 S) fun S_17 r_17 =>
      bd (fX3_child fu x2 r_17 S_17) fun S_20 r_20 =>
      if r_20 = (-1 : Int32) then
        some (S_20, (x3 + (1 : Int32)))
      else
        k_9 r_20 (x3 + (-1 : Int32)) S_20) n
theorem fX3_missing_9_s (fu : Nat) (n : Nat) (x2 : Int32) (x3 : Int32) (S : St) : fX3_missing_9 fu (n + 1) x2 x3 S = (
    if x3 < 0 then
      some (S, (0 : Int32))
    else
      bd (fX8_labelAt fu 7 x3 S) fun S_17 r_17 =>
      bd (fX3_child fu x2 r_17 S_17) fun S_20 r_20 =>
      if r_20 = (-1 : Int32) then
        some (S_20, (x3 + (1 : Int32)))
      else
        (fX3_missing_9 fu n) r_20 (x3 + (-1 : Int32)) S_20) := rfl
noncomputable def fX3_missing (fu : Nat) (S : St) : Option (St × Int32) :=
  bd (fX8_size fu 7 S) fun S_3 r_3 =>
  fX3_missing_9 fu fu (0 : Int32) (r_3 - (1 : Int32)) S_3
theorem mvX3_missing : MV yX3_missing cX3_missing 4 (some .int) RX3 1 := ⟨gw3_194, gw3_192, gw3_193, gw1_3, by decide +kernel⟩
def rmX3_missing : Room := { frames := 1, cells := 0, slots := 0, locals := 24 }
set_option maxHeartbeats 4000000 in
set_option maxRecDepth 100000 in
theorem m_X3_missing (l : Launch) (D : va_G) (cA : FieldType → ClassId) (ad : Nat → Nat) (base : Nat) (fu : Nat) {S S' : St} {r : Int32} (hf : fX3_missing fu S = some (S', r)) : Met l yX3_missing (GC yX3_missing cX3_missing 4 (some .int)) rmX3_missing (va_Pc [.ref (ad 3), .ref (ad 7)] (wd D cA ad base S)) (QI D cA ad base S' r) 0 0 (aB base) := by
  refine Met.ofW (cc := cX3_missing) (maxL := 4) (ret := (some .int)) (by decide) rfl ?_
  intro p e s m args below meth c s₁ B hml hv
  obtain ⟨hargs, hwd⟩ := hv
  have hr := B.returns
  have hlocks := B.notSynchronized
  obtain ⟨C, hw⟩ := CX.of (own := RX3) rfl B hml hwd
  have hx := C.1
  have hb := C.2.1
  have hl := lv_entry ([.ref (ad 3), .ref (ad 7)]) (n := 4) (Nat.le_of_ble_eq_true rfl)
  rw [show entryFrame m args 4 = entryFrame m ([.ref (ad 3), .ref (ad 7)] : List Value).toArray 4 from by rw [hargs], lg_entry_eq]
  generalize (lg_sl ([.ref (ad 3), .ref (ad 7)]) ++ List.replicate (4 - (lg_sl ([.ref (ad 3), .ref (ad 7)])).length) Slot.unset).toArray = ls at hl ⊢
  have hl : lv_has ls 4 [(0, .ref (ad 3)), (1, .ref (ad 7))] := hl
  have L_9 : ∀ (n_9 : Nat) (x2 : Int32) (x3 : Int32) (S : St) (H : Heap) (locs : List Loc) (ls : Array Slot), fX3_missing_9 fu n_9 x2 x3 S = some (S', r) → lv_has ls 4 [(0, .ref (ad 3)), (1, .ref (ad 7)), (2, .int x2), (3, .int x3)] → WS D cA ad base s S H locs → W p l e rmX3_missing s m args below meth c H locs 0 0 (MQ below (QI D cA ad base S' r) args s 0 0 (aB base)) (F0 m 9 ls []) := by
    intro n_9
    induction n_9 with
    | zero =>
      intro x2 x3 S H locs ls hf hl hw
      exact (no_none hf).elim
    | succ n_9 ih_9 =>
      intro x2 x3 S H locs ls hf hl hw
      rw [fX3_missing_9_s] at hf
      refine lv_iload_n hx hb dX3_missing_9 rfl (lv_at hl 3 rfl) ?_
      refine lv_if_lt (tgt := 39) hx hb dX3_missing_10 (by decide) (fun c_10 => ?_) (fun c_10 => ?_)
      · have hf := if_t hf c_10
        refine lv_iconst (v := (0 : Int32)) hx hb dX3_missing_39 (by decide) ?_
        exact r_iret C hw hr hlocks hf dX3_missing_40
      · have hf := if_f hf c_10
        refine lv_aload_n hx hb dX3_missing_13 rfl (lv_at hl 0 rfl) ?_
        refine lv_iload_n hx hb dX3_missing_14 rfl (lv_at hl 2 rfl) ?_
        refine lv_aload_n hx hb dX3_missing_15 rfl (lv_at hl 1 rfl) ?_
        refine lv_iload_n hx hb dX3_missing_16 rfl (lv_at hl 3 rfl) ?_
        obtain ⟨S_17, r_17, h_17, hf⟩ := bd_some hf
        refine r_bl hw (r_runV (rest := [.int x2, .ref (ad 3)]) C hw (m_X8_labelAt l D cA ad base fu 7 kSp_7 h_17) mvX8_labelAt gw2_218 ⟨rfl, rfl, Nat.le_of_ble_eq_true rfl, Nat.le_of_ble_eq_true rfl⟩ dq_7 ln_7 vc_8 rfl hl.1 rfl (Nat.le_of_ble_eq_true rfl) dX3_missing_17 (Nat.zero_le _) (Nat.zero_le _)) (fun H locs hw => ?_)
        obtain ⟨S_20, r_20, h_20, hf⟩ := bd_some hf
        refine r_bi hw (r_runV (rest := []) C hw (m_X3_child l D cA ad base fu h_20) mvX3_child gw2_222 ⟨rfl, rfl, Nat.le_of_ble_eq_true rfl, Nat.le_of_ble_eq_true rfl⟩ dq_3 ln_3 vc_3 rfl hl.1 rfl (Nat.le_of_ble_eq_true rfl) dX3_missing_20 (Nat.zero_le _) (Nat.zero_le _)) (fun H locs hw => ?_)
        refine lv_istore_n (lv' := [(2, .int r_20), (0, .ref (ad 3)), (1, .ref (ad 7)), (3, .int x3)]) hx hb dX3_missing_23 rfl hl (by decide) rfl (fun ls hl => ?_)
        refine lv_iload_n hx hb dX3_missing_24 rfl (lv_at hl 0 rfl) ?_
        refine lv_iconst (v := (-1 : Int32)) hx hb dX3_missing_25 (by decide) ?_
        refine lv_icmp_ne (tgt := 33) hx hb dX3_missing_26 (by decide) (fun c_26 => ?_) (fun c_26 => ?_)
        · have hf := if_f hf c_26
          refine lv_iinc (v := (x3 + (-1 : Int32))) (lv' := [(3, .int (x3 + (-1 : Int32))), (2, .int r_20), (0, .ref (ad 3)), (1, .ref (ad 7))]) hx hb dX3_missing_33 hl (k := 3) rfl rfl (by decide) rfl (fun ls hl => ?_)
          refine lv_goto (tgt := 9) hx hb dX3_missing_36 (by decide) ?_
          exact ih_9 _ _ _ _ _ _ hf (lv_sub hl [2, 3, 1, 0] rfl) hw
        · have hf := if_t hf c_26
          refine lv_iload_n hx hb dX3_missing_29 rfl (lv_at hl 3 rfl) ?_
          refine lv_iconst (v := (1 : Int32)) hx hb dX3_missing_30 (by decide) ?_
          refine lv_iadd hx hb dX3_missing_31 ?_
          exact r_iret C hw hr hlocks hf dX3_missing_32
  show W p l e rmX3_missing s m args below meth c s.heap [] 0 0 _ _
  refine lv_iconst (v := (0 : Int32)) hx hb dX3_missing_0 (by decide) ?_
  refine lv_istore_n (lv' := [(2, .int (0 : Int32)), (0, .ref (ad 3)), (1, .ref (ad 7))]) hx hb dX3_missing_1 rfl hl (by decide) rfl (fun ls hl => ?_)
  refine lv_aload_n hx hb dX3_missing_2 rfl (lv_at hl 2 rfl) ?_
  obtain ⟨S_3, r_3, h_3, hf⟩ := bd_some hf
  refine r_bi hw (r_runV (rest := []) C hw (m_X8_size l D cA ad base fu 7 kSp_7 h_3) mvX8_size gw2_214 ⟨rfl, rfl, Nat.le_of_ble_eq_true rfl, Nat.le_of_ble_eq_true rfl⟩ dq_7 ln_7 vc_8 rfl hl.1 rfl (Nat.le_of_ble_eq_true rfl) dX3_missing_3 (Nat.zero_le _) (Nat.zero_le _)) (fun H locs hw => ?_)
  refine lv_iconst (v := (1 : Int32)) hx hb dX3_missing_6 (by decide) ?_
  refine lv_isub hx hb dX3_missing_7 ?_
  refine lv_istore_n (lv' := [(3, .int (r_3 - (1 : Int32))), (2, .int (0 : Int32)), (0, .ref (ad 3)), (1, .ref (ad 7))]) hx hb dX3_missing_8 rfl hl (by decide) rfl (fun ls hl => ?_)
  exact L_9 fu _ _ _ _ _ _ hf (lv_sub hl [2, 3, 1, 0] rfl) hw
noncomputable def fX3_add (fu : Nat) (x1 : Int32) (x2 : Int64) (x4 : Int32) (S : St) : Option (St × Int32) :=
  if (S.1 3 3) < (300 : Int32) then
    gd (ck (S.1 3 3) 300) <|
    sI 4 ((S.1 3 3)).toNatClampNeg x1 S fun S_21 =>
    gd (ck (S_21.1 3 3) 300) <|
    sJ 5 ((S_21.1 3 3)).toNatClampNeg x2 S_21 fun S_31 =>
    gd (ck (S_31.1 3 3) 300) <|
    sI 6 ((S_31.1 3 3)).toNatClampNeg x4 S_31 fun S_42 =>
    sI 3 3 ((S_42.1 3 3) + (1 : Int32)) S_42 fun S_50 =>
    some (S_50, ((S_50.1 3 3) - (1 : Int32)))
  else
    some (S, (-1 : Int32))
theorem mvX3_add : MV yX3_add cX3_add 5 (some .int) RX3 3 := ⟨gw2_233, gw2_232, gs_3, gw1_3, by decide +kernel⟩
def rmX3_add : Room := { frames := 0, cells := 0, slots := 0, locals := 0 }
set_option maxHeartbeats 4000000 in
set_option maxRecDepth 100000 in
theorem m_X3_add (l : Launch) (D : va_G) (cA : FieldType → ClassId) (ad : Nat → Nat) (base : Nat) (fu : Nat) {S S' : St} {x1 : Int32} {x2 : Int64} {x4 : Int32} {r : Int32} (hf : fX3_add fu x1 x2 x4 S = some (S', r)) : Met l yX3_add (GC yX3_add cX3_add 5 (some .int)) rmX3_add (va_Pc [.ref (ad 3), .int x1, .long x2, .int x4] (wd D cA ad base S)) (QI D cA ad base S' r) 0 0 (aB base) := by
  refine Met.ofW (cc := cX3_add) (maxL := 5) (ret := (some .int)) (by decide) rfl ?_
  intro p e s m args below meth c s₁ B hml hv
  obtain ⟨hargs, hwd⟩ := hv
  have hr := B.returns
  have hlocks := B.notSynchronized
  obtain ⟨C, hw⟩ := CX.of (own := RX3) rfl B hml hwd
  have hx := C.1
  have hb := C.2.1
  have hl := lv_entry ([.ref (ad 3), .int x1, .long x2, .int x4]) (n := 5) (Nat.le_of_ble_eq_true rfl)
  rw [show entryFrame m args 5 = entryFrame m ([.ref (ad 3), .int x1, .long x2, .int x4] : List Value).toArray 5 from by rw [hargs], lg_entry_eq]
  generalize (lg_sl ([.ref (ad 3), .int x1, .long x2, .int x4]) ++ List.replicate (5 - (lg_sl ([.ref (ad 3), .int x1, .long x2, .int x4])).length) Slot.unset).toArray = ls at hl ⊢
  have hl : lv_has ls 5 [(0, .ref (ad 3)), (1, .int x1), (2, .long x2), (4, .int x4)] := hl
  show W p l e rmX3_add s m args below meth c s.heap [] 0 0 _ _
  refine lv_aload_n hx hb dX3_add_0 rfl (lv_at hl 0 rfl) ?_
  refine r_getI C hw (k := 3) dq_3 ln_3 rfl vc_3 inX3 (by decide) rfl gw1_59 dX3_add_1 ?_
  refine lv_sipush (v := (300 : Int32)) hx hb dX3_add_4 (by decide) ?_
  refine lv_icmp_lt (tgt := 12) hx hb dX3_add_7 (by decide) (fun c_7 => ?_) (fun c_7 => ?_)
  · have hf := if_t hf c_7
    refine lv_aload_n hx hb dX3_add_12 rfl (lv_at hl 0 rfl) ?_
    refine r_getR C hw (k := 0) (r := 4) dq_3 ln_3 rfl vc_3 inX3 (by decide) rfl gw1_56 dX3_add_13 ?_
    refine lv_aload_n hx hb dX3_add_16 rfl (lv_at hl 0 rfl) ?_
    refine r_getI C hw (k := 3) dq_3 ln_3 rfl vc_3 inX3 (by decide) rfl gw1_59 dX3_add_17 ?_
    refine lv_iload_n hx hb dX3_add_20 rfl (lv_at hl 1 rfl) ?_
    obtain ⟨z_21, hf⟩ := gd_some hf
    obtain ⟨S_21, e_21, hf⟩ := sI_some hf
    refine r_iast C hw (x := 4) dq_4 ln_4 z_21 dX3_add_21 e_21 (fun H locs hw => ?_)
    refine lv_aload_n hx hb dX3_add_22 rfl (lv_at hl 0 rfl) ?_
    refine r_getR C hw (k := 1) (r := 5) dq_3 ln_3 rfl vc_3 inX3 (by decide) rfl gw1_57 dX3_add_23 ?_
    refine lv_aload_n hx hb dX3_add_26 rfl (lv_at hl 0 rfl) ?_
    refine r_getI C hw (k := 3) dq_3 ln_3 rfl vc_3 inX3 (by decide) rfl gw1_59 dX3_add_27 ?_
    refine lv_lload_n hx hb dX3_add_30 rfl (lv_at hl 2 rfl) ?_
    obtain ⟨z_31, hf⟩ := gd_some hf
    obtain ⟨S_31, e_31, hf⟩ := sJ_some hf
    refine r_last C hw (x := 5) dq_5 ln_5 z_31 dX3_add_31 e_31 (fun H locs hw => ?_)
    refine lv_aload_n hx hb dX3_add_32 rfl (lv_at hl 0 rfl) ?_
    refine r_getR C hw (k := 2) (r := 6) dq_3 ln_3 rfl vc_3 inX3 (by decide) rfl gw1_58 dX3_add_33 ?_
    refine lv_aload_n hx hb dX3_add_36 rfl (lv_at hl 0 rfl) ?_
    refine r_getI C hw (k := 3) dq_3 ln_3 rfl vc_3 inX3 (by decide) rfl gw1_59 dX3_add_37 ?_
    refine lv_iload hx hb dX3_add_40 (lv_at hl 3 rfl) ?_
    obtain ⟨z_42, hf⟩ := gd_some hf
    obtain ⟨S_42, e_42, hf⟩ := sI_some hf
    refine r_iast C hw (x := 6) dq_6 ln_6 z_42 dX3_add_42 e_42 (fun H locs hw => ?_)
    refine lv_aload_n hx hb dX3_add_43 rfl (lv_at hl 0 rfl) ?_
    refine lv_dup hx hb dX3_add_44 rfl ?_
    refine r_getI C hw (k := 3) dq_3 ln_3 rfl vc_3 inX3 (by decide) rfl gw1_59 dX3_add_45 ?_
    refine lv_iconst (v := (1 : Int32)) hx hb dX3_add_48 (by decide) ?_
    refine lv_iadd hx hb dX3_add_49 ?_
    obtain ⟨S_50, e_50, hf⟩ := sI_some hf
    refine r_putI C hw (k := 3) (ty0 := tyX3) dq_3 ln_3 rfl vc_3 inX3 tyX3_ok nmX3 (by decide) rfl rfl gw1_59 rfl rfl dX3_add_50 e_50 (fun H locs hw => ?_)
    refine lv_aload_n hx hb dX3_add_53 rfl (lv_at hl 0 rfl) ?_
    refine r_getI C hw (k := 3) dq_3 ln_3 rfl vc_3 inX3 (by decide) rfl gw1_59 dX3_add_54 ?_
    refine lv_iconst (v := (1 : Int32)) hx hb dX3_add_57 (by decide) ?_
    refine lv_isub hx hb dX3_add_58 ?_
    exact r_iret C hw hr hlocks hf dX3_add_59
  · have hf := if_f hf c_7
    refine lv_iconst (v := (-1 : Int32)) hx hb dX3_add_10 (by decide) ?_
    exact r_iret C hw hr hlocks hf dX3_add_11
noncomputable def fX3_made_48 (fu : Nat) (g : Nat) (k_9 : Int32 → Int32 → St → Option (St × Int32)) (x3 : Int32) (x4 : Int32) (S : St) : Option (St × Int32) :=
  if x4 = (-1 : Int32) then
    some (S, (-1 : Int32))
  else
    k_9 x4 (x3 + (-1 : Int32)) S
noncomputable def fX3_made_9 (fu : Nat) (g : Nat) (n : Nat) : Int32 → Int32 → St → Option (St × Int32) :=
  Nat.rec (motive := fun _ => Int32 → Int32 → St → Option (St × Int32)) (fun _ _ _ => none) (fun _ k_9 x2 x3 S =>
    if x3 < 0 then
      some (S, x2)
    else
      bd (fX8_labelAt fu g x3 S) fun S_17 r_17 =>
      bd (fX3_child fu x2 r_17 S_17) fun S_20 r_20 =>
      if r_20 = (-1 : Int32) then
        bd (fX8_labelAt fu g x3 S_20) fun S_35 r_35 =>
        bd (fX8_lengthAt fu g x3 S_35) fun S_40 r_40 =>
        bd (fX3_add fu x2 r_35 r_40 S_40) fun S_43 r_43 =>
        fX3_made_48 fu g k_9 x3 r_43 S_43
      else
        fX3_made_48 fu g k_9 x3 r_20 S_20) n
theorem fX3_made_9_s (fu : Nat) (g : Nat) (n : Nat) (x2 : Int32) (x3 : Int32) (S : St) : fX3_made_9 fu g (n + 1) x2 x3 S = (
    if x3 < 0 then
      some (S, x2)
    else
      bd (fX8_labelAt fu g x3 S) fun S_17 r_17 =>
      bd (fX3_child fu x2 r_17 S_17) fun S_20 r_20 =>
      if r_20 = (-1 : Int32) then
        bd (fX8_labelAt fu g x3 S_20) fun S_35 r_35 =>
        bd (fX8_lengthAt fu g x3 S_35) fun S_40 r_40 =>
        bd (fX3_add fu x2 r_35 r_40 S_40) fun S_43 r_43 =>
        fX3_made_48 fu g (fX3_made_9 fu g n) x3 r_43 S_43
      else
        fX3_made_48 fu g (fX3_made_9 fu g n) x3 r_20 S_20) := rfl
noncomputable def fX3_made (fu : Nat) (g : Nat) (S : St) : Option (St × Int32) :=
  bd (fX8_size fu g S) fun S_3 r_3 =>
  fX3_made_9 fu g fu (0 : Int32) (r_3 - (1 : Int32)) S_3
theorem mvX3_made : MV yX3_made cX3_made 5 (some .int) RX3 1 := ⟨gw2_213, gw2_211, gw2_212, gw1_3, by decide +kernel⟩
def rmX3_made : Room := { frames := 1, cells := 0, slots := 0, locals := 24 }
set_option maxHeartbeats 4000000 in
set_option maxRecDepth 100000 in
theorem m_X3_made (l : Launch) (D : va_G) (cA : FieldType → ClassId) (ad : Nat → Nat) (base : Nat) (fu : Nat) (g : Nat) (hg : isSpell g) {S S' : St} {r : Int32} (hf : fX3_made fu g S = some (S', r)) : Met l yX3_made (GC yX3_made cX3_made 5 (some .int)) rmX3_made (va_Pc [.ref (ad 3), .ref (ad g)] (wd D cA ad base S)) (QI D cA ad base S' r) 0 0 (aB base) := by
  refine Met.ofW (cc := cX3_made) (maxL := 5) (ret := (some .int)) (by decide) rfl ?_
  intro p e s m args below meth c s₁ B hml hv
  obtain ⟨hargs, hwd⟩ := hv
  have hr := B.returns
  have hlocks := B.notSynchronized
  obtain ⟨C, hw⟩ := CX.of (own := RX3) rfl B hml hwd
  have hx := C.1
  have hb := C.2.1
  have hl := lv_entry ([.ref (ad 3), .ref (ad g)]) (n := 5) (Nat.le_of_ble_eq_true rfl)
  rw [show entryFrame m args 5 = entryFrame m ([.ref (ad 3), .ref (ad g)] : List Value).toArray 5 from by rw [hargs], lg_entry_eq]
  generalize (lg_sl ([.ref (ad 3), .ref (ad g)]) ++ List.replicate (5 - (lg_sl ([.ref (ad 3), .ref (ad g)])).length) Slot.unset).toArray = ls at hl ⊢
  have hl : lv_has ls 5 [(0, .ref (ad 3)), (1, .ref (ad g))] := hl
  have L_9 : ∀ (n_9 : Nat) (x2 : Int32) (x3 : Int32) (S : St) (H : Heap) (locs : List Loc) (ls : Array Slot), fX3_made_9 fu g n_9 x2 x3 S = some (S', r) → lv_has ls 5 [(0, .ref (ad 3)), (1, .ref (ad g)), (2, .int x2), (3, .int x3)] → WS D cA ad base s S H locs → W p l e rmX3_made s m args below meth c H locs 0 0 (MQ below (QI D cA ad base S' r) args s 0 0 (aB base)) (F0 m 9 ls []) := by
    intro n_9
    induction n_9 with
    | zero =>
      intro x2 x3 S H locs ls hf hl hw
      exact (no_none hf).elim
    | succ n_9 ih_9 =>
      have J_48 : ∀ (x3 : Int32) (x4 : Int32) (S : St) (H : Heap) (locs : List Loc) (ls : Array Slot), fX3_made_48 fu g (fX3_made_9 fu g n_9) x3 x4 S = some (S', r) → lv_has ls 5 [(0, .ref (ad 3)), (1, .ref (ad g)), (3, .int x3), (4, .int x4)] → WS D cA ad base s S H locs → W p l e rmX3_made s m args below meth c H locs 0 0 (MQ below (QI D cA ad base S' r) args s 0 0 (aB base)) (F0 m 48 ls []) := by
        intro x3 x4 S H locs ls hf hl hw
        refine lv_iload hx hb dX3_made_48 (lv_at hl 3 rfl) ?_
        refine lv_iconst (v := (-1 : Int32)) hx hb dX3_made_50 (by decide) ?_
        refine lv_icmp_ne (tgt := 56) hx hb dX3_made_51 (by decide) (fun c_51 => ?_) (fun c_51 => ?_)
        · have hf := if_f hf c_51
          refine lv_iload hx hb dX3_made_56 (lv_at hl 3 rfl) ?_
          refine lv_istore_n (lv' := [(2, .int x4), (0, .ref (ad 3)), (1, .ref (ad g)), (3, .int x3), (4, .int x4)]) hx hb dX3_made_58 rfl hl (by decide) rfl (fun ls hl => ?_)
          refine lv_iinc (v := (x3 + (-1 : Int32))) (lv' := [(3, .int (x3 + (-1 : Int32))), (2, .int x4), (0, .ref (ad 3)), (1, .ref (ad g)), (4, .int x4)]) hx hb dX3_made_59 hl (k := 3) rfl rfl (by decide) rfl (fun ls hl => ?_)
          refine lv_goto (tgt := 9) hx hb dX3_made_62 (by decide) ?_
          exact ih_9 _ _ _ _ _ _ hf (lv_sub hl [2, 3, 1, 0] rfl) hw
        · have hf := if_t hf c_51
          refine lv_iconst (v := (-1 : Int32)) hx hb dX3_made_54 (by decide) ?_
          exact r_iret C hw hr hlocks hf dX3_made_55
      intro x2 x3 S H locs ls hf hl hw
      rw [fX3_made_9_s] at hf
      refine lv_iload_n hx hb dX3_made_9 rfl (lv_at hl 3 rfl) ?_
      refine lv_if_lt (tgt := 65) hx hb dX3_made_10 (by decide) (fun c_10 => ?_) (fun c_10 => ?_)
      · have hf := if_t hf c_10
        refine lv_iload_n hx hb dX3_made_65 rfl (lv_at hl 2 rfl) ?_
        exact r_iret C hw hr hlocks hf dX3_made_66
      · have hf := if_f hf c_10
        refine lv_aload_n hx hb dX3_made_13 rfl (lv_at hl 0 rfl) ?_
        refine lv_iload_n hx hb dX3_made_14 rfl (lv_at hl 2 rfl) ?_
        refine lv_aload_n hx hb dX3_made_15 rfl (lv_at hl 1 rfl) ?_
        refine lv_iload_n hx hb dX3_made_16 rfl (lv_at hl 3 rfl) ?_
        obtain ⟨S_17, r_17, h_17, hf⟩ := bd_some hf
        refine r_bl hw (r_runV (rest := [.int x2, .ref (ad 3)]) C hw (m_X8_labelAt l D cA ad base fu g hg h_17) mvX8_labelAt gw2_218 ⟨rfl, rfl, Nat.le_of_ble_eq_true rfl, Nat.le_of_ble_eq_true rfl⟩ hg.1 hg.2.1 vc_8 rfl hl.1 rfl (Nat.le_of_ble_eq_true rfl) dX3_made_17 (Nat.zero_le _) (Nat.zero_le _)) (fun H locs hw => ?_)
        obtain ⟨S_20, r_20, h_20, hf⟩ := bd_some hf
        refine r_bi hw (r_runV (rest := []) C hw (m_X3_child l D cA ad base fu h_20) mvX3_child gw2_222 ⟨rfl, rfl, Nat.le_of_ble_eq_true rfl, Nat.le_of_ble_eq_true rfl⟩ dq_3 ln_3 vc_3 rfl hl.1 rfl (Nat.le_of_ble_eq_true rfl) dX3_made_20 (Nat.zero_le _) (Nat.zero_le _)) (fun H locs hw => ?_)
        refine lv_istore (lv' := [(4, .int r_20), (0, .ref (ad 3)), (1, .ref (ad g)), (2, .int x2), (3, .int x3)]) hx hb dX3_made_23 hl (by decide) rfl (fun ls hl => ?_)
        refine lv_iload hx hb dX3_made_25 (lv_at hl 0 rfl) ?_
        refine lv_iconst (v := (-1 : Int32)) hx hb dX3_made_27 (by decide) ?_
        refine lv_icmp_ne (tgt := 48) hx hb dX3_made_28 (by decide) (fun c_28 => ?_) (fun c_28 => ?_)
        · have hf := if_f hf c_28
          exact J_48 _ _ _ _ _ _ hf (lv_sub hl [1, 2, 4, 0] rfl) hw
        · have hf := if_t hf c_28
          refine lv_aload_n hx hb dX3_made_31 rfl (lv_at hl 1 rfl) ?_
          refine lv_iload_n hx hb dX3_made_32 rfl (lv_at hl 3 rfl) ?_
          refine lv_aload_n hx hb dX3_made_33 rfl (lv_at hl 2 rfl) ?_
          refine lv_iload_n hx hb dX3_made_34 rfl (lv_at hl 4 rfl) ?_
          obtain ⟨S_35, r_35, h_35, hf⟩ := bd_some hf
          refine r_bl hw (r_runV (rest := [.int x2, .ref (ad 3)]) C hw (m_X8_labelAt l D cA ad base fu g hg h_35) mvX8_labelAt gw2_218 ⟨rfl, rfl, Nat.le_of_ble_eq_true rfl, Nat.le_of_ble_eq_true rfl⟩ hg.1 hg.2.1 vc_8 rfl hl.1 rfl (Nat.le_of_ble_eq_true rfl) dX3_made_35 (Nat.zero_le _) (Nat.zero_le _)) (fun H locs hw => ?_)
          refine lv_aload_n hx hb dX3_made_38 rfl (lv_at hl 2 rfl) ?_
          refine lv_iload_n hx hb dX3_made_39 rfl (lv_at hl 4 rfl) ?_
          obtain ⟨S_40, r_40, h_40, hf⟩ := bd_some hf
          refine r_bi hw (r_runV (rest := [.long r_35, .int x2, .ref (ad 3)]) C hw (m_X8_lengthAt l D cA ad base fu g hg h_40) mvX8_lengthAt gw2_226 ⟨rfl, rfl, Nat.le_of_ble_eq_true rfl, Nat.le_of_ble_eq_true rfl⟩ hg.1 hg.2.1 vc_8 rfl hl.1 rfl (Nat.le_of_ble_eq_true rfl) dX3_made_40 (Nat.zero_le _) (Nat.zero_le _)) (fun H locs hw => ?_)
          obtain ⟨S_43, r_43, h_43, hf⟩ := bd_some hf
          refine r_bi hw (r_runV (rest := []) C hw (m_X3_add l D cA ad base fu h_43) mvX3_add gw2_230 ⟨rfl, rfl, Nat.le_of_ble_eq_true rfl, Nat.le_of_ble_eq_true rfl⟩ dq_3 ln_3 vc_3 rfl hl.1 rfl (Nat.le_of_ble_eq_true rfl) dX3_made_43 (Nat.zero_le _) (Nat.zero_le _)) (fun H locs hw => ?_)
          refine lv_istore (lv' := [(4, .int r_43), (0, .ref (ad 3)), (1, .ref (ad g)), (2, .int x2), (3, .int x3)]) hx hb dX3_made_46 hl (by decide) rfl (fun ls hl => ?_)
          exact J_48 _ _ _ _ _ _ hf (lv_sub hl [1, 2, 4, 0] rfl) hw
  show W p l e rmX3_made s m args below meth c s.heap [] 0 0 _ _
  refine lv_iconst (v := (0 : Int32)) hx hb dX3_made_0 (by decide) ?_
  refine lv_istore_n (lv' := [(2, .int (0 : Int32)), (0, .ref (ad 3)), (1, .ref (ad g))]) hx hb dX3_made_1 rfl hl (by decide) rfl (fun ls hl => ?_)
  refine lv_aload_n hx hb dX3_made_2 rfl (lv_at hl 2 rfl) ?_
  obtain ⟨S_3, r_3, h_3, hf⟩ := bd_some hf
  refine r_bi hw (r_runV (rest := []) C hw (m_X8_size l D cA ad base fu g hg h_3) mvX8_size gw2_214 ⟨rfl, rfl, Nat.le_of_ble_eq_true rfl, Nat.le_of_ble_eq_true rfl⟩ hg.1 hg.2.1 vc_8 rfl hl.1 rfl (Nat.le_of_ble_eq_true rfl) dX3_made_3 (Nat.zero_le _) (Nat.zero_le _)) (fun H locs hw => ?_)
  refine lv_iconst (v := (1 : Int32)) hx hb dX3_made_6 (by decide) ?_
  refine lv_isub hx hb dX3_made_7 ?_
  refine lv_istore_n (lv' := [(3, .int (r_3 - (1 : Int32))), (2, .int (0 : Int32)), (0, .ref (ad 3)), (1, .ref (ad g))]) hx hb dX3_made_8 rfl hl (by decide) rfl (fun ls hl => ?_)
  exact L_9 fu _ _ _ _ _ _ hf (lv_sub hl [2, 3, 1, 0] rfl) hw
