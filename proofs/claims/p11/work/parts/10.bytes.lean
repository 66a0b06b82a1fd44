noncomputable def fX0_size (fu : Nat) (q : Nat) (S : St) : Option (St × Int32) :=
  some (S, (S.1 q 1))
theorem mvX0_size : MV yX0_size cX0_size 1 (some .int) RX0 0 := ⟨gw2_151, gw2_149, gw2_150, gw1_2, by decide +kernel⟩
def rmX0_size : Room := { frames := 0, cells := 0, slots := 0, locals := 0 }
set_option maxHeartbeats 4000000 in
set_option maxRecDepth 100000 in
theorem m_X0_size (l : Launch) (D : va_G) (cA : FieldType → ClassId) (ad : Nat → Nat) (base : Nat) (fu : Nat) (q : Nat) (hq : isBytes q) {S S' : St} {r : Int32} (hf : fX0_size fu q S = some (S', r)) : Met l yX0_size (GC yX0_size cX0_size 1 (some .int)) rmX0_size (va_Pc [.ref (ad q)] (wd D cA ad base S)) (QI D cA ad base S' r) 0 0 (aB base) := by
  refine Met.ofW (cc := cX0_size) (maxL := 1) (ret := (some .int)) (by decide) rfl ?_
  intro p e s m args below meth c s₁ B hml hv
  obtain ⟨hargs, hwd⟩ := hv
  have hr := B.returns
  have hlocks := B.notSynchronized
  obtain ⟨C, hw⟩ := CX.of (own := RX0) rfl B hml hwd
  have hx := C.1
  have hb := C.2.1
  have hl := lv_entry ([.ref (ad q)]) (n := 1) (Nat.le_of_ble_eq_true rfl)
  rw [show entryFrame m args 1 = entryFrame m ([.ref (ad q)] : List Value).toArray 1 from by rw [hargs], lg_entry_eq]
  generalize (lg_sl ([.ref (ad q)]) ++ List.replicate (1 - (lg_sl ([.ref (ad q)])).length) Slot.unset).toArray = ls at hl ⊢
  have hl : lv_has ls 1 [(0, .ref (ad q))] := hl
  show W p l e rmX0_size s m args below meth c s.heap [] 0 0 _ _
  refine lv_aload_n hx hb dX0_size_0 rfl (lv_at hl 0 rfl) ?_
  refine r_getI C hw (k := 1) hq.1 hq.2.1 rfl vc_0 inX0 (by decide) rfl gw1_40 dX0_size_1 ?_
  exact r_iret C hw hr hlocks hf dX0_size_4
noncomputable def fX0_isTooLong (fu : Nat) (q : Nat) (S : St) : Option (St × Int32) :=
  gd (isB (S.1 q 2)) <|
  some (S, (S.1 q 2))
theorem mvX0_isTooLong : MV yX0_isTooLong cX0_isTooLong 1 (some .boolean) RX0 0 := ⟨gw5_19, gw5_17, gw5_18, gw1_2, by decide +kernel⟩
def rmX0_isTooLong : Room := { frames := 0, cells := 0, slots := 0, locals := 0 }
set_option maxHeartbeats 4000000 in
set_option maxRecDepth 100000 in
theorem m_X0_isTooLong (l : Launch) (D : va_G) (cA : FieldType → ClassId) (ad : Nat → Nat) (base : Nat) (fu : Nat) (q : Nat) (hq : isBytes q) {S S' : St} {r : Int32} (hf : fX0_isTooLong fu q S = some (S', r)) : Met l yX0_isTooLong (GC yX0_isTooLong cX0_isTooLong 1 (some .boolean)) rmX0_isTooLong (va_Pc [.ref (ad q)] (wd D cA ad base S)) (QI D cA ad base S' r) 0 0 (aB base) := by
  refine Met.ofW (cc := cX0_isTooLong) (maxL := 1) (ret := (some .boolean)) (by decide) rfl ?_
  intro p e s m args below meth c s₁ B hml hv
  obtain ⟨hargs, hwd⟩ := hv
  have hr := B.returns
  have hlocks := B.notSynchronized
  obtain ⟨C, hw⟩ := CX.of (own := RX0) rfl B hml hwd
  have hx := C.1
  have hb := C.2.1
  have hl := lv_entry ([.ref (ad q)]) (n := 1) (Nat.le_of_ble_eq_true rfl)
  rw [show entryFrame m args 1 = entryFrame m ([.ref (ad q)] : List Value).toArray 1 from by rw [hargs], lg_entry_eq]
  generalize (lg_sl ([.ref (ad q)]) ++ List.replicate (1 - (lg_sl ([.ref (ad q)])).length) Slot.unset).toArray = ls at hl ⊢
  have hl : lv_has ls 1 [(0, .ref (ad q))] := hl
  show W p l e rmX0_isTooLong s m args below meth c s.heap [] 0 0 _ _
  refine lv_aload_n hx hb dX0_isTooLong_0 rfl (lv_at hl 0 rfl) ?_
  refine r_getI C hw (k := 2) hq.1 hq.2.1 rfl vc_0 inX0 (by decide) rfl gw1_41 dX0_isTooLong_1 ?_
  obtain ⟨z_4, hf⟩ := gd_some hf
  exact r_zret C hw hr hlocks z_4 hf dX0_isTooLong_4
noncomputable def fX0_clear (fu : Nat) (q : Nat) (S : St) : Option (St × Int32) :=
  sI q 1 (0 : Int32) S fun S_2 =>
  sI q 2 (0 : Int32) S_2 fun S_7 =>
  some (S_7, (0 : Int32))
theorem mvX0_clear : MV yX0_clear cX0_clear 1 none RX0 0 := ⟨gw3_36, gw3_34, gw3_35, gw1_2, by decide +kernel⟩
def rmX0_clear : Room := { frames := 0, cells := 0, slots := 0, locals := 0 }
set_option maxHeartbeats 4000000 in
set_option maxRecDepth 100000 in
theorem m_X0_clear (l : Launch) (D : va_G) (cA : FieldType → ClassId) (ad : Nat → Nat) (base : Nat) (fu : Nat) (q : Nat) (hq : isBytes q) {S S' : St} {r : Int32} (hf : fX0_clear fu q S = some (S', r)) : Met l yX0_clear (GC yX0_clear cX0_clear 1 none) rmX0_clear (va_Pc [.ref (ad q)] (wd D cA ad base S)) (QV D cA ad base S') 0 0 (aB base) := by
  refine Met.ofW (cc := cX0_clear) (maxL := 1) (ret := none) (by decide) rfl ?_
  intro p e s m args below meth c s₁ B hml hv
  obtain ⟨hargs, hwd⟩ := hv
  have hr := B.returns
  have hlocks := B.notSynchronized
  obtain ⟨C, hw⟩ := CX.of (own := RX0) rfl B hml hwd
  have hx := C.1
  have hb := C.2.1
  have hl := lv_entry ([.ref (ad q)]) (n := 1) (Nat.le_of_ble_eq_true rfl)
  rw [show entryFrame m args 1 = entryFrame m ([.ref (ad q)] : List Value).toArray 1 from by rw [hargs], lg_entry_eq]
  generalize (lg_sl ([.ref (ad q)]) ++ List.replicate (1 - (lg_sl ([.ref (ad q)])).length) Slot.unset).toArray = ls at hl ⊢
  have hl : lv_has ls 1 [(0, .ref (ad q))] := hl
  show W p l e rmX0_clear s m args below meth c s.heap [] 0 0 _ _
  refine lv_aload_n hx hb dX0_clear_0 rfl (lv_at hl 0 rfl) ?_
  refine lv_iconst (v := (0 : Int32)) hx hb dX0_clear_1 (by decide) ?_
  obtain ⟨S_2, e_2, hf⟩ := sI_some hf
  refine r_putI C hw (k := 1) (ty0 := tyX0) hq.1 hq.2.1 rfl vc_0 inX0 tyX0_ok nmX0 (by decide) rfl rfl gw1_40 rfl rfl dX0_clear_2 e_2 (fun H locs hw => ?_)
  refine lv_aload_n hx hb dX0_clear_5 rfl (lv_at hl 0 rfl) ?_
  refine lv_iconst (v := (0 : Int32)) hx hb dX0_clear_6 (by decide) ?_
  obtain ⟨S_7, e_7, hf⟩ := sI_some hf
  refine r_putI C hw (k := 2) (ty0 := tyX0) hq.1 hq.2.1 rfl vc_0 inX0 tyX0_ok nmX0 (by decide) rfl rfl gw1_41 rfl rfl dX0_clear_7 e_7 (fun H locs hw => ?_)
  exact r_vret C hw hr hlocks hf dX0_clear_10
noncomputable def fX0_at (fu : Nat) (q : Nat) (x1 : Int32) (S : St) : Option (St × Int32) :=
  if x1 < 0 then
    some (S, (-1 : Int32))
  else
    if (S.1 q 1) ≤ x1 then
      some (S, (-1 : Int32))
    else
      gd (ck x1 1000) <|
      some (S, ((S.1 (q + 1) (x1).toNatClampNeg) &&& (255 : Int32)))
theorem mvX0_at : MV yX0_at cX0_at 2 (some .int) RX0 1 := ⟨gw2_196, gw2_194, gw2_195, gw1_2, by decide +kernel⟩
def rmX0_at : Room := { frames := 0, cells := 0, slots := 0, locals := 0 }
set_option maxHeartbeats 4000000 in
set_option maxRecDepth 100000 in
theorem m_X0_at (l : Launch) (D : va_G) (cA : FieldType → ClassId) (ad : Nat → Nat) (base : Nat) (fu : Nat) (q : Nat) (hq : isBytes q) {S S' : St} {x1 : Int32} {r : Int32} (hf : fX0_at fu q x1 S = some (S', r)) : Met l yX0_at (GC yX0_at cX0_at 2 (some .int)) rmX0_at (va_Pc [.ref (ad q), .int x1] (wd D cA ad base S)) (QI D cA ad base S' r) 0 0 (aB base) := by
  refine Met.ofW (cc := cX0_at) (maxL := 2) (ret := (some .int)) (by decide) rfl ?_
  intro p e s m args below meth c s₁ B hml hv
  obtain ⟨hargs, hwd⟩ := hv
  have hr := B.returns
  have hlocks := B.notSynchronized
  obtain ⟨C, hw⟩ := CX.of (own := RX0) rfl B hml hwd
  have hx := C.1
  have hb := C.2.1
  have hl := lv_entry ([.ref (ad q), .int x1]) (n := 2) (Nat.le_of_ble_eq_true rfl)
  rw [show entryFrame m args 2 = entryFrame m ([.ref (ad q), .int x1] : List Value).toArray 2 from by rw [hargs], lg_entry_eq]
  generalize (lg_sl ([.ref (ad q), .int x1]) ++ List.replicate (2 - (lg_sl ([.ref (ad q), .int x1])).length) Slot.unset).toArray = ls at hl ⊢
  have hl : lv_has ls 2 [(0, .ref (ad q)), (1, .int x1)] := hl
  show W p l e rmX0_at s m args below meth c s.heap [] 0 0 _ _
  refine lv_iload_n hx hb dX0_at_0 rfl (lv_at hl 1 rfl) ?_
  refine lv_if_lt (tgt := 25) hx hb dX0_at_1 (by decide) (fun c_1 => ?_) (fun c_1 => ?_)
  · have hf := if_t hf c_1
    refine lv_iconst (v := (-1 : Int32)) hx hb dX0_at_25 (by decide) ?_
    exact r_iret C hw hr hlocks hf dX0_at_26
  · have hf := if_f hf c_1
    refine lv_iload_n hx hb dX0_at_4 rfl (lv_at hl 1 rfl) ?_
    refine lv_aload_n hx hb dX0_at_5 rfl (lv_at hl 0 rfl) ?_
    refine r_getI C hw (k := 1) hq.1 hq.2.1 rfl vc_0 inX0 (by decide) rfl gw1_40 dX0_at_6 ?_
    refine lv_icmp_ge (tgt := 25) hx hb dX0_at_9 (by decide) (fun c_9 => ?_) (fun c_9 => ?_)
    · have hf := if_t hf c_9
      refine lv_iconst (v := (-1 : Int32)) hx hb dX0_at_25 (by decide) ?_
      exact r_iret C hw hr hlocks hf dX0_at_26
    · have hf := if_f hf c_9
      refine lv_aload_n hx hb dX0_at_12 rfl (lv_at hl 0 rfl) ?_
      refine r_getR C hw (k := 0) (r := (q + 1)) hq.1 hq.2.1 rfl vc_0 inX0 (by decide) rfl gw1_39 dX0_at_13 ?_
      refine lv_iload_n hx hb dX0_at_16 rfl (lv_at hl 1 rfl) ?_
      obtain ⟨z_17, hf⟩ := gd_some hf
      refine r_bald C hw (x := (q + 1)) hq.2.2.1 hq.2.2.2 z_17 dX0_at_17 ?_
      refine lv_sipush (v := (255 : Int32)) hx hb dX0_at_18 (by decide) ?_
      refine lv_iand hx hb dX0_at_21 ?_
      refine lv_goto (tgt := 26) hx hb dX0_at_22 (by decide) ?_
      exact r_iret C hw hr hlocks hf dX0_at_26
noncomputable def fX0_set (fu : Nat) (q : Nat) (x1 : Int32) (x2 : Int32) (S : St) : Option (St × Int32) :=
  if x1 < 0 then
    some (S, (0 : Int32))
  else
    if x1 < (S.1 q 1) then
      gd (ck x1 1000) <|
      sI (q + 1) (x1).toNatClampNeg (vp_nar .byte (x2).toInt8.toInt32) S fun S_21 =>
      some (S_21, (1 : Int32))
    else
      some (S, (0 : Int32))
theorem mvX0_set : MV yX0_set cX0_set 3 (some .boolean) RX0 2 := ⟨gw2_175, gw2_173, gw2_174, gw1_2, by decide +kernel⟩
def rmX0_set : Room := { frames := 0, cells := 0, slots := 0, locals := 0 }
set_option maxHeartbeats 4000000 in
set_option maxRecDepth 100000 in
theorem m_X0_set (l : Launch) (D : va_G) (cA : FieldType → ClassId) (ad : Nat → Nat) (base : Nat) (fu : Nat) (q : Nat) (hq : isBytes q) {S S' : St} {x1 : Int32} {x2 : Int32} {r : Int32} (hf : fX0_set fu q x1 x2 S = some (S', r)) : Met l yX0_set (GC yX0_set cX0_set 3 (some .boolean)) rmX0_set (va_Pc [.ref (ad q), .int x1, .int x2] (wd D cA ad base S)) (QI D cA ad base S' r) 0 0 (aB base) := by
  refine Met.ofW (cc := cX0_set) (maxL := 3) (ret := (some .boolean)) (by decide) rfl ?_
  intro p e s m args below meth c s₁ B hml hv
  obtain ⟨hargs, hwd⟩ := hv
  have hr := B.returns
  have hlocks := B.notSynchronized
  obtain ⟨C, hw⟩ := CX.of (own := RX0) rfl B hml hwd
  have hx := C.1
  have hb := C.2.1
  have hl := lv_entry ([.ref (ad q), .int x1, .int x2]) (n := 3) (Nat.le_of_ble_eq_true rfl)
  rw [show entryFrame m args 3 = entryFrame m ([.ref (ad q), .int x1, .int x2] : List Value).toArray 3 from by rw [hargs], lg_entry_eq]
  generalize (lg_sl ([.ref (ad q), .int x1, .int x2]) ++ List.replicate (3 - (lg_sl ([.ref (ad q), .int x1, .int x2])).length) Slot.unset).toArray = ls at hl ⊢
  have hl : lv_has ls 3 [(0, .ref (ad q)), (1, .int x1), (2, .int x2)] := hl
  show W p l e rmX0_set s m args below meth c s.heap [] 0 0 _ _
  refine lv_iload_n hx hb dX0_set_0 rfl (lv_at hl 1 rfl) ?_
  refine lv_if_lt (tgt := 12) hx hb dX0_set_1 (by decide) (fun c_1 => ?_) (fun c_1 => ?_)
  · have hf := if_t hf c_1
    refine lv_iconst (v := (0 : Int32)) hx hb dX0_set_12 (by decide) ?_
    exact r_zret C hw hr hlocks rfl hf dX0_set_13
  · have hf := if_f hf c_1
    refine lv_iload_n hx hb dX0_set_4 rfl (lv_at hl 1 rfl) ?_
    refine lv_aload_n hx hb dX0_set_5 rfl (lv_at hl 0 rfl) ?_
    refine r_getI C hw (k := 1) hq.1 hq.2.1 rfl vc_0 inX0 (by decide) rfl gw1_40 dX0_set_6 ?_
    refine lv_icmp_lt (tgt := 14) hx hb dX0_set_9 (by decide) (fun c_9 => ?_) (fun c_9 => ?_)
    · have hf := if_t hf c_9
      refine lv_aload_n hx hb dX0_set_14 rfl (lv_at hl 0 rfl) ?_
      refine r_getR C hw (k := 0) (r := (q + 1)) hq.1 hq.2.1 rfl vc_0 inX0 (by decide) rfl gw1_39 dX0_set_15 ?_
      refine lv_iload_n hx hb dX0_set_18 rfl (lv_at hl 1 rfl) ?_
      refine lv_iload_n hx hb dX0_set_19 rfl (lv_at hl 2 rfl) ?_
      refine lv_i2b hx hb dX0_set_20 rfl ?_
      obtain ⟨z_21, hf⟩ := gd_some hf
      obtain ⟨S_21, e_21, hf⟩ := sI_some hf
      refine r_bast C hw (x := (q + 1)) hq.2.2.1 hq.2.2.2 z_21 dX0_set_21 e_21 (fun H locs hw => ?_)
      refine lv_iconst (v := (1 : Int32)) hx hb dX0_set_22 (by decide) ?_
      exact r_zret C hw hr hlocks rfl hf dX0_set_23
    · have hf := if_f hf c_9
      refine lv_iconst (v := (0 : Int32)) hx hb dX0_set_12 (by decide) ?_
      exact r_zret C hw hr hlocks rfl hf dX0_set_13
noncomputable def fX0_cutTo (fu : Nat) (q : Nat) (x1 : Int32) (S : St) : Option (St × Int32) :=
  if x1 < 0 then
    some (S, (0 : Int32))
  else
    if x1 ≤ (S.1 q 1) then
      sI q 1 x1 S fun S_16 =>
      some (S_16, (1 : Int32))
    else
      some (S, (0 : Int32))
theorem mvX0_cutTo : MV yX0_cutTo cX0_cutTo 2 (some .boolean) RX0 1 := ⟨gw2_167, gw2_165, gw2_166, gw1_2, by decide +kernel⟩
def rmX0_cutTo : Room := { frames := 0, cells := 0, slots := 0, locals := 0 }
set_option maxHeartbeats 4000000 in
set_option maxRecDepth 100000 in
theorem m_X0_cutTo (l : Launch) (D : va_G) (cA : FieldType → ClassId) (ad : Nat → Nat) (base : Nat) (fu : Nat) (q : Nat) (hq : isBytes q) {S S' : St} {x1 : Int32} {r : Int32} (hf : fX0_cutTo fu q x1 S = some (S', r)) : Met l yX0_cutTo (GC yX0_cutTo cX0_cutTo 2 (some .boolean)) rmX0_cutTo (va_Pc [.ref (ad q), .int x1] (wd D cA ad base S)) (QI D cA ad base S' r) 0 0 (aB base) := by
  refine Met.ofW (cc := cX0_cutTo) (maxL := 2) (ret := (some .boolean)) (by decide) rfl ?_
  intro p e s m args below meth c s₁ B hml hv
  obtain ⟨hargs, hwd⟩ := hv
  have hr := B.returns
  have hlocks := B.notSynchronized
  obtain ⟨C, hw⟩ := CX.of (own := RX0) rfl B hml hwd
  have hx := C.1
  have hb := C.2.1
  have hl := lv_entry ([.ref (ad q), .int x1]) (n := 2) (Nat.le_of_ble_eq_true rfl)
  rw [show entryFrame m args 2 = entryFrame m ([.ref (ad q), .int x1] : List Value).toArray 2 from by rw [hargs], lg_entry_eq]
  generalize (lg_sl ([.ref (ad q), .int x1]) ++ List.replicate (2 - (lg_sl ([.ref (ad q), .int x1])).length) Slot.unset).toArray = ls at hl ⊢
  have hl : lv_has ls 2 [(0, .ref (ad q)), (1, .int x1)] := hl
  show W p l e rmX0_cutTo s m args below meth c s.heap [] 0 0 _ _
  refine lv_iload_n hx hb dX0_cutTo_0 rfl (lv_at hl 1 rfl) ?_
  refine lv_if_lt (tgt := 12) hx hb dX0_cutTo_1 (by decide) (fun c_1 => ?_) (fun c_1 => ?_)
  · have hf := if_t hf c_1
    refine lv_iconst (v := (0 : Int32)) hx hb dX0_cutTo_12 (by decide) ?_
    exact r_zret C hw hr hlocks rfl hf dX0_cutTo_13
  · have hf := if_f hf c_1
    refine lv_iload_n hx hb dX0_cutTo_4 rfl (lv_at hl 1 rfl) ?_
    refine lv_aload_n hx hb dX0_cutTo_5 rfl (lv_at hl 0 rfl) ?_
    refine r_getI C hw (k := 1) hq.1 hq.2.1 rfl vc_0 inX0 (by decide) rfl gw1_40 dX0_cutTo_6 ?_
    refine lv_icmp_le (tgt := 14) hx hb dX0_cutTo_9 (by decide) (fun c_9 => ?_) (fun c_9 => ?_)
    · have hf := if_t hf c_9
      refine lv_aload_n hx hb dX0_cutTo_14 rfl (lv_at hl 0 rfl) ?_
      refine lv_iload_n hx hb dX0_cutTo_15 rfl (lv_at hl 1 rfl) ?_
      obtain ⟨S_16, e_16, hf⟩ := sI_some hf
      refine r_putI C hw (k := 1) (ty0 := tyX0) hq.1 hq.2.1 rfl vc_0 inX0 tyX0_ok nmX0 (by decide) rfl rfl gw1_40 rfl rfl dX0_cutTo_16 e_16 (fun H locs hw => ?_)
      refine lv_iconst (v := (1 : Int32)) hx hb dX0_cutTo_19 (by decide) ?_
      exact r_zret C hw hr hlocks rfl hf dX0_cutTo_20
    · have hf := if_f hf c_9
      refine lv_iconst (v := (0 : Int32)) hx hb dX0_cutTo_12 (by decide) ?_
      exact r_zret C hw hr hlocks rfl hf dX0_cutTo_13
noncomputable def fX0_add (fu : Nat) (q : Nat) (x1 : Int32) (S : St) : Option (St × Int32) :=
  if (S.1 q 1) < (1000 : Int32) then
    gd (ck (S.1 q 1) 1000) <|
    sI (q + 1) ((S.1 q 1)).toNatClampNeg (vp_nar .byte (x1).toInt8.toInt32) S fun S_26 =>
    sI q 1 ((S_26.1 q 1) + (1 : Int32)) S_26 fun S_34 =>
    some (S_34, (0 : Int32))
  else
    sI q 2 (1 : Int32) S fun S_12 =>
    some (S_12, (0 : Int32))
theorem mvX0_add : MV yX0_add cX0_add 2 none RX0 1 := ⟨gw2_159, gw2_157, gw2_158, gw1_2, by decide +kernel⟩
def rmX0_add : Room := { frames := 0, cells := 0, slots := 0, locals := 0 }
set_option maxHeartbeats 4000000 in
set_option maxRecDepth 100000 in
theorem m_X0_add (l : Launch) (D : va_G) (cA : FieldType → ClassId) (ad : Nat → Nat) (base : Nat) (fu : Nat) (q : Nat) (hq : isBytes q) {S S' : St} {x1 : Int32} {r : Int32} (hf : fX0_add fu q x1 S = some (S', r)) : Met l yX0_add (GC yX0_add cX0_add 2 none) rmX0_add (va_Pc [.ref (ad q), .int x1] (wd D cA ad base S)) (QV D cA ad base S') 0 0 (aB base) := by
  refine Met.ofW (cc := cX0_add) (maxL := 2) (ret := none) (by decide) rfl ?_
  intro p e s m args below meth c s₁ B hml hv
  obtain ⟨hargs, hwd⟩ := hv
  have hr := B.returns
  have hlocks := B.notSynchronized
  obtain ⟨C, hw⟩ := CX.of (own := RX0) rfl B hml hwd
  have hx := C.1
  have hb := C.2.1
  have hl := lv_entry ([.ref (ad q), .int x1]) (n := 2) (Nat.le_of_ble_eq_true rfl)
  rw [show entryFrame m args 2 = entryFrame m ([.ref (ad q), .int x1] : List Value).toArray 2 from by rw [hargs], lg_entry_eq]
  generalize (lg_sl ([.ref (ad q), .int x1]) ++ List.replicate (2 - (lg_sl ([.ref (ad q), .int x1])).length) Slot.unset).toArray = ls at hl ⊢
  have hl : lv_has ls 2 [(0, .ref (ad q)), (1, .int x1)] := hl
  show W p l e rmX0_add s m args below meth c s.heap [] 0 0 _ _
  refine lv_aload_n hx hb dX0_add_0 rfl (lv_at hl 0 rfl) ?_
  refine r_getI C hw (k := 1) hq.1 hq.2.1 rfl vc_0 inX0 (by decide) rfl gw1_40 dX0_add_1 ?_
  refine lv_sipush (v := (1000 : Int32)) hx hb dX0_add_4 (by decide) ?_
  refine lv_icmp_lt (tgt := 16) hx hb dX0_add_7 (by decide) (fun c_7 => ?_) (fun c_7 => ?_)
  · have hf := if_t hf c_7
    refine lv_aload_n hx hb dX0_add_16 rfl (lv_at hl 0 rfl) ?_
    refine r_getR C hw (k := 0) (r := (q + 1)) hq.1 hq.2.1 rfl vc_0 inX0 (by decide) rfl gw1_39 dX0_add_17 ?_
    refine lv_aload_n hx hb dX0_add_20 rfl (lv_at hl 0 rfl) ?_
    refine r_getI C hw (k := 1) hq.1 hq.2.1 rfl vc_0 inX0 (by decide) rfl gw1_40 dX0_add_21 ?_
    refine lv_iload_n hx hb dX0_add_24 rfl (lv_at hl 1 rfl) ?_
    refine lv_i2b hx hb dX0_add_25 rfl ?_
    obtain ⟨z_26, hf⟩ := gd_some hf
    obtain ⟨S_26, e_26, hf⟩ := sI_some hf
    refine r_bast C hw (x := (q + 1)) hq.2.2.1 hq.2.2.2 z_26 dX0_add_26 e_26 (fun H locs hw => ?_)
    refine lv_aload_n hx hb dX0_add_27 rfl (lv_at hl 0 rfl) ?_
    refine lv_dup hx hb dX0_add_28 rfl ?_
    refine r_getI C hw (k := 1) hq.1 hq.2.1 rfl vc_0 inX0 (by decide) rfl gw1_40 dX0_add_29 ?_
    refine lv_iconst (v := (1 : Int32)) hx hb dX0_add_32 (by decide) ?_
    refine lv_iadd hx hb dX0_add_33 ?_
    obtain ⟨S_34, e_34, hf⟩ := sI_some hf
    refine r_putI C hw (k := 1) (ty0 := tyX0) hq.1 hq.2.1 rfl vc_0 inX0 tyX0_ok nmX0 (by decide) rfl rfl gw1_40 rfl rfl dX0_add_34 e_34 (fun H locs hw => ?_)
    exact r_vret C hw hr hlocks hf dX0_add_37
  · have hf := if_f hf c_7
    refine lv_aload_n hx hb dX0_add_10 rfl (lv_at hl 0 rfl) ?_
    refine lv_iconst (v := (1 : Int32)) hx hb dX0_add_11 (by decide) ?_
    obtain ⟨S_12, e_12, hf⟩ := sI_some hf
    refine r_putI C hw (k := 2) (ty0 := tyX0) hq.1 hq.2.1 rfl vc_0 inX0 tyX0_ok nmX0 (by decide) rfl rfl gw1_41 rfl rfl dX0_add_12 e_12 (fun H locs hw => ?_)
    exact r_vret C hw hr hlocks hf dX0_add_15
noncomputable def fX0_addTwo (fu : Nat) (q : Nat) (x1 : Int32) (S : St) : Option (St × Int32) :=
  bd (fX0_add fu q (x1 >>> ((8 : Int32) &&& 31)) S) fun S_5 _ =>
  bd (fX0_add fu q x1 S_5) fun S_10 _ =>
  some (S_10, (0 : Int32))
theorem mvX0_addTwo : MV yX0_addTwo cX0_addTwo 2 none RX0 1 := ⟨gw4_198, gw4_196, gw4_197, gw1_2, by decide +kernel⟩
def rmX0_addTwo : Room := { frames := 1, cells := 0, slots := 0, locals := 21 }
set_option maxHeartbeats 4000000 in
set_option maxRecDepth 100000 in
theorem m_X0_addTwo (l : Launch) (D : va_G) (cA : FieldType → ClassId) (ad : Nat → Nat) (base : Nat) (fu : Nat) (q : Nat) (hq : isBytes q) {S S' : St} {x1 : Int32} {r : Int32} (hf : fX0_addTwo fu q x1 S = some (S', r)) : Met l yX0_addTwo (GC yX0_addTwo cX0_addTwo 2 none) rmX0_addTwo (va_Pc [.ref (ad q), .int x1] (wd D cA ad base S)) (QV D cA ad base S') 0 0 (aB base) := by
  refine Met.ofW (cc := cX0_addTwo) (maxL := 2) (ret := none) (by decide) rfl ?_
  intro p e s m args below meth c s₁ B hml hv
  obtain ⟨hargs, hwd⟩ := hv
  have hr := B.returns
  have hlocks := B.notSynchronized
  obtain ⟨C, hw⟩ := CX.of (own := RX0) rfl B hml hwd
  have hx := C.1
  have hb := C.2.1
  have hl := lv_entry ([.ref (ad q), .int x1]) (n := 2) (Nat.le_of_ble_eq_true rfl)
  rw [show entryFrame m args 2 = entryFrame m ([.ref (ad q), .int x1] : List Value).toArray 2 from by rw [hargs], lg_entry_eq]
  generalize (lg_sl ([.ref (ad q), .int x1]) ++ List.replicate (2 - (lg_sl ([.ref (ad q), .int x1])).length) Slot.unset).toArray = ls at hl ⊢
  have hl : lv_has ls 2 [(0, .ref (ad q)), (1, .int x1)] := hl
  show W p l e rmX0_addTwo s m args below meth c s.heap [] 0 0 _ _
  refine lv_aload_n hx hb dX0_addTwo_0 rfl (lv_at hl 0 rfl) ?_
  refine lv_iload_n hx hb dX0_addTwo_1 rfl (lv_at hl 1 rfl) ?_
  refine lv_bipush (v := (8 : Int32)) hx hb dX0_addTwo_2 (by decide) ?_
  refine lv_ishr hx hb dX0_addTwo_4 ?_
  obtain ⟨S_5, r_5, h_5, hf⟩ := bd_some hf
  refine r_bv hw (r_runV (rest := []) C hw (m_X0_add l D cA ad base fu q hq h_5) mvX0_add gw2_156 ⟨rfl, rfl, Nat.le_of_ble_eq_true rfl, Nat.le_of_ble_eq_true rfl⟩ hq.1 hq.2.1 vc_0 rfl hl.1 rfl (Nat.le_of_ble_eq_true rfl) dX0_addTwo_5 (Nat.zero_le _) (Nat.zero_le _)) (fun H locs hw => ?_)
  refine lv_aload_n hx hb dX0_addTwo_8 rfl (lv_at hl 0 rfl) ?_
  refine lv_iload_n hx hb dX0_addTwo_9 rfl (lv_at hl 1 rfl) ?_
  obtain ⟨S_10, r_10, h_10, hf⟩ := bd_some hf
  refine r_bv hw (r_runV (rest := []) C hw (m_X0_add l D cA ad base fu q hq h_10) mvX0_add gw2_156 ⟨rfl, rfl, Nat.le_of_ble_eq_true rfl, Nat.le_of_ble_eq_true rfl⟩ hq.1 hq.2.1 vc_0 rfl hl.1 rfl (Nat.le_of_ble_eq_true rfl) dX0_addTwo_10 (Nat.zero_le _) (Nat.zero_le _)) (fun H locs hw => ?_)
  exact r_vret C hw hr hlocks hf dX0_addTwo_13
noncomputable def fX0_addFour (fu : Nat) (q : Nat) (x1 : Int32) (S : St) : Option (St × Int32) :=
  bd (fX0_add fu q (x1 >>> ((24 : Int32) &&& 31)) S) fun S_5 _ =>
  bd (fX0_add fu q (x1 >>> ((16 : Int32) &&& 31)) S_5) fun S_13 _ =>
  bd (fX0_add fu q (x1 >>> ((8 : Int32) &&& 31)) S_13) fun S_21 _ =>
  bd (fX0_add fu q x1 S_21) fun S_26 _ =>
  some (S_26, (0 : Int32))
theorem mvX0_addFour : MV yX0_addFour cX0_addFour 2 none RX0 1 := ⟨gw2_155, gw2_153, gw2_154, gw1_2, by decide +kernel⟩
def rmX0_addFour : Room := { frames := 1, cells := 0, slots := 0, locals := 21 }
set_option maxHeartbeats 4000000 in
set_option maxRecDepth 100000 in
theorem m_X0_addFour (l : Launch) (D : va_G) (cA : FieldType → ClassId) (ad : Nat → Nat) (base : Nat) (fu : Nat) (q : Nat) (hq : isBytes q) {S S' : St} {x1 : Int32} {r : Int32} (hf : fX0_addFour fu q x1 S = some (S', r)) : Met l yX0_addFour (GC yX0_addFour cX0_addFour 2 none) rmX0_addFour (va_Pc [.ref (ad q), .int x1] (wd D cA ad base S)) (QV D cA ad base S') 0 0 (aB base) := by
  refine Met.ofW (cc := cX0_addFour) (maxL := 2) (ret := none) (by decide) rfl ?_
  intro p e s m args below meth c s₁ B hml hv
  obtain ⟨hargs, hwd⟩ := hv
  have hr := B.returns
  have hlocks := B.notSynchronized
  obtain ⟨C, hw⟩ := CX.of (own := RX0) rfl B hml hwd
  have hx := C.1
  have hb := C.2.1
  have hl := lv_entry ([.ref (ad q), .int x1]) (n := 2) (Nat.le_of_ble_eq_true rfl)
  rw [show entryFrame m args 2 = entryFrame m ([.ref (ad q), .int x1] : List Value).toArray 2 from by rw [hargs], lg_entry_eq]
  generalize (lg_sl ([.ref (ad q), .int x1]) ++ List.replicate (2 - (lg_sl ([.ref (ad q), .int x1])).length) Slot.unset).toArray = ls at hl ⊢
  have hl : lv_has ls 2 [(0, .ref (ad q)), (1, .int x1)] := hl
  show W p l e rmX0_addFour s m args below meth c s.heap [] 0 0 _ _
  refine lv_aload_n hx hb dX0_addFour_0 rfl (lv_at hl 0 rfl) ?_
  refine lv_iload_n hx hb dX0_addFour_1 rfl (lv_at hl 1 rfl) ?_
  refine lv_bipush (v := (24 : Int32)) hx hb dX0_addFour_2 (by decide) ?_
  refine lv_ishr hx hb dX0_addFour_4 ?_
  obtain ⟨S_5, r_5, h_5, hf⟩ := bd_some hf
  refine r_bv hw (r_runV (rest := []) C hw (m_X0_add l D cA ad base fu q hq h_5) mvX0_add gw2_156 ⟨rfl, rfl, Nat.le_of_ble_eq_true rfl, Nat.le_of_ble_eq_true rfl⟩ hq.1 hq.2.1 vc_0 rfl hl.1 rfl (Nat.le_of_ble_eq_true rfl) dX0_addFour_5 (Nat.zero_le _) (Nat.zero_le _)) (fun H locs hw => ?_)
  refine lv_aload_n hx hb dX0_addFour_8 rfl (lv_at hl 0 rfl) ?_
  refine lv_iload_n hx hb dX0_addFour_9 rfl (lv_at hl 1 rfl) ?_
  refine lv_bipush (v := (16 : Int32)) hx hb dX0_addFour_10 (by decide) ?_
  refine lv_ishr hx hb dX0_addFour_12 ?_
  obtain ⟨S_13, r_13, h_13, hf⟩ := bd_some hf
  refine r_bv hw (r_runV (rest := []) C hw (m_X0_add l D cA ad base fu q hq h_13) mvX0_add gw2_156 ⟨rfl, rfl, Nat.le_of_ble_eq_true rfl, Nat.le_of_ble_eq_true rfl⟩ hq.1 hq.2.1 vc_0 rfl hl.1 rfl (Nat.le_of_ble_eq_true rfl) dX0_addFour_13 (Nat.zero_le _) (Nat.zero_le _)) (fun H locs hw => ?_)
  refine lv_aload_n hx hb dX0_addFour_16 rfl (lv_at hl 0 rfl) ?_
  refine lv_iload_n hx hb dX0_addFour_17 rfl (lv_at hl 1 rfl) ?_
  refine lv_bipush (v := (8 : Int32)) hx hb dX0_addFour_18 (by decide) ?_
  refine lv_ishr hx hb dX0_addFour_20 ?_
  obtain ⟨S_21, r_21, h_21, hf⟩ := bd_some hf
  refine r_bv hw (r_runV (rest := []) C hw (m_X0_add l D cA ad base fu q hq h_21) mvX0_add gw2_156 ⟨rfl, rfl, Nat.le_of_ble_eq_true rfl, Nat.le_of_ble_eq_true rfl⟩ hq.1 hq.2.1 vc_0 rfl hl.1 rfl (Nat.le_of_ble_eq_true rfl) dX0_addFour_21 (Nat.zero_le _) (Nat.zero_le _)) (fun H locs hw => ?_)
  refine lv_aload_n hx hb dX0_addFour_24 rfl (lv_at hl 0 rfl) ?_
  refine lv_iload_n hx hb dX0_addFour_25 rfl (lv_at hl 1 rfl) ?_
  obtain ⟨S_26, r_26, h_26, hf⟩ := bd_some hf
  refine r_bv hw (r_runV (rest := []) C hw (m_X0_add l D cA ad base fu q hq h_26) mvX0_add gw2_156 ⟨rfl, rfl, Nat.le_of_ble_eq_true rfl, Nat.le_of_ble_eq_true rfl⟩ hq.1 hq.2.1 vc_0 rfl hl.1 rfl (Nat.le_of_ble_eq_true rfl) dX0_addFour_26 (Nat.zero_le _) (Nat.zero_le _)) (fun H locs hw => ?_)
  exact r_vret C hw hr hlocks hf dX0_addFour_29
noncomputable def fX0_setTwo (fu : Nat) (q : Nat) (x1 : Int32) (x2 : Int32) (S : St) : Option (St × Int32) :=
  bd (fX0_set fu q x1 (x2 >>> ((8 : Int32) &&& 31)) S) fun S_6 r_6 =>
  bd (fX0_set fu q (x1 + (1 : Int32)) x2 S_6) fun S_15 r_15 =>
  some (S_15, (0 : Int32))
theorem mvX0_setTwo : MV yX0_setTwo cX0_setTwo 3 none RX0 2 := ⟨gw5_2, gw5_0, gw5_1, gw1_2, by decide +kernel⟩
def rmX0_setTwo : Room := { frames := 1, cells := 0, slots := 0, locals := 22 }
set_option maxHeartbeats 4000000 in
set_option maxRecDepth 100000 in
theorem m_X0_setTwo (l : Launch) (D : va_G) (cA : FieldType → ClassId) (ad : Nat → Nat) (base : Nat) (fu : Nat) (q : Nat) (hq : isBytes q) {S S' : St} {x1 : Int32} {x2 : Int32} {r : Int32} (hf : fX0_setTwo fu q x1 x2 S = some (S', r)) : Met l yX0_setTwo (GC yX0_setTwo cX0_setTwo 3 none) rmX0_setTwo (va_Pc [.ref (ad q), .int x1, .int x2] (wd D cA ad base S)) (QV D cA ad base S') 0 0 (aB base) := by
  refine Met.ofW (cc := cX0_setTwo) (maxL := 3) (ret := none) (by decide) rfl ?_
  intro p e s m args below meth c s₁ B hml hv
  obtain ⟨hargs, hwd⟩ := hv
  have hr := B.returns
  have hlocks := B.notSynchronized
  obtain ⟨C, hw⟩ := CX.of (own := RX0) rfl B hml hwd
  have hx := C.1
  have hb := C.2.1
  have hl := lv_entry ([.ref (ad q), .int x1, .int x2]) (n := 3) (Nat.le_of_ble_eq_true rfl)
  rw [show entryFrame m args 3 = entryFrame m ([.ref (ad q), .int x1, .int x2] : List Value).toArray 3 from by rw [hargs], lg_entry_eq]
  generalize (lg_sl ([.ref (ad q), .int x1, .int x2]) ++ List.replicate (3 - (lg_sl ([.ref (ad q), .int x1, .int x2])).length) Slot.unset).toArray = ls at hl ⊢
  have hl : lv_has ls 3 [(0, .ref (ad q)), (1, .int x1), (2, .int x2)] := hl
  show W p l e rmX0_setTwo s m args below meth c s.heap [] 0 0 _ _
  refine lv_aload_n hx hb dX0_setTwo_0 rfl (lv_at hl 0 rfl) ?_
  refine lv_iload_n hx hb dX0_setTwo_1 rfl (lv_at hl 1 rfl) ?_
  refine lv_iload_n hx hb dX0_setTwo_2 rfl (lv_at hl 2 rfl) ?_
  refine lv_bipush (v := (8 : Int32)) hx hb dX0_setTwo_3 (by decide) ?_
  refine lv_ishr hx hb dX0_setTwo_5 ?_
  obtain ⟨S_6, r_6, h_6, hf⟩ := bd_some hf
  refine r_bi hw (r_runV (rest := []) C hw (m_X0_set l D cA ad base fu q hq h_6) mvX0_set gw5_3 ⟨rfl, rfl, Nat.le_of_ble_eq_true rfl, Nat.le_of_ble_eq_true rfl⟩ hq.1 hq.2.1 vc_0 rfl hl.1 rfl (Nat.le_of_ble_eq_true rfl) dX0_setTwo_6 (Nat.zero_le _) (Nat.zero_le _)) (fun H locs hw => ?_)
  refine lv_pop hx hb dX0_setTwo_9 rfl ?_
  refine lv_aload_n hx hb dX0_setTwo_10 rfl (lv_at hl 0 rfl) ?_
  refine lv_iload_n hx hb dX0_setTwo_11 rfl (lv_at hl 1 rfl) ?_
  refine lv_iconst (v := (1 : Int32)) hx hb dX0_setTwo_12 (by decide) ?_
  refine lv_iadd hx hb dX0_setTwo_13 ?_
  refine lv_iload_n hx hb dX0_setTwo_14 rfl (lv_at hl 2 rfl) ?_
  obtain ⟨S_15, r_15, h_15, hf⟩ := bd_some hf
  refine r_bi hw (r_runV (rest := []) C hw (m_X0_set l D cA ad base fu q hq h_15) mvX0_set gw5_3 ⟨rfl, rfl, Nat.le_of_ble_eq_true rfl, Nat.le_of_ble_eq_true rfl⟩ hq.1 hq.2.1 vc_0 rfl hl.1 rfl (Nat.le_of_ble_eq_true rfl) dX0_setTwo_15 (Nat.zero_le _) (Nat.zero_le _)) (fun H locs hw => ?_)
  refine lv_pop hx hb dX0_setTwo_18 rfl ?_
  exact r_vret C hw hr hlocks hf dX0_setTwo_19
noncomputable def fX0_two (fu : Nat) (q : Nat) (x1 : Int32) (S : St) : Option (St × Int32) :=
  bd (fX0_at fu q x1 S) fun S_2 r_2 =>
  bd (fX0_at fu q (x1 + (1 : Int32)) S_2) fun S_12 r_12 =>
  some (S_12, ((r_2 <<< ((8 : Int32) &&& 31)) + r_12))
theorem mvX0_two : MV yX0_two cX0_two 2 (some .int) RX0 1 := ⟨gw2_192, gw2_190, gw2_191, gw1_2, by decide +kernel⟩
def rmX0_two : Room := { frames := 1, cells := 0, slots := 0, locals := 21 }
set_option maxHeartbeats 4000000 in
set_option maxRecDepth 100000 in
theorem m_X0_two (l : Launch) (D : va_G) (cA : FieldType → ClassId) (ad : Nat → Nat) (base : Nat) (fu : Nat) (q : Nat) (hq : isBytes q) {S S' : St} {x1 : Int32} {r : Int32} (hf : fX0_two fu q x1 S = some (S', r)) : Met l yX0_two (GC yX0_two cX0_two 2 (some .int)) rmX0_two (va_Pc [.ref (ad q), .int x1] (wd D cA ad base S)) (QI D cA ad base S' r) 0 0 (aB base) := by
  refine Met.ofW (cc := cX0_two) (maxL := 2) (ret := (some .int)) (by decide) rfl ?_
  intro p e s m args below meth c s₁ B hml hv
  obtain ⟨hargs, hwd⟩ := hv
  have hr := B.returns
  have hlocks := B.notSynchronized
  obtain ⟨C, hw⟩ := CX.of (own := RX0) rfl B hml hwd
  have hx := C.1
  have hb := C.2.1
  have hl := lv_entry ([.ref (ad q), .int x1]) (n := 2) (Nat.le_of_ble_eq_true rfl)
  rw [show entryFrame m args 2 = entryFrame m ([.ref (ad q), .int x1] : List Value).toArray 2 from by rw [hargs], lg_entry_eq]
  generalize (lg_sl ([.ref (ad q), .int x1]) ++ List.replicate (2 - (lg_sl ([.ref (ad q), .int x1])).length) Slot.unset).toArray = ls at hl ⊢
  have hl : lv_has ls 2 [(0, .ref (ad q)), (1, .int x1)] := hl
  show W p l e rmX0_two s m args below meth c s.heap [] 0 0 _ _
  refine lv_aload_n hx hb dX0_two_0 rfl (lv_at hl 0 rfl) ?_
  refine lv_iload_n hx hb dX0_two_1 rfl (lv_at hl 1 rfl) ?_
  obtain ⟨S_2, r_2, h_2, hf⟩ := bd_some hf
  refine r_bi hw (r_runV (rest := []) C hw (m_X0_at l D cA ad base fu q hq h_2) mvX0_at gw2_193 ⟨rfl, rfl, Nat.le_of_ble_eq_true rfl, Nat.le_of_ble_eq_true rfl⟩ hq.1 hq.2.1 vc_0 rfl hl.1 rfl (Nat.le_of_ble_eq_true rfl) dX0_two_2 (Nat.zero_le _) (Nat.zero_le _)) (fun H locs hw => ?_)
  refine lv_bipush (v := (8 : Int32)) hx hb dX0_two_5 (by decide) ?_
  refine lv_ishl hx hb dX0_two_7 ?_
  refine lv_aload_n hx hb dX0_two_8 rfl (lv_at hl 0 rfl) ?_
  refine lv_iload_n hx hb dX0_two_9 rfl (lv_at hl 1 rfl) ?_
  refine lv_iconst (v := (1 : Int32)) hx hb dX0_two_10 (by decide) ?_
  refine lv_iadd hx hb dX0_two_11 ?_
  obtain ⟨S_12, r_12, h_12, hf⟩ := bd_some hf
  refine r_bi hw (r_runV (rest := [.int (r_2 <<< ((8 : Int32) &&& 31))]) C hw (m_X0_at l D cA ad base fu q hq h_12) mvX0_at gw2_193 ⟨rfl, rfl, Nat.le_of_ble_eq_true rfl, Nat.le_of_ble_eq_true rfl⟩ hq.1 hq.2.1 vc_0 rfl hl.1 rfl (Nat.le_of_ble_eq_true rfl) dX0_two_12 (Nat.zero_le _) (Nat.zero_le _)) (fun H locs hw => ?_)
  refine lv_iadd hx hb dX0_two_15 ?_
  exact r_iret C hw hr hlocks hf dX0_two_16
noncomputable def fX0_four (fu : Nat) (q : Nat) (x1 : Int32) (S : St) : Option (St × Int32) :=
  bd (fX0_two fu q x1 S) fun S_2 r_2 =>
  bd (fX0_two fu q (x1 + (2 : Int32)) S_2) fun S_12 r_12 =>
  some (S_12, ((r_2 <<< ((16 : Int32) &&& 31)) + r_12))
theorem mvX0_four : MV yX0_four cX0_four 2 (some .int) RX0 1 := ⟨gw3_24, gw3_22, gw3_23, gw1_2, by decide +kernel⟩
def rmX0_four : Room := { frames := 2, cells := 0, slots := 0, locals := 42 }
set_option maxHeartbeats 4000000 in
set_option maxRecDepth 100000 in
theorem m_X0_four (l : Launch) (D : va_G) (cA : FieldType → ClassId) (ad : Nat → Nat) (base : Nat) (fu : Nat) (q : Nat) (hq : isBytes q) {S S' : St} {x1 : Int32} {r : Int32} (hf : fX0_four fu q x1 S = some (S', r)) : Met l yX0_four (GC yX0_four cX0_four 2 (some .int)) rmX0_four (va_Pc [.ref (ad q), .int x1] (wd D cA ad base S)) (QI D cA ad base S' r) 0 0 (aB base) := by
  refine Met.ofW (cc := cX0_four) (maxL := 2) (ret := (some .int)) (by decide) rfl ?_
  intro p e s m args below meth c s₁ B hml hv
  obtain ⟨hargs, hwd⟩ := hv
  have hr := B.returns
  have hlocks := B.notSynchronized
  obtain ⟨C, hw⟩ := CX.of (own := RX0) rfl B hml hwd
  have hx := C.1
  have hb := C.2.1
  have hl := lv_entry ([.ref (ad q), .int x1]) (n := 2) (Nat.le_of_ble_eq_true rfl)
  rw [show entryFrame m args 2 = entryFrame m ([.ref (ad q), .int x1] : List Value).toArray 2 from by rw [hargs], lg_entry_eq]
  generalize (lg_sl ([.ref (ad q), .int x1]) ++ List.replicate (2 - (lg_sl ([.ref (ad q), .int x1])).length) Slot.unset).toArray = ls at hl ⊢
  have hl : lv_has ls 2 [(0, .ref (ad q)), (1, .int x1)] := hl
  show W p l e rmX0_four s m args below meth c s.heap [] 0 0 _ _
  refine lv_aload_n hx hb dX0_four_0 rfl (lv_at hl 0 rfl) ?_
  refine lv_iload_n hx hb dX0_four_1 rfl (lv_at hl 1 rfl) ?_
  obtain ⟨S_2, r_2, h_2, hf⟩ := bd_some hf
  refine r_bi hw (r_runV (rest := []) C hw (m_X0_two l D cA ad base fu q hq h_2) mvX0_two gw3_25 ⟨rfl, rfl, Nat.le_of_ble_eq_true rfl, Nat.le_of_ble_eq_true rfl⟩ hq.1 hq.2.1 vc_0 rfl hl.1 rfl (Nat.le_of_ble_eq_true rfl) dX0_four_2 (Nat.zero_le _) (Nat.zero_le _)) (fun H locs hw => ?_)
  refine lv_bipush (v := (16 : Int32)) hx hb dX0_four_5 (by decide) ?_
  refine lv_ishl hx hb dX0_four_7 ?_
  refine lv_aload_n hx hb dX0_four_8 rfl (lv_at hl 0 rfl) ?_
  refine lv_iload_n hx hb dX0_four_9 rfl (lv_at hl 1 rfl) ?_
  refine lv_iconst (v := (2 : Int32)) hx hb dX0_four_10 (by decide) ?_
  refine lv_iadd hx hb dX0_four_11 ?_
  obtain ⟨S_12, r_12, h_12, hf⟩ := bd_some hf
  refine r_bi hw (r_runV (rest := [.int (r_2 <<< ((16 : Int32) &&& 31))]) C hw (m_X0_two l D cA ad base fu q hq h_12) mvX0_two gw3_25 ⟨rfl, rfl, Nat.le_of_ble_eq_true rfl, Nat.le_of_ble_eq_true rfl⟩ hq.1 hq.2.1 vc_0 rfl hl.1 rfl (Nat.le_of_ble_eq_true rfl) dX0_four_12 (Nat.zero_le _) (Nat.zero_le _)) (fun H locs hw => ?_)
  refine lv_iadd hx hb dX0_four_15 ?_
  exact r_iret C hw hr hlocks hf dX0_four_16
noncomputable def fX0_copy (fu : Nat) (S : St) : Option (St × Int32) :=
  gd (cpOk S 20 (0 : Int32) (0 : Int32) (S.1 19 1) 1000 1000) <|
  sC 20 2 (0 : Int32) (0 : Int32) (S.1 19 1) S fun S_14 =>
  sI 1 1 (S_14.1 19 1) S_14 fun S_22 =>
  gd (isB (S_22.1 19 2)) <|
  sI 1 2 (S_22.1 19 2) S_22 fun S_30 =>
  some (S_30, (0 : Int32))
theorem mvX0_copy : MV yX0_copy cX0_copy 2 none RX0 1 := ⟨gw5_36, gw5_34, gw5_35, gw1_2, by decide +kernel⟩
def rmX0_copy : Room := { frames := 1, cells := 0, slots := 0, locals := 40 }
set_option maxHeartbeats 4000000 in
set_option maxRecDepth 100000 in
theorem m_X0_copy (l : Launch) (D : va_G) (cA : FieldType → ClassId) (ad : Nat → Nat) (base : Nat) (fu : Nat) {S S' : St} {r : Int32} (hf : fX0_copy fu S = some (S', r)) : Met l yX0_copy (GC yX0_copy cX0_copy 2 none) rmX0_copy (va_Pc [.ref (ad 1), .ref (ad 19)] (wd D cA ad base S)) (QV D cA ad base S') 0 0 (aB base) := by
  refine Met.ofW (cc := cX0_copy) (maxL := 2) (ret := none) (by decide) rfl ?_
  intro p e s m args below meth c s₁ B hml hv
  obtain ⟨hargs, hwd⟩ := hv
  have hr := B.returns
  have hlocks := B.notSynchronized
  obtain ⟨C, hw⟩ := CX.of (own := RX0) rfl B hml hwd
  have hx := C.1
  have hb := C.2.1
  have hl := lv_entry ([.ref (ad 1), .ref (ad 19)]) (n := 2) (Nat.le_of_ble_eq_true rfl)
  rw [show entryFrame m args 2 = entryFrame m ([.ref (ad 1), .ref (ad 19)] : List Value).toArray 2 from by rw [hargs], lg_entry_eq]
  generalize (lg_sl ([.ref (ad 1), .ref (ad 19)]) ++ List.replicate (2 - (lg_sl ([.ref (ad 1), .ref (ad 19)])).length) Slot.unset).toArray = ls at hl ⊢
  have hl : lv_has ls 2 [(0, .ref (ad 1)), (1, .ref (ad 19))] := hl
  show W p l e rmX0_copy s m args below meth c s.heap [] 0 0 _ _
  refine lv_aload_n hx hb dX0_copy_0 rfl (lv_at hl 1 rfl) ?_
  refine r_getR C hw (k := 0) (r := 20) dq_19 ln_19 rfl vc_0 inX0 (by decide) rfl gw1_39 dX0_copy_1 ?_
  refine lv_iconst (v := (0 : Int32)) hx hb dX0_copy_4 (by decide) ?_
  refine lv_aload_n hx hb dX0_copy_5 rfl (lv_at hl 0 rfl) ?_
  refine r_getR C hw (k := 0) (r := 2) dq_1 ln_1 rfl vc_0 inX0 (by decide) rfl gw1_39 dX0_copy_6 ?_
  refine lv_iconst (v := (0 : Int32)) hx hb dX0_copy_9 (by decide) ?_
  refine lv_aload_n hx hb dX0_copy_10 rfl (lv_at hl 1 rfl) ?_
  refine r_getI C hw (k := 1) dq_19 ln_19 rfl vc_0 inX0 (by decide) rfl gw1_40 dX0_copy_11 ?_
  obtain ⟨z_14, hf⟩ := gd_some hf
  obtain ⟨S_14, e_14, hf⟩ := sC_some hf
  refine r_copy C hw hl.1 (x0 := 20) (x1 := 2) gw5_37 dq_20 ln_20 dq_2 ln_2 z_14 (Nat.le_of_ble_eq_true rfl) (Nat.le_of_ble_eq_true rfl) dX0_copy_14 e_14 (fun H locs hw => ?_)
  refine lv_aload_n hx hb dX0_copy_17 rfl (lv_at hl 0 rfl) ?_
  refine lv_aload_n hx hb dX0_copy_18 rfl (lv_at hl 1 rfl) ?_
  refine r_getI C hw (k := 1) dq_19 ln_19 rfl vc_0 inX0 (by decide) rfl gw1_40 dX0_copy_19 ?_
  obtain ⟨S_22, e_22, hf⟩ := sI_some hf
  refine r_putI C hw (k := 1) (ty0 := tyX0) dq_1 ln_1 rfl vc_0 inX0 tyX0_ok nmX0 (by decide) rfl rfl gw1_40 rfl rfl dX0_copy_22 e_22 (fun H locs hw => ?_)
  refine lv_aload_n hx hb dX0_copy_25 rfl (lv_at hl 0 rfl) ?_
  refine lv_aload_n hx hb dX0_copy_26 rfl (lv_at hl 1 rfl) ?_
  refine r_getI C hw (k := 2) dq_19 ln_19 rfl vc_0 inX0 (by decide) rfl gw1_41 dX0_copy_27 ?_
  obtain ⟨z_30, hf⟩ := gd_some hf
  obtain ⟨S_30, e_30, hf⟩ := sI_some hf
  refine r_putI C hw (k := 2) (ty0 := tyX0) dq_1 ln_1 rfl vc_0 inX0 tyX0_ok nmX0 (by decide) rfl rfl gw1_41 (isB_nar z_30) (isB_fit z_30) dX0_copy_30 e_30 (fun H locs hw => ?_)
  exact r_vret C hw hr hlocks hf dX0_copy_33
