noncomputable def fX5_size (fu : Nat) (q : Nat) (S : St) : Option (St × Int32) :=
  some (S, (S.1 q 5))
theorem mvX5_size : MV yX5_size cX5_size 1 (some .int) RX5 0 := ⟨gw3_50, gw3_48, gw3_49, gw1_9, by decide +kernel⟩
def rmX5_size : Room := { frames := 0, cells := 0, slots := 0, locals := 0 }
set_option maxHeartbeats 4000000 in
set_option maxRecDepth 100000 in
theorem m_X5_size (l : Launch) (D : va_G) (cA : FieldType → ClassId) (ad : Nat → Nat) (base : Nat) (fu : Nat) (q : Nat) (hq : isRows q) {S S' : St} {r : Int32} (hf : fX5_size fu q S = some (S', r)) : Met l yX5_size (GC yX5_size cX5_size 1 (some .int)) rmX5_size (va_Pc [.ref (ad q)] (wd D cA ad base S)) (QI D cA ad base S' r) 0 0 (aB base) := by
  refine Met.ofW (cc := cX5_size) (maxL := 1) (ret := (some .int)) (by decide) rfl ?_
  intro p e s m args below meth c s₁ B hml hv
  obtain ⟨hargs, hwd⟩ := hv
  have hr := B.returns
  have hlocks := B.notSynchronized
  obtain ⟨C, hw⟩ := CX.of (own := RX5) rfl B hml hwd
  have hx := C.1
  have hb := C.2.1
  have hl := lv_entry ([.ref (ad q)]) (n := 1) (Nat.le_of_ble_eq_true rfl)
  rw [show entryFrame m args 1 = entryFrame m ([.ref (ad q)] : List Value).toArray 1 from by rw [hargs], lg_entry_eq]
  generalize (lg_sl ([.ref (ad q)]) ++ List.replicate (1 - (lg_sl ([.ref (ad q)])).length) Slot.unset).toArray = ls at hl ⊢
  have hl : lv_has ls 1 [(0, .ref (ad q))] := hl
  show W p l e rmX5_size s m args below meth c s.heap [] 0 0 _ _
  refine lv_aload_n hx hb dX5_size_0 rfl (lv_at hl 0 rfl) ?_
  refine r_getI C hw (k := 5) hq.1 hq.2.1 rfl vc_5 inX5 (by decide) rfl gw1_186 dX5_size_1 ?_
  exact r_iret C hw hr hlocks hf dX5_size_4
noncomputable def fX5_has (fu : Nat) (q : Nat) (x1 : Int32) (S : St) : Option (St × Int32) :=
  if x1 < 0 then
    some (S, (0 : Int32))
  else
    if (S.1 q 5) ≤ x1 then
      some (S, (0 : Int32))
    else
      some (S, (1 : Int32))
theorem mvX5_has : MV yX5_has cX5_has 2 (some .boolean) RX5 1 := ⟨gw5_50, gw5_48, gw5_49, gw1_9, by decide +kernel⟩
def rmX5_has : Room := { frames := 0, cells := 0, slots := 0, locals := 0 }
set_option maxHeartbeats 4000000 in
set_option maxRecDepth 100000 in
theorem m_X5_has (l : Launch) (D : va_G) (cA : FieldType → ClassId) (ad : Nat → Nat) (base : Nat) (fu : Nat) (q : Nat) (hq : isRows q) {S S' : St} {x1 : Int32} {r : Int32} (hf : fX5_has fu q x1 S = some (S', r)) : Met l yX5_has (GC yX5_has cX5_has 2 (some .boolean)) rmX5_has (va_Pc [.ref (ad q), .int x1] (wd D cA ad base S)) (QI D cA ad base S' r) 0 0 (aB base) := by
  refine Met.ofW (cc := cX5_has) (maxL := 2) (ret := (some .boolean)) (by decide) rfl ?_
  intro p e s m args below meth c s₁ B hml hv
  obtain ⟨hargs, hwd⟩ := hv
  have hr := B.returns
  have hlocks := B.notSynchronized
  obtain ⟨C, hw⟩ := CX.of (own := RX5) rfl B hml hwd
  have hx := C.1
  have hb := C.2.1
  have hl := lv_entry ([.ref (ad q), .int x1]) (n := 2) (Nat.le_of_ble_eq_true rfl)
  rw [show entryFrame m args 2 = entryFrame m ([.ref (ad q), .int x1] : List Value).toArray 2 from by rw [hargs], lg_entry_eq]
  generalize (lg_sl ([.ref (ad q), .int x1]) ++ List.replicate (2 - (lg_sl ([.ref (ad q), .int x1])).length) Slot.unset).toArray = ls at hl ⊢
  have hl : lv_has ls 2 [(0, .ref (ad q)), (1, .int x1)] := hl
  show W p l e rmX5_has s m args below meth c s.heap [] 0 0 _ _
  refine lv_iload_n hx hb dX5_has_0 rfl (lv_at hl 1 rfl) ?_
  refine lv_if_lt (tgt := 16) hx hb dX5_has_1 (by decide) (fun c_1 => ?_) (fun c_1 => ?_)
  · have hf := if_t hf c_1
    refine lv_iconst (v := (0 : Int32)) hx hb dX5_has_16 (by decide) ?_
    exact r_zret C hw hr hlocks rfl hf dX5_has_17
  · have hf := if_f hf c_1
    refine lv_iload_n hx hb dX5_has_4 rfl (lv_at hl 1 rfl) ?_
    refine lv_aload_n hx hb dX5_has_5 rfl (lv_at hl 0 rfl) ?_
    refine r_getI C hw (k := 5) hq.1 hq.2.1 rfl vc_5 inX5 (by decide) rfl gw1_186 dX5_has_6 ?_
    refine lv_icmp_ge (tgt := 16) hx hb dX5_has_9 (by decide) (fun c_9 => ?_) (fun c_9 => ?_)
    · have hf := if_t hf c_9
      refine lv_iconst (v := (0 : Int32)) hx hb dX5_has_16 (by decide) ?_
      exact r_zret C hw hr hlocks rfl hf dX5_has_17
    · have hf := if_f hf c_9
      refine lv_iconst (v := (1 : Int32)) hx hb dX5_has_12 (by decide) ?_
      refine lv_goto (tgt := 17) hx hb dX5_has_13 (by decide) ?_
      exact r_zret C hw hr hlocks rfl hf dX5_has_17
noncomputable def fX5_section (fu : Nat) (q : Nat) (x1 : Int32) (S : St) : Option (St × Int32) :=
  bd (fX5_has fu q x1 S) fun S_2 r_2 =>
  if r_2 = 0 then
    some (S_2, (-1 : Int32))
  else
    gd (ck x1 90) <|
    some (S_2, (S_2.1 (q + 1) (x1).toNatClampNeg))
theorem mvX5_section : MV yX5_section cX5_section 2 (some .int) RX5 1 := ⟨gw5_55, gw5_53, gw5_54, gw1_9, by decide +kernel⟩
def rmX5_section : Room := { frames := 1, cells := 0, slots := 0, locals := 21 }
set_option maxHeartbeats 4000000 in
set_option maxRecDepth 100000 in
theorem m_X5_section (l : Launch) (D : va_G) (cA : FieldType → ClassId) (ad : Nat → Nat) (base : Nat) (fu : Nat) (q : Nat) (hq : isRows q) {S S' : St} {x1 : Int32} {r : Int32} (hf : fX5_section fu q x1 S = some (S', r)) : Met l yX5_section (GC yX5_section cX5_section 2 (some .int)) rmX5_section (va_Pc [.ref (ad q), .int x1] (wd D cA ad base S)) (QI D cA ad base S' r) 0 0 (aB base) := by
  refine Met.ofW (cc := cX5_section) (maxL := 2) (ret := (some .int)) (by decide) rfl ?_
  intro p e s m args below meth c s₁ B hml hv
  obtain ⟨hargs, hwd⟩ := hv
  have hr := B.returns
  have hlocks := B.notSynchronized
  obtain ⟨C, hw⟩ := CX.of (own := RX5) rfl B hml hwd
  have hx := C.1
  have hb := C.2.1
  have hl := lv_entry ([.ref (ad q), .int x1]) (n := 2) (Nat.le_of_ble_eq_true rfl)
  rw [show entryFrame m args 2 = entryFrame m ([.ref (ad q), .int x1] : List Value).toArray 2 from by rw [hargs], lg_entry_eq]
  generalize (lg_sl ([.ref (ad q), .int x1]) ++ List.replicate (2 - (lg_sl ([.ref (ad q), .int x1])).length) Slot.unset).toArray = ls at hl ⊢
  have hl : lv_has ls 2 [(0, .ref (ad q)), (1, .int x1)] := hl
  show W p l e rmX5_section s m args below meth c s.heap [] 0 0 _ _
  refine lv_aload_n hx hb dX5_section_0 rfl (lv_at hl 0 rfl) ?_
  refine lv_iload_n hx hb dX5_section_1 rfl (lv_at hl 1 rfl) ?_
  obtain ⟨S_2, r_2, h_2, hf⟩ := bd_some hf
  refine r_bi hw (r_runV (rest := []) C hw (m_X5_has l D cA ad base fu q hq h_2) mvX5_has gw5_56 ⟨rfl, rfl, Nat.le_of_ble_eq_true rfl, Nat.le_of_ble_eq_true rfl⟩ hq.1 hq.2.1 vc_5 rfl hl.1 rfl (Nat.le_of_ble_eq_true rfl) dX5_section_2 (Nat.zero_le _) (Nat.zero_le _)) (fun H locs hw => ?_)
  refine lv_if_eq (tgt := 17) hx hb dX5_section_5 (by decide) (fun c_5 => ?_) (fun c_5 => ?_)
  · have hf := if_t hf c_5
    refine lv_iconst (v := (-1 : Int32)) hx hb dX5_section_17 (by decide) ?_
    exact r_iret C hw hr hlocks hf dX5_section_18
  · have hf := if_f hf c_5
    refine lv_aload_n hx hb dX5_section_8 rfl (lv_at hl 0 rfl) ?_
    refine r_getR C hw (k := 0) (r := (q + 1)) hq.1 hq.2.1 rfl vc_5 inX5 (by decide) rfl gw1_181 dX5_section_9 ?_
    refine lv_iload_n hx hb dX5_section_12 rfl (lv_at hl 1 rfl) ?_
    obtain ⟨z_13, hf⟩ := gd_some hf
    refine r_iald C hw (x := (q + 1)) hq.2.2.1 hq.2.2.2.1 z_13 dX5_section_13 ?_
    refine lv_goto (tgt := 18) hx hb dX5_section_14 (by decide) ?_
    exact r_iret C hw hr hlocks hf dX5_section_18
noncomputable def fX5_owner (fu : Nat) (q : Nat) (x1 : Int32) (S : St) : Option (St × Int32) :=
  bd (fX5_has fu q x1 S) fun S_2 r_2 =>
  if r_2 = 0 then
    some (S_2, (-1 : Int32))
  else
    gd (ck x1 90) <|
    some (S_2, (S_2.1 (q + 2) (x1).toNatClampNeg))
theorem mvX5_owner : MV yX5_owner cX5_owner 2 (some .int) RX5 1 := ⟨gw5_60, gw5_58, gw5_59, gw1_9, by decide +kernel⟩
def rmX5_owner : Room := { frames := 1, cells := 0, slots := 0, locals := 21 }
set_option maxHeartbeats 4000000 in
set_option maxRecDepth 100000 in
theorem m_X5_owner (l : Launch) (D : va_G) (cA : FieldType → ClassId) (ad : Nat → Nat) (base : Nat) (fu : Nat) (q : Nat) (hq : isRows q) {S S' : St} {x1 : Int32} {r : Int32} (hf : fX5_owner fu q x1 S = some (S', r)) : Met l yX5_owner (GC yX5_owner cX5_owner 2 (some .int)) rmX5_owner (va_Pc [.ref (ad q), .int x1] (wd D cA ad base S)) (QI D cA ad base S' r) 0 0 (aB base) := by
  refine Met.ofW (cc := cX5_owner) (maxL := 2) (ret := (some .int)) (by decide) rfl ?_
  intro p e s m args below meth c s₁ B hml hv
  obtain ⟨hargs, hwd⟩ := hv
  have hr := B.returns
  have hlocks := B.notSynchronized
  obtain ⟨C, hw⟩ := CX.of (own := RX5) rfl B hml hwd
  have hx := C.1
  have hb := C.2.1
  have hl := lv_entry ([.ref (ad q), .int x1]) (n := 2) (Nat.le_of_ble_eq_true rfl)
  rw [show entryFrame m args 2 = entryFrame m ([.ref (ad q), .int x1] : List Value).toArray 2 from by rw [hargs], lg_entry_eq]
  generalize (lg_sl ([.ref (ad q), .int x1]) ++ List.replicate (2 - (lg_sl ([.ref (ad q), .int x1])).length) Slot.unset).toArray = ls at hl ⊢
  have hl : lv_has ls 2 [(0, .ref (ad q)), (1, .int x1)] := hl
  show W p l e rmX5_owner s m args below meth c s.heap [] 0 0 _ _
  refine lv_aload_n hx hb dX5_owner_0 rfl (lv_at hl 0 rfl) ?_
  refine lv_iload_n hx hb dX5_owner_1 rfl (lv_at hl 1 rfl) ?_
  obtain ⟨S_2, r_2, h_2, hf⟩ := bd_some hf
  refine r_bi hw (r_runV (rest := []) C hw (m_X5_has l D cA ad base fu q hq h_2) mvX5_has gw5_56 ⟨rfl, rfl, Nat.le_of_ble_eq_true rfl, Nat.le_of_ble_eq_true rfl⟩ hq.1 hq.2.1 vc_5 rfl hl.1 rfl (Nat.le_of_ble_eq_true rfl) dX5_owner_2 (Nat.zero_le _) (Nat.zero_le _)) (fun H locs hw => ?_)
  refine lv_if_eq (tgt := 17) hx hb dX5_owner_5 (by decide) (fun c_5 => ?_) (fun c_5 => ?_)
  · have hf := if_t hf c_5
    refine lv_iconst (v := (-1 : Int32)) hx hb dX5_owner_17 (by decide) ?_
    exact r_iret C hw hr hlocks hf dX5_owner_18
  · have hf := if_f hf c_5
    refine lv_aload_n hx hb dX5_owner_8 rfl (lv_at hl 0 rfl) ?_
    refine r_getR C hw (k := 1) (r := (q + 2)) hq.1 hq.2.1 rfl vc_5 inX5 (by decide) rfl gw1_182 dX5_owner_9 ?_
    refine lv_iload_n hx hb dX5_owner_12 rfl (lv_at hl 1 rfl) ?_
    obtain ⟨z_13, hf⟩ := gd_some hf
    refine r_iald C hw (x := (q + 2)) hq.2.2.2.2.1 hq.2.2.2.2.2.1 z_13 dX5_owner_13 ?_
    refine lv_goto (tgt := 18) hx hb dX5_owner_14 (by decide) ?_
    exact r_iret C hw hr hlocks hf dX5_owner_18
noncomputable def fX5_type (fu : Nat) (q : Nat) (x1 : Int32) (S : St) : Option (St × Int32) :=
  bd (fX5_has fu q x1 S) fun S_2 r_2 =>
  if r_2 = 0 then
    some (S_2, (-1 : Int32))
  else
    gd (ck x1 90) <|
    some (S_2, (S_2.1 (q + 3) (x1).toNatClampNeg))
theorem mvX5_type : MV yX5_type cX5_type 2 (some .int) RX5 1 := ⟨gw5_64, gw5_62, gw5_63, gw1_9, by decide +kernel⟩
def rmX5_type : Room := { frames := 1, cells := 0, slots := 0, locals := 21 }
set_option maxHeartbeats 4000000 in
set_option maxRecDepth 100000 in
theorem m_X5_type (l : Launch) (D : va_G) (cA : FieldType → ClassId) (ad : Nat → Nat) (base : Nat) (fu : Nat) (q : Nat) (hq : isRows q) {S S' : St} {x1 : Int32} {r : Int32} (hf : fX5_type fu q x1 S = some (S', r)) : Met l yX5_type (GC yX5_type cX5_type 2 (some .int)) rmX5_type (va_Pc [.ref (ad q), .int x1] (wd D cA ad base S)) (QI D cA ad base S' r) 0 0 (aB base) := by
  refine Met.ofW (cc := cX5_type) (maxL := 2) (ret := (some .int)) (by decide) rfl ?_
  intro p e s m args below meth c s₁ B hml hv
  obtain ⟨hargs, hwd⟩ := hv
  have hr := B.returns
  have hlocks := B.notSynchronized
  obtain ⟨C, hw⟩ := CX.of (own := RX5) rfl B hml hwd
  have hx := C.1
  have hb := C.2.1
  have hl := lv_entry ([.ref (ad q), .int x1]) (n := 2) (Nat.le_of_ble_eq_true rfl)
  rw [show entryFrame m args 2 = entryFrame m ([.ref (ad q), .int x1] : List Value).toArray 2 from by rw [hargs], lg_entry_eq]
  generalize (lg_sl ([.ref (ad q), .int x1]) ++ List.replicate (2 - (lg_sl ([.ref (ad q), .int x1])).length) Slot.unset).toArray = ls at hl ⊢
  have hl : lv_has ls 2 [(0, .ref (ad q)), (1, .int x1)] := hl
  show W p l e rmX5_type s m args below meth c s.heap [] 0 0 _ _
  refine lv_aload_n hx hb dX5_type_0 rfl (lv_at hl 0 rfl) ?_
  refine lv_iload_n hx hb dX5_type_1 rfl (lv_at hl 1 rfl) ?_
  obtain ⟨S_2, r_2, h_2, hf⟩ := bd_some hf
  refine r_bi hw (r_runV (rest := []) C hw (m_X5_has l D cA ad base fu q hq h_2) mvX5_has gw5_56 ⟨rfl, rfl, Nat.le_of_ble_eq_true rfl, Nat.le_of_ble_eq_true rfl⟩ hq.1 hq.2.1 vc_5 rfl hl.1 rfl (Nat.le_of_ble_eq_true rfl) dX5_type_2 (Nat.zero_le _) (Nat.zero_le _)) (fun H locs hw => ?_)
  refine lv_if_eq (tgt := 17) hx hb dX5_type_5 (by decide) (fun c_5 => ?_) (fun c_5 => ?_)
  · have hf := if_t hf c_5
    refine lv_iconst (v := (-1 : Int32)) hx hb dX5_type_17 (by decide) ?_
    exact r_iret C hw hr hlocks hf dX5_type_18
  · have hf := if_f hf c_5
    refine lv_aload_n hx hb dX5_type_8 rfl (lv_at hl 0 rfl) ?_
    refine r_getR C hw (k := 2) (r := (q + 3)) hq.1 hq.2.1 rfl vc_5 inX5 (by decide) rfl gw1_183 dX5_type_9 ?_
    refine lv_iload_n hx hb dX5_type_12 rfl (lv_at hl 1 rfl) ?_
    obtain ⟨z_13, hf⟩ := gd_some hf
    refine r_iald C hw (x := (q + 3)) hq.2.2.2.2.2.2.1 hq.2.2.2.2.2.2.2.1 z_13 dX5_type_13 ?_
    refine lv_goto (tgt := 18) hx hb dX5_type_14 (by decide) ?_
    exact r_iret C hw hr hlocks hf dX5_type_18
noncomputable def fX5_value (fu : Nat) (q : Nat) (x1 : Int32) (S : St) : Option (St × Int32) :=
  bd (fX5_has fu q x1 S) fun S_2 r_2 =>
  if r_2 = 0 then
    some (S_2, (0 : Int32))
  else
    gd (ck x1 90) <|
    some (S_2, (S_2.1 (q + 4) (x1).toNatClampNeg))
theorem mvX5_value : MV yX5_value cX5_value 2 (some .int) RX5 1 := ⟨gw5_68, gw5_66, gw5_67, gw1_9, by decide +kernel⟩
def rmX5_value : Room := { frames := 1, cells := 0, slots := 0, locals := 21 }
set_option maxHeartbeats 4000000 in
set_option maxRecDepth 100000 in
theorem m_X5_value (l : Launch) (D : va_G) (cA : FieldType → ClassId) (ad : Nat → Nat) (base : Nat) (fu : Nat) (q : Nat) (hq : isRows q) {S S' : St} {x1 : Int32} {r : Int32} (hf : fX5_value fu q x1 S = some (S', r)) : Met l yX5_value (GC yX5_value cX5_value 2 (some .int)) rmX5_value (va_Pc [.ref (ad q), .int x1] (wd D cA ad base S)) (QI D cA ad base S' r) 0 0 (aB base) := by
  refine Met.ofW (cc := cX5_value) (maxL := 2) (ret := (some .int)) (by decide) rfl ?_
  intro p e s m args below meth c s₁ B hml hv
  obtain ⟨hargs, hwd⟩ := hv
  have hr := B.returns
  have hlocks := B.notSynchronized
  obtain ⟨C, hw⟩ := CX.of (own := RX5) rfl B hml hwd
  have hx := C.1
  have hb := C.2.1
  have hl := lv_entry ([.ref (ad q), .int x1]) (n := 2) (Nat.le_of_ble_eq_true rfl)
  rw [show entryFrame m args 2 = entryFrame m ([.ref (ad q), .int x1] : List Value).toArray 2 from by rw [hargs], lg_entry_eq]
  generalize (lg_sl ([.ref (ad q), .int x1]) ++ List.replicate (2 - (lg_sl ([.ref (ad q), .int x1])).length) Slot.unset).toArray = ls at hl ⊢
  have hl : lv_has ls 2 [(0, .ref (ad q)), (1, .int x1)] := hl
  show W p l e rmX5_value s m args below meth c s.heap [] 0 0 _ _
  refine lv_aload_n hx hb dX5_value_0 rfl (lv_at hl 0 rfl) ?_
  refine lv_iload_n hx hb dX5_value_1 rfl (lv_at hl 1 rfl) ?_
  obtain ⟨S_2, r_2, h_2, hf⟩ := bd_some hf
  refine r_bi hw (r_runV (rest := []) C hw (m_X5_has l D cA ad base fu q hq h_2) mvX5_has gw5_56 ⟨rfl, rfl, Nat.le_of_ble_eq_true rfl, Nat.le_of_ble_eq_true rfl⟩ hq.1 hq.2.1 vc_5 rfl hl.1 rfl (Nat.le_of_ble_eq_true rfl) dX5_value_2 (Nat.zero_le _) (Nat.zero_le _)) (fun H locs hw => ?_)
  refine lv_if_eq (tgt := 17) hx hb dX5_value_5 (by decide) (fun c_5 => ?_) (fun c_5 => ?_)
  · have hf := if_t hf c_5
    refine lv_iconst (v := (0 : Int32)) hx hb dX5_value_17 (by decide) ?_
    exact r_iret C hw hr hlocks hf dX5_value_18
  · have hf := if_f hf c_5
    refine lv_aload_n hx hb dX5_value_8 rfl (lv_at hl 0 rfl) ?_
    refine r_getR C hw (k := 3) (r := (q + 4)) hq.1 hq.2.1 rfl vc_5 inX5 (by decide) rfl gw1_184 dX5_value_9 ?_
    refine lv_iload_n hx hb dX5_value_12 rfl (lv_at hl 1 rfl) ?_
    obtain ⟨z_13, hf⟩ := gd_some hf
    refine r_iald C hw (x := (q + 4)) hq.2.2.2.2.2.2.2.2.1 hq.2.2.2.2.2.2.2.2.2.1 z_13 dX5_value_13 ?_
    refine lv_goto (tgt := 18) hx hb dX5_value_14 (by decide) ?_
    exact r_iret C hw hr hlocks hf dX5_value_18
noncomputable def fX5_life (fu : Nat) (q : Nat) (x1 : Int32) (S : St) : Option (St × Int32) :=
  bd (fX5_has fu q x1 S) fun S_2 r_2 =>
  if r_2 = 0 then
    some (S_2, (0 : Int32))
  else
    gd (ck x1 90) <|
    some (S_2, (S_2.1 (q + 5) (x1).toNatClampNeg))
theorem mvX5_life : MV yX5_life cX5_life 2 (some .int) RX5 1 := ⟨gw5_72, gw5_70, gw5_71, gw1_9, by decide +kernel⟩
def rmX5_life : Room := { frames := 1, cells := 0, slots := 0, locals := 21 }
set_option maxHeartbeats 4000000 in
set_option maxRecDepth 100000 in
theorem m_X5_life (l : Launch) (D : va_G) (cA : FieldType → ClassId) (ad : Nat → Nat) (base : Nat) (fu : Nat) (q : Nat) (hq : isRows q) {S S' : St} {x1 : Int32} {r : Int32} (hf : fX5_life fu q x1 S = some (S', r)) : Met l yX5_life (GC yX5_life cX5_life 2 (some .int)) rmX5_life (va_Pc [.ref (ad q), .int x1] (wd D cA ad base S)) (QI D cA ad base S' r) 0 0 (aB base) := by
  refine Met.ofW (cc := cX5_life) (maxL := 2) (ret := (some .int)) (by decide) rfl ?_
  intro p e s m args below meth c s₁ B hml hv
  obtain ⟨hargs, hwd⟩ := hv
  have hr := B.returns
  have hlocks := B.notSynchronized
  obtain ⟨C, hw⟩ := CX.of (own := RX5) rfl B hml hwd
  have hx := C.1
  have hb := C.2.1
  have hl := lv_entry ([.ref (ad q), .int x1]) (n := 2) (Nat.le_of_ble_eq_true rfl)
  rw [show entryFrame m args 2 = entryFrame m ([.ref (ad q), .int x1] : List Value).toArray 2 from by rw [hargs], lg_entry_eq]
  generalize (lg_sl ([.ref (ad q), .int x1]) ++ List.replicate (2 - (lg_sl ([.ref (ad q), .int x1])).length) Slot.unset).toArray = ls at hl ⊢
  have hl : lv_has ls 2 [(0, .ref (ad q)), (1, .int x1)] := hl
  show W p l e rmX5_life s m args below meth c s.heap [] 0 0 _ _
  refine lv_aload_n hx hb dX5_life_0 rfl (lv_at hl 0 rfl) ?_
  refine lv_iload_n hx hb dX5_life_1 rfl (lv_at hl 1 rfl) ?_
  obtain ⟨S_2, r_2, h_2, hf⟩ := bd_some hf
  refine r_bi hw (r_runV (rest := []) C hw (m_X5_has l D cA ad base fu q hq h_2) mvX5_has gw5_56 ⟨rfl, rfl, Nat.le_of_ble_eq_true rfl, Nat.le_of_ble_eq_true rfl⟩ hq.1 hq.2.1 vc_5 rfl hl.1 rfl (Nat.le_of_ble_eq_true rfl) dX5_life_2 (Nat.zero_le _) (Nat.zero_le _)) (fun H locs hw => ?_)
  refine lv_if_eq (tgt := 17) hx hb dX5_life_5 (by decide) (fun c_5 => ?_) (fun c_5 => ?_)
  · have hf := if_t hf c_5
    refine lv_iconst (v := (0 : Int32)) hx hb dX5_life_17 (by decide) ?_
    exact r_iret C hw hr hlocks hf dX5_life_18
  · have hf := if_f hf c_5
    refine lv_aload_n hx hb dX5_life_8 rfl (lv_at hl 0 rfl) ?_
    refine r_getR C hw (k := 4) (r := (q + 5)) hq.1 hq.2.1 rfl vc_5 inX5 (by decide) rfl gw1_185 dX5_life_9 ?_
    refine lv_iload_n hx hb dX5_life_12 rfl (lv_at hl 1 rfl) ?_
    obtain ⟨z_13, hf⟩ := gd_some hf
    refine r_iald C hw (x := (q + 5)) hq.2.2.2.2.2.2.2.2.2.2.1 hq.2.2.2.2.2.2.2.2.2.2.2 z_13 dX5_life_13 ?_
    refine lv_goto (tgt := 18) hx hb dX5_life_14 (by decide) ?_
    exact r_iret C hw hr hlocks hf dX5_life_18
noncomputable def fX5_clear (fu : Nat) (q : Nat) (S : St) : Option (St × Int32) :=
  sI q 5 (0 : Int32) S fun S_2 =>
  some (S_2, (0 : Int32))
theorem mvX5_clear : MV yX5_clear cX5_clear 1 none RX5 0 := ⟨gw2_187, gw2_185, gw2_186, gw1_9, by decide +kernel⟩
def rmX5_clear : Room := { frames := 0, cells := 0, slots := 0, locals := 0 }
set_option maxHeartbeats 4000000 in
set_option maxRecDepth 100000 in
theorem m_X5_clear (l : Launch) (D : va_G) (cA : FieldType → ClassId) (ad : Nat → Nat) (base : Nat) (fu : Nat) (q : Nat) (hq : isRows q) {S S' : St} {r : Int32} (hf : fX5_clear fu q S = some (S', r)) : Met l yX5_clear (GC yX5_clear cX5_clear 1 none) rmX5_clear (va_Pc [.ref (ad q)] (wd D cA ad base S)) (QV D cA ad base S') 0 0 (aB base) := by
  refine Met.ofW (cc := cX5_clear) (maxL := 1) (ret := none) (by decide) rfl ?_
  intro p e s m args below meth c s₁ B hml hv
  obtain ⟨hargs, hwd⟩ := hv
  have hr := B.returns
  have hlocks := B.notSynchronized
  obtain ⟨C, hw⟩ := CX.of (own := RX5) rfl B hml hwd
  have hx := C.1
  have hb := C.2.1
  have hl := lv_entry ([.ref (ad q)]) (n := 1) (Nat.le_of_ble_eq_true rfl)
  rw [show entryFrame m args 1 = entryFrame m ([.ref (ad q)] : List Value).toArray 1 from by rw [hargs], lg_entry_eq]
  generalize (lg_sl ([.ref (ad q)]) ++ List.replicate (1 - (lg_sl ([.ref (ad q)])).length) Slot.unset).toArray = ls at hl ⊢
  have hl : lv_has ls 1 [(0, .ref (ad q))] := hl
  show W p l e rmX5_clear s m args below meth c s.heap [] 0 0 _ _
  refine lv_aload_n hx hb dX5_clear_0 rfl (lv_at hl 0 rfl) ?_
  refine lv_iconst (v := (0 : Int32)) hx hb dX5_clear_1 (by decide) ?_
  obtain ⟨S_2, e_2, hf⟩ := sI_some hf
  refine r_putI C hw (k := 5) (ty0 := tyX5) hq.1 hq.2.1 rfl vc_5 inX5 tyX5_ok nmX5 (by decide) rfl rfl gw1_186 rfl rfl dX5_clear_2 e_2 (fun H locs hw => ?_)
  exact r_vret C hw hr hlocks hf dX5_clear_5
noncomputable def fX5_add (fu : Nat) (q : Nat) (x1 : Int32) (x2 : Int32) (x3 : Int32) (x4 : Int32) (x5 : Int32) (S : St) : Option (St × Int32) :=
  if (S.1 q 5) < (90 : Int32) then
    gd (ck (S.1 q 5) 90) <|
    sI (q + 1) ((S.1 q 5)).toNatClampNeg x1 S fun S_19 =>
    gd (ck (S_19.1 q 5) 90) <|
    sI (q + 2) ((S_19.1 q 5)).toNatClampNeg x2 S_19 fun S_29 =>
    gd (ck (S_29.1 q 5) 90) <|
    sI (q + 3) ((S_29.1 q 5)).toNatClampNeg x3 S_29 fun S_39 =>
    gd (ck (S_39.1 q 5) 90) <|
    sI (q + 4) ((S_39.1 q 5)).toNatClampNeg x4 S_39 fun S_50 =>
    gd (ck (S_50.1 q 5) 90) <|
    sI (q + 5) ((S_50.1 q 5)).toNatClampNeg x5 S_50 fun S_61 =>
    sI q 5 ((S_61.1 q 5) + (1 : Int32)) S_61 fun S_69 =>
    some (S_69, (0 : Int32))
  else
    some (S, (0 : Int32))
theorem mvX5_add : MV yX5_add cX5_add 6 none RX5 5 := ⟨gw3_32, gw3_30, gw3_31, gw1_9, by decide +kernel⟩
def rmX5_add : Room := { frames := 0, cells := 0, slots := 0, locals := 0 }
set_option maxHeartbeats 4000000 in
set_option maxRecDepth 100000 in
theorem m_X5_add (l : Launch) (D : va_G) (cA : FieldType → ClassId) (ad : Nat → Nat) (base : Nat) (fu : Nat) (q : Nat) (hq : isRows q) {S S' : St} {x1 : Int32} {x2 : Int32} {x3 : Int32} {x4 : Int32} {x5 : Int32} {r : Int32} (hf : fX5_add fu q x1 x2 x3 x4 x5 S = some (S', r)) : Met l yX5_add (GC yX5_add cX5_add 6 none) rmX5_add (va_Pc [.ref (ad q), .int x1, .int x2, .int x3, .int x4, .int x5] (wd D cA ad base S)) (QV D cA ad base S') 0 0 (aB base) := by
  refine Met.ofW (cc := cX5_add) (maxL := 6) (ret := none) (by decide) rfl ?_
  intro p e s m args below meth c s₁ B hml hv
  obtain ⟨hargs, hwd⟩ := hv
  have hr := B.returns
  have hlocks := B.notSynchronized
  obtain ⟨C, hw⟩ := CX.of (own := RX5) rfl B hml hwd
  have hx := C.1
  have hb := C.2.1
  have hl := lv_entry ([.ref (ad q), .int x1, .int x2, .int x3, .int x4, .int x5]) (n := 6) (Nat.le_of_ble_eq_true rfl)
  rw [show entryFrame m args 6 = entryFrame m ([.ref (ad q), .int x1, .int x2, .int x3, .int x4, .int x5] : List Value).toArray 6 from by rw [hargs], lg_entry_eq]
  generalize (lg_sl ([.ref (ad q), .int x1, .int x2, .int x3, .int x4, .int x5]) ++ List.replicate (6 - (lg_sl ([.ref (ad q), .int x1, .int x2, .int x3, .int x4, .int x5])).length) Slot.unset).toArray = ls at hl ⊢
  have hl : lv_has ls 6 [(0, .ref (ad q)), (1, .int x1), (2, .int x2), (3, .int x3), (4, .int x4), (5, .int x5)] := hl
  show W p l e rmX5_add s m args below meth c s.heap [] 0 0 _ _
  refine lv_aload_n hx hb dX5_add_0 rfl (lv_at hl 0 rfl) ?_
  refine r_getI C hw (k := 5) hq.1 hq.2.1 rfl vc_5 inX5 (by decide) rfl gw1_186 dX5_add_1 ?_
  refine lv_bipush (v := (90 : Int32)) hx hb dX5_add_4 (by decide) ?_
  refine lv_icmp_lt (tgt := 10) hx hb dX5_add_6 (by decide) (fun c_6 => ?_) (fun c_6 => ?_)
  · have hf := if_t hf c_6
    refine lv_aload_n hx hb dX5_add_10 rfl (lv_at hl 0 rfl) ?_
    refine r_getR C hw (k := 0) (r := (q + 1)) hq.1 hq.2.1 rfl vc_5 inX5 (by decide) rfl gw1_181 dX5_add_11 ?_
    refine lv_aload_n hx hb dX5_add_14 rfl (lv_at hl 0 rfl) ?_
    refine r_getI C hw (k := 5) hq.1 hq.2.1 rfl vc_5 inX5 (by decide) rfl gw1_186 dX5_add_15 ?_
    refine lv_iload_n hx hb dX5_add_18 rfl (lv_at hl 1 rfl) ?_
    obtain ⟨z_19, hf⟩ := gd_some hf
    obtain ⟨S_19, e_19, hf⟩ := sI_some hf
    refine r_iast C hw (x := (q + 1)) hq.2.2.1 hq.2.2.2.1 z_19 dX5_add_19 e_19 (fun H locs hw => ?_)
    refine lv_aload_n hx hb dX5_add_20 rfl (lv_at hl 0 rfl) ?_
    refine r_getR C hw (k := 1) (r := (q + 2)) hq.1 hq.2.1 rfl vc_5 inX5 (by decide) rfl gw1_182 dX5_add_21 ?_
    refine lv_aload_n hx hb dX5_add_24 rfl (lv_at hl 0 rfl) ?_
    refine r_getI C hw (k := 5) hq.1 hq.2.1 rfl vc_5 inX5 (by decide) rfl gw1_186 dX5_add_25 ?_
    refine lv_iload_n hx hb dX5_add_28 rfl (lv_at hl 2 rfl) ?_
    obtain ⟨z_29, hf⟩ := gd_some hf
    obtain ⟨S_29, e_29, hf⟩ := sI_some hf
    refine r_iast C hw (x := (q + 2)) hq.2.2.2.2.1 hq.2.2.2.2.2.1 z_29 dX5_add_29 e_29 (fun H locs hw => ?_)
    refine lv_aload_n hx hb dX5_add_30 rfl (lv_at hl 0 rfl) ?_
    refine r_getR C hw (k := 2) (r := (q + 3)) hq.1 hq.2.1 rfl vc_5 inX5 (by decide) rfl gw1_183 dX5_add_31 ?_
    refine lv_aload_n hx hb dX5_add_34 rfl (lv_at hl 0 rfl) ?_
    refine r_getI C hw (k := 5) hq.1 hq.2.1 rfl vc_5 inX5 (by decide) rfl gw1_186 dX5_add_35 ?_
    refine lv_iload_n hx hb dX5_add_38 rfl (lv_at hl 3 rfl) ?_
    obtain ⟨z_39, hf⟩ := gd_some hf
    obtain ⟨S_39, e_39, hf⟩ := sI_some hf
    refine r_iast C hw (x := (q + 3)) hq.2.2.2.2.2.2.1 hq.2.2.2.2.2.2.2.1 z_39 dX5_add_39 e_39 (fun H locs hw => ?_)
    refine lv_aload_n hx hb dX5_add_40 rfl (lv_at hl 0 rfl) ?_
    refine r_getR C hw (k := 3) (r := (q + 4)) hq.1 hq.2.1 rfl vc_5 inX5 (by decide) rfl gw1_184 dX5_add_41 ?_
    refine lv_aload_n hx hb dX5_add_44 rfl (lv_at hl 0 rfl) ?_
    refine r_getI C hw (k := 5) hq.1 hq.2.1 rfl vc_5 inX5 (by decide) rfl gw1_186 dX5_add_45 ?_
    refine lv_iload hx hb dX5_add_48 (lv_at hl 4 rfl) ?_
    obtain ⟨z_50, hf⟩ := gd_some hf
    obtain ⟨S_50, e_50, hf⟩ := sI_some hf
    refine r_iast C hw (x := (q + 4)) hq.2.2.2.2.2.2.2.2.1 hq.2.2.2.2.2.2.2.2.2.1 z_50 dX5_add_50 e_50 (fun H locs hw => ?_)
    refine lv_aload_n hx hb dX5_add_51 rfl (lv_at hl 0 rfl) ?_
    refine r_getR C hw (k := 4) (r := (q + 5)) hq.1 hq.2.1 rfl vc_5 inX5 (by decide) rfl gw1_185 dX5_add_52 ?_
    refine lv_aload_n hx hb dX5_add_55 rfl (lv_at hl 0 rfl) ?_
    refine r_getI C hw (k := 5) hq.1 hq.2.1 rfl vc_5 inX5 (by decide) rfl gw1_186 dX5_add_56 ?_
    refine lv_iload hx hb dX5_add_59 (lv_at hl 5 rfl) ?_
    obtain ⟨z_61, hf⟩ := gd_some hf
    obtain ⟨S_61, e_61, hf⟩ := sI_some hf
    refine r_iast C hw (x := (q + 5)) hq.2.2.2.2.2.2.2.2.2.2.1 hq.2.2.2.2.2.2.2.2.2.2.2 z_61 dX5_add_61 e_61 (fun H locs hw => ?_)
    refine lv_aload_n hx hb dX5_add_62 rfl (lv_at hl 0 rfl) ?_
    refine lv_dup hx hb dX5_add_63 rfl ?_
    refine r_getI C hw (k := 5) hq.1 hq.2.1 rfl vc_5 inX5 (by decide) rfl gw1_186 dX5_add_64 ?_
    refine lv_iconst (v := (1 : Int32)) hx hb dX5_add_67 (by decide) ?_
    refine lv_iadd hx hb dX5_add_68 ?_
    obtain ⟨S_69, e_69, hf⟩ := sI_some hf
    refine r_putI C hw (k := 5) (ty0 := tyX5) hq.1 hq.2.1 rfl vc_5 inX5 tyX5_ok nmX5 (by decide) rfl rfl gw1_186 rfl rfl dX5_add_69 e_69 (fun H locs hw => ?_)
    exact r_vret C hw hr hlocks hf dX5_add_72
  · have hf := if_f hf c_6
    exact r_vret C hw hr hlocks hf dX5_add_9
noncomputable def fX5_copy_6 (fu : Nat) (n : Nat) : Int32 → St → Option (St × Int32) :=
  Nat.rec (motive := fun _ => Int32 → St → Option (St × Int32)) (fun _ _ => none) (fun _ k_6 x2 S =>
    if (S.1 30 5) ≤ x2 then
      some (S, (0 : Int32))
    else
      gd (ck x2 90) <|
      gd (ck x2 90) <|
      gd (ck x2 90) <|
      gd (ck x2 90) <|
      gd (ck x2 90) <|
      bd (fX5_add fu 36 (S.1 31 (x2).toNatClampNeg) (S.1 32 (x2).toNatClampNeg) (S.1 33 (x2).toNatClampNeg) (S.1 34 (x2).toNatClampNeg) (S.1 35 (x2).toNatClampNeg) S) fun S_45 _ =>
      k_6 (x2 + (1 : Int32)) S_45) n
theorem fX5_copy_6_s (fu : Nat) (n : Nat) (x2 : Int32) (S : St) : fX5_copy_6 fu (n + 1) x2 S = (
    if (S.1 30 5) ≤ x2 then
      some (S, (0 : Int32))
    else
      gd (ck x2 90) <|
      gd (ck x2 90) <|
      gd (ck x2 90) <|
      gd (ck x2 90) <|
      gd (ck x2 90) <|
      bd (fX5_add fu 36 (S.1 31 (x2).toNatClampNeg) (S.1 32 (x2).toNatClampNeg) (S.1 33 (x2).toNatClampNeg) (S.1 34 (x2).toNatClampNeg) (S.1 35 (x2).toNatClampNeg) S) fun S_45 _ =>
      (fX5_copy_6 fu n) (x2 + (1 : Int32)) S_45) := rfl
noncomputable def fX5_copy (fu : Nat) (S : St) : Option (St × Int32) :=
  bd (fX5_clear fu 36 S) fun S_1 _ =>
  fX5_copy_6 fu fu (0 : Int32) S_1
theorem mvX5_copy : MV yX5_copy cX5_copy 3 none RX5 1 := ⟨gw3_44, gw3_42, gw3_43, gw1_9, by decide +kernel⟩
def rmX5_copy : Room := { frames := 1, cells := 0, slots := 0, locals := 25 }
set_option maxHeartbeats 4000000 in
set_option maxRecDepth 100000 in
theorem m_X5_copy (l : Launch) (D : va_G) (cA : FieldType → ClassId) (ad : Nat → Nat) (base : Nat) (fu : Nat) {S S' : St} {r : Int32} (hf : fX5_copy fu S = some (S', r)) : Met l yX5_copy (GC yX5_copy cX5_copy 3 none) rmX5_copy (va_Pc [.ref (ad 36), .ref (ad 30)] (wd D cA ad base S)) (QV D cA ad base S') 0 0 (aB base) := by
  refine Met.ofW (cc := cX5_copy) (maxL := 3) (ret := none) (by decide) rfl ?_
  intro p e s m args below meth c s₁ B hml hv
  obtain ⟨hargs, hwd⟩ := hv
  have hr := B.returns
  have hlocks := B.notSynchronized
  obtain ⟨C, hw⟩ := CX.of (own := RX5) rfl B hml hwd
  have hx := C.1
  have hb := C.2.1
  have hl := lv_entry ([.ref (ad 36), .ref (ad 30)]) (n := 3) (Nat.le_of_ble_eq_true rfl)
  rw [show entryFrame m args 3 = entryFrame m ([.ref (ad 36), .ref (ad 30)] : List Value).toArray 3 from by rw [hargs], lg_entry_eq]
  generalize (lg_sl ([.ref (ad 36), .ref (ad 30)]) ++ List.replicate (3 - (lg_sl ([.ref (ad 36), .ref (ad 30)])).length) Slot.unset).toArray = ls at hl ⊢
  have hl : lv_has ls 3 [(0, .ref (ad 36)), (1, .ref (ad 30))] := hl
  have L_6 : ∀ (n_6 : Nat) (x2 : Int32) (S : St) (H : Heap) (locs : List Loc) (ls : Array Slot), fX5_copy_6 fu n_6 x2 S = some (S', r) → lv_has ls 3 [(0, .ref (ad 36)), (1, .ref (ad 30)), (2, .int x2)] → WS D cA ad base s S H locs → W p l e rmX5_copy s m args below meth c H locs 0 0 (MQ below (QV D cA ad base S') args s 0 0 (aB base)) (F0 m 6 ls []) := by
    intro n_6
    induction n_6 with
    | zero =>
      intro x2 S H locs ls hf hl hw
      exact (no_none hf).elim
    | succ n_6 ih_6 =>
      intro x2 S H locs ls hf hl hw
      rw [fX5_copy_6_s] at hf
      refine lv_iload_n hx hb dX5_copy_6 rfl (lv_at hl 2 rfl) ?_
      refine lv_aload_n hx hb dX5_copy_7 rfl (lv_at hl 1 rfl) ?_
      refine r_getI C hw (k := 5) dq_30 ln_30 rfl vc_5 inX5 (by decide) rfl gw1_186 dX5_copy_8 ?_
      refine lv_icmp_ge (tgt := 54) hx hb dX5_copy_11 (by decide) (fun c_11 => ?_) (fun c_11 => ?_)
      · have hf := if_t hf c_11
        exact r_vret C hw hr hlocks hf dX5_copy_54
      · have hf := if_f hf c_11
        refine lv_aload_n hx hb dX5_copy_14 rfl (lv_at hl 0 rfl) ?_
        refine lv_aload_n hx hb dX5_copy_15 rfl (lv_at hl 1 rfl) ?_
        refine r_getR C hw (k := 0) (r := 31) dq_30 ln_30 rfl vc_5 inX5 (by decide) rfl gw1_181 dX5_copy_16 ?_
        refine lv_iload_n hx hb dX5_copy_19 rfl (lv_at hl 2 rfl) ?_
        obtain ⟨z_20, hf⟩ := gd_some hf
        refine r_iald C hw (x := 31) dq_31 ln_31 z_20 dX5_copy_20 ?_
        refine lv_aload_n hx hb dX5_copy_21 rfl (lv_at hl 1 rfl) ?_
        refine r_getR C hw (k := 1) (r := 32) dq_30 ln_30 rfl vc_5 inX5 (by decide) rfl gw1_182 dX5_copy_22 ?_
        refine lv_iload_n hx hb dX5_copy_25 rfl (lv_at hl 2 rfl) ?_
        obtain ⟨z_26, hf⟩ := gd_some hf
        refine r_iald C hw (x := 32) dq_32 ln_32 z_26 dX5_copy_26 ?_
        refine lv_aload_n hx hb dX5_copy_27 rfl (lv_at hl 1 rfl) ?_
        refine r_getR C hw (k := 2) (r := 33) dq_30 ln_30 rfl vc_5 inX5 (by decide) rfl gw1_183 dX5_copy_28 ?_
        refine lv_iload_n hx hb dX5_copy_31 rfl (lv_at hl 2 rfl) ?_
        obtain ⟨z_32, hf⟩ := gd_some hf
        refine r_iald C hw (x := 33) dq_33 ln_33 z_32 dX5_copy_32 ?_
        refine lv_aload_n hx hb dX5_copy_33 rfl (lv_at hl 1 rfl) ?_
        refine r_getR C hw (k := 3) (r := 34) dq_30 ln_30 rfl vc_5 inX5 (by decide) rfl gw1_184 dX5_copy_34 ?_
        refine lv_iload_n hx hb dX5_copy_37 rfl (lv_at hl 2 rfl) ?_
        obtain ⟨z_38, hf⟩ := gd_some hf
        refine r_iald C hw (x := 34) dq_34 ln_34 z_38 dX5_copy_38 ?_
        refine lv_aload_n hx hb dX5_copy_39 rfl (lv_at hl 1 rfl) ?_
        refine r_getR C hw (k := 4) (r := 35) dq_30 ln_30 rfl vc_5 inX5 (by decide) rfl gw1_185 dX5_copy_40 ?_
        refine lv_iload_n hx hb dX5_copy_43 rfl (lv_at hl 2 rfl) ?_
        obtain ⟨z_44, hf⟩ := gd_some hf
        refine r_iald C hw (x := 35) dq_35 ln_35 z_44 dX5_copy_44 ?_
        obtain ⟨S_45, r_45, h_45, hf⟩ := bd_some hf
        refine r_bv hw (r_runV (rest := []) C hw (m_X5_add l D cA ad base fu 36 kRo_36 h_45) mvX5_add gw3_46 ⟨rfl, rfl, Nat.le_of_ble_eq_true rfl, Nat.le_of_ble_eq_true rfl⟩ dq_36 ln_36 vc_5 rfl hl.1 rfl (Nat.le_of_ble_eq_true rfl) dX5_copy_45 (Nat.zero_le _) (Nat.zero_le _)) (fun H locs hw => ?_)
        refine lv_iinc (v := (x2 + (1 : Int32))) (lv' := [(2, .int (x2 + (1 : Int32))), (0, .ref (ad 36)), (1, .ref (ad 30))]) hx hb dX5_copy_48 hl (k := 2) rfl rfl (by decide) rfl (fun ls hl => ?_)
        refine lv_goto (tgt := 6) hx hb dX5_copy_51 (by decide) ?_
        exact ih_6 _ _ _ _ _ hf (lv_sub hl [1, 2, 0] rfl) hw
  show W p l e rmX5_copy s m args below meth c s.heap [] 0 0 _ _
  refine lv_aload_n hx hb dX5_copy_0 rfl (lv_at hl 0 rfl) ?_
  obtain ⟨S_1, r_1, h_1, hf⟩ := bd_some hf
  refine r_bv hw (r_runV (rest := []) C hw (m_X5_clear l D cA ad base fu 36 kRo_36 h_1) mvX5_clear gw3_45 ⟨rfl, rfl, Nat.le_of_ble_eq_true rfl, Nat.le_of_ble_eq_true rfl⟩ dq_36 ln_36 vc_5 rfl hl.1 rfl (Nat.le_of_ble_eq_true rfl) dX5_copy_1 (Nat.zero_le _) (Nat.zero_le _)) (fun H locs hw => ?_)
  refine lv_iconst (v := (0 : Int32)) hx hb dX5_copy_4 (by decide) ?_
  refine lv_istore_n (lv' := [(2, .int (0 : Int32)), (0, .ref (ad 36)), (1, .ref (ad 30))]) hx hb dX5_copy_5 rfl hl (by decide) rfl (fun ls hl => ?_)
  exact L_6 fu _ _ _ _ _ hf (lv_sub hl [1, 2, 0] rfl) hw
noncomputable def fX5_isOf (fu : Nat) (q : Nat) (x1 : Int32) (x2 : Int32) (x3 : Int32) (x4 : Int32) (S : St) : Option (St × Int32) :=
  bd (fX5_has fu q x1 S) fun S_2 r_2 =>
  if r_2 = 0 then
    some (S_2, (0 : Int32))
  else
    gd (ck x1 90) <|
    if (S_2.1 (q + 1) (x1).toNatClampNeg) = x2 then
      gd (ck x1 90) <|
      if (S_2.1 (q + 2) (x1).toNatClampNeg) = x3 then
        gd (ck x1 90) <|
        if (S_2.1 (q + 3) (x1).toNatClampNeg) = x4 then
          some (S_2, (1 : Int32))
        else
          some (S_2, (0 : Int32))
      else
        some (S_2, (0 : Int32))
    else
      some (S_2, (0 : Int32))
theorem mvX5_isOf : MV yX5_isOf cX5_isOf 5 (some .boolean) RX5 4 := ⟨gw6_57, gw6_55, gw6_56, gw1_9, by decide +kernel⟩
def rmX5_isOf : Room := { frames := 1, cells := 0, slots := 0, locals := 21 }
set_option maxHeartbeats 4000000 in
set_option maxRecDepth 100000 in
theorem m_X5_isOf (l : Launch) (D : va_G) (cA : FieldType → ClassId) (ad : Nat → Nat) (base : Nat) (fu : Nat) (q : Nat) (hq : isRows q) {S S' : St} {x1 : Int32} {x2 : Int32} {x3 : Int32} {x4 : Int32} {r : Int32} (hf : fX5_isOf fu q x1 x2 x3 x4 S = some (S', r)) : Met l yX5_isOf (GC yX5_isOf cX5_isOf 5 (some .boolean)) rmX5_isOf (va_Pc [.ref (ad q), .int x1, .int x2, .int x3, .int x4] (wd D cA ad base S)) (QI D cA ad base S' r) 0 0 (aB base) := by
  refine Met.ofW (cc := cX5_isOf) (maxL := 5) (ret := (some .boolean)) (by decide) rfl ?_
  intro p e s m args below meth c s₁ B hml hv
  obtain ⟨hargs, hwd⟩ := hv
  have hr := B.returns
  have hlocks := B.notSynchronized
  obtain ⟨C, hw⟩ := CX.of (own := RX5) rfl B hml hwd
  have hx := C.1
  have hb := C.2.1
  have hl := lv_entry ([.ref (ad q), .int x1, .int x2, .int x3, .int x4]) (n := 5) (Nat.le_of_ble_eq_true rfl)
  rw [show entryFrame m args 5 = entryFrame m ([.ref (ad q), .int x1, .int x2, .int x3, .int x4] : List Value).toArray 5 from by rw [hargs], lg_entry_eq]
  generalize (lg_sl ([.ref (ad q), .int x1, .int x2, .int x3, .int x4]) ++ List.replicate (5 - (lg_sl ([.ref (ad q), .int x1, .int x2, .int x3, .int x4])).length) Slot.unset).toArray = ls at hl ⊢
  have hl : lv_has ls 5 [(0, .ref (ad q)), (1, .int x1), (2, .int x2), (3, .int x3), (4, .int x4)] := hl
  show W p l e rmX5_isOf s m args below meth c s.heap [] 0 0 _ _
  refine lv_aload_n hx hb dX5_isOf_0 rfl (lv_at hl 0 rfl) ?_
  refine lv_iload_n hx hb dX5_isOf_1 rfl (lv_at hl 1 rfl) ?_
  obtain ⟨S_2, r_2, h_2, hf⟩ := bd_some hf
  refine r_bi hw (r_runV (rest := []) C hw (m_X5_has l D cA ad base fu q hq h_2) mvX5_has gw5_56 ⟨rfl, rfl, Nat.le_of_ble_eq_true rfl, Nat.le_of_ble_eq_true rfl⟩ hq.1 hq.2.1 vc_5 rfl hl.1 rfl (Nat.le_of_ble_eq_true rfl) dX5_isOf_2 (Nat.zero_le _) (Nat.zero_le _)) (fun H locs hw => ?_)
  refine lv_if_eq (tgt := 43) hx hb dX5_isOf_5 (by decide) (fun c_5 => ?_) (fun c_5 => ?_)
  · have hf := if_t hf c_5
    refine lv_iconst (v := (0 : Int32)) hx hb dX5_isOf_43 (by decide) ?_
    exact r_zret C hw hr hlocks rfl hf dX5_isOf_44
  · have hf := if_f hf c_5
    refine lv_aload_n hx hb dX5_isOf_8 rfl (lv_at hl 0 rfl) ?_
    refine r_getR C hw (k := 0) (r := (q + 1)) hq.1 hq.2.1 rfl vc_5 inX5 (by decide) rfl gw1_181 dX5_isOf_9 ?_
    refine lv_iload_n hx hb dX5_isOf_12 rfl (lv_at hl 1 rfl) ?_
    obtain ⟨z_13, hf⟩ := gd_some hf
    refine r_iald C hw (x := (q + 1)) hq.2.2.1 hq.2.2.2.1 z_13 dX5_isOf_13 ?_
    refine lv_iload_n hx hb dX5_isOf_14 rfl (lv_at hl 2 rfl) ?_
    refine lv_icmp_ne (tgt := 43) hx hb dX5_isOf_15 (by decide) (fun c_15 => ?_) (fun c_15 => ?_)
    · have hf := if_f hf c_15
      refine lv_iconst (v := (0 : Int32)) hx hb dX5_isOf_43 (by decide) ?_
      exact r_zret C hw hr hlocks rfl hf dX5_isOf_44
    · have hf := if_t hf c_15
      refine lv_aload_n hx hb dX5_isOf_18 rfl (lv_at hl 0 rfl) ?_
      refine r_getR C hw (k := 1) (r := (q + 2)) hq.1 hq.2.1 rfl vc_5 inX5 (by decide) rfl gw1_182 dX5_isOf_19 ?_
      refine lv_iload_n hx hb dX5_isOf_22 rfl (lv_at hl 1 rfl) ?_
      obtain ⟨z_23, hf⟩ := gd_some hf
      refine r_iald C hw (x := (q + 2)) hq.2.2.2.2.1 hq.2.2.2.2.2.1 z_23 dX5_isOf_23 ?_
      refine lv_iload_n hx hb dX5_isOf_24 rfl (lv_at hl 3 rfl) ?_
      refine lv_icmp_ne (tgt := 43) hx hb dX5_isOf_25 (by decide) (fun c_25 => ?_) (fun c_25 => ?_)
      · have hf := if_f hf c_25
        refine lv_iconst (v := (0 : Int32)) hx hb dX5_isOf_43 (by decide) ?_
        exact r_zret C hw hr hlocks rfl hf dX5_isOf_44
      · have hf := if_t hf c_25
        refine lv_aload_n hx hb dX5_isOf_28 rfl (lv_at hl 0 rfl) ?_
        refine r_getR C hw (k := 2) (r := (q + 3)) hq.1 hq.2.1 rfl vc_5 inX5 (by decide) rfl gw1_183 dX5_isOf_29 ?_
        refine lv_iload_n hx hb dX5_isOf_32 rfl (lv_at hl 1 rfl) ?_
        obtain ⟨z_33, hf⟩ := gd_some hf
        refine r_iald C hw (x := (q + 3)) hq.2.2.2.2.2.2.1 hq.2.2.2.2.2.2.2.1 z_33 dX5_isOf_33 ?_
        refine lv_iload hx hb dX5_isOf_34 (lv_at hl 4 rfl) ?_
        refine lv_icmp_ne (tgt := 43) hx hb dX5_isOf_36 (by decide) (fun c_36 => ?_) (fun c_36 => ?_)
        · have hf := if_f hf c_36
          refine lv_iconst (v := (0 : Int32)) hx hb dX5_isOf_43 (by decide) ?_
          exact r_zret C hw hr hlocks rfl hf dX5_isOf_44
        · have hf := if_t hf c_36
          refine lv_iconst (v := (1 : Int32)) hx hb dX5_isOf_39 (by decide) ?_
          refine lv_goto (tgt := 44) hx hb dX5_isOf_40 (by decide) ?_
          exact r_zret C hw hr hlocks rfl hf dX5_isOf_44
noncomputable def fX5_first_32 (fu : Nat) (q : Nat) (k_2 : Int32 → Int32 → Int32 → St → Option (St × Int32)) (x1 : Int32) (x2 : Int32) (x3 : Int32) (S : St) : Option (St × Int32) :=
  k_2 x1 x2 (x3 + (1 : Int32)) S
noncomputable def fX5_first_2 (fu : Nat) (q : Nat) (n : Nat) : Int32 → Int32 → Int32 → St → Option (St × Int32) :=
  Nat.rec (motive := fun _ => Int32 → Int32 → Int32 → St → Option (St × Int32)) (fun _ _ _ _ => none) (fun _ k_2 x1 x2 x3 S =>
    if (S.1 q 5) ≤ x3 then
      some (S, (-1 : Int32))
    else
      gd (ck x3 90) <|
      if (S.1 (q + 1) (x3).toNatClampNeg) = x1 then
        gd (ck x3 90) <|
        if (S.1 (q + 3) (x3).toNatClampNeg) = x2 then
          some (S, x3)
        else
          fX5_first_32 fu q k_2 x1 x2 x3 S
      else
        fX5_first_32 fu q k_2 x1 x2 x3 S) n
theorem fX5_first_2_s (fu : Nat) (q : Nat) (n : Nat) (x1 : Int32) (x2 : Int32) (x3 : Int32) (S : St) : fX5_first_2 fu q (n + 1) x1 x2 x3 S = (
    if (S.1 q 5) ≤ x3 then
      some (S, (-1 : Int32))
    else
      gd (ck x3 90) <|
      if (S.1 (q + 1) (x3).toNatClampNeg) = x1 then
        gd (ck x3 90) <|
        if (S.1 (q + 3) (x3).toNatClampNeg) = x2 then
          some (S, x3)
        else
          fX5_first_32 fu q (fX5_first_2 fu q n) x1 x2 x3 S
      else
        fX5_first_32 fu q (fX5_first_2 fu q n) x1 x2 x3 S) := rfl
noncomputable def fX5_first (fu : Nat) (q : Nat) (x1 : Int32) (x2 : Int32) (S : St) : Option (St × Int32) :=
  fX5_first_2 fu q fu x1 x2 (0 : Int32) S
theorem mvX5_first : MV yX5_first cX5_first 4 (some .int) RX5 2 := ⟨gw6_86, gw6_84, gw6_85, gw1_9, by decide +kernel⟩
def rmX5_first : Room := { frames := 0, cells := 0, slots := 0, locals := 0 }
set_option maxHeartbeats 4000000 in
set_option maxRecDepth 100000 in
theorem m_X5_first (l : Launch) (D : va_G) (cA : FieldType → ClassId) (ad : Nat → Nat) (base : Nat) (fu : Nat) (q : Nat) (hq : isRows q) {S S' : St} {x1 : Int32} {x2 : Int32} {r : Int32} (hf : fX5_first fu q x1 x2 S = some (S', r)) : Met l yX5_first (GC yX5_first cX5_first 4 (some .int)) rmX5_first (va_Pc [.ref (ad q), .int x1, .int x2] (wd D cA ad base S)) (QI D cA ad base S' r) 0 0 (aB base) := by
  refine Met.ofW (cc := cX5_first) (maxL := 4) (ret := (some .int)) (by decide) rfl ?_
  intro p e s m args below meth c s₁ B hml hv
  obtain ⟨hargs, hwd⟩ := hv
  have hr := B.returns
  have hlocks := B.notSynchronized
  obtain ⟨C, hw⟩ := CX.of (own := RX5) rfl B hml hwd
  have hx := C.1
  have hb := C.2.1
  have hl := lv_entry ([.ref (ad q), .int x1, .int x2]) (n := 4) (Nat.le_of_ble_eq_true rfl)
  rw [show entryFrame m args 4 = entryFrame m ([.ref (ad q), .int x1, .int x2] : List Value).toArray 4 from by rw [hargs], lg_entry_eq]
  generalize (lg_sl ([.ref (ad q), .int x1, .int x2]) ++ List.replicate (4 - (lg_sl ([.ref (ad q), .int x1, .int x2])).length) Slot.unset).toArray = ls at hl ⊢
  have hl : lv_has ls 4 [(0, .ref (ad q)), (1, .int x1), (2, .int x2)] := hl
  have L_2 : ∀ (n_2 : Nat) (x1 : Int32) (x2 : Int32) (x3 : Int32) (S : St) (H : Heap) (locs : List Loc) (ls : Array Slot), fX5_first_2 fu q n_2 x1 x2 x3 S = some (S', r) → lv_has ls 4 [(0, .ref (ad q)), (1, .int x1), (2, .int x2), (3, .int x3)] → WS D cA ad base s S H locs → W p l e rmX5_first s m args below meth c H locs 0 0 (MQ below (QI D cA ad base S' r) args s 0 0 (aB base)) (F0 m 2 ls []) := by
    intro n_2
    induction n_2 with
    | zero =>
      intro x1 x2 x3 S H locs ls hf hl hw
      exact (no_none hf).elim
    | succ n_2 ih_2 =>
      have J_32 : ∀ (x1 : Int32) (x2 : Int32) (x3 : Int32) (S : St) (H : Heap) (locs : List Loc) (ls : Array Slot), fX5_first_32 fu q (fX5_first_2 fu q n_2) x1 x2 x3 S = some (S', r) → lv_has ls 4 [(0, .ref (ad q)), (1, .int x1), (2, .int x2), (3, .int x3)] → WS D cA ad base s S H locs → W p l e rmX5_first s m args below meth c H locs 0 0 (MQ below (QI D cA ad base S' r) args s 0 0 (aB base)) (F0 m 32 ls []) := by
        intro x1 x2 x3 S H locs ls hf hl hw
        refine lv_iinc (v := (x3 + (1 : Int32))) (lv' := [(3, .int (x3 + (1 : Int32))), (0, .ref (ad q)), (1, .int x1), (2, .int x2)]) hx hb dX5_first_32 hl (k := 3) rfl rfl (by decide) rfl (fun ls hl => ?_)
        refine lv_goto (tgt := 2) hx hb dX5_first_35 (by decide) ?_
        exact ih_2 _ _ _ _ _ _ _ hf (lv_sub hl [1, 2, 3, 0] rfl) hw
      intro x1 x2 x3 S H locs ls hf hl hw
      rw [fX5_first_2_s] at hf
      refine lv_iload_n hx hb dX5_first_2 rfl (lv_at hl 3 rfl) ?_
      refine lv_aload_n hx hb dX5_first_3 rfl (lv_at hl 0 rfl) ?_
      refine r_getI C hw (k := 5) hq.1 hq.2.1 rfl vc_5 inX5 (by decide) rfl gw1_186 dX5_first_4 ?_
      refine lv_icmp_ge (tgt := 38) hx hb dX5_first_7 (by decide) (fun c_7 => ?_) (fun c_7 => ?_)
      · have hf := if_t hf c_7
        refine lv_iconst (v := (-1 : Int32)) hx hb dX5_first_38 (by decide) ?_
        exact r_iret C hw hr hlocks hf dX5_first_39
      · have hf := if_f hf c_7
        refine lv_aload_n hx hb dX5_first_10 rfl (lv_at hl 0 rfl) ?_
        refine r_getR C hw (k := 0) (r := (q + 1)) hq.1 hq.2.1 rfl vc_5 inX5 (by decide) rfl gw1_181 dX5_first_11 ?_
        refine lv_iload_n hx hb dX5_first_14 rfl (lv_at hl 3 rfl) ?_
        obtain ⟨z_15, hf⟩ := gd_some hf
        refine r_iald C hw (x := (q + 1)) hq.2.2.1 hq.2.2.2.1 z_15 dX5_first_15 ?_
        refine lv_iload_n hx hb dX5_first_16 rfl (lv_at hl 1 rfl) ?_
        refine lv_icmp_ne (tgt := 32) hx hb dX5_first_17 (by decide) (fun c_17 => ?_) (fun c_17 => ?_)
        · have hf := if_f hf c_17
          exact J_32 _ _ _ _ _ _ _ hf (lv_sub hl [0, 1, 2, 3] rfl) hw
        · have hf := if_t hf c_17
          refine lv_aload_n hx hb dX5_first_20 rfl (lv_at hl 0 rfl) ?_
          refine r_getR C hw (k := 2) (r := (q + 3)) hq.1 hq.2.1 rfl vc_5 inX5 (by decide) rfl gw1_183 dX5_first_21 ?_
          refine lv_iload_n hx hb dX5_first_24 rfl (lv_at hl 3 rfl) ?_
          obtain ⟨z_25, hf⟩ := gd_some hf
          refine r_iald C hw (x := (q + 3)) hq.2.2.2.2.2.2.1 hq.2.2.2.2.2.2.2.1 z_25 dX5_first_25 ?_
          refine lv_iload_n hx hb dX5_first_26 rfl (lv_at hl 2 rfl) ?_
          refine lv_icmp_ne (tgt := 32) hx hb dX5_first_27 (by decide) (fun c_27 => ?_) (fun c_27 => ?_)
          · have hf := if_f hf c_27
            exact J_32 _ _ _ _ _ _ _ hf (lv_sub hl [0, 1, 2, 3] rfl) hw
          · have hf := if_t hf c_27
            refine lv_iload_n hx hb dX5_first_30 rfl (lv_at hl 3 rfl) ?_
            exact r_iret C hw hr hlocks hf dX5_first_31
  show W p l e rmX5_first s m args below meth c s.heap [] 0 0 _ _
  refine lv_iconst (v := (0 : Int32)) hx hb dX5_first_0 (by decide) ?_
  refine lv_istore_n (lv' := [(3, .int (0 : Int32)), (0, .ref (ad q)), (1, .int x1), (2, .int x2)]) hx hb dX5_first_1 rfl hl (by decide) rfl (fun ls hl => ?_)
  exact L_2 fu _ _ _ _ _ _ _ hf (lv_sub hl [1, 2, 3, 0] rfl) hw
