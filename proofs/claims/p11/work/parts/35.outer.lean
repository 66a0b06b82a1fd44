noncomputable def fX11_feed (fu : Nat) (x1 : Int32) (x2 : Int32) (x3 : Int32) (x4 : Int32) (x5 : Int32) (S : St) : Option (St × Int32) :=
  bd (fX0_size fu 1 S) fun S_4 r_4 =>
  if (r_4 + (20 : Int32)) ≤ (1000 : Int32) then
    bd (fX0_addFour fu 1 x1 S_4) fun S_23 _ =>
    bd (fX0_addFour fu 1 x2 S_23) fun S_31 _ =>
    bd (fX0_addFour fu 1 x3 S_31) fun S_39 _ =>
    bd (fX0_addFour fu 1 x4 S_39) fun S_48 _ =>
    bd (fX0_addFour fu 1 x5 S_48) fun S_57 _ =>
    bd (fX0_size fu 1 S_57) fun S_64 r_64 =>
    some (S_64, r_64)
  else
    some (S_4, (-1 : Int32))
theorem mvX11_feed : MV yX11_feed cX11_feed 6 (some .int) RX11 5 := ⟨gw2_147, gw2_145, gw2_146, gw1_1, by decide +kernel⟩
def rmX11_feed : Room := { frames := 2, cells := 0, slots := 0, locals := 42 }
set_option maxHeartbeats 4000000 in
set_option maxRecDepth 100000 in
theorem m_X11_feed (l : Launch) (D : va_G) (cA : FieldType → ClassId) (ad : Nat → Nat) (base : Nat) (fu : Nat) {S S' : St} {x1 : Int32} {x2 : Int32} {x3 : Int32} {x4 : Int32} {x5 : Int32} {r : Int32} (hf : fX11_feed fu x1 x2 x3 x4 x5 S = some (S', r)) : Met l yX11_feed (GC yX11_feed cX11_feed 6 (some .int)) rmX11_feed (va_Pc [.ref (ad 0), .int x1, .int x2, .int x3, .int x4, .int x5] (wd D cA ad base S)) (QI D cA ad base S' r) 0 0 (aB base) := by
  refine Met.ofW (cc := cX11_feed) (maxL := 6) (ret := (some .int)) (by decide) rfl ?_
  intro p e s m args below meth c s₁ B hml hv
  obtain ⟨hargs, hwd⟩ := hv
  have hr := B.returns
  have hlocks := B.notSynchronized
  obtain ⟨C, hw⟩ := CX.of (own := RX11) rfl B hml hwd
  have hx := C.1
  have hb := C.2.1
  have hl := lv_entry ([.ref (ad 0), .int x1, .int x2, .int x3, .int x4, .int x5]) (n := 6) (Nat.le_of_ble_eq_true rfl)
  rw [show entryFrame m args 6 = entryFrame m ([.ref (ad 0), .int x1, .int x2, .int x3, .int x4, .int x5] : List Value).toArray 6 from by rw [hargs], lg_entry_eq]
  generalize (lg_sl ([.ref (ad 0), .int x1, .int x2, .int x3, .int x4, .int x5]) ++ List.replicate (6 - (lg_sl ([.ref (ad 0), .int x1, .int x2, .int x3, .int x4, .int x5])).length) Slot.unset).toArray = ls at hl ⊢
  have hl : lv_has ls 6 [(0, .ref (ad 0)), (1, .int x1), (2, .int x2), (3, .int x3), (4, .int x4), (5, .int x5)] := hl
  show W p l e rmX11_feed s m args below meth c s.heap [] 0 0 _ _
  refine lv_aload_n hx hb dX11_feed_0 rfl (lv_at hl 0 rfl) ?_
  refine r_getR C hw (k := 0) (r := 1) dq_0 ln_0 rfl vc_11 inX11 (by decide) rfl gw2_113 dX11_feed_1 ?_
  obtain ⟨S_4, r_4, h_4, hf⟩ := bd_some hf
  refine r_bi hw (r_runV (rest := []) C hw (m_X0_size l D cA ad base fu 1 kBy_1 h_4) mvX0_size gw2_148 ⟨rfl, rfl, Nat.le_of_ble_eq_true rfl, Nat.le_of_ble_eq_true rfl⟩ dq_1 ln_1 vc_0 rfl hl.1 rfl (Nat.le_of_ble_eq_true rfl) dX11_feed_4 (Nat.zero_le _) (Nat.zero_le _)) (fun H locs hw => ?_)
  refine lv_bipush (v := (20 : Int32)) hx hb dX11_feed_7 (by decide) ?_
  refine lv_iadd hx hb dX11_feed_9 ?_
  refine lv_sipush (v := (1000 : Int32)) hx hb dX11_feed_10 (by decide) ?_
  refine lv_icmp_le (tgt := 18) hx hb dX11_feed_13 (by decide) (fun c_13 => ?_) (fun c_13 => ?_)
  · have hf := if_t hf c_13
    refine lv_aload_n hx hb dX11_feed_18 rfl (lv_at hl 0 rfl) ?_
    refine r_getR C hw (k := 0) (r := 1) dq_0 ln_0 rfl vc_11 inX11 (by decide) rfl gw2_113 dX11_feed_19 ?_
    refine lv_iload_n hx hb dX11_feed_22 rfl (lv_at hl 1 rfl) ?_
    obtain ⟨S_23, r_23, h_23, hf⟩ := bd_some hf
    refine r_bv hw (r_runV (rest := []) C hw (m_X0_addFour l D cA ad base fu 1 kBy_1 h_23) mvX0_addFour gw2_152 ⟨rfl, rfl, Nat.le_of_ble_eq_true rfl, Nat.le_of_ble_eq_true rfl⟩ dq_1 ln_1 vc_0 rfl hl.1 rfl (Nat.le_of_ble_eq_true rfl) dX11_feed_23 (Nat.zero_le _) (Nat.zero_le _)) (fun H locs hw => ?_)
    refine lv_aload_n hx hb dX11_feed_26 rfl (lv_at hl 0 rfl) ?_
    refine r_getR C hw (k := 0) (r := 1) dq_0 ln_0 rfl vc_11 inX11 (by decide) rfl gw2_113 dX11_feed_27 ?_
    refine lv_iload_n hx hb dX11_feed_30 rfl (lv_at hl 2 rfl) ?_
    obtain ⟨S_31, r_31, h_31, hf⟩ := bd_some hf
    refine r_bv hw (r_runV (rest := []) C hw (m_X0_addFour l D cA ad base fu 1 kBy_1 h_31) mvX0_addFour gw2_152 ⟨rfl, rfl, Nat.le_of_ble_eq_true rfl, Nat.le_of_ble_eq_true rfl⟩ dq_1 ln_1 vc_0 rfl hl.1 rfl (Nat.le_of_ble_eq_true rfl) dX11_feed_31 (Nat.zero_le _) (Nat.zero_le _)) (fun H locs hw => ?_)
    refine lv_aload_n hx hb dX11_feed_34 rfl (lv_at hl 0 rfl) ?_
    refine r_getR C hw (k := 0) (r := 1) dq_0 ln_0 rfl vc_11 inX11 (by decide) rfl gw2_113 dX11_feed_35 ?_
    refine lv_iload_n hx hb dX11_feed_38 rfl (lv_at hl 3 rfl) ?_
    obtain ⟨S_39, r_39, h_39, hf⟩ := bd_some hf
    refine r_bv hw (r_runV (rest := []) C hw (m_X0_addFour l D cA ad base fu 1 kBy_1 h_39) mvX0_addFour gw2_152 ⟨rfl, rfl, Nat.le_of_ble_eq_true rfl, Nat.le_of_ble_eq_true rfl⟩ dq_1 ln_1 vc_0 rfl hl.1 rfl (Nat.le_of_ble_eq_true rfl) dX11_feed_39 (Nat.zero_le _) (Nat.zero_le _)) (fun H locs hw => ?_)
    refine lv_aload_n hx hb dX11_feed_42 rfl (lv_at hl 0 rfl) ?_
    refine r_getR C hw (k := 0) (r := 1) dq_0 ln_0 rfl vc_11 inX11 (by decide) rfl gw2_113 dX11_feed_43 ?_
    refine lv_iload hx hb dX11_feed_46 (lv_at hl 4 rfl) ?_
    obtain ⟨S_48, r_48, h_48, hf⟩ := bd_some hf
    refine r_bv hw (r_runV (rest := []) C hw (m_X0_addFour l D cA ad base fu 1 kBy_1 h_48) mvX0_addFour gw2_152 ⟨rfl, rfl, Nat.le_of_ble_eq_true rfl, Nat.le_of_ble_eq_true rfl⟩ dq_1 ln_1 vc_0 rfl hl.1 rfl (Nat.le_of_ble_eq_true rfl) dX11_feed_48 (Nat.zero_le _) (Nat.zero_le _)) (fun H locs hw => ?_)
    refine lv_aload_n hx hb dX11_feed_51 rfl (lv_at hl 0 rfl) ?_
    refine r_getR C hw (k := 0) (r := 1) dq_0 ln_0 rfl vc_11 inX11 (by decide) rfl gw2_113 dX11_feed_52 ?_
    refine lv_iload hx hb dX11_feed_55 (lv_at hl 5 rfl) ?_
    obtain ⟨S_57, r_57, h_57, hf⟩ := bd_some hf
    refine r_bv hw (r_runV (rest := []) C hw (m_X0_addFour l D cA ad base fu 1 kBy_1 h_57) mvX0_addFour gw2_152 ⟨rfl, rfl, Nat.le_of_ble_eq_true rfl, Nat.le_of_ble_eq_true rfl⟩ dq_1 ln_1 vc_0 rfl hl.1 rfl (Nat.le_of_ble_eq_true rfl) dX11_feed_57 (Nat.zero_le _) (Nat.zero_le _)) (fun H locs hw => ?_)
    refine lv_aload_n hx hb dX11_feed_60 rfl (lv_at hl 0 rfl) ?_
    refine r_getR C hw (k := 0) (r := 1) dq_0 ln_0 rfl vc_11 inX11 (by decide) rfl gw2_113 dX11_feed_61 ?_
    obtain ⟨S_64, r_64, h_64, hf⟩ := bd_some hf
    refine r_bi hw (r_runV (rest := []) C hw (m_X0_size l D cA ad base fu 1 kBy_1 h_64) mvX0_size gw2_148 ⟨rfl, rfl, Nat.le_of_ble_eq_true rfl, Nat.le_of_ble_eq_true rfl⟩ dq_1 ln_1 vc_0 rfl hl.1 rfl (Nat.le_of_ble_eq_true rfl) dX11_feed_64 (Nat.zero_le _) (Nat.zero_le _)) (fun H locs hw => ?_)
    exact r_iret C hw hr hlocks hf dX11_feed_67
  · have hf := if_f hf c_13
    refine lv_iconst (v := (-1 : Int32)) hx hb dX11_feed_16 (by decide) ?_
    exact r_iret C hw hr hlocks hf dX11_feed_17
noncomputable def fX11_end (fu : Nat) (x1 : Int32) (S : St) : Option (St × Int32) :=
  bd (fX0_cutTo fu 1 x1 S) fun S_5 r_5 =>
  gd (isB r_5) <|
  some (S_5, r_5)
theorem mvX11_end : MV yX11_end cX11_end 2 (some .boolean) RX11 1 := ⟨gw2_163, gw2_161, gw2_162, gw1_1, by decide +kernel⟩
def rmX11_end : Room := { frames := 1, cells := 0, slots := 0, locals := 21 }
set_option maxHeartbeats 4000000 in
set_option maxRecDepth 100000 in
theorem m_X11_end (l : Launch) (D : va_G) (cA : FieldType → ClassId) (ad : Nat → Nat) (base : Nat) (fu : Nat) {S S' : St} {x1 : Int32} {r : Int32} (hf : fX11_end fu x1 S = some (S', r)) : Met l yX11_end (GC yX11_end cX11_end 2 (some .boolean)) rmX11_end (va_Pc [.ref (ad 0), .int x1] (wd D cA ad base S)) (QI D cA ad base S' r) 0 0 (aB base) := by
  refine Met.ofW (cc := cX11_end) (maxL := 2) (ret := (some .boolean)) (by decide) rfl ?_
  intro p e s m args below meth c s₁ B hml hv
  obtain ⟨hargs, hwd⟩ := hv
  have hr := B.returns
  have hlocks := B.notSynchronized
  obtain ⟨C, hw⟩ := CX.of (own := RX11) rfl B hml hwd
  have hx := C.1
  have hb := C.2.1
  have hl := lv_entry ([.ref (ad 0), .int x1]) (n := 2) (Nat.le_of_ble_eq_true rfl)
  rw [show entryFrame m args 2 = entryFrame m ([.ref (ad 0), .int x1] : List Value).toArray 2 from by rw [hargs], lg_entry_eq]
  generalize (lg_sl ([.ref (ad 0), .int x1]) ++ List.replicate (2 - (lg_sl ([.ref (ad 0), .int x1])).length) Slot.unset).toArray = ls at hl ⊢
  have hl : lv_has ls 2 [(0, .ref (ad 0)), (1, .int x1)] := hl
  show W p l e rmX11_end s m args below meth c s.heap [] 0 0 _ _
  refine lv_aload_n hx hb dX11_end_0 rfl (lv_at hl 0 rfl) ?_
  refine r_getR C hw (k := 0) (r := 1) dq_0 ln_0 rfl vc_11 inX11 (by decide) rfl gw2_113 dX11_end_1 ?_
  refine lv_iload_n hx hb dX11_end_4 rfl (lv_at hl 1 rfl) ?_
  obtain ⟨S_5, r_5, h_5, hf⟩ := bd_some hf
  refine r_bi hw (r_runV (rest := []) C hw (m_X0_cutTo l D cA ad base fu 1 kBy_1 h_5) mvX0_cutTo gw2_164 ⟨rfl, rfl, Nat.le_of_ble_eq_true rfl, Nat.le_of_ble_eq_true rfl⟩ dq_1 ln_1 vc_0 rfl hl.1 rfl (Nat.le_of_ble_eq_true rfl) dX11_end_5 (Nat.zero_le _) (Nat.zero_le _)) (fun H locs hw => ?_)
  obtain ⟨z_8, hf⟩ := gd_some hf
  exact r_zret C hw hr hlocks z_8 hf dX11_end_8
noncomputable def fX11_turn (fu : Nat) (x1 : Int32) (x2 : Int32) (S : St) : Option (St × Int32) :=
  bd (fX0_set fu 1 x1 x2 S) fun S_6 r_6 =>
  gd (isB r_6) <|
  some (S_6, r_6)
theorem mvX11_turn : MV yX11_turn cX11_turn 3 (some .boolean) RX11 2 := ⟨gw2_171, gw2_169, gw2_170, gw1_1, by decide +kernel⟩
def rmX11_turn : Room := { frames := 1, cells := 0, slots := 0, locals := 22 }
set_option maxHeartbeats 4000000 in
set_option maxRecDepth 100000 in
theorem m_X11_turn (l : Launch) (D : va_G) (cA : FieldType → ClassId) (ad : Nat → Nat) (base : Nat) (fu : Nat) {S S' : St} {x1 : Int32} {x2 : Int32} {r : Int32} (hf : fX11_turn fu x1 x2 S = some (S', r)) : Met l yX11_turn (GC yX11_turn cX11_turn 3 (some .boolean)) rmX11_turn (va_Pc [.ref (ad 0), .int x1, .int x2] (wd D cA ad base S)) (QI D cA ad base S' r) 0 0 (aB base) := by
  refine Met.ofW (cc := cX11_turn) (maxL := 3) (ret := (some .boolean)) (by decide) rfl ?_
  intro p e s m args below meth c s₁ B hml hv
  obtain ⟨hargs, hwd⟩ := hv
  have hr := B.returns
  have hlocks := B.notSynchronized
  obtain ⟨C, hw⟩ := CX.of (own := RX11) rfl B hml hwd
  have hx := C.1
  have hb := C.2.1
  have hl := lv_entry ([.ref (ad 0), .int x1, .int x2]) (n := 3) (Nat.le_of_ble_eq_true rfl)
  rw [show entryFrame m args 3 = entryFrame m ([.ref (ad 0), .int x1, .int x2] : List Value).toArray 3 from by rw [hargs], lg_entry_eq]
  generalize (lg_sl ([.ref (ad 0), .int x1, .int x2]) ++ List.replicate (3 - (lg_sl ([.ref (ad 0), .int x1, .int x2])).length) Slot.unset).toArray = ls at hl ⊢
  have hl : lv_has ls 3 [(0, .ref (ad 0)), (1, .int x1), (2, .int x2)] := hl
  show W p l e rmX11_turn s m args below meth c s.heap [] 0 0 _ _
  refine lv_aload_n hx hb dX11_turn_0 rfl (lv_at hl 0 rfl) ?_
  refine r_getR C hw (k := 0) (r := 1) dq_0 ln_0 rfl vc_11 inX11 (by decide) rfl gw2_113 dX11_turn_1 ?_
  refine lv_iload_n hx hb dX11_turn_4 rfl (lv_at hl 1 rfl) ?_
  refine lv_iload_n hx hb dX11_turn_5 rfl (lv_at hl 2 rfl) ?_
  obtain ⟨S_6, r_6, h_6, hf⟩ := bd_some hf
  refine r_bi hw (r_runV (rest := []) C hw (m_X0_set l D cA ad base fu 1 kBy_1 h_6) mvX0_set gw2_172 ⟨rfl, rfl, Nat.le_of_ble_eq_true rfl, Nat.le_of_ble_eq_true rfl⟩ dq_1 ln_1 vc_0 rfl hl.1 rfl (Nat.le_of_ble_eq_true rfl) dX11_turn_6 (Nat.zero_le _) (Nat.zero_le _)) (fun H locs hw => ?_)
  obtain ⟨z_9, hf⟩ := gd_some hf
  exact r_zret C hw hr hlocks z_9 hf dX11_turn_9
noncomputable def fX11_name (fu : Nat) (S : St) : Option (St × Ot) :=
  bd (fX8_readText fu S) fun S_8 r_8 =>
  bd (fX0_clear fu 1 S_8) fun S_16 _ =>
  if r_8 = 0 then
    some (S_16, (1, (0 : Int32)))
  else
    bd (fX3_size fu S_16) fun S_37 r_37 =>
    bd (fX3_missing fu S_37) fun S_48 r_48 =>
    if (r_37 + r_48) ≤ (300 : Int32) then
      bd (fX3_made fu 7 S_48) fun S_76 r_76 =>
      some (S_76, (0, r_76))
    else
      some (S_48, (2, (0 : Int32)))
theorem mvX11_name : MV yX11_name cX11_name 2 (some .int) RX11 0 := ⟨gw3_111, gw3_109, gw3_110, gw1_1, by decide +kernel⟩
def rmX11_name : Room := { frames := 2, cells := 0, slots := 0, locals := 48 }
set_option maxHeartbeats 4000000 in
set_option maxRecDepth 100000 in
theorem m_X11_name (l : Launch) (D : va_G) (cA : FieldType → ClassId) (ad : Nat → Nat) (base : Nat) (fu : Nat) {S S' : St} {r : Int32} (hf : fX11_name fu S = some (S', (0, r))) : Met l yX11_name (GC yX11_name cX11_name 2 (some .int)) rmX11_name (va_Pc [.ref (ad 0)] (wd D cA ad base S)) (QI D cA ad base S' r) 0 0 (aB base) := by
  refine Met.ofW (cc := cX11_name) (maxL := 2) (ret := (some .int)) (by decide) rfl ?_
  intro p e s m args below meth c s₁ B hml hv
  obtain ⟨C, hw⟩ := CX.of (own := RX11) rfl B hml hv.2
  have hargs := hv.1
  have hr := B.returns
  have hlocks := B.notSynchronized
  have hx := C.1
  have hb := C.2.1
  have hl := lv_entry ([.ref (ad 0)]) (n := 2) (Nat.le_of_ble_eq_true rfl)
  rw [show entryFrame m args 2 = entryFrame m ([.ref (ad 0)] : List Value).toArray 2 from by rw [hargs], lg_entry_eq]
  generalize (lg_sl ([.ref (ad 0)]) ++ List.replicate (2 - (lg_sl ([.ref (ad 0)])).length) Slot.unset).toArray = ls at hl ⊢
  have hl : lv_has ls 2 [(0, .ref (ad 0))] := hl
  show W p l e rmX11_name s m args below meth c s.heap [] 0 0 _ _
  refine lv_aload_n hx hb dX11_name_0 rfl (lv_at hl 0 rfl) ?_
  refine r_getR C hw (k := 2) (r := 7) dq_0 ln_0 rfl vc_11 inX11 (by decide) rfl gw2_115 dX11_name_1 ?_
  refine lv_aload_n hx hb dX11_name_4 rfl (lv_at hl 0 rfl) ?_
  refine r_getR C hw (k := 0) (r := 1) dq_0 ln_0 rfl vc_11 inX11 (by decide) rfl gw2_113 dX11_name_5 ?_
  obtain ⟨S_8, r_8, h_8, hf⟩ := bd_some hf
  refine r_bi hw (r_runV (rest := []) C hw (m_X8_readText l D cA ad base fu h_8) mvX8_readText gw3_112 ⟨rfl, rfl, Nat.le_of_ble_eq_true rfl, Nat.le_of_ble_eq_true rfl⟩ dq_7 ln_7 vc_8 rfl hl.1 rfl (Nat.le_of_ble_eq_true rfl) dX11_name_8 (Nat.zero_le _) (Nat.zero_le _)) (fun H locs hw => ?_)
  refine lv_istore_n (lv' := [(1, .int r_8), (0, .ref (ad 0))]) hx hb dX11_name_11 rfl hl (by decide) rfl (fun ls hl => ?_)
  refine lv_aload_n hx hb dX11_name_12 rfl (lv_at hl 1 rfl) ?_
  refine r_getR C hw (k := 0) (r := 1) dq_0 ln_0 rfl vc_11 inX11 (by decide) rfl gw2_113 dX11_name_13 ?_
  obtain ⟨S_16, r_16, h_16, hf⟩ := bd_some hf
  refine r_bv hw (r_runV (rest := []) C hw (m_X0_clear l D cA ad base fu 1 kBy_1 h_16) mvX0_clear gw3_33 ⟨rfl, rfl, Nat.le_of_ble_eq_true rfl, Nat.le_of_ble_eq_true rfl⟩ dq_1 ln_1 vc_0 rfl hl.1 rfl (Nat.le_of_ble_eq_true rfl) dX11_name_16 (Nat.zero_le _) (Nat.zero_le _)) (fun H locs hw => ?_)
  refine lv_iload_n hx hb dX11_name_19 rfl (lv_at hl 0 rfl) ?_
  refine lv_if_ne (tgt := 33) hx hb dX11_name_20 (by decide) (fun c_20 => ?_) (fun c_20 => ?_)
  · have hf := if_f hf c_20
    refine lv_aload_n hx hb dX11_name_33 rfl (lv_at hl 1 rfl) ?_
    refine r_getR C hw (k := 1) (r := 3) dq_0 ln_0 rfl vc_11 inX11 (by decide) rfl gw2_114 dX11_name_34 ?_
    obtain ⟨S_37, r_37, h_37, hf⟩ := bd_some hf
    refine r_bi hw (r_runV (rest := []) C hw (m_X3_size l D cA ad base fu h_37) mvX3_size gw3_71 ⟨rfl, rfl, Nat.le_of_ble_eq_true rfl, Nat.le_of_ble_eq_true rfl⟩ dq_3 ln_3 vc_3 rfl hl.1 rfl (Nat.le_of_ble_eq_true rfl) dX11_name_37 (Nat.zero_le _) (Nat.zero_le _)) (fun H locs hw => ?_)
    refine lv_aload_n hx hb dX11_name_40 rfl (lv_at hl 1 rfl) ?_
    refine r_getR C hw (k := 1) (r := 3) dq_0 ln_0 rfl vc_11 inX11 (by decide) rfl gw2_114 dX11_name_41 ?_
    refine lv_aload_n hx hb dX11_name_44 rfl (lv_at hl 1 rfl) ?_
    refine r_getR C hw (k := 2) (r := 7) dq_0 ln_0 rfl vc_11 inX11 (by decide) rfl gw2_115 dX11_name_45 ?_
    obtain ⟨S_48, r_48, h_48, hf⟩ := bd_some hf
    refine r_bi hw (r_runV (rest := [.int r_37]) C hw (m_X3_missing l D cA ad base fu h_48) mvX3_missing gw3_191 ⟨rfl, rfl, Nat.le_of_ble_eq_true rfl, Nat.le_of_ble_eq_true rfl⟩ dq_3 ln_3 vc_3 rfl hl.1 rfl (Nat.le_of_ble_eq_true rfl) dX11_name_48 (Nat.zero_le _) (Nat.zero_le _)) (fun H locs hw => ?_)
    refine lv_iadd hx hb dX11_name_51 ?_
    refine lv_sipush (v := (300 : Int32)) hx hb dX11_name_52 (by decide) ?_
    refine lv_icmp_le (tgt := 68) hx hb dX11_name_55 (by decide) (fun c_55 => ?_) (fun c_55 => ?_)
    · have hf := if_t hf c_55
      refine lv_aload_n hx hb dX11_name_68 rfl (lv_at hl 1 rfl) ?_
      refine r_getR C hw (k := 1) (r := 3) dq_0 ln_0 rfl vc_11 inX11 (by decide) rfl gw2_114 dX11_name_69 ?_
      refine lv_aload_n hx hb dX11_name_72 rfl (lv_at hl 1 rfl) ?_
      refine r_getR C hw (k := 2) (r := 7) dq_0 ln_0 rfl vc_11 inX11 (by decide) rfl gw2_115 dX11_name_73 ?_
      obtain ⟨S_76, r_76, h_76, hf⟩ := bd_some hf
      refine r_bi hw (r_runV (rest := []) C hw (m_X3_made l D cA ad base fu 7 kSp_7 h_76) mvX3_made gw3_211 ⟨rfl, rfl, Nat.le_of_ble_eq_true rfl, Nat.le_of_ble_eq_true rfl⟩ dq_3 ln_3 vc_3 rfl hl.1 rfl (Nat.le_of_ble_eq_true rfl) dX11_name_76 (Nat.zero_le _) (Nat.zero_le _)) (fun H locs hw => ?_)
      exact r_iret C hw hr hlocks (ot_ret hf) dX11_name_79
    · have hf := if_f hf c_55
      exact (no_thr hf).elim
  · have hf := if_t hf c_20
    exact (no_thr hf).elim
def rxX11_name : Room := { frames := 6, cells := 1, slots := 6, locals := 90 }
set_option maxHeartbeats 4000000 in
set_option maxRecDepth 100000 in
theorem n_X11_name (l : Launch) (hlt : l.stackTraces = false) (D : va_G) (cA : FieldType → ClassId) (ad : Nat → Nat) (base : Nat) (fu : Nat) {S S' : St} {k : Nat} {r : Int32} (hf : fX11_name fu S = some (S', (k + 1, r))) : vx_Met l yX11_name (GC yX11_name cX11_name 2 (some .int)) rxX11_name (va_Pc [.ref (ad 0)] (wd D cA ad base S)) QF (XQ D cA ad base S' (k + 1)) 1 6 (aB base) := by
  refine vx_ofW (cc := cX11_name) (maxL := 2) (ret := (some .int)) (by decide) rfl ?_
  intro p e s m args below meth c s₁ B hml ht hv
  obtain ⟨C, hw⟩ := CX.of (own := RX11) rfl B hml hv.2
  have hargs := hv.1
  have hr := B.returns
  have hlocks := B.notSynchronized
  have hx := C.1
  have hb := C.2.1
  have hl := lv_entry ([.ref (ad 0)]) (n := 2) (Nat.le_of_ble_eq_true rfl)
  rw [show entryFrame m args 2 = entryFrame m ([.ref (ad 0)] : List Value).toArray 2 from by rw [hargs], lg_entry_eq]
  generalize (lg_sl ([.ref (ad 0)]) ++ List.replicate (2 - (lg_sl ([.ref (ad 0)])).length) Slot.unset).toArray = ls at hl ⊢
  have hl : lv_has ls 2 [(0, .ref (ad 0))] := hl
  show W p l e rxX11_name s m args below meth c s.heap [] 0 0 _ _
  refine lv_aload_n hx hb dX11_name_0 rfl (lv_at hl 0 rfl) ?_
  refine r_getR C hw (k := 2) (r := 7) dq_0 ln_0 rfl vc_11 inX11 (by decide) rfl gw2_115 dX11_name_1 ?_
  refine lv_aload_n hx hb dX11_name_4 rfl (lv_at hl 0 rfl) ?_
  refine r_getR C hw (k := 0) (r := 1) dq_0 ln_0 rfl vc_11 inX11 (by decide) rfl gw2_113 dX11_name_5 ?_
  obtain ⟨S_8, r_8, h_8, hf⟩ := bd_some hf
  refine r_bi hw (r_runV (rest := []) C hw (m_X8_readText l D cA ad base fu h_8) mvX8_readText gw3_112 ⟨rfl, rfl, Nat.le_of_ble_eq_true rfl, Nat.le_of_ble_eq_true rfl⟩ dq_7 ln_7 vc_8 rfl hl.1 rfl (Nat.le_of_ble_eq_true rfl) dX11_name_8 (Nat.zero_le _) (Nat.zero_le _)) (fun H locs hw => ?_)
  refine lv_istore_n (lv' := [(1, .int r_8), (0, .ref (ad 0))]) hx hb dX11_name_11 rfl hl (by decide) rfl (fun ls hl => ?_)
  refine lv_aload_n hx hb dX11_name_12 rfl (lv_at hl 1 rfl) ?_
  refine r_getR C hw (k := 0) (r := 1) dq_0 ln_0 rfl vc_11 inX11 (by decide) rfl gw2_113 dX11_name_13 ?_
  obtain ⟨S_16, r_16, h_16, hf⟩ := bd_some hf
  refine r_bv hw (r_runV (rest := []) C hw (m_X0_clear l D cA ad base fu 1 kBy_1 h_16) mvX0_clear gw3_33 ⟨rfl, rfl, Nat.le_of_ble_eq_true rfl, Nat.le_of_ble_eq_true rfl⟩ dq_1 ln_1 vc_0 rfl hl.1 rfl (Nat.le_of_ble_eq_true rfl) dX11_name_16 (Nat.zero_le _) (Nat.zero_le _)) (fun H locs hw => ?_)
  refine lv_iload_n hx hb dX11_name_19 rfl (lv_at hl 0 rfl) ?_
  refine lv_if_ne (tgt := 33) hx hb dX11_name_20 (by decide) (fun c_20 => ?_) (fun c_20 => ?_)
  · have hf := if_f hf c_20
    refine lv_aload_n hx hb dX11_name_33 rfl (lv_at hl 1 rfl) ?_
    refine r_getR C hw (k := 1) (r := 3) dq_0 ln_0 rfl vc_11 inX11 (by decide) rfl gw2_114 dX11_name_34 ?_
    obtain ⟨S_37, r_37, h_37, hf⟩ := bd_some hf
    refine r_bi hw (r_runV (rest := []) C hw (m_X3_size l D cA ad base fu h_37) mvX3_size gw3_71 ⟨rfl, rfl, Nat.le_of_ble_eq_true rfl, Nat.le_of_ble_eq_true rfl⟩ dq_3 ln_3 vc_3 rfl hl.1 rfl (Nat.le_of_ble_eq_true rfl) dX11_name_37 (Nat.zero_le _) (Nat.zero_le _)) (fun H locs hw => ?_)
    refine lv_aload_n hx hb dX11_name_40 rfl (lv_at hl 1 rfl) ?_
    refine r_getR C hw (k := 1) (r := 3) dq_0 ln_0 rfl vc_11 inX11 (by decide) rfl gw2_114 dX11_name_41 ?_
    refine lv_aload_n hx hb dX11_name_44 rfl (lv_at hl 1 rfl) ?_
    refine r_getR C hw (k := 2) (r := 7) dq_0 ln_0 rfl vc_11 inX11 (by decide) rfl gw2_115 dX11_name_45 ?_
    obtain ⟨S_48, r_48, h_48, hf⟩ := bd_some hf
    refine r_bi hw (r_runV (rest := [.int r_37]) C hw (m_X3_missing l D cA ad base fu h_48) mvX3_missing gw3_191 ⟨rfl, rfl, Nat.le_of_ble_eq_true rfl, Nat.le_of_ble_eq_true rfl⟩ dq_3 ln_3 vc_3 rfl hl.1 rfl (Nat.le_of_ble_eq_true rfl) dX11_name_48 (Nat.zero_le _) (Nat.zero_le _)) (fun H locs hw => ?_)
    refine lv_iadd hx hb dX11_name_51 ?_
    refine lv_sipush (v := (300 : Int32)) hx hb dX11_name_52 (by decide) ?_
    refine lv_icmp_le (tgt := 68) hx hb dX11_name_55 (by decide) (fun c_55 => ?_) (fun c_55 => ?_)
    · have hf := if_t hf c_55
      refine lv_aload_n hx hb dX11_name_68 rfl (lv_at hl 1 rfl) ?_
      refine r_getR C hw (k := 1) (r := 3) dq_0 ln_0 rfl vc_11 inX11 (by decide) rfl gw2_114 dX11_name_69 ?_
      refine lv_aload_n hx hb dX11_name_72 rfl (lv_at hl 1 rfl) ?_
      refine r_getR C hw (k := 2) (r := 7) dq_0 ln_0 rfl vc_11 inX11 (by decide) rfl gw2_115 dX11_name_73 ?_
      obtain ⟨S_76, r_76, h_76, hf⟩ := bd_some hf
      refine r_bi hw (r_runV (rest := []) C hw (m_X3_made l D cA ad base fu 7 kSp_7 h_76) mvX3_made gw3_211 ⟨rfl, rfl, Nat.le_of_ble_eq_true rfl, Nat.le_of_ble_eq_true rfl⟩ dq_3 ln_3 vc_3 rfl hl.1 rfl (Nat.le_of_ble_eq_true rfl) dX11_name_76 (Nat.zero_le _) (Nat.zero_le _)) (fun H locs hw => ?_)
      exact (no_ret hf).elim
    · have hf := if_f hf c_55
      exact r_throw C hw hlt ht hlocks hl.1 (k := 1) (is := 122) (text := "too many names") txUOE gw3_195 (by decide) rfl dX11_name_58 dX11_name_61 dX11_name_62 dX11_name_64 dX11_name_67 (Nat.le_of_ble_eq_true rfl) (Nat.le_of_ble_eq_true rfl) (Nat.le_of_ble_eq_true rfl) (Nat.le_of_ble_eq_true rfl) hf
  · have hf := if_t hf c_20
    exact r_throw C hw hlt ht hlocks hl.1 (k := 0) (is := 110) (text := "no text of a name") txIAE gw3_122 (by decide) rfl dX11_name_23 dX11_name_26 dX11_name_27 dX11_name_29 dX11_name_32 (Nat.le_of_ble_eq_true rfl) (Nat.le_of_ble_eq_true rfl) (Nat.le_of_ble_eq_true rfl) (Nat.le_of_ble_eq_true rfl) hf
noncomputable def fX11_needName (fu : Nat) (x1 : Int32) (S : St) : Option (St × Ot) :=
  bd (fX3_has fu x1 S) fun S_5 r_5 =>
  if r_5 = 0 then
    some (S_5, (3, (0 : Int32)))
  else
    some (S_5, (0, (0 : Int32)))
theorem mvX11_needName : MV yX11_needName cX11_needName 2 none RX11 1 := ⟨gw3_224, gw3_223, gs_9, gw1_1, by decide +kernel⟩
def rmX11_needName : Room := { frames := 1, cells := 0, slots := 0, locals := 21 }
set_option maxHeartbeats 4000000 in
set_option maxRecDepth 100000 in
theorem m_X11_needName (l : Launch) (D : va_G) (cA : FieldType → ClassId) (ad : Nat → Nat) (base : Nat) (fu : Nat) {S S' : St} {x1 : Int32} {r : Int32} (hf : fX11_needName fu x1 S = some (S', (0, r))) : Met l yX11_needName (GC yX11_needName cX11_needName 2 none) rmX11_needName (va_Pc [.ref (ad 0), .int x1] (wd D cA ad base S)) (QV D cA ad base S') 0 0 (aB base) := by
  refine Met.ofW (cc := cX11_needName) (maxL := 2) (ret := none) (by decide) rfl ?_
  intro p e s m args below meth c s₁ B hml hv
  obtain ⟨C, hw⟩ := CX.of (own := RX11) rfl B hml hv.2
  have hargs := hv.1
  have hr := B.returns
  have hlocks := B.notSynchronized
  have hx := C.1
  have hb := C.2.1
  have hl := lv_entry ([.ref (ad 0), .int x1]) (n := 2) (Nat.le_of_ble_eq_true rfl)
  rw [show entryFrame m args 2 = entryFrame m ([.ref (ad 0), .int x1] : List Value).toArray 2 from by rw [hargs], lg_entry_eq]
  generalize (lg_sl ([.ref (ad 0), .int x1]) ++ List.replicate (2 - (lg_sl ([.ref (ad 0), .int x1])).length) Slot.unset).toArray = ls at hl ⊢
  have hl : lv_has ls 2 [(0, .ref (ad 0)), (1, .int x1)] := hl
  show W p l e rmX11_needName s m args below meth c s.heap [] 0 0 _ _
  refine lv_aload_n hx hb dX11_needName_0 rfl (lv_at hl 0 rfl) ?_
  refine r_getR C hw (k := 1) (r := 3) dq_0 ln_0 rfl vc_11 inX11 (by decide) rfl gw2_114 dX11_needName_1 ?_
  refine lv_iload_n hx hb dX11_needName_4 rfl (lv_at hl 1 rfl) ?_
  obtain ⟨S_5, r_5, h_5, hf⟩ := bd_some hf
  refine r_bi hw (r_runV (rest := []) C hw (m_X3_has l D cA ad base fu h_5) mvX3_has gw3_225 ⟨rfl, rfl, Nat.le_of_ble_eq_true rfl, Nat.le_of_ble_eq_true rfl⟩ dq_3 ln_3 vc_3 rfl hl.1 rfl (Nat.le_of_ble_eq_true rfl) dX11_needName_5 (Nat.zero_le _) (Nat.zero_le _)) (fun H locs hw => ?_)
  refine lv_if_ne (tgt := 22) hx hb dX11_needName_8 (by decide) (fun c_8 => ?_) (fun c_8 => ?_)
  · have hf := if_f hf c_8
    exact r_vret C hw hr hlocks (ot_ret hf) dX11_needName_22
  · have hf := if_t hf c_8
    exact (no_thr hf).elim
def rxX11_needName : Room := { frames := 6, cells := 1, slots := 6, locals := 90 }
set_option maxHeartbeats 4000000 in
set_option maxRecDepth 100000 in
theorem n_X11_needName (l : Launch) (hlt : l.stackTraces = false) (D : va_G) (cA : FieldType → ClassId) (ad : Nat → Nat) (base : Nat) (fu : Nat) {S S' : St} {x1 : Int32} {k : Nat} {r : Int32} (hf : fX11_needName fu x1 S = some (S', (k + 1, r))) : vx_Met l yX11_needName (GC yX11_needName cX11_needName 2 none) rxX11_needName (va_Pc [.ref (ad 0), .int x1] (wd D cA ad base S)) QF (XQ D cA ad base S' (k + 1)) 1 6 (aB base) := by
  refine vx_ofW (cc := cX11_needName) (maxL := 2) (ret := none) (by decide) rfl ?_
  intro p e s m args below meth c s₁ B hml ht hv
  obtain ⟨C, hw⟩ := CX.of (own := RX11) rfl B hml hv.2
  have hargs := hv.1
  have hr := B.returns
  have hlocks := B.notSynchronized
  have hx := C.1
  have hb := C.2.1
  have hl := lv_entry ([.ref (ad 0), .int x1]) (n := 2) (Nat.le_of_ble_eq_true rfl)
  rw [show entryFrame m args 2 = entryFrame m ([.ref (ad 0), .int x1] : List Value).toArray 2 from by rw [hargs], lg_entry_eq]
  generalize (lg_sl ([.ref (ad 0), .int x1]) ++ List.replicate (2 - (lg_sl ([.ref (ad 0), .int x1])).length) Slot.unset).toArray = ls at hl ⊢
  have hl : lv_has ls 2 [(0, .ref (ad 0)), (1, .int x1)] := hl
  show W p l e rxX11_needName s m args below meth c s.heap [] 0 0 _ _
  refine lv_aload_n hx hb dX11_needName_0 rfl (lv_at hl 0 rfl) ?_
  refine r_getR C hw (k := 1) (r := 3) dq_0 ln_0 rfl vc_11 inX11 (by decide) rfl gw2_114 dX11_needName_1 ?_
  refine lv_iload_n hx hb dX11_needName_4 rfl (lv_at hl 1 rfl) ?_
  obtain ⟨S_5, r_5, h_5, hf⟩ := bd_some hf
  refine r_bi hw (r_runV (rest := []) C hw (m_X3_has l D cA ad base fu h_5) mvX3_has gw3_225 ⟨rfl, rfl, Nat.le_of_ble_eq_true rfl, Nat.le_of_ble_eq_true rfl⟩ dq_3 ln_3 vc_3 rfl hl.1 rfl (Nat.le_of_ble_eq_true rfl) dX11_needName_5 (Nat.zero_le _) (Nat.zero_le _)) (fun H locs hw => ?_)
  refine lv_if_ne (tgt := 22) hx hb dX11_needName_8 (by decide) (fun c_8 => ?_) (fun c_8 => ?_)
  · have hf := if_f hf c_8
    exact (no_ret hf).elim
  · have hf := if_t hf c_8
    exact r_throwW C hw hlt ht hlocks hl.1 (k := 2) (is := 359) (text := "no such name") txIOB gw3_229 (by decide) rfl dX11_needName_11 dX11_needName_14 dX11_needName_15 dX11_needName_18 dX11_needName_21 (Nat.le_of_ble_eq_true rfl) (Nat.le_of_ble_eq_true rfl) (Nat.le_of_ble_eq_true rfl) (Nat.le_of_ble_eq_true rfl) hf
noncomputable def fX11_look (fu : Nat) (x1 : Int32) (x2 : Int32) (S : St) : Option (St × Ot) :=
  bx (fX11_needName fu x1 S) fun S_2 _ =>
  if x2 = (0 : Int32) then
    bd (fX3_depth fu x1 S_2) fun S_37 r_37 =>
    some (S_37, (0, r_37))
  else
  if x2 = (1 : Int32) then
    bd (fX3_above fu x1 S_2) fun S_46 r_46 =>
    some (S_46, (0, r_46))
  else
  if x2 = (2 : Int32) then
    bd (fX3_textSize fu x1 S_2) fun S_55 r_55 =>
    some (S_55, (0, r_55))
  else
    some (S_2, (4, (0 : Int32)))
theorem mvX11_look : MV yX11_look cX11_look 3 (some .int) RX11 2 := ⟨gw3_220, gw3_218, gw3_219, gw1_1, by decide +kernel⟩
def rmX11_look : Room := { frames := 2, cells := 0, slots := 0, locals := 45 }
set_option maxHeartbeats 4000000 in
set_option maxRecDepth 100000 in
theorem m_X11_look (l : Launch) (D : va_G) (cA : FieldType → ClassId) (ad : Nat → Nat) (base : Nat) (fu : Nat) {S S' : St} {x1 : Int32} {x2 : Int32} {r : Int32} (hf : fX11_look fu x1 x2 S = some (S', (0, r))) : Met l yX11_look (GC yX11_look cX11_look 3 (some .int)) rmX11_look (va_Pc [.ref (ad 0), .int x1, .int x2] (wd D cA ad base S)) (QI D cA ad base S' r) 0 0 (aB base) := by
  refine Met.ofW (cc := cX11_look) (maxL := 3) (ret := (some .int)) (by decide) rfl ?_
  intro p e s m args below meth c s₁ B hml hv
  obtain ⟨C, hw⟩ := CX.of (own := RX11) rfl B hml hv.2
  have hargs := hv.1
  have hr := B.returns
  have hlocks := B.notSynchronized
  have hx := C.1
  have hb := C.2.1
  have hl := lv_entry ([.ref (ad 0), .int x1, .int x2]) (n := 3) (Nat.le_of_ble_eq_true rfl)
  rw [show entryFrame m args 3 = entryFrame m ([.ref (ad 0), .int x1, .int x2] : List Value).toArray 3 from by rw [hargs], lg_entry_eq]
  generalize (lg_sl ([.ref (ad 0), .int x1, .int x2]) ++ List.replicate (3 - (lg_sl ([.ref (ad 0), .int x1, .int x2])).length) Slot.unset).toArray = ls at hl ⊢
  have hl : lv_has ls 3 [(0, .ref (ad 0)), (1, .int x1), (2, .int x2)] := hl
  show W p l e rmX11_look s m args below meth c s.heap [] 0 0 _ _
  refine lv_aload_n hx hb dX11_look_0 rfl (lv_at hl 0 rfl) ?_
  refine lv_iload_n hx hb dX11_look_1 rfl (lv_at hl 1 rfl) ?_
  obtain ⟨S_2, r_2, h_2, hf⟩ := bx_ret hf
  refine r_bv hw (r_runV (rest := []) C hw (m_X11_needName l D cA ad base fu h_2) mvX11_needName gw3_221 ⟨rfl, rfl, Nat.le_of_ble_eq_true rfl, Nat.le_of_ble_eq_true rfl⟩ dq_0 ln_0 vc_11 rfl hl.1 rfl (Nat.le_of_ble_eq_true rfl) dX11_look_2 (Nat.zero_le _) (Nat.zero_le _)) (fun H locs hw => ?_)
  refine lv_iload_n hx hb dX11_look_5 rfl (lv_at hl 2 rfl) ?_
  by_cases c_6_0 : x2 = (0 : Int32)
  · have hf := if_t hf c_6_0
    refine lv_tableIn (tgt := 32) hx hb dX11_look_6 (by rw [c_6_0]; decide) (by rw [c_6_0]; decide) (off := 26) (by rw [c_6_0]; rfl) (by decide) ?_
    refine lv_aload_n hx hb dX11_look_32 rfl (lv_at hl 0 rfl) ?_
    refine r_getR C hw (k := 1) (r := 3) dq_0 ln_0 rfl vc_11 inX11 (by decide) rfl gw2_114 dX11_look_33 ?_
    refine lv_iload_n hx hb dX11_look_36 rfl (lv_at hl 1 rfl) ?_
    obtain ⟨S_37, r_37, h_37, hf⟩ := bd_some hf
    refine r_bi hw (r_runV (rest := []) C hw (m_X3_depth l D cA ad base fu h_37) mvX3_depth gw4_5 ⟨rfl, rfl, Nat.le_of_ble_eq_true rfl, Nat.le_of_ble_eq_true rfl⟩ dq_3 ln_3 vc_3 rfl hl.1 rfl (Nat.le_of_ble_eq_true rfl) dX11_look_37 (Nat.zero_le _) (Nat.zero_le _)) (fun H locs hw => ?_)
    exact r_iret C hw hr hlocks (ot_ret hf) dX11_look_40
  have hf := if_f hf c_6_0
  by_cases c_6_1 : x2 = (1 : Int32)
  · have hf := if_t hf c_6_1
    refine lv_tableIn (tgt := 41) hx hb dX11_look_6 (by rw [c_6_1]; decide) (by rw [c_6_1]; decide) (off := 35) (by rw [c_6_1]; rfl) (by decide) ?_
    refine lv_aload_n hx hb dX11_look_41 rfl (lv_at hl 0 rfl) ?_
    refine r_getR C hw (k := 1) (r := 3) dq_0 ln_0 rfl vc_11 inX11 (by decide) rfl gw2_114 dX11_look_42 ?_
    refine lv_iload_n hx hb dX11_look_45 rfl (lv_at hl 1 rfl) ?_
    obtain ⟨S_46, r_46, h_46, hf⟩ := bd_some hf
    refine r_bi hw (r_runV (rest := []) C hw (m_X3_above l D cA ad base fu h_46) mvX3_above gw4_13 ⟨rfl, rfl, Nat.le_of_ble_eq_true rfl, Nat.le_of_ble_eq_true rfl⟩ dq_3 ln_3 vc_3 rfl hl.1 rfl (Nat.le_of_ble_eq_true rfl) dX11_look_46 (Nat.zero_le _) (Nat.zero_le _)) (fun H locs hw => ?_)
    exact r_iret C hw hr hlocks (ot_ret hf) dX11_look_49
  have hf := if_f hf c_6_1
  by_cases c_6_2 : x2 = (2 : Int32)
  · have hf := if_t hf c_6_2
    refine lv_tableIn (tgt := 50) hx hb dX11_look_6 (by rw [c_6_2]; decide) (by rw [c_6_2]; decide) (off := 44) (by rw [c_6_2]; rfl) (by decide) ?_
    refine lv_aload_n hx hb dX11_look_50 rfl (lv_at hl 0 rfl) ?_
    refine r_getR C hw (k := 1) (r := 3) dq_0 ln_0 rfl vc_11 inX11 (by decide) rfl gw2_114 dX11_look_51 ?_
    refine lv_iload_n hx hb dX11_look_54 rfl (lv_at hl 1 rfl) ?_
    obtain ⟨S_55, r_55, h_55, hf⟩ := bd_some hf
    refine r_bi hw (r_runV (rest := []) C hw (m_X3_textSize l D cA ad base fu h_55) mvX3_textSize gw4_14 ⟨rfl, rfl, Nat.le_of_ble_eq_true rfl, Nat.le_of_ble_eq_true rfl⟩ dq_3 ln_3 vc_3 rfl hl.1 rfl (Nat.le_of_ble_eq_true rfl) dX11_look_55 (Nat.zero_le _) (Nat.zero_le _)) (fun H locs hw => ?_)
    exact r_iret C hw hr hlocks (ot_ret hf) dX11_look_58
  have hf := if_f hf c_6_2
  refine lv_tableOut (tgt := 59) hx hb dX11_look_6 (sw_out 3 (fun k hk => by rcases (show k = 0 ∨ k = 1 ∨ k = 2 by omega) with rfl | rfl | rfl <;> assumption)) (by decide) ?_
  exact (no_thr hf).elim
def rxX11_look : Room := { frames := 7, cells := 1, slots := 6, locals := 111 }
set_option maxHeartbeats 4000000 in
set_option maxRecDepth 100000 in
theorem n_X11_look (l : Launch) (hlt : l.stackTraces = false) (D : va_G) (cA : FieldType → ClassId) (ad : Nat → Nat) (base : Nat) (fu : Nat) {S S' : St} {x1 : Int32} {x2 : Int32} {k : Nat} {r : Int32} (hf : fX11_look fu x1 x2 S = some (S', (k + 1, r))) : vx_Met l yX11_look (GC yX11_look cX11_look 3 (some .int)) rxX11_look (va_Pc [.ref (ad 0), .int x1, .int x2] (wd D cA ad base S)) QF (XQ D cA ad base S' (k + 1)) 1 6 (aB base) := by
  refine vx_ofW (cc := cX11_look) (maxL := 3) (ret := (some .int)) (by decide) rfl ?_
  intro p e s m args below meth c s₁ B hml ht hv
  obtain ⟨C, hw⟩ := CX.of (own := RX11) rfl B hml hv.2
  have hargs := hv.1
  have hr := B.returns
  have hlocks := B.notSynchronized
  have hx := C.1
  have hb := C.2.1
  have hl := lv_entry ([.ref (ad 0), .int x1, .int x2]) (n := 3) (Nat.le_of_ble_eq_true rfl)
  rw [show entryFrame m args 3 = entryFrame m ([.ref (ad 0), .int x1, .int x2] : List Value).toArray 3 from by rw [hargs], lg_entry_eq]
  generalize (lg_sl ([.ref (ad 0), .int x1, .int x2]) ++ List.replicate (3 - (lg_sl ([.ref (ad 0), .int x1, .int x2])).length) Slot.unset).toArray = ls at hl ⊢
  have hl : lv_has ls 3 [(0, .ref (ad 0)), (1, .int x1), (2, .int x2)] := hl
  show W p l e rxX11_look s m args below meth c s.heap [] 0 0 _ _
  refine lv_aload_n hx hb dX11_look_0 rfl (lv_at hl 0 rfl) ?_
  refine lv_iload_n hx hb dX11_look_1 rfl (lv_at hl 1 rfl) ?_
  rcases bx_some hf with ⟨S_2, r_2, h_2, hf⟩ | ⟨h_2, -⟩
  rotate_left
  · refine r_xV (rest := []) C hw (n_X11_needName l hlt D cA ad base fu h_2) mvX11_needName gw3_221 ⟨rfl, rfl, Nat.le_of_ble_eq_true rfl, Nat.le_of_ble_eq_true rfl⟩ dq_0 ln_0 vc_11 rfl hl.1 rfl (Nat.le_of_ble_eq_true rfl) dX11_look_2 (Nat.le_of_ble_eq_true rfl) (Nat.le_of_ble_eq_true rfl) (fun ce q9 H locs hw hce hcv hcl => ?_)
    exact r_out C hw ht hlocks hce hcv hcl
  refine r_bv hw (r_runV (rest := []) C hw (m_X11_needName l D cA ad base fu h_2) mvX11_needName gw3_221 ⟨rfl, rfl, Nat.le_of_ble_eq_true rfl, Nat.le_of_ble_eq_true rfl⟩ dq_0 ln_0 vc_11 rfl hl.1 rfl (Nat.le_of_ble_eq_true rfl) dX11_look_2 (Nat.zero_le _) (Nat.zero_le _)) (fun H locs hw => ?_)
  refine lv_iload_n hx hb dX11_look_5 rfl (lv_at hl 2 rfl) ?_
  by_cases c_6_0 : x2 = (0 : Int32)
  · have hf := if_t hf c_6_0
    refine lv_tableIn (tgt := 32) hx hb dX11_look_6 (by rw [c_6_0]; decide) (by rw [c_6_0]; decide) (off := 26) (by rw [c_6_0]; rfl) (by decide) ?_
    refine lv_aload_n hx hb dX11_look_32 rfl (lv_at hl 0 rfl) ?_
    refine r_getR C hw (k := 1) (r := 3) dq_0 ln_0 rfl vc_11 inX11 (by decide) rfl gw2_114 dX11_look_33 ?_
    refine lv_iload_n hx hb dX11_look_36 rfl (lv_at hl 1 rfl) ?_
    obtain ⟨S_37, r_37, h_37, hf⟩ := bd_some hf
    refine r_bi hw (r_runV (rest := []) C hw (m_X3_depth l D cA ad base fu h_37) mvX3_depth gw4_5 ⟨rfl, rfl, Nat.le_of_ble_eq_true rfl, Nat.le_of_ble_eq_true rfl⟩ dq_3 ln_3 vc_3 rfl hl.1 rfl (Nat.le_of_ble_eq_true rfl) dX11_look_37 (Nat.zero_le _) (Nat.zero_le _)) (fun H locs hw => ?_)
    exact (no_ret hf).elim
  have hf := if_f hf c_6_0
  by_cases c_6_1 : x2 = (1 : Int32)
  · have hf := if_t hf c_6_1
    refine lv_tableIn (tgt := 41) hx hb dX11_look_6 (by rw [c_6_1]; decide) (by rw [c_6_1]; decide) (off := 35) (by rw [c_6_1]; rfl) (by decide) ?_
    refine lv_aload_n hx hb dX11_look_41 rfl (lv_at hl 0 rfl) ?_
    refine r_getR C hw (k := 1) (r := 3) dq_0 ln_0 rfl vc_11 inX11 (by decide) rfl gw2_114 dX11_look_42 ?_
    refine lv_iload_n hx hb dX11_look_45 rfl (lv_at hl 1 rfl) ?_
    obtain ⟨S_46, r_46, h_46, hf⟩ := bd_some hf
    refine r_bi hw (r_runV (rest := []) C hw (m_X3_above l D cA ad base fu h_46) mvX3_above gw4_13 ⟨rfl, rfl, Nat.le_of_ble_eq_true rfl, Nat.le_of_ble_eq_true rfl⟩ dq_3 ln_3 vc_3 rfl hl.1 rfl (Nat.le_of_ble_eq_true rfl) dX11_look_46 (Nat.zero_le _) (Nat.zero_le _)) (fun H locs hw => ?_)
    exact (no_ret hf).elim
  have hf := if_f hf c_6_1
  by_cases c_6_2 : x2 = (2 : Int32)
  · have hf := if_t hf c_6_2
    refine lv_tableIn (tgt := 50) hx hb dX11_look_6 (by rw [c_6_2]; decide) (by rw [c_6_2]; decide) (off := 44) (by rw [c_6_2]; rfl) (by decide) ?_
    refine lv_aload_n hx hb dX11_look_50 rfl (lv_at hl 0 rfl) ?_
    refine r_getR C hw (k := 1) (r := 3) dq_0 ln_0 rfl vc_11 inX11 (by decide) rfl gw2_114 dX11_look_51 ?_
    refine lv_iload_n hx hb dX11_look_54 rfl (lv_at hl 1 rfl) ?_
    obtain ⟨S_55, r_55, h_55, hf⟩ := bd_some hf
    refine r_bi hw (r_runV (rest := []) C hw (m_X3_textSize l D cA ad base fu h_55) mvX3_textSize gw4_14 ⟨rfl, rfl, Nat.le_of_ble_eq_true rfl, Nat.le_of_ble_eq_true rfl⟩ dq_3 ln_3 vc_3 rfl hl.1 rfl (Nat.le_of_ble_eq_true rfl) dX11_look_55 (Nat.zero_le _) (Nat.zero_le _)) (fun H locs hw => ?_)
    exact (no_ret hf).elim
  have hf := if_f hf c_6_2
  refine lv_tableOut (tgt := 59) hx hb dX11_look_6 (sw_out 3 (fun k hk => by rcases (show k = 0 ∨ k = 1 ∨ k = 2 by omega) with rfl | rfl | rfl <;> assumption)) (by decide) ?_
  exact r_throwN C hw hlt ht hlocks hl.1 (is := 143) (text := "no such property of a name") gw4_22 (by decide) dX11_look_59 dX11_look_62 dX11_look_63 dX11_look_65 dX11_look_68 (Nat.le_of_ble_eq_true rfl) (Nat.le_of_ble_eq_true rfl) (Nat.le_of_ble_eq_true rfl) (Nat.le_of_ble_eq_true rfl) hf
noncomputable def fX11_text (fu : Nat) (x1 : Int32) (x2 : Int32) (S : St) : Option (St × Ot) :=
  bx (fX11_needName fu x1 S) fun S_2 _ =>
  bd (fX3_textByte fu x1 x2 S_2) fun S_11 r_11 =>
  some (S_11, (0, r_11))
theorem mvX11_text : MV yX11_text cX11_text 3 (some .int) RX11 2 := ⟨gw4_44, gw4_42, gw4_43, gw1_1, by decide +kernel⟩
def rmX11_text : Room := { frames := 3, cells := 0, slots := 0, locals := 70 }
set_option maxHeartbeats 4000000 in
set_option maxRecDepth 100000 in
theorem m_X11_text (l : Launch) (D : va_G) (cA : FieldType → ClassId) (ad : Nat → Nat) (base : Nat) (fu : Nat) {S S' : St} {x1 : Int32} {x2 : Int32} {r : Int32} (hf : fX11_text fu x1 x2 S = some (S', (0, r))) : Met l yX11_text (GC yX11_text cX11_text 3 (some .int)) rmX11_text (va_Pc [.ref (ad 0), .int x1, .int x2] (wd D cA ad base S)) (QI D cA ad base S' r) 0 0 (aB base) := by
  refine Met.ofW (cc := cX11_text) (maxL := 3) (ret := (some .int)) (by decide) rfl ?_
  intro p e s m args below meth c s₁ B hml hv
  obtain ⟨C, hw⟩ := CX.of (own := RX11) rfl B hml hv.2
  have hargs := hv.1
  have hr := B.returns
  have hlocks := B.notSynchronized
  have hx := C.1
  have hb := C.2.1
  have hl := lv_entry ([.ref (ad 0), .int x1, .int x2]) (n := 3) (Nat.le_of_ble_eq_true rfl)
  rw [show entryFrame m args 3 = entryFrame m ([.ref (ad 0), .int x1, .int x2] : List Value).toArray 3 from by rw [hargs], lg_entry_eq]
  generalize (lg_sl ([.ref (ad 0), .int x1, .int x2]) ++ List.replicate (3 - (lg_sl ([.ref (ad 0), .int x1, .int x2])).length) Slot.unset).toArray = ls at hl ⊢
  have hl : lv_has ls 3 [(0, .ref (ad 0)), (1, .int x1), (2, .int x2)] := hl
  show W p l e rmX11_text s m args below meth c s.heap [] 0 0 _ _
  refine lv_aload_n hx hb dX11_text_0 rfl (lv_at hl 0 rfl) ?_
  refine lv_iload_n hx hb dX11_text_1 rfl (lv_at hl 1 rfl) ?_
  obtain ⟨S_2, r_2, h_2, hf⟩ := bx_ret hf
  refine r_bv hw (r_runV (rest := []) C hw (m_X11_needName l D cA ad base fu h_2) mvX11_needName gw3_221 ⟨rfl, rfl, Nat.le_of_ble_eq_true rfl, Nat.le_of_ble_eq_true rfl⟩ dq_0 ln_0 vc_11 rfl hl.1 rfl (Nat.le_of_ble_eq_true rfl) dX11_text_2 (Nat.zero_le _) (Nat.zero_le _)) (fun H locs hw => ?_)
  refine lv_aload_n hx hb dX11_text_5 rfl (lv_at hl 0 rfl) ?_
  refine r_getR C hw (k := 1) (r := 3) dq_0 ln_0 rfl vc_11 inX11 (by decide) rfl gw2_114 dX11_text_6 ?_
  refine lv_iload_n hx hb dX11_text_9 rfl (lv_at hl 1 rfl) ?_
  refine lv_iload_n hx hb dX11_text_10 rfl (lv_at hl 2 rfl) ?_
  obtain ⟨S_11, r_11, h_11, hf⟩ := bd_some hf
  refine r_bi hw (r_runV (rest := []) C hw (m_X3_textByte l D cA ad base fu h_11) mvX3_textByte gw4_45 ⟨rfl, rfl, Nat.le_of_ble_eq_true rfl, Nat.le_of_ble_eq_true rfl⟩ dq_3 ln_3 vc_3 rfl hl.1 rfl (Nat.le_of_ble_eq_true rfl) dX11_text_11 (Nat.zero_le _) (Nat.zero_le _)) (fun H locs hw => ?_)
  exact r_iret C hw hr hlocks (ot_ret hf) dX11_text_14
def rxX11_text : Room := { frames := 7, cells := 1, slots := 6, locals := 111 }
set_option maxHeartbeats 4000000 in
set_option maxRecDepth 100000 in
theorem n_X11_text (l : Launch) (hlt : l.stackTraces = false) (D : va_G) (cA : FieldType → ClassId) (ad : Nat → Nat) (base : Nat) (fu : Nat) {S S' : St} {x1 : Int32} {x2 : Int32} {k : Nat} {r : Int32} (hf : fX11_text fu x1 x2 S = some (S', (k + 1, r))) : vx_Met l yX11_text (GC yX11_text cX11_text 3 (some .int)) rxX11_text (va_Pc [.ref (ad 0), .int x1, .int x2] (wd D cA ad base S)) QF (XQ D cA ad base S' (k + 1)) 1 6 (aB base) := by
  refine vx_ofW (cc := cX11_text) (maxL := 3) (ret := (some .int)) (by decide) rfl ?_
  intro p e s m args below meth c s₁ B hml ht hv
  obtain ⟨C, hw⟩ := CX.of (own := RX11) rfl B hml hv.2
  have hargs := hv.1
  have hr := B.returns
  have hlocks := B.notSynchronized
  have hx := C.1
  have hb := C.2.1
  have hl := lv_entry ([.ref (ad 0), .int x1, .int x2]) (n := 3) (Nat.le_of_ble_eq_true rfl)
  rw [show entryFrame m args 3 = entryFrame m ([.ref (ad 0), .int x1, .int x2] : List Value).toArray 3 from by rw [hargs], lg_entry_eq]
  generalize (lg_sl ([.ref (ad 0), .int x1, .int x2]) ++ List.replicate (3 - (lg_sl ([.ref (ad 0), .int x1, .int x2])).length) Slot.unset).toArray = ls at hl ⊢
  have hl : lv_has ls 3 [(0, .ref (ad 0)), (1, .int x1), (2, .int x2)] := hl
  show W p l e rxX11_text s m args below meth c s.heap [] 0 0 _ _
  refine lv_aload_n hx hb dX11_text_0 rfl (lv_at hl 0 rfl) ?_
  refine lv_iload_n hx hb dX11_text_1 rfl (lv_at hl 1 rfl) ?_
  rcases bx_some hf with ⟨S_2, r_2, h_2, hf⟩ | ⟨h_2, -⟩
  rotate_left
  · refine r_xV (rest := []) C hw (n_X11_needName l hlt D cA ad base fu h_2) mvX11_needName gw3_221 ⟨rfl, rfl, Nat.le_of_ble_eq_true rfl, Nat.le_of_ble_eq_true rfl⟩ dq_0 ln_0 vc_11 rfl hl.1 rfl (Nat.le_of_ble_eq_true rfl) dX11_text_2 (Nat.le_of_ble_eq_true rfl) (Nat.le_of_ble_eq_true rfl) (fun ce q9 H locs hw hce hcv hcl => ?_)
    exact r_out C hw ht hlocks hce hcv hcl
  refine r_bv hw (r_runV (rest := []) C hw (m_X11_needName l D cA ad base fu h_2) mvX11_needName gw3_221 ⟨rfl, rfl, Nat.le_of_ble_eq_true rfl, Nat.le_of_ble_eq_true rfl⟩ dq_0 ln_0 vc_11 rfl hl.1 rfl (Nat.le_of_ble_eq_true rfl) dX11_text_2 (Nat.zero_le _) (Nat.zero_le _)) (fun H locs hw => ?_)
  refine lv_aload_n hx hb dX11_text_5 rfl (lv_at hl 0 rfl) ?_
  refine r_getR C hw (k := 1) (r := 3) dq_0 ln_0 rfl vc_11 inX11 (by decide) rfl gw2_114 dX11_text_6 ?_
  refine lv_iload_n hx hb dX11_text_9 rfl (lv_at hl 1 rfl) ?_
  refine lv_iload_n hx hb dX11_text_10 rfl (lv_at hl 2 rfl) ?_
  obtain ⟨S_11, r_11, h_11, hf⟩ := bd_some hf
  refine r_bi hw (r_runV (rest := []) C hw (m_X3_textByte l D cA ad base fu h_11) mvX3_textByte gw4_45 ⟨rfl, rfl, Nat.le_of_ble_eq_true rfl, Nat.le_of_ble_eq_true rfl⟩ dq_3 ln_3 vc_3 rfl hl.1 rfl (Nat.le_of_ble_eq_true rfl) dX11_text_11 (Nat.zero_le _) (Nat.zero_le _)) (fun H locs hw => ?_)
  exact (no_ret hf).elim
noncomputable def fX11_zone_24 (fu : Nat) (S : St) : Option (St × Ot) :=
  some (S, (1, (0 : Int32)))
noncomputable def fX11_zone (fu : Nat) (x1 : Int32) (x2 : Int32) (S : St) : Option (St × Ot) :=
  bx (fX11_needName fu x1 S) fun S_2 _ =>
  bd (fX11_isLife fu x2 S_2) fun S_6 r_6 =>
  if r_6 = 0 then
    fX11_zone_24 fu S_6
  else
    bd (fX10_ofApex fu x1 S_6) fun S_17 r_17 =>
    if r_17 = (-1 : Int32) then
      bd (fX10_size fu S_17) fun S_38 r_38 =>
      if r_38 < (12 : Int32) then
        bd (fX10_open fu x1 x2 S_38) fun S_62 r_62 =>
        some (S_62, (0, r_62))
      else
        some (S_38, (2, (0 : Int32)))
    else
      fX11_zone_24 fu S_17
theorem mvX11_zone : MV yX11_zone cX11_zone 3 (some .int) RX11 2 := ⟨gw4_60, gw4_58, gw4_59, gw1_1, by decide +kernel⟩
def rmX11_zone : Room := { frames := 2, cells := 0, slots := 0, locals := 42 }
set_option maxHeartbeats 4000000 in
set_option maxRecDepth 100000 in
theorem m_X11_zone (l : Launch) (D : va_G) (cA : FieldType → ClassId) (ad : Nat → Nat) (base : Nat) (fu : Nat) {S S' : St} {x1 : Int32} {x2 : Int32} {r : Int32} (hf : fX11_zone fu x1 x2 S = some (S', (0, r))) : Met l yX11_zone (GC yX11_zone cX11_zone 3 (some .int)) rmX11_zone (va_Pc [.ref (ad 0), .int x1, .int x2] (wd D cA ad base S)) (QI D cA ad base S' r) 0 0 (aB base) := by
  refine Met.ofW (cc := cX11_zone) (maxL := 3) (ret := (some .int)) (by decide) rfl ?_
  intro p e s m args below meth c s₁ B hml hv
  obtain ⟨C, hw⟩ := CX.of (own := RX11) rfl B hml hv.2
  have hargs := hv.1
  have hr := B.returns
  have hlocks := B.notSynchronized
  have hx := C.1
  have hb := C.2.1
  have hl := lv_entry ([.ref (ad 0), .int x1, .int x2]) (n := 3) (Nat.le_of_ble_eq_true rfl)
  rw [show entryFrame m args 3 = entryFrame m ([.ref (ad 0), .int x1, .int x2] : List Value).toArray 3 from by rw [hargs], lg_entry_eq]
  generalize (lg_sl ([.ref (ad 0), .int x1, .int x2]) ++ List.replicate (3 - (lg_sl ([.ref (ad 0), .int x1, .int x2])).length) Slot.unset).toArray = ls at hl ⊢
  have hl : lv_has ls 3 [(0, .ref (ad 0)), (1, .int x1), (2, .int x2)] := hl
  have J_24 : ∀ (S : St) (H : Heap) (locs : List Loc) (ls : Array Slot), fX11_zone_24 fu S = some (S', (0, r)) → lv_has ls 3 [] → WS D cA ad base s S H locs → W p l e rmX11_zone s m args below meth c H locs 0 0 (MQ below (QI D cA ad base S' r) args s 0 0 (aB base)) (F0 m 24 ls []) := by
    intro  S H locs ls hf hl hw
    exact (no_thr hf).elim
  show W p l e rmX11_zone s m args below meth c s.heap [] 0 0 _ _
  refine lv_aload_n hx hb dX11_zone_0 rfl (lv_at hl 0 rfl) ?_
  refine lv_iload_n hx hb dX11_zone_1 rfl (lv_at hl 1 rfl) ?_
  obtain ⟨S_2, r_2, h_2, hf⟩ := bx_ret hf
  refine r_bv hw (r_runV (rest := []) C hw (m_X11_needName l D cA ad base fu h_2) mvX11_needName gw3_221 ⟨rfl, rfl, Nat.le_of_ble_eq_true rfl, Nat.le_of_ble_eq_true rfl⟩ dq_0 ln_0 vc_11 rfl hl.1 rfl (Nat.le_of_ble_eq_true rfl) dX11_zone_2 (Nat.zero_le _) (Nat.zero_le _)) (fun H locs hw => ?_)
  refine lv_iload_n hx hb dX11_zone_5 rfl (lv_at hl 2 rfl) ?_
  obtain ⟨S_6, r_6, h_6, hf⟩ := bd_some hf
  refine r_bi hw (r_runS (rest := []) C hw (m_X11_isLife l D cA ad base fu h_6) msX11_isLife gw4_61 ⟨rfl, rfl, Nat.le_of_ble_eq_true rfl, Nat.le_of_ble_eq_true rfl⟩ rfl hl.1 rfl (Nat.le_of_ble_eq_true rfl) dX11_zone_6 (Nat.zero_le _) (Nat.zero_le _)) (fun H locs hw => ?_)
  refine lv_if_eq (tgt := 24) hx hb dX11_zone_9 (by decide) (fun c_9 => ?_) (fun c_9 => ?_)
  · have hf := if_t hf c_9
    exact J_24 _ _ _ _ hf (lv_sub hl [] rfl) hw
  · have hf := if_f hf c_9
    refine lv_aload_n hx hb dX11_zone_12 rfl (lv_at hl 0 rfl) ?_
    refine r_getR C hw (k := 3) (r := 10) dq_0 ln_0 rfl vc_11 inX11 (by decide) rfl gw2_116 dX11_zone_13 ?_
    refine lv_iload_n hx hb dX11_zone_16 rfl (lv_at hl 1 rfl) ?_
    obtain ⟨S_17, r_17, h_17, hf⟩ := bd_some hf
    refine r_bi hw (r_runV (rest := []) C hw (m_X10_ofApex l D cA ad base fu h_17) mvX10_ofApex gw4_65 ⟨rfl, rfl, Nat.le_of_ble_eq_true rfl, Nat.le_of_ble_eq_true rfl⟩ dq_10 ln_10 vc_10 rfl hl.1 rfl (Nat.le_of_ble_eq_true rfl) dX11_zone_17 (Nat.zero_le _) (Nat.zero_le _)) (fun H locs hw => ?_)
    refine lv_iconst (v := (-1 : Int32)) hx hb dX11_zone_20 (by decide) ?_
    refine lv_icmp_eq (tgt := 34) hx hb dX11_zone_21 (by decide) (fun c_21 => ?_) (fun c_21 => ?_)
    · have hf := if_t hf c_21
      refine lv_aload_n hx hb dX11_zone_34 rfl (lv_at hl 0 rfl) ?_
      refine r_getR C hw (k := 3) (r := 10) dq_0 ln_0 rfl vc_11 inX11 (by decide) rfl gw2_116 dX11_zone_35 ?_
      obtain ⟨S_38, r_38, h_38, hf⟩ := bd_some hf
      refine r_bi hw (r_runV (rest := []) C hw (m_X10_size l D cA ad base fu h_38) mvX10_size gw3_75 ⟨rfl, rfl, Nat.le_of_ble_eq_true rfl, Nat.le_of_ble_eq_true rfl⟩ dq_10 ln_10 vc_10 rfl hl.1 rfl (Nat.le_of_ble_eq_true rfl) dX11_zone_38 (Nat.zero_le _) (Nat.zero_le _)) (fun H locs hw => ?_)
      refine lv_bipush (v := (12 : Int32)) hx hb dX11_zone_41 (by decide) ?_
      refine lv_icmp_lt (tgt := 56) hx hb dX11_zone_43 (by decide) (fun c_43 => ?_) (fun c_43 => ?_)
      · have hf := if_t hf c_43
        refine lv_aload_n hx hb dX11_zone_56 rfl (lv_at hl 0 rfl) ?_
        refine r_getR C hw (k := 3) (r := 10) dq_0 ln_0 rfl vc_11 inX11 (by decide) rfl gw2_116 dX11_zone_57 ?_
        refine lv_iload_n hx hb dX11_zone_60 rfl (lv_at hl 1 rfl) ?_
        refine lv_iload_n hx hb dX11_zone_61 rfl (lv_at hl 2 rfl) ?_
        obtain ⟨S_62, r_62, h_62, hf⟩ := bd_some hf
        refine r_bi hw (r_runV (rest := []) C hw (m_X10_open l D cA ad base fu h_62) mvX10_open gw4_71 ⟨rfl, rfl, Nat.le_of_ble_eq_true rfl, Nat.le_of_ble_eq_true rfl⟩ dq_10 ln_10 vc_10 rfl hl.1 rfl (Nat.le_of_ble_eq_true rfl) dX11_zone_62 (Nat.zero_le _) (Nat.zero_le _)) (fun H locs hw => ?_)
        exact r_iret C hw hr hlocks (ot_ret hf) dX11_zone_65
      · have hf := if_f hf c_43
        exact (no_thr hf).elim
    · have hf := if_f hf c_21
      exact J_24 _ _ _ _ hf (lv_sub hl [] rfl) hw
def rxX11_zone : Room := { frames := 7, cells := 1, slots := 6, locals := 111 }
set_option maxHeartbeats 4000000 in
set_option maxRecDepth 100000 in
theorem n_X11_zone (l : Launch) (hlt : l.stackTraces = false) (D : va_G) (cA : FieldType → ClassId) (ad : Nat → Nat) (base : Nat) (fu : Nat) {S S' : St} {x1 : Int32} {x2 : Int32} {k : Nat} {r : Int32} (hf : fX11_zone fu x1 x2 S = some (S', (k + 1, r))) : vx_Met l yX11_zone (GC yX11_zone cX11_zone 3 (some .int)) rxX11_zone (va_Pc [.ref (ad 0), .int x1, .int x2] (wd D cA ad base S)) QF (XQ D cA ad base S' (k + 1)) 1 6 (aB base) := by
  refine vx_ofW (cc := cX11_zone) (maxL := 3) (ret := (some .int)) (by decide) rfl ?_
  intro p e s m args below meth c s₁ B hml ht hv
  obtain ⟨C, hw⟩ := CX.of (own := RX11) rfl B hml hv.2
  have hargs := hv.1
  have hr := B.returns
  have hlocks := B.notSynchronized
  have hx := C.1
  have hb := C.2.1
  have hl := lv_entry ([.ref (ad 0), .int x1, .int x2]) (n := 3) (Nat.le_of_ble_eq_true rfl)
  rw [show entryFrame m args 3 = entryFrame m ([.ref (ad 0), .int x1, .int x2] : List Value).toArray 3 from by rw [hargs], lg_entry_eq]
  generalize (lg_sl ([.ref (ad 0), .int x1, .int x2]) ++ List.replicate (3 - (lg_sl ([.ref (ad 0), .int x1, .int x2])).length) Slot.unset).toArray = ls at hl ⊢
  have hl : lv_has ls 3 [(0, .ref (ad 0)), (1, .int x1), (2, .int x2)] := hl
  have J_24 : ∀ (S : St) (H : Heap) (locs : List Loc) (ls : Array Slot), fX11_zone_24 fu S = some (S', (k + 1, r)) → lv_has ls 3 [] → WS D cA ad base s S H locs → W p l e rxX11_zone s m args below meth c H locs 0 0 (vx_MQ below QF (XQ D cA ad base S' (k + 1)) args s 1 6 (aB base)) (F0 m 24 ls []) := by
    intro  S H locs ls hf hl hw
    exact r_throw C hw hlt ht hlocks hl.1 (k := 0) (is := 156) (text := "no minimum, or a zone of that apex is there") txIAE gw3_122 (by decide) rfl dX11_zone_24 dX11_zone_27 dX11_zone_28 dX11_zone_30 dX11_zone_33 (Nat.le_of_ble_eq_true rfl) (Nat.le_of_ble_eq_true rfl) (Nat.le_of_ble_eq_true rfl) (Nat.le_of_ble_eq_true rfl) hf
  show W p l e rxX11_zone s m args below meth c s.heap [] 0 0 _ _
  refine lv_aload_n hx hb dX11_zone_0 rfl (lv_at hl 0 rfl) ?_
  refine lv_iload_n hx hb dX11_zone_1 rfl (lv_at hl 1 rfl) ?_
  rcases bx_some hf with ⟨S_2, r_2, h_2, hf⟩ | ⟨h_2, -⟩
  rotate_left
  · refine r_xV (rest := []) C hw (n_X11_needName l hlt D cA ad base fu h_2) mvX11_needName gw3_221 ⟨rfl, rfl, Nat.le_of_ble_eq_true rfl, Nat.le_of_ble_eq_true rfl⟩ dq_0 ln_0 vc_11 rfl hl.1 rfl (Nat.le_of_ble_eq_true rfl) dX11_zone_2 (Nat.le_of_ble_eq_true rfl) (Nat.le_of_ble_eq_true rfl) (fun ce q9 H locs hw hce hcv hcl => ?_)
    exact r_out C hw ht hlocks hce hcv hcl
  refine r_bv hw (r_runV (rest := []) C hw (m_X11_needName l D cA ad base fu h_2) mvX11_needName gw3_221 ⟨rfl, rfl, Nat.le_of_ble_eq_true rfl, Nat.le_of_ble_eq_true rfl⟩ dq_0 ln_0 vc_11 rfl hl.1 rfl (Nat.le_of_ble_eq_true rfl) dX11_zone_2 (Nat.zero_le _) (Nat.zero_le _)) (fun H locs hw => ?_)
  refine lv_iload_n hx hb dX11_zone_5 rfl (lv_at hl 2 rfl) ?_
  obtain ⟨S_6, r_6, h_6, hf⟩ := bd_some hf
  refine r_bi hw (r_runS (rest := []) C hw (m_X11_isLife l D cA ad base fu h_6) msX11_isLife gw4_61 ⟨rfl, rfl, Nat.le_of_ble_eq_true rfl, Nat.le_of_ble_eq_true rfl⟩ rfl hl.1 rfl (Nat.le_of_ble_eq_true rfl) dX11_zone_6 (Nat.zero_le _) (Nat.zero_le _)) (fun H locs hw => ?_)
  refine lv_if_eq (tgt := 24) hx hb dX11_zone_9 (by decide) (fun c_9 => ?_) (fun c_9 => ?_)
  · have hf := if_t hf c_9
    exact J_24 _ _ _ _ hf (lv_sub hl [] rfl) hw
  · have hf := if_f hf c_9
    refine lv_aload_n hx hb dX11_zone_12 rfl (lv_at hl 0 rfl) ?_
    refine r_getR C hw (k := 3) (r := 10) dq_0 ln_0 rfl vc_11 inX11 (by decide) rfl gw2_116 dX11_zone_13 ?_
    refine lv_iload_n hx hb dX11_zone_16 rfl (lv_at hl 1 rfl) ?_
    obtain ⟨S_17, r_17, h_17, hf⟩ := bd_some hf
    refine r_bi hw (r_runV (rest := []) C hw (m_X10_ofApex l D cA ad base fu h_17) mvX10_ofApex gw4_65 ⟨rfl, rfl, Nat.le_of_ble_eq_true rfl, Nat.le_of_ble_eq_true rfl⟩ dq_10 ln_10 vc_10 rfl hl.1 rfl (Nat.le_of_ble_eq_true rfl) dX11_zone_17 (Nat.zero_le _) (Nat.zero_le _)) (fun H locs hw => ?_)
    refine lv_iconst (v := (-1 : Int32)) hx hb dX11_zone_20 (by decide) ?_
    refine lv_icmp_eq (tgt := 34) hx hb dX11_zone_21 (by decide) (fun c_21 => ?_) (fun c_21 => ?_)
    · have hf := if_t hf c_21
      refine lv_aload_n hx hb dX11_zone_34 rfl (lv_at hl 0 rfl) ?_
      refine r_getR C hw (k := 3) (r := 10) dq_0 ln_0 rfl vc_11 inX11 (by decide) rfl gw2_116 dX11_zone_35 ?_
      obtain ⟨S_38, r_38, h_38, hf⟩ := bd_some hf
      refine r_bi hw (r_runV (rest := []) C hw (m_X10_size l D cA ad base fu h_38) mvX10_size gw3_75 ⟨rfl, rfl, Nat.le_of_ble_eq_true rfl, Nat.le_of_ble_eq_true rfl⟩ dq_10 ln_10 vc_10 rfl hl.1 rfl (Nat.le_of_ble_eq_true rfl) dX11_zone_38 (Nat.zero_le _) (Nat.zero_le _)) (fun H locs hw => ?_)
      refine lv_bipush (v := (12 : Int32)) hx hb dX11_zone_41 (by decide) ?_
      refine lv_icmp_lt (tgt := 56) hx hb dX11_zone_43 (by decide) (fun c_43 => ?_) (fun c_43 => ?_)
      · have hf := if_t hf c_43
        refine lv_aload_n hx hb dX11_zone_56 rfl (lv_at hl 0 rfl) ?_
        refine r_getR C hw (k := 3) (r := 10) dq_0 ln_0 rfl vc_11 inX11 (by decide) rfl gw2_116 dX11_zone_57 ?_
        refine lv_iload_n hx hb dX11_zone_60 rfl (lv_at hl 1 rfl) ?_
        refine lv_iload_n hx hb dX11_zone_61 rfl (lv_at hl 2 rfl) ?_
        obtain ⟨S_62, r_62, h_62, hf⟩ := bd_some hf
        refine r_bi hw (r_runV (rest := []) C hw (m_X10_open l D cA ad base fu h_62) mvX10_open gw4_71 ⟨rfl, rfl, Nat.le_of_ble_eq_true rfl, Nat.le_of_ble_eq_true rfl⟩ dq_10 ln_10 vc_10 rfl hl.1 rfl (Nat.le_of_ble_eq_true rfl) dX11_zone_62 (Nat.zero_le _) (Nat.zero_le _)) (fun H locs hw => ?_)
        exact (no_ret hf).elim
      · have hf := if_f hf c_43
        exact r_throw C hw hlt ht hlocks hl.1 (k := 1) (is := 159) (text := "too many zones") txUOE gw3_195 (by decide) rfl dX11_zone_46 dX11_zone_49 dX11_zone_50 dX11_zone_52 dX11_zone_55 (Nat.le_of_ble_eq_true rfl) (Nat.le_of_ble_eq_true rfl) (Nat.le_of_ble_eq_true rfl) (Nat.le_of_ble_eq_true rfl) hf
    · have hf := if_f hf c_21
      exact J_24 _ _ _ _ hf (lv_sub hl [] rfl) hw
noncomputable def fX11_needZone (fu : Nat) (x1 : Int32) (S : St) : Option (St × Ot) :=
  bd (fX10_has fu x1 S) fun S_5 r_5 =>
  if r_5 = 0 then
    some (S_5, (3, (0 : Int32)))
  else
    some (S_5, (0, (0 : Int32)))
theorem mvX11_needZone : MV yX11_needZone cX11_needZone 2 none RX11 1 := ⟨gw4_85, gw4_84, gs_10, gw1_1, by decide +kernel⟩
def rmX11_needZone : Room := { frames := 1, cells := 0, slots := 0, locals := 21 }
set_option maxHeartbeats 4000000 in
set_option maxRecDepth 100000 in
theorem m_X11_needZone (l : Launch) (D : va_G) (cA : FieldType → ClassId) (ad : Nat → Nat) (base : Nat) (fu : Nat) {S S' : St} {x1 : Int32} {r : Int32} (hf : fX11_needZone fu x1 S = some (S', (0, r))) : Met l yX11_needZone (GC yX11_needZone cX11_needZone 2 none) rmX11_needZone (va_Pc [.ref (ad 0), .int x1] (wd D cA ad base S)) (QV D cA ad base S') 0 0 (aB base) := by
  refine Met.ofW (cc := cX11_needZone) (maxL := 2) (ret := none) (by decide) rfl ?_
  intro p e s m args below meth c s₁ B hml hv
  obtain ⟨C, hw⟩ := CX.of (own := RX11) rfl B hml hv.2
  have hargs := hv.1
  have hr := B.returns
  have hlocks := B.notSynchronized
  have hx := C.1
  have hb := C.2.1
  have hl := lv_entry ([.ref (ad 0), .int x1]) (n := 2) (Nat.le_of_ble_eq_true rfl)
  rw [show entryFrame m args 2 = entryFrame m ([.ref (ad 0), .int x1] : List Value).toArray 2 from by rw [hargs], lg_entry_eq]
  generalize (lg_sl ([.ref (ad 0), .int x1]) ++ List.replicate (2 - (lg_sl ([.ref (ad 0), .int x1])).length) Slot.unset).toArray = ls at hl ⊢
  have hl : lv_has ls 2 [(0, .ref (ad 0)), (1, .int x1)] := hl
  show W p l e rmX11_needZone s m args below meth c s.heap [] 0 0 _ _
  refine lv_aload_n hx hb dX11_needZone_0 rfl (lv_at hl 0 rfl) ?_
  refine r_getR C hw (k := 3) (r := 10) dq_0 ln_0 rfl vc_11 inX11 (by decide) rfl gw2_116 dX11_needZone_1 ?_
  refine lv_iload_n hx hb dX11_needZone_4 rfl (lv_at hl 1 rfl) ?_
  obtain ⟨S_5, r_5, h_5, hf⟩ := bd_some hf
  refine r_bi hw (r_runV (rest := []) C hw (m_X10_has l D cA ad base fu h_5) mvX10_has gw4_86 ⟨rfl, rfl, Nat.le_of_ble_eq_true rfl, Nat.le_of_ble_eq_true rfl⟩ dq_10 ln_10 vc_10 rfl hl.1 rfl (Nat.le_of_ble_eq_true rfl) dX11_needZone_5 (Nat.zero_le _) (Nat.zero_le _)) (fun H locs hw => ?_)
  refine lv_if_ne (tgt := 22) hx hb dX11_needZone_8 (by decide) (fun c_8 => ?_) (fun c_8 => ?_)
  · have hf := if_f hf c_8
    exact r_vret C hw hr hlocks (ot_ret hf) dX11_needZone_22
  · have hf := if_t hf c_8
    exact (no_thr hf).elim
def rxX11_needZone : Room := { frames := 6, cells := 1, slots := 6, locals := 90 }
set_option maxHeartbeats 4000000 in
set_option maxRecDepth 100000 in
theorem n_X11_needZone (l : Launch) (hlt : l.stackTraces = false) (D : va_G) (cA : FieldType → ClassId) (ad : Nat → Nat) (base : Nat) (fu : Nat) {S S' : St} {x1 : Int32} {k : Nat} {r : Int32} (hf : fX11_needZone fu x1 S = some (S', (k + 1, r))) : vx_Met l yX11_needZone (GC yX11_needZone cX11_needZone 2 none) rxX11_needZone (va_Pc [.ref (ad 0), .int x1] (wd D cA ad base S)) QF (XQ D cA ad base S' (k + 1)) 1 6 (aB base) := by
  refine vx_ofW (cc := cX11_needZone) (maxL := 2) (ret := none) (by decide) rfl ?_
  intro p e s m args below meth c s₁ B hml ht hv
  obtain ⟨C, hw⟩ := CX.of (own := RX11) rfl B hml hv.2
  have hargs := hv.1
  have hr := B.returns
  have hlocks := B.notSynchronized
  have hx := C.1
  have hb := C.2.1
  have hl := lv_entry ([.ref (ad 0), .int x1]) (n := 2) (Nat.le_of_ble_eq_true rfl)
  rw [show entryFrame m args 2 = entryFrame m ([.ref (ad 0), .int x1] : List Value).toArray 2 from by rw [hargs], lg_entry_eq]
  generalize (lg_sl ([.ref (ad 0), .int x1]) ++ List.replicate (2 - (lg_sl ([.ref (ad 0), .int x1])).length) Slot.unset).toArray = ls at hl ⊢
  have hl : lv_has ls 2 [(0, .ref (ad 0)), (1, .int x1)] := hl
  show W p l e rxX11_needZone s m args below meth c s.heap [] 0 0 _ _
  refine lv_aload_n hx hb dX11_needZone_0 rfl (lv_at hl 0 rfl) ?_
  refine r_getR C hw (k := 3) (r := 10) dq_0 ln_0 rfl vc_11 inX11 (by decide) rfl gw2_116 dX11_needZone_1 ?_
  refine lv_iload_n hx hb dX11_needZone_4 rfl (lv_at hl 1 rfl) ?_
  obtain ⟨S_5, r_5, h_5, hf⟩ := bd_some hf
  refine r_bi hw (r_runV (rest := []) C hw (m_X10_has l D cA ad base fu h_5) mvX10_has gw4_86 ⟨rfl, rfl, Nat.le_of_ble_eq_true rfl, Nat.le_of_ble_eq_true rfl⟩ dq_10 ln_10 vc_10 rfl hl.1 rfl (Nat.le_of_ble_eq_true rfl) dX11_needZone_5 (Nat.zero_le _) (Nat.zero_le _)) (fun H locs hw => ?_)
  refine lv_if_ne (tgt := 22) hx hb dX11_needZone_8 (by decide) (fun c_8 => ?_) (fun c_8 => ?_)
  · have hf := if_f hf c_8
    exact (no_ret hf).elim
  · have hf := if_t hf c_8
    exact r_throwW C hw hlt ht hlocks hl.1 (k := 2) (is := 363) (text := "no such zone") txIOB gw3_229 (by decide) rfl dX11_needZone_11 dX11_needZone_14 dX11_needZone_15 dX11_needZone_18 dX11_needZone_21 (Nat.le_of_ble_eq_true rfl) (Nat.le_of_ble_eq_true rfl) (Nat.le_of_ble_eq_true rfl) (Nat.le_of_ble_eq_true rfl) hf
noncomputable def fX11_record_44 (fu : Nat) (S : St) : Option (St × Ot) :=
  some (S, (1, (0 : Int32)))
noncomputable def fX11_record_83 (fu : Nat) (x1 : Int32) (x2 : Int32) (x3 : Int32) (x4 : Int32) (x5 : Int32) (S : St) : Option (St × Ot) :=
  bd (fX10_records fu S) fun S_87 r_87 =>
  if r_87 < (150 : Int32) then
    bd (fX10_add fu x1 x2 x3 x4 x5 S_87) fun S_117 _ =>
    bd (fX10_recordsOf fu x1 S_117) fun S_125 r_125 =>
    some (S_125, (0, r_125))
  else
    some (S_87, (2, (0 : Int32)))
noncomputable def fX11_record (fu : Nat) (x1 : Int32) (x2 : Int32) (x3 : Int32) (x4 : Int32) (x5 : Int32) (S : St) : Option (St × Ot) :=
  bx (fX11_needZone fu x1 S) fun S_2 _ =>
  bx (fX11_needName fu x2 S_2) fun S_7 _ =>
  bd (fX10_apexOf fu x1 S_7) fun S_20 r_20 =>
  bd (fX3_isIn fu x2 r_20 S_20) fun S_23 r_23 =>
  if r_23 = 0 then
    fX11_record_44 fu S_23
  else
    bd (fX11_isKept fu x3 S_23) fun S_30 r_30 =>
    if r_30 = 0 then
      fX11_record_44 fu S_30
    else
      bd (fX11_isLife fu x5 S_30) fun S_38 r_38 =>
      if r_38 = 0 then
        fX11_record_44 fu S_38
      else
        bd (fX11_isNamed fu x3 S_38) fun S_55 r_55 =>
        if r_55 = 0 then
          fX11_record_83 fu x1 x2 x3 x4 x5 S_55
        else
          bd (fX3_has fu x4 S_55) fun S_67 r_67 =>
          if r_67 = 0 then
            some (S_67, (1, (0 : Int32)))
          else
            fX11_record_83 fu x1 x2 x3 x4 x5 S_67
theorem mvX11_record : MV yX11_record cX11_record 6 (some .int) RX11 5 := ⟨gw4_81, gw4_79, gw4_80, gw1_1, by decide +kernel⟩
def rmX11_record : Room := { frames := 2, cells := 0, slots := 0, locals := 45 }
set_option maxHeartbeats 4000000 in
set_option maxRecDepth 100000 in
theorem m_X11_record (l : Launch) (D : va_G) (cA : FieldType → ClassId) (ad : Nat → Nat) (base : Nat) (fu : Nat) {S S' : St} {x1 : Int32} {x2 : Int32} {x3 : Int32} {x4 : Int32} {x5 : Int32} {r : Int32} (hf : fX11_record fu x1 x2 x3 x4 x5 S = some (S', (0, r))) : Met l yX11_record (GC yX11_record cX11_record 6 (some .int)) rmX11_record (va_Pc [.ref (ad 0), .int x1, .int x2, .int x3, .int x4, .int x5] (wd D cA ad base S)) (QI D cA ad base S' r) 0 0 (aB base) := by
  refine Met.ofW (cc := cX11_record) (maxL := 6) (ret := (some .int)) (by decide) rfl ?_
  intro p e s m args below meth c s₁ B hml hv
  obtain ⟨C, hw⟩ := CX.of (own := RX11) rfl B hml hv.2
  have hargs := hv.1
  have hr := B.returns
  have hlocks := B.notSynchronized
  have hx := C.1
  have hb := C.2.1
  have hl := lv_entry ([.ref (ad 0), .int x1, .int x2, .int x3, .int x4, .int x5]) (n := 6) (Nat.le_of_ble_eq_true rfl)
  rw [show entryFrame m args 6 = entryFrame m ([.ref (ad 0), .int x1, .int x2, .int x3, .int x4, .int x5] : List Value).toArray 6 from by rw [hargs], lg_entry_eq]
  generalize (lg_sl ([.ref (ad 0), .int x1, .int x2, .int x3, .int x4, .int x5]) ++ List.replicate (6 - (lg_sl ([.ref (ad 0), .int x1, .int x2, .int x3, .int x4, .int x5])).length) Slot.unset).toArray = ls at hl ⊢
  have hl : lv_has ls 6 [(0, .ref (ad 0)), (1, .int x1), (2, .int x2), (3, .int x3), (4, .int x4), (5, .int x5)] := hl
  have J_44 : ∀ (S : St) (H : Heap) (locs : List Loc) (ls : Array Slot), fX11_record_44 fu S = some (S', (0, r)) → lv_has ls 6 [] → WS D cA ad base s S H locs → W p l e rmX11_record s m args below meth c H locs 0 0 (MQ below (QI D cA ad base S' r) args s 0 0 (aB base)) (F0 m 44 ls []) := by
    intro  S H locs ls hf hl hw
    exact (no_thr hf).elim
  have J_83 : ∀ (x1 : Int32) (x2 : Int32) (x3 : Int32) (x4 : Int32) (x5 : Int32) (S : St) (H : Heap) (locs : List Loc) (ls : Array Slot), fX11_record_83 fu x1 x2 x3 x4 x5 S = some (S', (0, r)) → lv_has ls 6 [(0, .ref (ad 0)), (1, .int x1), (2, .int x2), (3, .int x3), (4, .int x4), (5, .int x5)] → WS D cA ad base s S H locs → W p l e rmX11_record s m args below meth c H locs 0 0 (MQ below (QI D cA ad base S' r) args s 0 0 (aB base)) (F0 m 83 ls []) := by
    intro x1 x2 x3 x4 x5 S H locs ls hf hl hw
    refine lv_aload_n hx hb dX11_record_83 rfl (lv_at hl 0 rfl) ?_
    refine r_getR C hw (k := 3) (r := 10) dq_0 ln_0 rfl vc_11 inX11 (by decide) rfl gw2_116 dX11_record_84 ?_
    obtain ⟨S_87, r_87, h_87, hf⟩ := bd_some hf
    refine r_bi hw (r_runV (rest := []) C hw (m_X10_records l D cA ad base fu h_87) mvX10_records gw3_79 ⟨rfl, rfl, Nat.le_of_ble_eq_true rfl, Nat.le_of_ble_eq_true rfl⟩ dq_10 ln_10 vc_10 rfl hl.1 rfl (Nat.le_of_ble_eq_true rfl) dX11_record_87 (Nat.zero_le _) (Nat.zero_le _)) (fun H locs hw => ?_)
    refine lv_sipush (v := (150 : Int32)) hx hb dX11_record_90 (by decide) ?_
    refine lv_icmp_lt (tgt := 106) hx hb dX11_record_93 (by decide) (fun c_93 => ?_) (fun c_93 => ?_)
    · have hf := if_t hf c_93
      refine lv_aload_n hx hb dX11_record_106 rfl (lv_at hl 0 rfl) ?_
      refine r_getR C hw (k := 3) (r := 10) dq_0 ln_0 rfl vc_11 inX11 (by decide) rfl gw2_116 dX11_record_107 ?_
      refine lv_iload_n hx hb dX11_record_110 rfl (lv_at hl 1 rfl) ?_
      refine lv_iload_n hx hb dX11_record_111 rfl (lv_at hl 2 rfl) ?_
      refine lv_iload_n hx hb dX11_record_112 rfl (lv_at hl 3 rfl) ?_
      refine lv_iload hx hb dX11_record_113 (lv_at hl 4 rfl) ?_
      refine lv_iload hx hb dX11_record_115 (lv_at hl 5 rfl) ?_
      obtain ⟨S_117, r_117, h_117, hf⟩ := bd_some hf
      refine r_bv hw (r_runV (rest := []) C hw (m_X10_add l D cA ad base fu h_117) mvX10_add gw4_105 ⟨rfl, rfl, Nat.le_of_ble_eq_true rfl, Nat.le_of_ble_eq_true rfl⟩ dq_10 ln_10 vc_10 rfl hl.1 rfl (Nat.le_of_ble_eq_true rfl) dX11_record_117 (Nat.zero_le _) (Nat.zero_le _)) (fun H locs hw => ?_)
      refine lv_aload_n hx hb dX11_record_120 rfl (lv_at hl 0 rfl) ?_
      refine r_getR C hw (k := 3) (r := 10) dq_0 ln_0 rfl vc_11 inX11 (by decide) rfl gw2_116 dX11_record_121 ?_
      refine lv_iload_n hx hb dX11_record_124 rfl (lv_at hl 1 rfl) ?_
      obtain ⟨S_125, r_125, h_125, hf⟩ := bd_some hf
      refine r_bi hw (r_runV (rest := []) C hw (m_X10_recordsOf l D cA ad base fu h_125) mvX10_recordsOf gw4_109 ⟨rfl, rfl, Nat.le_of_ble_eq_true rfl, Nat.le_of_ble_eq_true rfl⟩ dq_10 ln_10 vc_10 rfl hl.1 rfl (Nat.le_of_ble_eq_true rfl) dX11_record_125 (Nat.zero_le _) (Nat.zero_le _)) (fun H locs hw => ?_)
      exact r_iret C hw hr hlocks (ot_ret hf) dX11_record_128
    · have hf := if_f hf c_93
      exact (no_thr hf).elim
  show W p l e rmX11_record s m args below meth c s.heap [] 0 0 _ _
  refine lv_aload_n hx hb dX11_record_0 rfl (lv_at hl 0 rfl) ?_
  refine lv_iload_n hx hb dX11_record_1 rfl (lv_at hl 1 rfl) ?_
  obtain ⟨S_2, r_2, h_2, hf⟩ := bx_ret hf
  refine r_bv hw (r_runV (rest := []) C hw (m_X11_needZone l D cA ad base fu h_2) mvX11_needZone gw4_82 ⟨rfl, rfl, Nat.le_of_ble_eq_true rfl, Nat.le_of_ble_eq_true rfl⟩ dq_0 ln_0 vc_11 rfl hl.1 rfl (Nat.le_of_ble_eq_true rfl) dX11_record_2 (Nat.zero_le _) (Nat.zero_le _)) (fun H locs hw => ?_)
  refine lv_aload_n hx hb dX11_record_5 rfl (lv_at hl 0 rfl) ?_
  refine lv_iload_n hx hb dX11_record_6 rfl (lv_at hl 2 rfl) ?_
  obtain ⟨S_7, r_7, h_7, hf⟩ := bx_ret hf
  refine r_bv hw (r_runV (rest := []) C hw (m_X11_needName l D cA ad base fu h_7) mvX11_needName gw3_221 ⟨rfl, rfl, Nat.le_of_ble_eq_true rfl, Nat.le_of_ble_eq_true rfl⟩ dq_0 ln_0 vc_11 rfl hl.1 rfl (Nat.le_of_ble_eq_true rfl) dX11_record_7 (Nat.zero_le _) (Nat.zero_le _)) (fun H locs hw => ?_)
  refine lv_aload_n hx hb dX11_record_10 rfl (lv_at hl 0 rfl) ?_
  refine r_getR C hw (k := 1) (r := 3) dq_0 ln_0 rfl vc_11 inX11 (by decide) rfl gw2_114 dX11_record_11 ?_
  refine lv_iload_n hx hb dX11_record_14 rfl (lv_at hl 2 rfl) ?_
  refine lv_aload_n hx hb dX11_record_15 rfl (lv_at hl 0 rfl) ?_
  refine r_getR C hw (k := 3) (r := 10) dq_0 ln_0 rfl vc_11 inX11 (by decide) rfl gw2_116 dX11_record_16 ?_
  refine lv_iload_n hx hb dX11_record_19 rfl (lv_at hl 1 rfl) ?_
  obtain ⟨S_20, r_20, h_20, hf⟩ := bd_some hf
  refine r_bi hw (r_runV (rest := [.int x2, .ref (ad 3)]) C hw (m_X10_apexOf l D cA ad base fu h_20) mvX10_apexOf gw4_91 ⟨rfl, rfl, Nat.le_of_ble_eq_true rfl, Nat.le_of_ble_eq_true rfl⟩ dq_10 ln_10 vc_10 rfl hl.1 rfl (Nat.le_of_ble_eq_true rfl) dX11_record_20 (Nat.zero_le _) (Nat.zero_le _)) (fun H locs hw => ?_)
  obtain ⟨S_23, r_23, h_23, hf⟩ := bd_some hf
  refine r_bi hw (r_runV (rest := []) C hw (m_X3_isIn l D cA ad base fu h_23) mvX3_isIn gw4_96 ⟨rfl, rfl, Nat.le_of_ble_eq_true rfl, Nat.le_of_ble_eq_true rfl⟩ dq_3 ln_3 vc_3 rfl hl.1 rfl (Nat.le_of_ble_eq_true rfl) dX11_record_23 (Nat.zero_le _) (Nat.zero_le _)) (fun H locs hw => ?_)
  refine lv_if_eq (tgt := 44) hx hb dX11_record_26 (by decide) (fun c_26 => ?_) (fun c_26 => ?_)
  · have hf := if_t hf c_26
    exact J_44 _ _ _ _ hf (lv_sub hl [] rfl) hw
  · have hf := if_f hf c_26
    refine lv_iload_n hx hb dX11_record_29 rfl (lv_at hl 3 rfl) ?_
    obtain ⟨S_30, r_30, h_30, hf⟩ := bd_some hf
    refine r_bi hw (r_runS (rest := []) C hw (m_X11_isKept l D cA ad base fu h_30) msX11_isKept gw4_100 ⟨rfl, rfl, Nat.le_of_ble_eq_true rfl, Nat.le_of_ble_eq_true rfl⟩ rfl hl.1 rfl (Nat.le_of_ble_eq_true rfl) dX11_record_30 (Nat.zero_le _) (Nat.zero_le _)) (fun H locs hw => ?_)
    refine lv_if_eq (tgt := 44) hx hb dX11_record_33 (by decide) (fun c_33 => ?_) (fun c_33 => ?_)
    · have hf := if_t hf c_33
      exact J_44 _ _ _ _ hf (lv_sub hl [] rfl) hw
    · have hf := if_f hf c_33
      refine lv_iload hx hb dX11_record_36 (lv_at hl 5 rfl) ?_
      obtain ⟨S_38, r_38, h_38, hf⟩ := bd_some hf
      refine r_bi hw (r_runS (rest := []) C hw (m_X11_isLife l D cA ad base fu h_38) msX11_isLife gw4_61 ⟨rfl, rfl, Nat.le_of_ble_eq_true rfl, Nat.le_of_ble_eq_true rfl⟩ rfl hl.1 rfl (Nat.le_of_ble_eq_true rfl) dX11_record_38 (Nat.zero_le _) (Nat.zero_le _)) (fun H locs hw => ?_)
      refine lv_if_ne (tgt := 54) hx hb dX11_record_41 (by decide) (fun c_41 => ?_) (fun c_41 => ?_)
      · have hf := if_f hf c_41
        refine lv_iload_n hx hb dX11_record_54 rfl (lv_at hl 3 rfl) ?_
        obtain ⟨S_55, r_55, h_55, hf⟩ := bd_some hf
        refine r_bi hw (r_runS (rest := []) C hw (m_X11_isNamed l D cA ad base fu h_55) msX11_isNamed gw4_102 ⟨rfl, rfl, Nat.le_of_ble_eq_true rfl, Nat.le_of_ble_eq_true rfl⟩ rfl hl.1 rfl (Nat.le_of_ble_eq_true rfl) dX11_record_55 (Nat.zero_le _) (Nat.zero_le _)) (fun H locs hw => ?_)
        refine lv_if_eq (tgt := 83) hx hb dX11_record_58 (by decide) (fun c_58 => ?_) (fun c_58 => ?_)
        · have hf := if_t hf c_58
          exact J_83 _ _ _ _ _ _ _ _ _ hf (lv_sub hl [0, 1, 2, 3, 4, 5] rfl) hw
        · have hf := if_f hf c_58
          refine lv_aload_n hx hb dX11_record_61 rfl (lv_at hl 0 rfl) ?_
          refine r_getR C hw (k := 1) (r := 3) dq_0 ln_0 rfl vc_11 inX11 (by decide) rfl gw2_114 dX11_record_62 ?_
          refine lv_iload hx hb dX11_record_65 (lv_at hl 4 rfl) ?_
          obtain ⟨S_67, r_67, h_67, hf⟩ := bd_some hf
          refine r_bi hw (r_runV (rest := []) C hw (m_X3_has l D cA ad base fu h_67) mvX3_has gw3_225 ⟨rfl, rfl, Nat.le_of_ble_eq_true rfl, Nat.le_of_ble_eq_true rfl⟩ dq_3 ln_3 vc_3 rfl hl.1 rfl (Nat.le_of_ble_eq_true rfl) dX11_record_67 (Nat.zero_le _) (Nat.zero_le _)) (fun H locs hw => ?_)
          refine lv_if_ne (tgt := 83) hx hb dX11_record_70 (by decide) (fun c_70 => ?_) (fun c_70 => ?_)
          · have hf := if_f hf c_70
            exact J_83 _ _ _ _ _ _ _ _ _ hf (lv_sub hl [0, 1, 2, 3, 4, 5] rfl) hw
          · have hf := if_t hf c_70
            exact (no_thr hf).elim
      · have hf := if_t hf c_41
        exact J_44 _ _ _ _ hf (lv_sub hl [] rfl) hw
def rxX11_record : Room := { frames := 7, cells := 1, slots := 6, locals := 111 }
set_option maxHeartbeats 4000000 in
set_option maxRecDepth 100000 in
theorem n_X11_record (l : Launch) (hlt : l.stackTraces = false) (D : va_G) (cA : FieldType → ClassId) (ad : Nat → Nat) (base : Nat) (fu : Nat) {S S' : St} {x1 : Int32} {x2 : Int32} {x3 : Int32} {x4 : Int32} {x5 : Int32} {k : Nat} {r : Int32} (hf : fX11_record fu x1 x2 x3 x4 x5 S = some (S', (k + 1, r))) : vx_Met l yX11_record (GC yX11_record cX11_record 6 (some .int)) rxX11_record (va_Pc [.ref (ad 0), .int x1, .int x2, .int x3, .int x4, .int x5] (wd D cA ad base S)) QF (XQ D cA ad base S' (k + 1)) 1 6 (aB base) := by
  refine vx_ofW (cc := cX11_record) (maxL := 6) (ret := (some .int)) (by decide) rfl ?_
  intro p e s m args below meth c s₁ B hml ht hv
  obtain ⟨C, hw⟩ := CX.of (own := RX11) rfl B hml hv.2
  have hargs := hv.1
  have hr := B.returns
  have hlocks := B.notSynchronized
  have hx := C.1
  have hb := C.2.1
  have hl := lv_entry ([.ref (ad 0), .int x1, .int x2, .int x3, .int x4, .int x5]) (n := 6) (Nat.le_of_ble_eq_true rfl)
  rw [show entryFrame m args 6 = entryFrame m ([.ref (ad 0), .int x1, .int x2, .int x3, .int x4, .int x5] : List Value).toArray 6 from by rw [hargs], lg_entry_eq]
  generalize (lg_sl ([.ref (ad 0), .int x1, .int x2, .int x3, .int x4, .int x5]) ++ List.replicate (6 - (lg_sl ([.ref (ad 0), .int x1, .int x2, .int x3, .int x4, .int x5])).length) Slot.unset).toArray = ls at hl ⊢
  have hl : lv_has ls 6 [(0, .ref (ad 0)), (1, .int x1), (2, .int x2), (3, .int x3), (4, .int x4), (5, .int x5)] := hl
  have J_44 : ∀ (S : St) (H : Heap) (locs : List Loc) (ls : Array Slot), fX11_record_44 fu S = some (S', (k + 1, r)) → lv_has ls 6 [] → WS D cA ad base s S H locs → W p l e rxX11_record s m args below meth c H locs 0 0 (vx_MQ below QF (XQ D cA ad base S' (k + 1)) args s 1 6 (aB base)) (F0 m 44 ls []) := by
    intro  S H locs ls hf hl hw
    exact r_throw C hw hlt ht hlocks hl.1 (k := 0) (is := 176) (text := "no such owner, type or life in a zone") txIAE gw3_122 (by decide) rfl dX11_record_44 dX11_record_47 dX11_record_48 dX11_record_50 dX11_record_53 (Nat.le_of_ble_eq_true rfl) (Nat.le_of_ble_eq_true rfl) (Nat.le_of_ble_eq_true rfl) (Nat.le_of_ble_eq_true rfl) hf
  have J_83 : ∀ (x1 : Int32) (x2 : Int32) (x3 : Int32) (x4 : Int32) (x5 : Int32) (S : St) (H : Heap) (locs : List Loc) (ls : Array Slot), fX11_record_83 fu x1 x2 x3 x4 x5 S = some (S', (k + 1, r)) → lv_has ls 6 [(0, .ref (ad 0)), (1, .int x1), (2, .int x2), (3, .int x3), (4, .int x4), (5, .int x5)] → WS D cA ad base s S H locs → W p l e rxX11_record s m args below meth c H locs 0 0 (vx_MQ below QF (XQ D cA ad base S' (k + 1)) args s 1 6 (aB base)) (F0 m 83 ls []) := by
    intro x1 x2 x3 x4 x5 S H locs ls hf hl hw
    refine lv_aload_n hx hb dX11_record_83 rfl (lv_at hl 0 rfl) ?_
    refine r_getR C hw (k := 3) (r := 10) dq_0 ln_0 rfl vc_11 inX11 (by decide) rfl gw2_116 dX11_record_84 ?_
    obtain ⟨S_87, r_87, h_87, hf⟩ := bd_some hf
    refine r_bi hw (r_runV (rest := []) C hw (m_X10_records l D cA ad base fu h_87) mvX10_records gw3_79 ⟨rfl, rfl, Nat.le_of_ble_eq_true rfl, Nat.le_of_ble_eq_true rfl⟩ dq_10 ln_10 vc_10 rfl hl.1 rfl (Nat.le_of_ble_eq_true rfl) dX11_record_87 (Nat.zero_le _) (Nat.zero_le _)) (fun H locs hw => ?_)
    refine lv_sipush (v := (150 : Int32)) hx hb dX11_record_90 (by decide) ?_
    refine lv_icmp_lt (tgt := 106) hx hb dX11_record_93 (by decide) (fun c_93 => ?_) (fun c_93 => ?_)
    · have hf := if_t hf c_93
      refine lv_aload_n hx hb dX11_record_106 rfl (lv_at hl 0 rfl) ?_
      refine r_getR C hw (k := 3) (r := 10) dq_0 ln_0 rfl vc_11 inX11 (by decide) rfl gw2_116 dX11_record_107 ?_
      refine lv_iload_n hx hb dX11_record_110 rfl (lv_at hl 1 rfl) ?_
      refine lv_iload_n hx hb dX11_record_111 rfl (lv_at hl 2 rfl) ?_
      refine lv_iload_n hx hb dX11_record_112 rfl (lv_at hl 3 rfl) ?_
      refine lv_iload hx hb dX11_record_113 (lv_at hl 4 rfl) ?_
      refine lv_iload hx hb dX11_record_115 (lv_at hl 5 rfl) ?_
      obtain ⟨S_117, r_117, h_117, hf⟩ := bd_some hf
      refine r_bv hw (r_runV (rest := []) C hw (m_X10_add l D cA ad base fu h_117) mvX10_add gw4_105 ⟨rfl, rfl, Nat.le_of_ble_eq_true rfl, Nat.le_of_ble_eq_true rfl⟩ dq_10 ln_10 vc_10 rfl hl.1 rfl (Nat.le_of_ble_eq_true rfl) dX11_record_117 (Nat.zero_le _) (Nat.zero_le _)) (fun H locs hw => ?_)
      refine lv_aload_n hx hb dX11_record_120 rfl (lv_at hl 0 rfl) ?_
      refine r_getR C hw (k := 3) (r := 10) dq_0 ln_0 rfl vc_11 inX11 (by decide) rfl gw2_116 dX11_record_121 ?_
      refine lv_iload_n hx hb dX11_record_124 rfl (lv_at hl 1 rfl) ?_
      obtain ⟨S_125, r_125, h_125, hf⟩ := bd_some hf
      refine r_bi hw (r_runV (rest := []) C hw (m_X10_recordsOf l D cA ad base fu h_125) mvX10_recordsOf gw4_109 ⟨rfl, rfl, Nat.le_of_ble_eq_true rfl, Nat.le_of_ble_eq_true rfl⟩ dq_10 ln_10 vc_10 rfl hl.1 rfl (Nat.le_of_ble_eq_true rfl) dX11_record_125 (Nat.zero_le _) (Nat.zero_le _)) (fun H locs hw => ?_)
      exact (no_ret hf).elim
    · have hf := if_f hf c_93
      exact r_throw C hw hlt ht hlocks hl.1 (k := 1) (is := 189) (text := "too many records") txUOE gw3_195 (by decide) rfl dX11_record_96 dX11_record_99 dX11_record_100 dX11_record_102 dX11_record_105 (Nat.le_of_ble_eq_true rfl) (Nat.le_of_ble_eq_true rfl) (Nat.le_of_ble_eq_true rfl) (Nat.le_of_ble_eq_true rfl) hf
  show W p l e rxX11_record s m args below meth c s.heap [] 0 0 _ _
  refine lv_aload_n hx hb dX11_record_0 rfl (lv_at hl 0 rfl) ?_
  refine lv_iload_n hx hb dX11_record_1 rfl (lv_at hl 1 rfl) ?_
  rcases bx_some hf with ⟨S_2, r_2, h_2, hf⟩ | ⟨h_2, -⟩
  rotate_left
  · refine r_xV (rest := []) C hw (n_X11_needZone l hlt D cA ad base fu h_2) mvX11_needZone gw4_82 ⟨rfl, rfl, Nat.le_of_ble_eq_true rfl, Nat.le_of_ble_eq_true rfl⟩ dq_0 ln_0 vc_11 rfl hl.1 rfl (Nat.le_of_ble_eq_true rfl) dX11_record_2 (Nat.le_of_ble_eq_true rfl) (Nat.le_of_ble_eq_true rfl) (fun ce q9 H locs hw hce hcv hcl => ?_)
    exact r_out C hw ht hlocks hce hcv hcl
  refine r_bv hw (r_runV (rest := []) C hw (m_X11_needZone l D cA ad base fu h_2) mvX11_needZone gw4_82 ⟨rfl, rfl, Nat.le_of_ble_eq_true rfl, Nat.le_of_ble_eq_true rfl⟩ dq_0 ln_0 vc_11 rfl hl.1 rfl (Nat.le_of_ble_eq_true rfl) dX11_record_2 (Nat.zero_le _) (Nat.zero_le _)) (fun H locs hw => ?_)
  refine lv_aload_n hx hb dX11_record_5 rfl (lv_at hl 0 rfl) ?_
  refine lv_iload_n hx hb dX11_record_6 rfl (lv_at hl 2 rfl) ?_
  rcases bx_some hf with ⟨S_7, r_7, h_7, hf⟩ | ⟨h_7, -⟩
  rotate_left
  · refine r_xV (rest := []) C hw (n_X11_needName l hlt D cA ad base fu h_7) mvX11_needName gw3_221 ⟨rfl, rfl, Nat.le_of_ble_eq_true rfl, Nat.le_of_ble_eq_true rfl⟩ dq_0 ln_0 vc_11 rfl hl.1 rfl (Nat.le_of_ble_eq_true rfl) dX11_record_7 (Nat.le_of_ble_eq_true rfl) (Nat.le_of_ble_eq_true rfl) (fun ce q9 H locs hw hce hcv hcl => ?_)
    exact r_out C hw ht hlocks hce hcv hcl
  refine r_bv hw (r_runV (rest := []) C hw (m_X11_needName l D cA ad base fu h_7) mvX11_needName gw3_221 ⟨rfl, rfl, Nat.le_of_ble_eq_true rfl, Nat.le_of_ble_eq_true rfl⟩ dq_0 ln_0 vc_11 rfl hl.1 rfl (Nat.le_of_ble_eq_true rfl) dX11_record_7 (Nat.zero_le _) (Nat.zero_le _)) (fun H locs hw => ?_)
  refine lv_aload_n hx hb dX11_record_10 rfl (lv_at hl 0 rfl) ?_
  refine r_getR C hw (k := 1) (r := 3) dq_0 ln_0 rfl vc_11 inX11 (by decide) rfl gw2_114 dX11_record_11 ?_
  refine lv_iload_n hx hb dX11_record_14 rfl (lv_at hl 2 rfl) ?_
  refine lv_aload_n hx hb dX11_record_15 rfl (lv_at hl 0 rfl) ?_
  refine r_getR C hw (k := 3) (r := 10) dq_0 ln_0 rfl vc_11 inX11 (by decide) rfl gw2_116 dX11_record_16 ?_
  refine lv_iload_n hx hb dX11_record_19 rfl (lv_at hl 1 rfl) ?_
  obtain ⟨S_20, r_20, h_20, hf⟩ := bd_some hf
  refine r_bi hw (r_runV (rest := [.int x2, .ref (ad 3)]) C hw (m_X10_apexOf l D cA ad base fu h_20) mvX10_apexOf gw4_91 ⟨rfl, rfl, Nat.le_of_ble_eq_true rfl, Nat.le_of_ble_eq_true rfl⟩ dq_10 ln_10 vc_10 rfl hl.1 rfl (Nat.le_of_ble_eq_true rfl) dX11_record_20 (Nat.zero_le _) (Nat.zero_le _)) (fun H locs hw => ?_)
  obtain ⟨S_23, r_23, h_23, hf⟩ := bd_some hf
  refine r_bi hw (r_runV (rest := []) C hw (m_X3_isIn l D cA ad base fu h_23) mvX3_isIn gw4_96 ⟨rfl, rfl, Nat.le_of_ble_eq_true rfl, Nat.le_of_ble_eq_true rfl⟩ dq_3 ln_3 vc_3 rfl hl.1 rfl (Nat.le_of_ble_eq_true rfl) dX11_record_23 (Nat.zero_le _) (Nat.zero_le _)) (fun H locs hw => ?_)
  refine lv_if_eq (tgt := 44) hx hb dX11_record_26 (by decide) (fun c_26 => ?_) (fun c_26 => ?_)
  · have hf := if_t hf c_26
    exact J_44 _ _ _ _ hf (lv_sub hl [] rfl) hw
  · have hf := if_f hf c_26
    refine lv_iload_n hx hb dX11_record_29 rfl (lv_at hl 3 rfl) ?_
    obtain ⟨S_30, r_30, h_30, hf⟩ := bd_some hf
    refine r_bi hw (r_runS (rest := []) C hw (m_X11_isKept l D cA ad base fu h_30) msX11_isKept gw4_100 ⟨rfl, rfl, Nat.le_of_ble_eq_true rfl, Nat.le_of_ble_eq_true rfl⟩ rfl hl.1 rfl (Nat.le_of_ble_eq_true rfl) dX11_record_30 (Nat.zero_le _) (Nat.zero_le _)) (fun H locs hw => ?_)
    refine lv_if_eq (tgt := 44) hx hb dX11_record_33 (by decide) (fun c_33 => ?_) (fun c_33 => ?_)
    · have hf := if_t hf c_33
      exact J_44 _ _ _ _ hf (lv_sub hl [] rfl) hw
    · have hf := if_f hf c_33
      refine lv_iload hx hb dX11_record_36 (lv_at hl 5 rfl) ?_
      obtain ⟨S_38, r_38, h_38, hf⟩ := bd_some hf
      refine r_bi hw (r_runS (rest := []) C hw (m_X11_isLife l D cA ad base fu h_38) msX11_isLife gw4_61 ⟨rfl, rfl, Nat.le_of_ble_eq_true rfl, Nat.le_of_ble_eq_true rfl⟩ rfl hl.1 rfl (Nat.le_of_ble_eq_true rfl) dX11_record_38 (Nat.zero_le _) (Nat.zero_le _)) (fun H locs hw => ?_)
      refine lv_if_ne (tgt := 54) hx hb dX11_record_41 (by decide) (fun c_41 => ?_) (fun c_41 => ?_)
      · have hf := if_f hf c_41
        refine lv_iload_n hx hb dX11_record_54 rfl (lv_at hl 3 rfl) ?_
        obtain ⟨S_55, r_55, h_55, hf⟩ := bd_some hf
        refine r_bi hw (r_runS (rest := []) C hw (m_X11_isNamed l D cA ad base fu h_55) msX11_isNamed gw4_102 ⟨rfl, rfl, Nat.le_of_ble_eq_true rfl, Nat.le_of_ble_eq_true rfl⟩ rfl hl.1 rfl (Nat.le_of_ble_eq_true rfl) dX11_record_55 (Nat.zero_le _) (Nat.zero_le _)) (fun H locs hw => ?_)
        refine lv_if_eq (tgt := 83) hx hb dX11_record_58 (by decide) (fun c_58 => ?_) (fun c_58 => ?_)
        · have hf := if_t hf c_58
          exact J_83 _ _ _ _ _ _ _ _ _ hf (lv_sub hl [0, 1, 2, 3, 4, 5] rfl) hw
        · have hf := if_f hf c_58
          refine lv_aload_n hx hb dX11_record_61 rfl (lv_at hl 0 rfl) ?_
          refine r_getR C hw (k := 1) (r := 3) dq_0 ln_0 rfl vc_11 inX11 (by decide) rfl gw2_114 dX11_record_62 ?_
          refine lv_iload hx hb dX11_record_65 (lv_at hl 4 rfl) ?_
          obtain ⟨S_67, r_67, h_67, hf⟩ := bd_some hf
          refine r_bi hw (r_runV (rest := []) C hw (m_X3_has l D cA ad base fu h_67) mvX3_has gw3_225 ⟨rfl, rfl, Nat.le_of_ble_eq_true rfl, Nat.le_of_ble_eq_true rfl⟩ dq_3 ln_3 vc_3 rfl hl.1 rfl (Nat.le_of_ble_eq_true rfl) dX11_record_67 (Nat.zero_le _) (Nat.zero_le _)) (fun H locs hw => ?_)
          refine lv_if_ne (tgt := 83) hx hb dX11_record_70 (by decide) (fun c_70 => ?_) (fun c_70 => ?_)
          · have hf := if_f hf c_70
            exact J_83 _ _ _ _ _ _ _ _ _ hf (lv_sub hl [0, 1, 2, 3, 4, 5] rfl) hw
          · have hf := if_t hf c_70
            exact r_throw C hw hlt ht hlocks hl.1 (k := 0) (is := 184) (text := "the data must be a name") txIAE gw3_122 (by decide) rfl dX11_record_73 dX11_record_76 dX11_record_77 dX11_record_79 dX11_record_82 (Nat.le_of_ble_eq_true rfl) (Nat.le_of_ble_eq_true rfl) (Nat.le_of_ble_eq_true rfl) (Nat.le_of_ble_eq_true rfl) hf
      · have hf := if_t hf c_41
        exact J_44 _ _ _ _ hf (lv_sub hl [] rfl) hw
noncomputable def fX11_drop (fu : Nat) (x1 : Int32) (x2 : Int32) (x3 : Int32) (S : St) : Option (St × Ot) :=
  bx (fX11_needZone fu x1 S) fun S_2 _ =>
  bx (fX11_needName fu x2 S_2) fun S_7 _ =>
  bd (fX10_remove fu x1 x2 x3 S_7) fun S_17 r_17 =>
  some (S_17, (0, r_17))
theorem mvX11_drop : MV yX11_drop cX11_drop 4 (some .int) RX11 3 := ⟨gw4_119, gw4_117, gw4_118, gw1_1, by decide +kernel⟩
def rmX11_drop : Room := { frames := 2, cells := 0, slots := 0, locals := 50 }
set_option maxHeartbeats 4000000 in
set_option maxRecDepth 100000 in
theorem m_X11_drop (l : Launch) (D : va_G) (cA : FieldType → ClassId) (ad : Nat → Nat) (base : Nat) (fu : Nat) {S S' : St} {x1 : Int32} {x2 : Int32} {x3 : Int32} {r : Int32} (hf : fX11_drop fu x1 x2 x3 S = some (S', (0, r))) : Met l yX11_drop (GC yX11_drop cX11_drop 4 (some .int)) rmX11_drop (va_Pc [.ref (ad 0), .int x1, .int x2, .int x3] (wd D cA ad base S)) (QI D cA ad base S' r) 0 0 (aB base) := by
  refine Met.ofW (cc := cX11_drop) (maxL := 4) (ret := (some .int)) (by decide) rfl ?_
  intro p e s m args below meth c s₁ B hml hv
  obtain ⟨C, hw⟩ := CX.of (own := RX11) rfl B hml hv.2
  have hargs := hv.1
  have hr := B.returns
  have hlocks := B.notSynchronized
  have hx := C.1
  have hb := C.2.1
  have hl := lv_entry ([.ref (ad 0), .int x1, .int x2, .int x3]) (n := 4) (Nat.le_of_ble_eq_true rfl)
  rw [show entryFrame m args 4 = entryFrame m ([.ref (ad 0), .int x1, .int x2, .int x3] : List Value).toArray 4 from by rw [hargs], lg_entry_eq]
  generalize (lg_sl ([.ref (ad 0), .int x1, .int x2, .int x3]) ++ List.replicate (4 - (lg_sl ([.ref (ad 0), .int x1, .int x2, .int x3])).length) Slot.unset).toArray = ls at hl ⊢
  have hl : lv_has ls 4 [(0, .ref (ad 0)), (1, .int x1), (2, .int x2), (3, .int x3)] := hl
  show W p l e rmX11_drop s m args below meth c s.heap [] 0 0 _ _
  refine lv_aload_n hx hb dX11_drop_0 rfl (lv_at hl 0 rfl) ?_
  refine lv_iload_n hx hb dX11_drop_1 rfl (lv_at hl 1 rfl) ?_
  obtain ⟨S_2, r_2, h_2, hf⟩ := bx_ret hf
  refine r_bv hw (r_runV (rest := []) C hw (m_X11_needZone l D cA ad base fu h_2) mvX11_needZone gw4_82 ⟨rfl, rfl, Nat.le_of_ble_eq_true rfl, Nat.le_of_ble_eq_true rfl⟩ dq_0 ln_0 vc_11 rfl hl.1 rfl (Nat.le_of_ble_eq_true rfl) dX11_drop_2 (Nat.zero_le _) (Nat.zero_le _)) (fun H locs hw => ?_)
  refine lv_aload_n hx hb dX11_drop_5 rfl (lv_at hl 0 rfl) ?_
  refine lv_iload_n hx hb dX11_drop_6 rfl (lv_at hl 2 rfl) ?_
  obtain ⟨S_7, r_7, h_7, hf⟩ := bx_ret hf
  refine r_bv hw (r_runV (rest := []) C hw (m_X11_needName l D cA ad base fu h_7) mvX11_needName gw3_221 ⟨rfl, rfl, Nat.le_of_ble_eq_true rfl, Nat.le_of_ble_eq_true rfl⟩ dq_0 ln_0 vc_11 rfl hl.1 rfl (Nat.le_of_ble_eq_true rfl) dX11_drop_7 (Nat.zero_le _) (Nat.zero_le _)) (fun H locs hw => ?_)
  refine lv_aload_n hx hb dX11_drop_10 rfl (lv_at hl 0 rfl) ?_
  refine r_getR C hw (k := 3) (r := 10) dq_0 ln_0 rfl vc_11 inX11 (by decide) rfl gw2_116 dX11_drop_11 ?_
  refine lv_iload_n hx hb dX11_drop_14 rfl (lv_at hl 1 rfl) ?_
  refine lv_iload_n hx hb dX11_drop_15 rfl (lv_at hl 2 rfl) ?_
  refine lv_iload_n hx hb dX11_drop_16 rfl (lv_at hl 3 rfl) ?_
  obtain ⟨S_17, r_17, h_17, hf⟩ := bd_some hf
  refine r_bi hw (r_runV (rest := []) C hw (m_X10_remove l D cA ad base fu h_17) mvX10_remove gw4_120 ⟨rfl, rfl, Nat.le_of_ble_eq_true rfl, Nat.le_of_ble_eq_true rfl⟩ dq_10 ln_10 vc_10 rfl hl.1 rfl (Nat.le_of_ble_eq_true rfl) dX11_drop_17 (Nat.zero_le _) (Nat.zero_le _)) (fun H locs hw => ?_)
  exact r_iret C hw hr hlocks (ot_ret hf) dX11_drop_20
def rxX11_drop : Room := { frames := 7, cells := 1, slots := 6, locals := 111 }
set_option maxHeartbeats 4000000 in
set_option maxRecDepth 100000 in
theorem n_X11_drop (l : Launch) (hlt : l.stackTraces = false) (D : va_G) (cA : FieldType → ClassId) (ad : Nat → Nat) (base : Nat) (fu : Nat) {S S' : St} {x1 : Int32} {x2 : Int32} {x3 : Int32} {k : Nat} {r : Int32} (hf : fX11_drop fu x1 x2 x3 S = some (S', (k + 1, r))) : vx_Met l yX11_drop (GC yX11_drop cX11_drop 4 (some .int)) rxX11_drop (va_Pc [.ref (ad 0), .int x1, .int x2, .int x3] (wd D cA ad base S)) QF (XQ D cA ad base S' (k + 1)) 1 6 (aB base) := by
  refine vx_ofW (cc := cX11_drop) (maxL := 4) (ret := (some .int)) (by decide) rfl ?_
  intro p e s m args below meth c s₁ B hml ht hv
  obtain ⟨C, hw⟩ := CX.of (own := RX11) rfl B hml hv.2
  have hargs := hv.1
  have hr := B.returns
  have hlocks := B.notSynchronized
  have hx := C.1
  have hb := C.2.1
  have hl := lv_entry ([.ref (ad 0), .int x1, .int x2, .int x3]) (n := 4) (Nat.le_of_ble_eq_true rfl)
  rw [show entryFrame m args 4 = entryFrame m ([.ref (ad 0), .int x1, .int x2, .int x3] : List Value).toArray 4 from by rw [hargs], lg_entry_eq]
  generalize (lg_sl ([.ref (ad 0), .int x1, .int x2, .int x3]) ++ List.replicate (4 - (lg_sl ([.ref (ad 0), .int x1, .int x2, .int x3])).length) Slot.unset).toArray = ls at hl ⊢
  have hl : lv_has ls 4 [(0, .ref (ad 0)), (1, .int x1), (2, .int x2), (3, .int x3)] := hl
  show W p l e rxX11_drop s m args below meth c s.heap [] 0 0 _ _
  refine lv_aload_n hx hb dX11_drop_0 rfl (lv_at hl 0 rfl) ?_
  refine lv_iload_n hx hb dX11_drop_1 rfl (lv_at hl 1 rfl) ?_
  rcases bx_some hf with ⟨S_2, r_2, h_2, hf⟩ | ⟨h_2, -⟩
  rotate_left
  · refine r_xV (rest := []) C hw (n_X11_needZone l hlt D cA ad base fu h_2) mvX11_needZone gw4_82 ⟨rfl, rfl, Nat.le_of_ble_eq_true rfl, Nat.le_of_ble_eq_true rfl⟩ dq_0 ln_0 vc_11 rfl hl.1 rfl (Nat.le_of_ble_eq_true rfl) dX11_drop_2 (Nat.le_of_ble_eq_true rfl) (Nat.le_of_ble_eq_true rfl) (fun ce q9 H locs hw hce hcv hcl => ?_)
    exact r_out C hw ht hlocks hce hcv hcl
  refine r_bv hw (r_runV (rest := []) C hw (m_X11_needZone l D cA ad base fu h_2) mvX11_needZone gw4_82 ⟨rfl, rfl, Nat.le_of_ble_eq_true rfl, Nat.le_of_ble_eq_true rfl⟩ dq_0 ln_0 vc_11 rfl hl.1 rfl (Nat.le_of_ble_eq_true rfl) dX11_drop_2 (Nat.zero_le _) (Nat.zero_le _)) (fun H locs hw => ?_)
  refine lv_aload_n hx hb dX11_drop_5 rfl (lv_at hl 0 rfl) ?_
  refine lv_iload_n hx hb dX11_drop_6 rfl (lv_at hl 2 rfl) ?_
  rcases bx_some hf with ⟨S_7, r_7, h_7, hf⟩ | ⟨h_7, -⟩
  rotate_left
  · refine r_xV (rest := []) C hw (n_X11_needName l hlt D cA ad base fu h_7) mvX11_needName gw3_221 ⟨rfl, rfl, Nat.le_of_ble_eq_true rfl, Nat.le_of_ble_eq_true rfl⟩ dq_0 ln_0 vc_11 rfl hl.1 rfl (Nat.le_of_ble_eq_true rfl) dX11_drop_7 (Nat.le_of_ble_eq_true rfl) (Nat.le_of_ble_eq_true rfl) (fun ce q9 H locs hw hce hcv hcl => ?_)
    exact r_out C hw ht hlocks hce hcv hcl
  refine r_bv hw (r_runV (rest := []) C hw (m_X11_needName l D cA ad base fu h_7) mvX11_needName gw3_221 ⟨rfl, rfl, Nat.le_of_ble_eq_true rfl, Nat.le_of_ble_eq_true rfl⟩ dq_0 ln_0 vc_11 rfl hl.1 rfl (Nat.le_of_ble_eq_true rfl) dX11_drop_7 (Nat.zero_le _) (Nat.zero_le _)) (fun H locs hw => ?_)
  refine lv_aload_n hx hb dX11_drop_10 rfl (lv_at hl 0 rfl) ?_
  refine r_getR C hw (k := 3) (r := 10) dq_0 ln_0 rfl vc_11 inX11 (by decide) rfl gw2_116 dX11_drop_11 ?_
  refine lv_iload_n hx hb dX11_drop_14 rfl (lv_at hl 1 rfl) ?_
  refine lv_iload_n hx hb dX11_drop_15 rfl (lv_at hl 2 rfl) ?_
  refine lv_iload_n hx hb dX11_drop_16 rfl (lv_at hl 3 rfl) ?_
  obtain ⟨S_17, r_17, h_17, hf⟩ := bd_some hf
  refine r_bi hw (r_runV (rest := []) C hw (m_X10_remove l D cA ad base fu h_17) mvX10_remove gw4_120 ⟨rfl, rfl, Nat.le_of_ble_eq_true rfl, Nat.le_of_ble_eq_true rfl⟩ dq_10 ln_10 vc_10 rfl hl.1 rfl (Nat.le_of_ble_eq_true rfl) dX11_drop_17 (Nat.zero_le _) (Nat.zero_le _)) (fun H locs hw => ?_)
  exact (no_ret hf).elim
noncomputable def fX11_server (fu : Nat) (x1 : Int32) (S : St) : Option (St × Ot) :=
  bd (fX7_ofAddress fu x1 S) fun S_5 r_5 =>
  if r_5 = (-1 : Int32) then
    bd (fX7_size fu S_5) fun S_26 r_26 =>
    if r_26 < (12 : Int32) then
      bd (fX7_open fu x1 S_26) fun S_49 r_49 =>
      some (S_49, (0, r_49))
    else
      some (S_26, (2, (0 : Int32)))
  else
    some (S_5, (1, (0 : Int32)))
theorem mvX11_server : MV yX11_server cX11_server 2 (some .int) RX11 1 := ⟨gw4_134, gw4_132, gw4_133, gw1_1, by decide +kernel⟩
def rmX11_server : Room := { frames := 1, cells := 0, slots := 0, locals := 22 }
set_option maxHeartbeats 4000000 in
set_option maxRecDepth 100000 in
theorem m_X11_server (l : Launch) (D : va_G) (cA : FieldType → ClassId) (ad : Nat → Nat) (base : Nat) (fu : Nat) {S S' : St} {x1 : Int32} {r : Int32} (hf : fX11_server fu x1 S = some (S', (0, r))) : Met l yX11_server (GC yX11_server cX11_server 2 (some .int)) rmX11_server (va_Pc [.ref (ad 0), .int x1] (wd D cA ad base S)) (QI D cA ad base S' r) 0 0 (aB base) := by
  refine Met.ofW (cc := cX11_server) (maxL := 2) (ret := (some .int)) (by decide) rfl ?_
  intro p e s m args below meth c s₁ B hml hv
  obtain ⟨C, hw⟩ := CX.of (own := RX11) rfl B hml hv.2
  have hargs := hv.1
  have hr := B.returns
  have hlocks := B.notSynchronized
  have hx := C.1
  have hb := C.2.1
  have hl := lv_entry ([.ref (ad 0), .int x1]) (n := 2) (Nat.le_of_ble_eq_true rfl)
  rw [show entryFrame m args 2 = entryFrame m ([.ref (ad 0), .int x1] : List Value).toArray 2 from by rw [hargs], lg_entry_eq]
  generalize (lg_sl ([.ref (ad 0), .int x1]) ++ List.replicate (2 - (lg_sl ([.ref (ad 0), .int x1])).length) Slot.unset).toArray = ls at hl ⊢
  have hl : lv_has ls 2 [(0, .ref (ad 0)), (1, .int x1)] := hl
  show W p l e rmX11_server s m args below meth c s.heap [] 0 0 _ _
  refine lv_aload_n hx hb dX11_server_0 rfl (lv_at hl 0 rfl) ?_
  refine r_getR C hw (k := 5) (r := 23) dq_0 ln_0 rfl vc_11 inX11 (by decide) rfl gw2_118 dX11_server_1 ?_
  refine lv_iload_n hx hb dX11_server_4 rfl (lv_at hl 1 rfl) ?_
  obtain ⟨S_5, r_5, h_5, hf⟩ := bd_some hf
  refine r_bi hw (r_runV (rest := []) C hw (m_X7_ofAddress l D cA ad base fu h_5) mvX7_ofAddress gw4_135 ⟨rfl, rfl, Nat.le_of_ble_eq_true rfl, Nat.le_of_ble_eq_true rfl⟩ dq_23 ln_23 vc_7 rfl hl.1 rfl (Nat.le_of_ble_eq_true rfl) dX11_server_5 (Nat.zero_le _) (Nat.zero_le _)) (fun H locs hw => ?_)
  refine lv_iconst (v := (-1 : Int32)) hx hb dX11_server_8 (by decide) ?_
  refine lv_icmp_eq (tgt := 22) hx hb dX11_server_9 (by decide) (fun c_9 => ?_) (fun c_9 => ?_)
  · have hf := if_t hf c_9
    refine lv_aload_n hx hb dX11_server_22 rfl (lv_at hl 0 rfl) ?_
    refine r_getR C hw (k := 5) (r := 23) dq_0 ln_0 rfl vc_11 inX11 (by decide) rfl gw2_118 dX11_server_23 ?_
    obtain ⟨S_26, r_26, h_26, hf⟩ := bd_some hf
    refine r_bi hw (r_runV (rest := []) C hw (m_X7_size l D cA ad base fu h_26) mvX7_size gw3_83 ⟨rfl, rfl, Nat.le_of_ble_eq_true rfl, Nat.le_of_ble_eq_true rfl⟩ dq_23 ln_23 vc_7 rfl hl.1 rfl (Nat.le_of_ble_eq_true rfl) dX11_server_26 (Nat.zero_le _) (Nat.zero_le _)) (fun H locs hw => ?_)
    refine lv_bipush (v := (12 : Int32)) hx hb dX11_server_29 (by decide) ?_
    refine lv_icmp_lt (tgt := 44) hx hb dX11_server_31 (by decide) (fun c_31 => ?_) (fun c_31 => ?_)
    · have hf := if_t hf c_31
      refine lv_aload_n hx hb dX11_server_44 rfl (lv_at hl 0 rfl) ?_
      refine r_getR C hw (k := 5) (r := 23) dq_0 ln_0 rfl vc_11 inX11 (by decide) rfl gw2_118 dX11_server_45 ?_
      refine lv_iload_n hx hb dX11_server_48 rfl (lv_at hl 1 rfl) ?_
      obtain ⟨S_49, r_49, h_49, hf⟩ := bd_some hf
      refine r_bi hw (r_runV (rest := []) C hw (m_X7_open l D cA ad base fu h_49) mvX7_open gw4_141 ⟨rfl, rfl, Nat.le_of_ble_eq_true rfl, Nat.le_of_ble_eq_true rfl⟩ dq_23 ln_23 vc_7 rfl hl.1 rfl (Nat.le_of_ble_eq_true rfl) dX11_server_49 (Nat.zero_le _) (Nat.zero_le _)) (fun H locs hw => ?_)
      exact r_iret C hw hr hlocks (ot_ret hf) dX11_server_52
    · have hf := if_f hf c_31
      exact (no_thr hf).elim
  · have hf := if_f hf c_9
    exact (no_thr hf).elim
def rxX11_server : Room := { frames := 6, cells := 1, slots := 6, locals := 90 }
set_option maxHeartbeats 4000000 in
set_option maxRecDepth 100000 in
theorem n_X11_server (l : Launch) (hlt : l.stackTraces = false) (D : va_G) (cA : FieldType → ClassId) (ad : Nat → Nat) (base : Nat) (fu : Nat) {S S' : St} {x1 : Int32} {k : Nat} {r : Int32} (hf : fX11_server fu x1 S = some (S', (k + 1, r))) : vx_Met l yX11_server (GC yX11_server cX11_server 2 (some .int)) rxX11_server (va_Pc [.ref (ad 0), .int x1] (wd D cA ad base S)) QF (XQ D cA ad base S' (k + 1)) 1 6 (aB base) := by
  refine vx_ofW (cc := cX11_server) (maxL := 2) (ret := (some .int)) (by decide) rfl ?_
  intro p e s m args below meth c s₁ B hml ht hv
  obtain ⟨C, hw⟩ := CX.of (own := RX11) rfl B hml hv.2
  have hargs := hv.1
  have hr := B.returns
  have hlocks := B.notSynchronized
  have hx := C.1
  have hb := C.2.1
  have hl := lv_entry ([.ref (ad 0), .int x1]) (n := 2) (Nat.le_of_ble_eq_true rfl)
  rw [show entryFrame m args 2 = entryFrame m ([.ref (ad 0), .int x1] : List Value).toArray 2 from by rw [hargs], lg_entry_eq]
  generalize (lg_sl ([.ref (ad 0), .int x1]) ++ List.replicate (2 - (lg_sl ([.ref (ad 0), .int x1])).length) Slot.unset).toArray = ls at hl ⊢
  have hl : lv_has ls 2 [(0, .ref (ad 0)), (1, .int x1)] := hl
  show W p l e rxX11_server s m args below meth c s.heap [] 0 0 _ _
  refine lv_aload_n hx hb dX11_server_0 rfl (lv_at hl 0 rfl) ?_
  refine r_getR C hw (k := 5) (r := 23) dq_0 ln_0 rfl vc_11 inX11 (by decide) rfl gw2_118 dX11_server_1 ?_
  refine lv_iload_n hx hb dX11_server_4 rfl (lv_at hl 1 rfl) ?_
  obtain ⟨S_5, r_5, h_5, hf⟩ := bd_some hf
  refine r_bi hw (r_runV (rest := []) C hw (m_X7_ofAddress l D cA ad base fu h_5) mvX7_ofAddress gw4_135 ⟨rfl, rfl, Nat.le_of_ble_eq_true rfl, Nat.le_of_ble_eq_true rfl⟩ dq_23 ln_23 vc_7 rfl hl.1 rfl (Nat.le_of_ble_eq_true rfl) dX11_server_5 (Nat.zero_le _) (Nat.zero_le _)) (fun H locs hw => ?_)
  refine lv_iconst (v := (-1 : Int32)) hx hb dX11_server_8 (by decide) ?_
  refine lv_icmp_eq (tgt := 22) hx hb dX11_server_9 (by decide) (fun c_9 => ?_) (fun c_9 => ?_)
  · have hf := if_t hf c_9
    refine lv_aload_n hx hb dX11_server_22 rfl (lv_at hl 0 rfl) ?_
    refine r_getR C hw (k := 5) (r := 23) dq_0 ln_0 rfl vc_11 inX11 (by decide) rfl gw2_118 dX11_server_23 ?_
    obtain ⟨S_26, r_26, h_26, hf⟩ := bd_some hf
    refine r_bi hw (r_runV (rest := []) C hw (m_X7_size l D cA ad base fu h_26) mvX7_size gw3_83 ⟨rfl, rfl, Nat.le_of_ble_eq_true rfl, Nat.le_of_ble_eq_true rfl⟩ dq_23 ln_23 vc_7 rfl hl.1 rfl (Nat.le_of_ble_eq_true rfl) dX11_server_26 (Nat.zero_le _) (Nat.zero_le _)) (fun H locs hw => ?_)
    refine lv_bipush (v := (12 : Int32)) hx hb dX11_server_29 (by decide) ?_
    refine lv_icmp_lt (tgt := 44) hx hb dX11_server_31 (by decide) (fun c_31 => ?_) (fun c_31 => ?_)
    · have hf := if_t hf c_31
      refine lv_aload_n hx hb dX11_server_44 rfl (lv_at hl 0 rfl) ?_
      refine r_getR C hw (k := 5) (r := 23) dq_0 ln_0 rfl vc_11 inX11 (by decide) rfl gw2_118 dX11_server_45 ?_
      refine lv_iload_n hx hb dX11_server_48 rfl (lv_at hl 1 rfl) ?_
      obtain ⟨S_49, r_49, h_49, hf⟩ := bd_some hf
      refine r_bi hw (r_runV (rest := []) C hw (m_X7_open l D cA ad base fu h_49) mvX7_open gw4_141 ⟨rfl, rfl, Nat.le_of_ble_eq_true rfl, Nat.le_of_ble_eq_true rfl⟩ dq_23 ln_23 vc_7 rfl hl.1 rfl (Nat.le_of_ble_eq_true rfl) dX11_server_49 (Nat.zero_le _) (Nat.zero_le _)) (fun H locs hw => ?_)
      exact (no_ret hf).elim
    · have hf := if_f hf c_31
      exact r_throw C hw hlt ht hlocks hl.1 (k := 1) (is := 208) (text := "too many servers") txUOE gw3_195 (by decide) rfl dX11_server_34 dX11_server_37 dX11_server_38 dX11_server_40 dX11_server_43 (Nat.le_of_ble_eq_true rfl) (Nat.le_of_ble_eq_true rfl) (Nat.le_of_ble_eq_true rfl) (Nat.le_of_ble_eq_true rfl) hf
  · have hf := if_f hf c_9
    exact r_throw C hw hlt ht hlocks hl.1 (k := 0) (is := 205) (text := "a server of that address is there") txIAE gw3_122 (by decide) rfl dX11_server_12 dX11_server_15 dX11_server_16 dX11_server_18 dX11_server_21 (Nat.le_of_ble_eq_true rfl) (Nat.le_of_ble_eq_true rfl) (Nat.le_of_ble_eq_true rfl) (Nat.le_of_ble_eq_true rfl) hf
noncomputable def fX11_needServer (fu : Nat) (x1 : Int32) (S : St) : Option (St × Ot) :=
  bd (fX7_has fu x1 S) fun S_5 r_5 =>
  if r_5 = 0 then
    some (S_5, (3, (0 : Int32)))
  else
    some (S_5, (0, (0 : Int32)))
theorem mvX11_needServer : MV yX11_needServer cX11_needServer 2 none RX11 1 := ⟨gw4_155, gw4_154, gs_12, gw1_1, by decide +kernel⟩
def rmX11_needServer : Room := { frames := 1, cells := 0, slots := 0, locals := 21 }
set_option maxHeartbeats 4000000 in
set_option maxRecDepth 100000 in
theorem m_X11_needServer (l : Launch) (D : va_G) (cA : FieldType → ClassId) (ad : Nat → Nat) (base : Nat) (fu : Nat) {S S' : St} {x1 : Int32} {r : Int32} (hf : fX11_needServer fu x1 S = some (S', (0, r))) : Met l yX11_needServer (GC yX11_needServer cX11_needServer 2 none) rmX11_needServer (va_Pc [.ref (ad 0), .int x1] (wd D cA ad base S)) (QV D cA ad base S') 0 0 (aB base) := by
  refine Met.ofW (cc := cX11_needServer) (maxL := 2) (ret := none) (by decide) rfl ?_
  intro p e s m args below meth c s₁ B hml hv
  obtain ⟨C, hw⟩ := CX.of (own := RX11) rfl B hml hv.2
  have hargs := hv.1
  have hr := B.returns
  have hlocks := B.notSynchronized
  have hx := C.1
  have hb := C.2.1
  have hl := lv_entry ([.ref (ad 0), .int x1]) (n := 2) (Nat.le_of_ble_eq_true rfl)
  rw [show entryFrame m args 2 = entryFrame m ([.ref (ad 0), .int x1] : List Value).toArray 2 from by rw [hargs], lg_entry_eq]
  generalize (lg_sl ([.ref (ad 0), .int x1]) ++ List.replicate (2 - (lg_sl ([.ref (ad 0), .int x1])).length) Slot.unset).toArray = ls at hl ⊢
  have hl : lv_has ls 2 [(0, .ref (ad 0)), (1, .int x1)] := hl
  show W p l e rmX11_needServer s m args below meth c s.heap [] 0 0 _ _
  refine lv_aload_n hx hb dX11_needServer_0 rfl (lv_at hl 0 rfl) ?_
  refine r_getR C hw (k := 5) (r := 23) dq_0 ln_0 rfl vc_11 inX11 (by decide) rfl gw2_118 dX11_needServer_1 ?_
  refine lv_iload_n hx hb dX11_needServer_4 rfl (lv_at hl 1 rfl) ?_
  obtain ⟨S_5, r_5, h_5, hf⟩ := bd_some hf
  refine r_bi hw (r_runV (rest := []) C hw (m_X7_has l D cA ad base fu h_5) mvX7_has gw4_156 ⟨rfl, rfl, Nat.le_of_ble_eq_true rfl, Nat.le_of_ble_eq_true rfl⟩ dq_23 ln_23 vc_7 rfl hl.1 rfl (Nat.le_of_ble_eq_true rfl) dX11_needServer_5 (Nat.zero_le _) (Nat.zero_le _)) (fun H locs hw => ?_)
  refine lv_if_ne (tgt := 22) hx hb dX11_needServer_8 (by decide) (fun c_8 => ?_) (fun c_8 => ?_)
  · have hf := if_f hf c_8
    exact r_vret C hw hr hlocks (ot_ret hf) dX11_needServer_22
  · have hf := if_t hf c_8
    exact (no_thr hf).elim
def rxX11_needServer : Room := { frames := 6, cells := 1, slots := 6, locals := 90 }
set_option maxHeartbeats 4000000 in
set_option maxRecDepth 100000 in
theorem n_X11_needServer (l : Launch) (hlt : l.stackTraces = false) (D : va_G) (cA : FieldType → ClassId) (ad : Nat → Nat) (base : Nat) (fu : Nat) {S S' : St} {x1 : Int32} {k : Nat} {r : Int32} (hf : fX11_needServer fu x1 S = some (S', (k + 1, r))) : vx_Met l yX11_needServer (GC yX11_needServer cX11_needServer 2 none) rxX11_needServer (va_Pc [.ref (ad 0), .int x1] (wd D cA ad base S)) QF (XQ D cA ad base S' (k + 1)) 1 6 (aB base) := by
  refine vx_ofW (cc := cX11_needServer) (maxL := 2) (ret := none) (by decide) rfl ?_
  intro p e s m args below meth c s₁ B hml ht hv
  obtain ⟨C, hw⟩ := CX.of (own := RX11) rfl B hml hv.2
  have hargs := hv.1
  have hr := B.returns
  have hlocks := B.notSynchronized
  have hx := C.1
  have hb := C.2.1
  have hl := lv_entry ([.ref (ad 0), .int x1]) (n := 2) (Nat.le_of_ble_eq_true rfl)
  rw [show entryFrame m args 2 = entryFrame m ([.ref (ad 0), .int x1] : List Value).toArray 2 from by rw [hargs], lg_entry_eq]
  generalize (lg_sl ([.ref (ad 0), .int x1]) ++ List.replicate (2 - (lg_sl ([.ref (ad 0), .int x1])).length) Slot.unset).toArray = ls at hl ⊢
  have hl : lv_has ls 2 [(0, .ref (ad 0)), (1, .int x1)] := hl
  show W p l e rxX11_needServer s m args below meth c s.heap [] 0 0 _ _
  refine lv_aload_n hx hb dX11_needServer_0 rfl (lv_at hl 0 rfl) ?_
  refine r_getR C hw (k := 5) (r := 23) dq_0 ln_0 rfl vc_11 inX11 (by decide) rfl gw2_118 dX11_needServer_1 ?_
  refine lv_iload_n hx hb dX11_needServer_4 rfl (lv_at hl 1 rfl) ?_
  obtain ⟨S_5, r_5, h_5, hf⟩ := bd_some hf
  refine r_bi hw (r_runV (rest := []) C hw (m_X7_has l D cA ad base fu h_5) mvX7_has gw4_156 ⟨rfl, rfl, Nat.le_of_ble_eq_true rfl, Nat.le_of_ble_eq_true rfl⟩ dq_23 ln_23 vc_7 rfl hl.1 rfl (Nat.le_of_ble_eq_true rfl) dX11_needServer_5 (Nat.zero_le _) (Nat.zero_le _)) (fun H locs hw => ?_)
  refine lv_if_ne (tgt := 22) hx hb dX11_needServer_8 (by decide) (fun c_8 => ?_) (fun c_8 => ?_)
  · have hf := if_f hf c_8
    exact (no_ret hf).elim
  · have hf := if_t hf c_8
    exact r_throwW C hw hlt ht hlocks hl.1 (k := 2) (is := 366) (text := "no such server") txIOB gw3_229 (by decide) rfl dX11_needServer_11 dX11_needServer_14 dX11_needServer_15 dX11_needServer_18 dX11_needServer_21 (Nat.le_of_ble_eq_true rfl) (Nat.le_of_ble_eq_true rfl) (Nat.le_of_ble_eq_true rfl) (Nat.le_of_ble_eq_true rfl) hf
noncomputable def fX11_serve (fu : Nat) (x1 : Int32) (x2 : Int32) (x3 : Int32) (S : St) : Option (St × Ot) :=
  bx (fX11_needServer fu x1 S) fun S_2 _ =>
  bx (fX11_needZone fu x2 S_2) fun S_7 _ =>
  bd (fX7_change fu x1 x2 x3 S_7) fun S_17 r_17 =>
  gd (isB r_17) <|
  some (S_17, (0, r_17))
theorem mvX11_serve : MV yX11_serve cX11_serve 4 (some .boolean) RX11 3 := ⟨gw4_151, gw4_149, gw4_150, gw1_1, by decide +kernel⟩
def rmX11_serve : Room := { frames := 3, cells := 0, slots := 0, locals := 66 }
set_option maxHeartbeats 4000000 in
set_option maxRecDepth 100000 in
theorem m_X11_serve (l : Launch) (D : va_G) (cA : FieldType → ClassId) (ad : Nat → Nat) (base : Nat) (fu : Nat) {S S' : St} {x1 : Int32} {x2 : Int32} {x3 : Int32} {r : Int32} (hf : fX11_serve fu x1 x2 x3 S = some (S', (0, r))) : Met l yX11_serve (GC yX11_serve cX11_serve 4 (some .boolean)) rmX11_serve (va_Pc [.ref (ad 0), .int x1, .int x2, .int x3] (wd D cA ad base S)) (QI D cA ad base S' r) 0 0 (aB base) := by
  refine Met.ofW (cc := cX11_serve) (maxL := 4) (ret := (some .boolean)) (by decide) rfl ?_
  intro p e s m args below meth c s₁ B hml hv
  obtain ⟨C, hw⟩ := CX.of (own := RX11) rfl B hml hv.2
  have hargs := hv.1
  have hr := B.returns
  have hlocks := B.notSynchronized
  have hx := C.1
  have hb := C.2.1
  have hl := lv_entry ([.ref (ad 0), .int x1, .int x2, .int x3]) (n := 4) (Nat.le_of_ble_eq_true rfl)
  rw [show entryFrame m args 4 = entryFrame m ([.ref (ad 0), .int x1, .int x2, .int x3] : List Value).toArray 4 from by rw [hargs], lg_entry_eq]
  generalize (lg_sl ([.ref (ad 0), .int x1, .int x2, .int x3]) ++ List.replicate (4 - (lg_sl ([.ref (ad 0), .int x1, .int x2, .int x3])).length) Slot.unset).toArray = ls at hl ⊢
  have hl : lv_has ls 4 [(0, .ref (ad 0)), (1, .int x1), (2, .int x2), (3, .int x3)] := hl
  show W p l e rmX11_serve s m args below meth c s.heap [] 0 0 _ _
  refine lv_aload_n hx hb dX11_serve_0 rfl (lv_at hl 0 rfl) ?_
  refine lv_iload_n hx hb dX11_serve_1 rfl (lv_at hl 1 rfl) ?_
  obtain ⟨S_2, r_2, h_2, hf⟩ := bx_ret hf
  refine r_bv hw (r_runV (rest := []) C hw (m_X11_needServer l D cA ad base fu h_2) mvX11_needServer gw4_152 ⟨rfl, rfl, Nat.le_of_ble_eq_true rfl, Nat.le_of_ble_eq_true rfl⟩ dq_0 ln_0 vc_11 rfl hl.1 rfl (Nat.le_of_ble_eq_true rfl) dX11_serve_2 (Nat.zero_le _) (Nat.zero_le _)) (fun H locs hw => ?_)
  refine lv_aload_n hx hb dX11_serve_5 rfl (lv_at hl 0 rfl) ?_
  refine lv_iload_n hx hb dX11_serve_6 rfl (lv_at hl 2 rfl) ?_
  obtain ⟨S_7, r_7, h_7, hf⟩ := bx_ret hf
  refine r_bv hw (r_runV (rest := []) C hw (m_X11_needZone l D cA ad base fu h_7) mvX11_needZone gw4_82 ⟨rfl, rfl, Nat.le_of_ble_eq_true rfl, Nat.le_of_ble_eq_true rfl⟩ dq_0 ln_0 vc_11 rfl hl.1 rfl (Nat.le_of_ble_eq_true rfl) dX11_serve_7 (Nat.zero_le _) (Nat.zero_le _)) (fun H locs hw => ?_)
  refine lv_aload_n hx hb dX11_serve_10 rfl (lv_at hl 0 rfl) ?_
  refine r_getR C hw (k := 5) (r := 23) dq_0 ln_0 rfl vc_11 inX11 (by decide) rfl gw2_118 dX11_serve_11 ?_
  refine lv_iload_n hx hb dX11_serve_14 rfl (lv_at hl 1 rfl) ?_
  refine lv_iload_n hx hb dX11_serve_15 rfl (lv_at hl 2 rfl) ?_
  refine lv_iload_n hx hb dX11_serve_16 rfl (lv_at hl 3 rfl) ?_
  obtain ⟨S_17, r_17, h_17, hf⟩ := bd_some hf
  refine r_bi hw (r_runV (rest := []) C hw (m_X7_change l D cA ad base fu h_17) mvX7_change gw4_161 ⟨rfl, rfl, Nat.le_of_ble_eq_true rfl, Nat.le_of_ble_eq_true rfl⟩ dq_23 ln_23 vc_7 rfl hl.1 rfl (Nat.le_of_ble_eq_true rfl) dX11_serve_17 (Nat.zero_le _) (Nat.zero_le _)) (fun H locs hw => ?_)
  obtain ⟨z_20, hf⟩ := gd_some hf
  exact r_zret C hw hr hlocks z_20 (ot_ret hf) dX11_serve_20
def rxX11_serve : Room := { frames := 7, cells := 1, slots := 6, locals := 111 }
set_option maxHeartbeats 4000000 in
set_option maxRecDepth 100000 in
theorem n_X11_serve (l : Launch) (hlt : l.stackTraces = false) (D : va_G) (cA : FieldType → ClassId) (ad : Nat → Nat) (base : Nat) (fu : Nat) {S S' : St} {x1 : Int32} {x2 : Int32} {x3 : Int32} {k : Nat} {r : Int32} (hf : fX11_serve fu x1 x2 x3 S = some (S', (k + 1, r))) : vx_Met l yX11_serve (GC yX11_serve cX11_serve 4 (some .boolean)) rxX11_serve (va_Pc [.ref (ad 0), .int x1, .int x2, .int x3] (wd D cA ad base S)) QF (XQ D cA ad base S' (k + 1)) 1 6 (aB base) := by
  refine vx_ofW (cc := cX11_serve) (maxL := 4) (ret := (some .boolean)) (by decide) rfl ?_
  intro p e s m args below meth c s₁ B hml ht hv
  obtain ⟨C, hw⟩ := CX.of (own := RX11) rfl B hml hv.2
  have hargs := hv.1
  have hr := B.returns
  have hlocks := B.notSynchronized
  have hx := C.1
  have hb := C.2.1
  have hl := lv_entry ([.ref (ad 0), .int x1, .int x2, .int x3]) (n := 4) (Nat.le_of_ble_eq_true rfl)
  rw [show entryFrame m args 4 = entryFrame m ([.ref (ad 0), .int x1, .int x2, .int x3] : List Value).toArray 4 from by rw [hargs], lg_entry_eq]
  generalize (lg_sl ([.ref (ad 0), .int x1, .int x2, .int x3]) ++ List.replicate (4 - (lg_sl ([.ref (ad 0), .int x1, .int x2, .int x3])).length) Slot.unset).toArray = ls at hl ⊢
  have hl : lv_has ls 4 [(0, .ref (ad 0)), (1, .int x1), (2, .int x2), (3, .int x3)] := hl
  show W p l e rxX11_serve s m args below meth c s.heap [] 0 0 _ _
  refine lv_aload_n hx hb dX11_serve_0 rfl (lv_at hl 0 rfl) ?_
  refine lv_iload_n hx hb dX11_serve_1 rfl (lv_at hl 1 rfl) ?_
  rcases bx_some hf with ⟨S_2, r_2, h_2, hf⟩ | ⟨h_2, -⟩
  rotate_left
  · refine r_xV (rest := []) C hw (n_X11_needServer l hlt D cA ad base fu h_2) mvX11_needServer gw4_152 ⟨rfl, rfl, Nat.le_of_ble_eq_true rfl, Nat.le_of_ble_eq_true rfl⟩ dq_0 ln_0 vc_11 rfl hl.1 rfl (Nat.le_of_ble_eq_true rfl) dX11_serve_2 (Nat.le_of_ble_eq_true rfl) (Nat.le_of_ble_eq_true rfl) (fun ce q9 H locs hw hce hcv hcl => ?_)
    exact r_out C hw ht hlocks hce hcv hcl
  refine r_bv hw (r_runV (rest := []) C hw (m_X11_needServer l D cA ad base fu h_2) mvX11_needServer gw4_152 ⟨rfl, rfl, Nat.le_of_ble_eq_true rfl, Nat.le_of_ble_eq_true rfl⟩ dq_0 ln_0 vc_11 rfl hl.1 rfl (Nat.le_of_ble_eq_true rfl) dX11_serve_2 (Nat.zero_le _) (Nat.zero_le _)) (fun H locs hw => ?_)
  refine lv_aload_n hx hb dX11_serve_5 rfl (lv_at hl 0 rfl) ?_
  refine lv_iload_n hx hb dX11_serve_6 rfl (lv_at hl 2 rfl) ?_
  rcases bx_some hf with ⟨S_7, r_7, h_7, hf⟩ | ⟨h_7, -⟩
  rotate_left
  · refine r_xV (rest := []) C hw (n_X11_needZone l hlt D cA ad base fu h_7) mvX11_needZone gw4_82 ⟨rfl, rfl, Nat.le_of_ble_eq_true rfl, Nat.le_of_ble_eq_true rfl⟩ dq_0 ln_0 vc_11 rfl hl.1 rfl (Nat.le_of_ble_eq_true rfl) dX11_serve_7 (Nat.le_of_ble_eq_true rfl) (Nat.le_of_ble_eq_true rfl) (fun ce q9 H locs hw hce hcv hcl => ?_)
    exact r_out C hw ht hlocks hce hcv hcl
  refine r_bv hw (r_runV (rest := []) C hw (m_X11_needZone l D cA ad base fu h_7) mvX11_needZone gw4_82 ⟨rfl, rfl, Nat.le_of_ble_eq_true rfl, Nat.le_of_ble_eq_true rfl⟩ dq_0 ln_0 vc_11 rfl hl.1 rfl (Nat.le_of_ble_eq_true rfl) dX11_serve_7 (Nat.zero_le _) (Nat.zero_le _)) (fun H locs hw => ?_)
  refine lv_aload_n hx hb dX11_serve_10 rfl (lv_at hl 0 rfl) ?_
  refine r_getR C hw (k := 5) (r := 23) dq_0 ln_0 rfl vc_11 inX11 (by decide) rfl gw2_118 dX11_serve_11 ?_
  refine lv_iload_n hx hb dX11_serve_14 rfl (lv_at hl 1 rfl) ?_
  refine lv_iload_n hx hb dX11_serve_15 rfl (lv_at hl 2 rfl) ?_
  refine lv_iload_n hx hb dX11_serve_16 rfl (lv_at hl 3 rfl) ?_
  obtain ⟨S_17, r_17, h_17, hf⟩ := bd_some hf
  refine r_bi hw (r_runV (rest := []) C hw (m_X7_change l D cA ad base fu h_17) mvX7_change gw4_161 ⟨rfl, rfl, Nat.le_of_ble_eq_true rfl, Nat.le_of_ble_eq_true rfl⟩ dq_23 ln_23 vc_7 rfl hl.1 rfl (Nat.le_of_ble_eq_true rfl) dX11_serve_17 (Nat.zero_le _) (Nat.zero_le _)) (fun H locs hw => ?_)
  obtain ⟨z_20, hf⟩ := gd_some hf
  exact (no_ret hf).elim
noncomputable def fX11_say_67 (fu : Nat) (S : St) : Option (St × Ot) :=
  bd (fX0_size fu 1 S) fun S_71 r_71 =>
  some (S_71, (0, r_71))
noncomputable def fX11_say (fu : Nat) (x1 : Int32) (x2 : Int32) (x3 : Int32) (S : St) : Option (St × Ot) :=
  bx (fX11_needServer fu x1 S) fun S_2 _ =>
  bx (fX11_needName fu x2 S_2) fun S_7 _ =>
  bd (fX0_clear fu 1 S_7) fun S_14 _ =>
  bd (fX7_zoneFor fu x1 x2 S_14) fun S_23 r_23 =>
  if r_23 = (-1 : Int32) then
    fX11_say_67 fu S_23
  else
    bd (fX10_tell fu r_23 x2 x3 (0 : Int32) S_23) fun S_47 r_47 =>
    if r_47 = 0 then
      fX11_say_67 fu S_47
    else
      bd (fX9_message fu S_47) fun S_61 _ =>
      bd (fX0_copy fu S_61) fun S_64 _ =>
      fX11_say_67 fu S_64
theorem mvX11_say : MV yX11_say cX11_say 5 (some .int) RX11 3 := ⟨gw4_176, gw4_174, gw4_175, gw1_1, by decide +kernel⟩
def rmX11_say : Room := { frames := 7, cells := 0, slots := 0, locals := 173 }
set_option maxHeartbeats 4000000 in
set_option maxRecDepth 100000 in
theorem m_X11_say (l : Launch) (D : va_G) (cA : FieldType → ClassId) (ad : Nat → Nat) (base : Nat) (fu : Nat) {S S' : St} {x1 : Int32} {x2 : Int32} {x3 : Int32} {r : Int32} (hf : fX11_say fu x1 x2 x3 S = some (S', (0, r))) : Met l yX11_say (GC yX11_say cX11_say 5 (some .int)) rmX11_say (va_Pc [.ref (ad 0), .int x1, .int x2, .int x3] (wd D cA ad base S)) (QI D cA ad base S' r) 0 0 (aB base) := by
  refine Met.ofW (cc := cX11_say) (maxL := 5) (ret := (some .int)) (by decide) rfl ?_
  intro p e s m args below meth c s₁ B hml hv
  obtain ⟨C, hw⟩ := CX.of (own := RX11) rfl B hml hv.2
  have hargs := hv.1
  have hr := B.returns
  have hlocks := B.notSynchronized
  have hx := C.1
  have hb := C.2.1
  have hl := lv_entry ([.ref (ad 0), .int x1, .int x2, .int x3]) (n := 5) (Nat.le_of_ble_eq_true rfl)
  rw [show entryFrame m args 5 = entryFrame m ([.ref (ad 0), .int x1, .int x2, .int x3] : List Value).toArray 5 from by rw [hargs], lg_entry_eq]
  generalize (lg_sl ([.ref (ad 0), .int x1, .int x2, .int x3]) ++ List.replicate (5 - (lg_sl ([.ref (ad 0), .int x1, .int x2, .int x3])).length) Slot.unset).toArray = ls at hl ⊢
  have hl : lv_has ls 5 [(0, .ref (ad 0)), (1, .int x1), (2, .int x2), (3, .int x3)] := hl
  have J_67 : ∀ (S : St) (H : Heap) (locs : List Loc) (ls : Array Slot), fX11_say_67 fu S = some (S', (0, r)) → lv_has ls 5 [(0, .ref (ad 0))] → WS D cA ad base s S H locs → W p l e rmX11_say s m args below meth c H locs 0 0 (MQ below (QI D cA ad base S' r) args s 0 0 (aB base)) (F0 m 67 ls []) := by
    intro  S H locs ls hf hl hw
    refine lv_aload_n hx hb dX11_say_67 rfl (lv_at hl 0 rfl) ?_
    refine r_getR C hw (k := 0) (r := 1) dq_0 ln_0 rfl vc_11 inX11 (by decide) rfl gw2_113 dX11_say_68 ?_
    obtain ⟨S_71, r_71, h_71, hf⟩ := bd_some hf
    refine r_bi hw (r_runV (rest := []) C hw (m_X0_size l D cA ad base fu 1 kBy_1 h_71) mvX0_size gw2_148 ⟨rfl, rfl, Nat.le_of_ble_eq_true rfl, Nat.le_of_ble_eq_true rfl⟩ dq_1 ln_1 vc_0 rfl hl.1 rfl (Nat.le_of_ble_eq_true rfl) dX11_say_71 (Nat.zero_le _) (Nat.zero_le _)) (fun H locs hw => ?_)
    exact r_iret C hw hr hlocks (ot_ret hf) dX11_say_74
  show W p l e rmX11_say s m args below meth c s.heap [] 0 0 _ _
  refine lv_aload_n hx hb dX11_say_0 rfl (lv_at hl 0 rfl) ?_
  refine lv_iload_n hx hb dX11_say_1 rfl (lv_at hl 1 rfl) ?_
  obtain ⟨S_2, r_2, h_2, hf⟩ := bx_ret hf
  refine r_bv hw (r_runV (rest := []) C hw (m_X11_needServer l D cA ad base fu h_2) mvX11_needServer gw4_152 ⟨rfl, rfl, Nat.le_of_ble_eq_true rfl, Nat.le_of_ble_eq_true rfl⟩ dq_0 ln_0 vc_11 rfl hl.1 rfl (Nat.le_of_ble_eq_true rfl) dX11_say_2 (Nat.zero_le _) (Nat.zero_le _)) (fun H locs hw => ?_)
  refine lv_aload_n hx hb dX11_say_5 rfl (lv_at hl 0 rfl) ?_
  refine lv_iload_n hx hb dX11_say_6 rfl (lv_at hl 2 rfl) ?_
  obtain ⟨S_7, r_7, h_7, hf⟩ := bx_ret hf
  refine r_bv hw (r_runV (rest := []) C hw (m_X11_needName l D cA ad base fu h_7) mvX11_needName gw3_221 ⟨rfl, rfl, Nat.le_of_ble_eq_true rfl, Nat.le_of_ble_eq_true rfl⟩ dq_0 ln_0 vc_11 rfl hl.1 rfl (Nat.le_of_ble_eq_true rfl) dX11_say_7 (Nat.zero_le _) (Nat.zero_le _)) (fun H locs hw => ?_)
  refine lv_aload_n hx hb dX11_say_10 rfl (lv_at hl 0 rfl) ?_
  refine r_getR C hw (k := 0) (r := 1) dq_0 ln_0 rfl vc_11 inX11 (by decide) rfl gw2_113 dX11_say_11 ?_
  obtain ⟨S_14, r_14, h_14, hf⟩ := bd_some hf
  refine r_bv hw (r_runV (rest := []) C hw (m_X0_clear l D cA ad base fu 1 kBy_1 h_14) mvX0_clear gw3_33 ⟨rfl, rfl, Nat.le_of_ble_eq_true rfl, Nat.le_of_ble_eq_true rfl⟩ dq_1 ln_1 vc_0 rfl hl.1 rfl (Nat.le_of_ble_eq_true rfl) dX11_say_14 (Nat.zero_le _) (Nat.zero_le _)) (fun H locs hw => ?_)
  refine lv_aload_n hx hb dX11_say_17 rfl (lv_at hl 0 rfl) ?_
  refine r_getR C hw (k := 5) (r := 23) dq_0 ln_0 rfl vc_11 inX11 (by decide) rfl gw2_118 dX11_say_18 ?_
  refine lv_iload_n hx hb dX11_say_21 rfl (lv_at hl 1 rfl) ?_
  refine lv_iload_n hx hb dX11_say_22 rfl (lv_at hl 2 rfl) ?_
  obtain ⟨S_23, r_23, h_23, hf⟩ := bd_some hf
  refine r_bi hw (r_runV (rest := []) C hw (m_X7_zoneFor l D cA ad base fu h_23) mvX7_zoneFor gw4_177 ⟨rfl, rfl, Nat.le_of_ble_eq_true rfl, Nat.le_of_ble_eq_true rfl⟩ dq_23 ln_23 vc_7 rfl hl.1 rfl (Nat.le_of_ble_eq_true rfl) dX11_say_23 (Nat.zero_le _) (Nat.zero_le _)) (fun H locs hw => ?_)
  refine lv_istore (lv' := [(4, .int r_23), (0, .ref (ad 0)), (1, .int x1), (2, .int x2), (3, .int x3)]) hx hb dX11_say_26 hl (by decide) rfl (fun ls hl => ?_)
  refine lv_iload hx hb dX11_say_28 (lv_at hl 0 rfl) ?_
  refine lv_iconst (v := (-1 : Int32)) hx hb dX11_say_30 (by decide) ?_
  refine lv_icmp_eq (tgt := 67) hx hb dX11_say_31 (by decide) (fun c_31 => ?_) (fun c_31 => ?_)
  · have hf := if_t hf c_31
    exact J_67 _ _ _ _ hf (lv_sub hl [1] rfl) hw
  · have hf := if_f hf c_31
    refine lv_aload_n hx hb dX11_say_34 rfl (lv_at hl 1 rfl) ?_
    refine r_getR C hw (k := 3) (r := 10) dq_0 ln_0 rfl vc_11 inX11 (by decide) rfl gw2_116 dX11_say_35 ?_
    refine lv_iload hx hb dX11_say_38 (lv_at hl 0 rfl) ?_
    refine lv_iload_n hx hb dX11_say_40 rfl (lv_at hl 3 rfl) ?_
    refine lv_iload_n hx hb dX11_say_41 rfl (lv_at hl 4 rfl) ?_
    refine lv_iconst (v := (0 : Int32)) hx hb dX11_say_42 (by decide) ?_
    refine lv_aload_n hx hb dX11_say_43 rfl (lv_at hl 1 rfl) ?_
    refine r_getR C hw (k := 4) (r := 18) dq_0 ln_0 rfl vc_11 inX11 (by decide) rfl gw2_117 dX11_say_44 ?_
    obtain ⟨S_47, r_47, h_47, hf⟩ := bd_some hf
    refine r_bi hw (r_runV (rest := []) C hw (m_X10_tell l D cA ad base fu h_47) mvX10_tell gw4_183 ⟨rfl, rfl, Nat.le_of_ble_eq_true rfl, Nat.le_of_ble_eq_true rfl⟩ dq_10 ln_10 vc_10 rfl hl.1 rfl (Nat.le_of_ble_eq_true rfl) dX11_say_47 (Nat.zero_le _) (Nat.zero_le _)) (fun H locs hw => ?_)
    refine lv_if_eq (tgt := 67) hx hb dX11_say_50 (by decide) (fun c_50 => ?_) (fun c_50 => ?_)
    · have hf := if_t hf c_50
      exact J_67 _ _ _ _ hf (lv_sub hl [1] rfl) hw
    · have hf := if_f hf c_50
      refine lv_aload_n hx hb dX11_say_53 rfl (lv_at hl 1 rfl) ?_
      refine r_getR C hw (k := 0) (r := 1) dq_0 ln_0 rfl vc_11 inX11 (by decide) rfl gw2_113 dX11_say_54 ?_
      refine lv_aload_n hx hb dX11_say_57 rfl (lv_at hl 1 rfl) ?_
      refine r_getR C hw (k := 4) (r := 18) dq_0 ln_0 rfl vc_11 inX11 (by decide) rfl gw2_117 dX11_say_58 ?_
      obtain ⟨S_61, r_61, h_61, hf⟩ := bd_some hf
      refine r_br hw (r_runV (rest := [.ref (ad 1)]) C hw (m_X9_message l D cA ad base fu h_61) mvX9_message gw5_29 ⟨rfl, rfl, Nat.le_of_ble_eq_true rfl, Nat.le_of_ble_eq_true rfl⟩ dq_18 ln_18 vc_9 rfl hl.1 rfl (Nat.le_of_ble_eq_true rfl) dX11_say_61 (Nat.zero_le _) (Nat.zero_le _)) (fun H locs hw => ?_)
      obtain ⟨S_64, r_64, h_64, hf⟩ := bd_some hf
      refine r_bv hw (r_runV (rest := []) C hw (m_X0_copy l D cA ad base fu h_64) mvX0_copy gw5_33 ⟨rfl, rfl, Nat.le_of_ble_eq_true rfl, Nat.le_of_ble_eq_true rfl⟩ dq_1 ln_1 vc_0 rfl hl.1 rfl (Nat.le_of_ble_eq_true rfl) dX11_say_64 (Nat.zero_le _) (Nat.zero_le _)) (fun H locs hw => ?_)
      exact J_67 _ _ _ _ hf (lv_sub hl [1] rfl) hw
def rxX11_say : Room := { frames := 7, cells := 1, slots := 6, locals := 173 }
set_option maxHeartbeats 4000000 in
set_option maxRecDepth 100000 in
theorem n_X11_say (l : Launch) (hlt : l.stackTraces = false) (D : va_G) (cA : FieldType → ClassId) (ad : Nat → Nat) (base : Nat) (fu : Nat) {S S' : St} {x1 : Int32} {x2 : Int32} {x3 : Int32} {k : Nat} {r : Int32} (hf : fX11_say fu x1 x2 x3 S = some (S', (k + 1, r))) : vx_Met l yX11_say (GC yX11_say cX11_say 5 (some .int)) rxX11_say (va_Pc [.ref (ad 0), .int x1, .int x2, .int x3] (wd D cA ad base S)) QF (XQ D cA ad base S' (k + 1)) 1 6 (aB base) := by
  refine vx_ofW (cc := cX11_say) (maxL := 5) (ret := (some .int)) (by decide) rfl ?_
  intro p e s m args below meth c s₁ B hml ht hv
  obtain ⟨C, hw⟩ := CX.of (own := RX11) rfl B hml hv.2
  have hargs := hv.1
  have hr := B.returns
  have hlocks := B.notSynchronized
  have hx := C.1
  have hb := C.2.1
  have hl := lv_entry ([.ref (ad 0), .int x1, .int x2, .int x3]) (n := 5) (Nat.le_of_ble_eq_true rfl)
  rw [show entryFrame m args 5 = entryFrame m ([.ref (ad 0), .int x1, .int x2, .int x3] : List Value).toArray 5 from by rw [hargs], lg_entry_eq]
  generalize (lg_sl ([.ref (ad 0), .int x1, .int x2, .int x3]) ++ List.replicate (5 - (lg_sl ([.ref (ad 0), .int x1, .int x2, .int x3])).length) Slot.unset).toArray = ls at hl ⊢
  have hl : lv_has ls 5 [(0, .ref (ad 0)), (1, .int x1), (2, .int x2), (3, .int x3)] := hl
  have J_67 : ∀ (S : St) (H : Heap) (locs : List Loc) (ls : Array Slot), fX11_say_67 fu S = some (S', (k + 1, r)) → lv_has ls 5 [(0, .ref (ad 0))] → WS D cA ad base s S H locs → W p l e rxX11_say s m args below meth c H locs 0 0 (vx_MQ below QF (XQ D cA ad base S' (k + 1)) args s 1 6 (aB base)) (F0 m 67 ls []) := by
    intro  S H locs ls hf hl hw
    refine lv_aload_n hx hb dX11_say_67 rfl (lv_at hl 0 rfl) ?_
    refine r_getR C hw (k := 0) (r := 1) dq_0 ln_0 rfl vc_11 inX11 (by decide) rfl gw2_113 dX11_say_68 ?_
    obtain ⟨S_71, r_71, h_71, hf⟩ := bd_some hf
    refine r_bi hw (r_runV (rest := []) C hw (m_X0_size l D cA ad base fu 1 kBy_1 h_71) mvX0_size gw2_148 ⟨rfl, rfl, Nat.le_of_ble_eq_true rfl, Nat.le_of_ble_eq_true rfl⟩ dq_1 ln_1 vc_0 rfl hl.1 rfl (Nat.le_of_ble_eq_true rfl) dX11_say_71 (Nat.zero_le _) (Nat.zero_le _)) (fun H locs hw => ?_)
    exact (no_ret hf).elim
  show W p l e rxX11_say s m args below meth c s.heap [] 0 0 _ _
  refine lv_aload_n hx hb dX11_say_0 rfl (lv_at hl 0 rfl) ?_
  refine lv_iload_n hx hb dX11_say_1 rfl (lv_at hl 1 rfl) ?_
  rcases bx_some hf with ⟨S_2, r_2, h_2, hf⟩ | ⟨h_2, -⟩
  rotate_left
  · refine r_xV (rest := []) C hw (n_X11_needServer l hlt D cA ad base fu h_2) mvX11_needServer gw4_152 ⟨rfl, rfl, Nat.le_of_ble_eq_true rfl, Nat.le_of_ble_eq_true rfl⟩ dq_0 ln_0 vc_11 rfl hl.1 rfl (Nat.le_of_ble_eq_true rfl) dX11_say_2 (Nat.le_of_ble_eq_true rfl) (Nat.le_of_ble_eq_true rfl) (fun ce q9 H locs hw hce hcv hcl => ?_)
    exact r_out C hw ht hlocks hce hcv hcl
  refine r_bv hw (r_runV (rest := []) C hw (m_X11_needServer l D cA ad base fu h_2) mvX11_needServer gw4_152 ⟨rfl, rfl, Nat.le_of_ble_eq_true rfl, Nat.le_of_ble_eq_true rfl⟩ dq_0 ln_0 vc_11 rfl hl.1 rfl (Nat.le_of_ble_eq_true rfl) dX11_say_2 (Nat.zero_le _) (Nat.zero_le _)) (fun H locs hw => ?_)
  refine lv_aload_n hx hb dX11_say_5 rfl (lv_at hl 0 rfl) ?_
  refine lv_iload_n hx hb dX11_say_6 rfl (lv_at hl 2 rfl) ?_
  rcases bx_some hf with ⟨S_7, r_7, h_7, hf⟩ | ⟨h_7, -⟩
  rotate_left
  · refine r_xV (rest := []) C hw (n_X11_needName l hlt D cA ad base fu h_7) mvX11_needName gw3_221 ⟨rfl, rfl, Nat.le_of_ble_eq_true rfl, Nat.le_of_ble_eq_true rfl⟩ dq_0 ln_0 vc_11 rfl hl.1 rfl (Nat.le_of_ble_eq_true rfl) dX11_say_7 (Nat.le_of_ble_eq_true rfl) (Nat.le_of_ble_eq_true rfl) (fun ce q9 H locs hw hce hcv hcl => ?_)
    exact r_out C hw ht hlocks hce hcv hcl
  refine r_bv hw (r_runV (rest := []) C hw (m_X11_needName l D cA ad base fu h_7) mvX11_needName gw3_221 ⟨rfl, rfl, Nat.le_of_ble_eq_true rfl, Nat.le_of_ble_eq_true rfl⟩ dq_0 ln_0 vc_11 rfl hl.1 rfl (Nat.le_of_ble_eq_true rfl) dX11_say_7 (Nat.zero_le _) (Nat.zero_le _)) (fun H locs hw => ?_)
  refine lv_aload_n hx hb dX11_say_10 rfl (lv_at hl 0 rfl) ?_
  refine r_getR C hw (k := 0) (r := 1) dq_0 ln_0 rfl vc_11 inX11 (by decide) rfl gw2_113 dX11_say_11 ?_
  obtain ⟨S_14, r_14, h_14, hf⟩ := bd_some hf
  refine r_bv hw (r_runV (rest := []) C hw (m_X0_clear l D cA ad base fu 1 kBy_1 h_14) mvX0_clear gw3_33 ⟨rfl, rfl, Nat.le_of_ble_eq_true rfl, Nat.le_of_ble_eq_true rfl⟩ dq_1 ln_1 vc_0 rfl hl.1 rfl (Nat.le_of_ble_eq_true rfl) dX11_say_14 (Nat.zero_le _) (Nat.zero_le _)) (fun H locs hw => ?_)
  refine lv_aload_n hx hb dX11_say_17 rfl (lv_at hl 0 rfl) ?_
  refine r_getR C hw (k := 5) (r := 23) dq_0 ln_0 rfl vc_11 inX11 (by decide) rfl gw2_118 dX11_say_18 ?_
  refine lv_iload_n hx hb dX11_say_21 rfl (lv_at hl 1 rfl) ?_
  refine lv_iload_n hx hb dX11_say_22 rfl (lv_at hl 2 rfl) ?_
  obtain ⟨S_23, r_23, h_23, hf⟩ := bd_some hf
  refine r_bi hw (r_runV (rest := []) C hw (m_X7_zoneFor l D cA ad base fu h_23) mvX7_zoneFor gw4_177 ⟨rfl, rfl, Nat.le_of_ble_eq_true rfl, Nat.le_of_ble_eq_true rfl⟩ dq_23 ln_23 vc_7 rfl hl.1 rfl (Nat.le_of_ble_eq_true rfl) dX11_say_23 (Nat.zero_le _) (Nat.zero_le _)) (fun H locs hw => ?_)
  refine lv_istore (lv' := [(4, .int r_23), (0, .ref (ad 0)), (1, .int x1), (2, .int x2), (3, .int x3)]) hx hb dX11_say_26 hl (by decide) rfl (fun ls hl => ?_)
  refine lv_iload hx hb dX11_say_28 (lv_at hl 0 rfl) ?_
  refine lv_iconst (v := (-1 : Int32)) hx hb dX11_say_30 (by decide) ?_
  refine lv_icmp_eq (tgt := 67) hx hb dX11_say_31 (by decide) (fun c_31 => ?_) (fun c_31 => ?_)
  · have hf := if_t hf c_31
    exact J_67 _ _ _ _ hf (lv_sub hl [1] rfl) hw
  · have hf := if_f hf c_31
    refine lv_aload_n hx hb dX11_say_34 rfl (lv_at hl 1 rfl) ?_
    refine r_getR C hw (k := 3) (r := 10) dq_0 ln_0 rfl vc_11 inX11 (by decide) rfl gw2_116 dX11_say_35 ?_
    refine lv_iload hx hb dX11_say_38 (lv_at hl 0 rfl) ?_
    refine lv_iload_n hx hb dX11_say_40 rfl (lv_at hl 3 rfl) ?_
    refine lv_iload_n hx hb dX11_say_41 rfl (lv_at hl 4 rfl) ?_
    refine lv_iconst (v := (0 : Int32)) hx hb dX11_say_42 (by decide) ?_
    refine lv_aload_n hx hb dX11_say_43 rfl (lv_at hl 1 rfl) ?_
    refine r_getR C hw (k := 4) (r := 18) dq_0 ln_0 rfl vc_11 inX11 (by decide) rfl gw2_117 dX11_say_44 ?_
    obtain ⟨S_47, r_47, h_47, hf⟩ := bd_some hf
    refine r_bi hw (r_runV (rest := []) C hw (m_X10_tell l D cA ad base fu h_47) mvX10_tell gw4_183 ⟨rfl, rfl, Nat.le_of_ble_eq_true rfl, Nat.le_of_ble_eq_true rfl⟩ dq_10 ln_10 vc_10 rfl hl.1 rfl (Nat.le_of_ble_eq_true rfl) dX11_say_47 (Nat.zero_le _) (Nat.zero_le _)) (fun H locs hw => ?_)
    refine lv_if_eq (tgt := 67) hx hb dX11_say_50 (by decide) (fun c_50 => ?_) (fun c_50 => ?_)
    · have hf := if_t hf c_50
      exact J_67 _ _ _ _ hf (lv_sub hl [1] rfl) hw
    · have hf := if_f hf c_50
      refine lv_aload_n hx hb dX11_say_53 rfl (lv_at hl 1 rfl) ?_
      refine r_getR C hw (k := 0) (r := 1) dq_0 ln_0 rfl vc_11 inX11 (by decide) rfl gw2_113 dX11_say_54 ?_
      refine lv_aload_n hx hb dX11_say_57 rfl (lv_at hl 1 rfl) ?_
      refine r_getR C hw (k := 4) (r := 18) dq_0 ln_0 rfl vc_11 inX11 (by decide) rfl gw2_117 dX11_say_58 ?_
      obtain ⟨S_61, r_61, h_61, hf⟩ := bd_some hf
      refine r_br hw (r_runV (rest := [.ref (ad 1)]) C hw (m_X9_message l D cA ad base fu h_61) mvX9_message gw5_29 ⟨rfl, rfl, Nat.le_of_ble_eq_true rfl, Nat.le_of_ble_eq_true rfl⟩ dq_18 ln_18 vc_9 rfl hl.1 rfl (Nat.le_of_ble_eq_true rfl) dX11_say_61 (Nat.zero_le _) (Nat.zero_le _)) (fun H locs hw => ?_)
      obtain ⟨S_64, r_64, h_64, hf⟩ := bd_some hf
      refine r_bv hw (r_runV (rest := []) C hw (m_X0_copy l D cA ad base fu h_64) mvX0_copy gw5_33 ⟨rfl, rfl, Nat.le_of_ble_eq_true rfl, Nat.le_of_ble_eq_true rfl⟩ dq_1 ln_1 vc_0 rfl hl.1 rfl (Nat.le_of_ble_eq_true rfl) dX11_say_64 (Nat.zero_le _) (Nat.zero_le _)) (fun H locs hw => ?_)
      exact J_67 _ _ _ _ hf (lv_sub hl [1] rfl) hw
noncomputable def fX11_parse (fu : Nat) (S : St) : Option (St × Int32) :=
  bd (fX4_read fu 1 S) fun S_8 r_8 =>
  bd (fX0_clear fu 1 S_8) fun S_16 _ =>
  if r_8 = 0 then
    bd (fX4_rows fu S_16) fun S_34 _ =>
    bd (fX5_copy fu S_34) fun S_37 _ =>
    bd (fX5_size fu 36 S_37) fun S_44 r_44 =>
    some (S_44, r_44)
  else
    some (S_16, (-r_8))
theorem mvX11_parse : MV yX11_parse cX11_parse 2 (some .int) RX11 0 := ⟨gw2_179, gw2_177, gw2_178, gw1_1, by decide +kernel⟩
def rmX11_parse : Room := { frames := 6, cells := 0, slots := 0, locals := 153 }
set_option maxHeartbeats 4000000 in
set_option maxRecDepth 100000 in
theorem m_X11_parse (l : Launch) (D : va_G) (cA : FieldType → ClassId) (ad : Nat → Nat) (base : Nat) (fu : Nat) {S S' : St} {r : Int32} (hf : fX11_parse fu S = some (S', r)) : Met l yX11_parse (GC yX11_parse cX11_parse 2 (some .int)) rmX11_parse (va_Pc [.ref (ad 0)] (wd D cA ad base S)) (QI D cA ad base S' r) 0 0 (aB base) := by
  refine Met.ofW (cc := cX11_parse) (maxL := 2) (ret := (some .int)) (by decide) rfl ?_
  intro p e s m args below meth c s₁ B hml hv
  obtain ⟨hargs, hwd⟩ := hv
  have hr := B.returns
  have hlocks := B.notSynchronized
  obtain ⟨C, hw⟩ := CX.of (own := RX11) rfl B hml hwd
  have hx := C.1
  have hb := C.2.1
  have hl := lv_entry ([.ref (ad 0)]) (n := 2) (Nat.le_of_ble_eq_true rfl)
  rw [show entryFrame m args 2 = entryFrame m ([.ref (ad 0)] : List Value).toArray 2 from by rw [hargs], lg_entry_eq]
  generalize (lg_sl ([.ref (ad 0)]) ++ List.replicate (2 - (lg_sl ([.ref (ad 0)])).length) Slot.unset).toArray = ls at hl ⊢
  have hl : lv_has ls 2 [(0, .ref (ad 0))] := hl
  show W p l e rmX11_parse s m args below meth c s.heap [] 0 0 _ _
  refine lv_aload_n hx hb dX11_parse_0 rfl (lv_at hl 0 rfl) ?_
  refine r_getR C hw (k := 6) (r := 26) dq_0 ln_0 rfl vc_11 inX11 (by decide) rfl gw2_119 dX11_parse_1 ?_
  refine lv_aload_n hx hb dX11_parse_4 rfl (lv_at hl 0 rfl) ?_
  refine r_getR C hw (k := 0) (r := 1) dq_0 ln_0 rfl vc_11 inX11 (by decide) rfl gw2_113 dX11_parse_5 ?_
  obtain ⟨S_8, r_8, h_8, hf⟩ := bd_some hf
  refine r_bi hw (r_runV (rest := []) C hw (m_X4_read l D cA ad base fu 1 kBy_1 h_8) mvX4_read gw2_180 ⟨rfl, rfl, Nat.le_of_ble_eq_true rfl, Nat.le_of_ble_eq_true rfl⟩ dq_26 ln_26 vc_4 rfl hl.1 rfl (Nat.le_of_ble_eq_true rfl) dX11_parse_8 (Nat.zero_le _) (Nat.zero_le _)) (fun H locs hw => ?_)
  refine lv_istore_n (lv' := [(1, .int r_8), (0, .ref (ad 0))]) hx hb dX11_parse_11 rfl hl (by decide) rfl (fun ls hl => ?_)
  refine lv_aload_n hx hb dX11_parse_12 rfl (lv_at hl 1 rfl) ?_
  refine r_getR C hw (k := 0) (r := 1) dq_0 ln_0 rfl vc_11 inX11 (by decide) rfl gw2_113 dX11_parse_13 ?_
  obtain ⟨S_16, r_16, h_16, hf⟩ := bd_some hf
  refine r_bv hw (r_runV (rest := []) C hw (m_X0_clear l D cA ad base fu 1 kBy_1 h_16) mvX0_clear gw3_33 ⟨rfl, rfl, Nat.le_of_ble_eq_true rfl, Nat.le_of_ble_eq_true rfl⟩ dq_1 ln_1 vc_0 rfl hl.1 rfl (Nat.le_of_ble_eq_true rfl) dX11_parse_16 (Nat.zero_le _) (Nat.zero_le _)) (fun H locs hw => ?_)
  refine lv_iload_n hx hb dX11_parse_19 rfl (lv_at hl 0 rfl) ?_
  refine lv_if_eq (tgt := 26) hx hb dX11_parse_20 (by decide) (fun c_20 => ?_) (fun c_20 => ?_)
  · have hf := if_t hf c_20
    refine lv_aload_n hx hb dX11_parse_26 rfl (lv_at hl 1 rfl) ?_
    refine r_getR C hw (k := 7) (r := 36) dq_0 ln_0 rfl vc_11 inX11 (by decide) rfl gw2_120 dX11_parse_27 ?_
    refine lv_aload_n hx hb dX11_parse_30 rfl (lv_at hl 1 rfl) ?_
    refine r_getR C hw (k := 6) (r := 26) dq_0 ln_0 rfl vc_11 inX11 (by decide) rfl gw2_119 dX11_parse_31 ?_
    obtain ⟨S_34, r_34, h_34, hf⟩ := bd_some hf
    refine r_br hw (r_runV (rest := [.ref (ad 36)]) C hw (m_X4_rows l D cA ad base fu h_34) mvX4_rows gw3_37 ⟨rfl, rfl, Nat.le_of_ble_eq_true rfl, Nat.le_of_ble_eq_true rfl⟩ dq_26 ln_26 vc_4 rfl hl.1 rfl (Nat.le_of_ble_eq_true rfl) dX11_parse_34 (Nat.zero_le _) (Nat.zero_le _)) (fun H locs hw => ?_)
    obtain ⟨S_37, r_37, h_37, hf⟩ := bd_some hf
    refine r_bv hw (r_runV (rest := []) C hw (m_X5_copy l D cA ad base fu h_37) mvX5_copy gw3_41 ⟨rfl, rfl, Nat.le_of_ble_eq_true rfl, Nat.le_of_ble_eq_true rfl⟩ dq_36 ln_36 vc_5 rfl hl.1 rfl (Nat.le_of_ble_eq_true rfl) dX11_parse_37 (Nat.zero_le _) (Nat.zero_le _)) (fun H locs hw => ?_)
    refine lv_aload_n hx hb dX11_parse_40 rfl (lv_at hl 1 rfl) ?_
    refine r_getR C hw (k := 7) (r := 36) dq_0 ln_0 rfl vc_11 inX11 (by decide) rfl gw2_120 dX11_parse_41 ?_
    obtain ⟨S_44, r_44, h_44, hf⟩ := bd_some hf
    refine r_bi hw (r_runV (rest := []) C hw (m_X5_size l D cA ad base fu 36 kRo_36 h_44) mvX5_size gw3_47 ⟨rfl, rfl, Nat.le_of_ble_eq_true rfl, Nat.le_of_ble_eq_true rfl⟩ dq_36 ln_36 vc_5 rfl hl.1 rfl (Nat.le_of_ble_eq_true rfl) dX11_parse_44 (Nat.zero_le _) (Nat.zero_le _)) (fun H locs hw => ?_)
    exact r_iret C hw hr hlocks hf dX11_parse_47
  · have hf := if_f hf c_20
    refine lv_iload_n hx hb dX11_parse_23 rfl (lv_at hl 0 rfl) ?_
    refine lv_ineg hx hb dX11_parse_24 ?_
    exact r_iret C hw hr hlocks hf dX11_parse_25
noncomputable def fX11_parsed (fu : Nat) (x1 : Int32) (x2 : Int32) (S : St) : Option (St × Ot) :=
  bd (fX5_has fu 36 x1 S) fun S_5 r_5 =>
  if r_5 = 0 then
    some (S_5, (4, (0 : Int32)))
  else
    if x2 = (0 : Int32) then
      bd (fX5_section fu 36 x1 S_5) fun S_61 r_61 =>
      some (S_61, (0, r_61))
    else
    if x2 = (1 : Int32) then
      bd (fX5_owner fu 36 x1 S_5) fun S_70 r_70 =>
      some (S_70, (0, r_70))
    else
    if x2 = (2 : Int32) then
      bd (fX5_type fu 36 x1 S_5) fun S_79 r_79 =>
      some (S_79, (0, r_79))
    else
    if x2 = (3 : Int32) then
      bd (fX5_value fu 36 x1 S_5) fun S_88 r_88 =>
      some (S_88, (0, r_88))
    else
    if x2 = (4 : Int32) then
      bd (fX5_life fu 36 x1 S_5) fun S_97 r_97 =>
      some (S_97, (0, r_97))
    else
      some (S_5, (4, (0 : Int32)))
theorem mvX11_parsed : MV yX11_parsed cX11_parsed 3 (some .int) RX11 2 := ⟨gw5_46, gw5_44, gw5_45, gw1_1, by decide +kernel⟩
def rmX11_parsed : Room := { frames := 2, cells := 0, slots := 0, locals := 42 }
set_option maxHeartbeats 4000000 in
set_option maxRecDepth 100000 in
theorem m_X11_parsed (l : Launch) (D : va_G) (cA : FieldType → ClassId) (ad : Nat → Nat) (base : Nat) (fu : Nat) {S S' : St} {x1 : Int32} {x2 : Int32} {r : Int32} (hf : fX11_parsed fu x1 x2 S = some (S', (0, r))) : Met l yX11_parsed (GC yX11_parsed cX11_parsed 3 (some .int)) rmX11_parsed (va_Pc [.ref (ad 0), .int x1, .int x2] (wd D cA ad base S)) (QI D cA ad base S' r) 0 0 (aB base) := by
  refine Met.ofW (cc := cX11_parsed) (maxL := 3) (ret := (some .int)) (by decide) rfl ?_
  intro p e s m args below meth c s₁ B hml hv
  obtain ⟨C, hw⟩ := CX.of (own := RX11) rfl B hml hv.2
  have hargs := hv.1
  have hr := B.returns
  have hlocks := B.notSynchronized
  have hx := C.1
  have hb := C.2.1
  have hl := lv_entry ([.ref (ad 0), .int x1, .int x2]) (n := 3) (Nat.le_of_ble_eq_true rfl)
  rw [show entryFrame m args 3 = entryFrame m ([.ref (ad 0), .int x1, .int x2] : List Value).toArray 3 from by rw [hargs], lg_entry_eq]
  generalize (lg_sl ([.ref (ad 0), .int x1, .int x2]) ++ List.replicate (3 - (lg_sl ([.ref (ad 0), .int x1, .int x2])).length) Slot.unset).toArray = ls at hl ⊢
  have hl : lv_has ls 3 [(0, .ref (ad 0)), (1, .int x1), (2, .int x2)] := hl
  show W p l e rmX11_parsed s m args below meth c s.heap [] 0 0 _ _
  refine lv_aload_n hx hb dX11_parsed_0 rfl (lv_at hl 0 rfl) ?_
  refine r_getR C hw (k := 7) (r := 36) dq_0 ln_0 rfl vc_11 inX11 (by decide) rfl gw2_120 dX11_parsed_1 ?_
  refine lv_iload_n hx hb dX11_parsed_4 rfl (lv_at hl 1 rfl) ?_
  obtain ⟨S_5, r_5, h_5, hf⟩ := bd_some hf
  refine r_bi hw (r_runV (rest := []) C hw (m_X5_has l D cA ad base fu 36 kRo_36 h_5) mvX5_has gw5_47 ⟨rfl, rfl, Nat.le_of_ble_eq_true rfl, Nat.le_of_ble_eq_true rfl⟩ dq_36 ln_36 vc_5 rfl hl.1 rfl (Nat.le_of_ble_eq_true rfl) dX11_parsed_5 (Nat.zero_le _) (Nat.zero_le _)) (fun H locs hw => ?_)
  refine lv_if_ne (tgt := 21) hx hb dX11_parsed_8 (by decide) (fun c_8 => ?_) (fun c_8 => ?_)
  · have hf := if_f hf c_8
    refine lv_iload_n hx hb dX11_parsed_21 rfl (lv_at hl 2 rfl) ?_
    by_cases c_22_0 : x2 = (0 : Int32)
    · have hf := if_t hf c_22_0
      refine lv_tableIn (tgt := 56) hx hb dX11_parsed_22 (by rw [c_22_0]; decide) (by rw [c_22_0]; decide) (off := 34) (by rw [c_22_0]; rfl) (by decide) ?_
      refine lv_aload_n hx hb dX11_parsed_56 rfl (lv_at hl 0 rfl) ?_
      refine r_getR C hw (k := 7) (r := 36) dq_0 ln_0 rfl vc_11 inX11 (by decide) rfl gw2_120 dX11_parsed_57 ?_
      refine lv_iload_n hx hb dX11_parsed_60 rfl (lv_at hl 1 rfl) ?_
      obtain ⟨S_61, r_61, h_61, hf⟩ := bd_some hf
      refine r_bi hw (r_runV (rest := []) C hw (m_X5_section l D cA ad base fu 36 kRo_36 h_61) mvX5_section gw5_52 ⟨rfl, rfl, Nat.le_of_ble_eq_true rfl, Nat.le_of_ble_eq_true rfl⟩ dq_36 ln_36 vc_5 rfl hl.1 rfl (Nat.le_of_ble_eq_true rfl) dX11_parsed_61 (Nat.zero_le _) (Nat.zero_le _)) (fun H locs hw => ?_)
      exact r_iret C hw hr hlocks (ot_ret hf) dX11_parsed_64
    have hf := if_f hf c_22_0
    by_cases c_22_1 : x2 = (1 : Int32)
    · have hf := if_t hf c_22_1
      refine lv_tableIn (tgt := 65) hx hb dX11_parsed_22 (by rw [c_22_1]; decide) (by rw [c_22_1]; decide) (off := 43) (by rw [c_22_1]; rfl) (by decide) ?_
      refine lv_aload_n hx hb dX11_parsed_65 rfl (lv_at hl 0 rfl) ?_
      refine r_getR C hw (k := 7) (r := 36) dq_0 ln_0 rfl vc_11 inX11 (by decide) rfl gw2_120 dX11_parsed_66 ?_
      refine lv_iload_n hx hb dX11_parsed_69 rfl (lv_at hl 1 rfl) ?_
      obtain ⟨S_70, r_70, h_70, hf⟩ := bd_some hf
      refine r_bi hw (r_runV (rest := []) C hw (m_X5_owner l D cA ad base fu 36 kRo_36 h_70) mvX5_owner gw5_57 ⟨rfl, rfl, Nat.le_of_ble_eq_true rfl, Nat.le_of_ble_eq_true rfl⟩ dq_36 ln_36 vc_5 rfl hl.1 rfl (Nat.le_of_ble_eq_true rfl) dX11_parsed_70 (Nat.zero_le _) (Nat.zero_le _)) (fun H locs hw => ?_)
      exact r_iret C hw hr hlocks (ot_ret hf) dX11_parsed_73
    have hf := if_f hf c_22_1
    by_cases c_22_2 : x2 = (2 : Int32)
    · have hf := if_t hf c_22_2
      refine lv_tableIn (tgt := 74) hx hb dX11_parsed_22 (by rw [c_22_2]; decide) (by rw [c_22_2]; decide) (off := 52) (by rw [c_22_2]; rfl) (by decide) ?_
      refine lv_aload_n hx hb dX11_parsed_74 rfl (lv_at hl 0 rfl) ?_
      refine r_getR C hw (k := 7) (r := 36) dq_0 ln_0 rfl vc_11 inX11 (by decide) rfl gw2_120 dX11_parsed_75 ?_
      refine lv_iload_n hx hb dX11_parsed_78 rfl (lv_at hl 1 rfl) ?_
      obtain ⟨S_79, r_79, h_79, hf⟩ := bd_some hf
      refine r_bi hw (r_runV (rest := []) C hw (m_X5_type l D cA ad base fu 36 kRo_36 h_79) mvX5_type gw5_61 ⟨rfl, rfl, Nat.le_of_ble_eq_true rfl, Nat.le_of_ble_eq_true rfl⟩ dq_36 ln_36 vc_5 rfl hl.1 rfl (Nat.le_of_ble_eq_true rfl) dX11_parsed_79 (Nat.zero_le _) (Nat.zero_le _)) (fun H locs hw => ?_)
      exact r_iret C hw hr hlocks (ot_ret hf) dX11_parsed_82
    have hf := if_f hf c_22_2
    by_cases c_22_3 : x2 = (3 : Int32)
    · have hf := if_t hf c_22_3
      refine lv_tableIn (tgt := 83) hx hb dX11_parsed_22 (by rw [c_22_3]; decide) (by rw [c_22_3]; decide) (off := 61) (by rw [c_22_3]; rfl) (by decide) ?_
      refine lv_aload_n hx hb dX11_parsed_83 rfl (lv_at hl 0 rfl) ?_
      refine r_getR C hw (k := 7) (r := 36) dq_0 ln_0 rfl vc_11 inX11 (by decide) rfl gw2_120 dX11_parsed_84 ?_
      refine lv_iload_n hx hb dX11_parsed_87 rfl (lv_at hl 1 rfl) ?_
      obtain ⟨S_88, r_88, h_88, hf⟩ := bd_some hf
      refine r_bi hw (r_runV (rest := []) C hw (m_X5_value l D cA ad base fu 36 kRo_36 h_88) mvX5_value gw5_65 ⟨rfl, rfl, Nat.le_of_ble_eq_true rfl, Nat.le_of_ble_eq_true rfl⟩ dq_36 ln_36 vc_5 rfl hl.1 rfl (Nat.le_of_ble_eq_true rfl) dX11_parsed_88 (Nat.zero_le _) (Nat.zero_le _)) (fun H locs hw => ?_)
      exact r_iret C hw hr hlocks (ot_ret hf) dX11_parsed_91
    have hf := if_f hf c_22_3
    by_cases c_22_4 : x2 = (4 : Int32)
    · have hf := if_t hf c_22_4
      refine lv_tableIn (tgt := 92) hx hb dX11_parsed_22 (by rw [c_22_4]; decide) (by rw [c_22_4]; decide) (off := 70) (by rw [c_22_4]; rfl) (by decide) ?_
      refine lv_aload_n hx hb dX11_parsed_92 rfl (lv_at hl 0 rfl) ?_
      refine r_getR C hw (k := 7) (r := 36) dq_0 ln_0 rfl vc_11 inX11 (by decide) rfl gw2_120 dX11_parsed_93 ?_
      refine lv_iload_n hx hb dX11_parsed_96 rfl (lv_at hl 1 rfl) ?_
      obtain ⟨S_97, r_97, h_97, hf⟩ := bd_some hf
      refine r_bi hw (r_runV (rest := []) C hw (m_X5_life l D cA ad base fu 36 kRo_36 h_97) mvX5_life gw5_69 ⟨rfl, rfl, Nat.le_of_ble_eq_true rfl, Nat.le_of_ble_eq_true rfl⟩ dq_36 ln_36 vc_5 rfl hl.1 rfl (Nat.le_of_ble_eq_true rfl) dX11_parsed_97 (Nat.zero_le _) (Nat.zero_le _)) (fun H locs hw => ?_)
      exact r_iret C hw hr hlocks (ot_ret hf) dX11_parsed_100
    have hf := if_f hf c_22_4
    refine lv_tableOut (tgt := 101) hx hb dX11_parsed_22 (sw_out 5 (fun k hk => by rcases (show k = 0 ∨ k = 1 ∨ k = 2 ∨ k = 3 ∨ k = 4 by omega) with rfl | rfl | rfl | rfl | rfl <;> assumption)) (by decide) ?_
    exact (no_thr hf).elim
  · have hf := if_t hf c_8
    exact (no_thr hf).elim
def rxX11_parsed : Room := { frames := 6, cells := 1, slots := 6, locals := 90 }
set_option maxHeartbeats 4000000 in
set_option maxRecDepth 100000 in
theorem n_X11_parsed (l : Launch) (hlt : l.stackTraces = false) (D : va_G) (cA : FieldType → ClassId) (ad : Nat → Nat) (base : Nat) (fu : Nat) {S S' : St} {x1 : Int32} {x2 : Int32} {k : Nat} {r : Int32} (hf : fX11_parsed fu x1 x2 S = some (S', (k + 1, r))) : vx_Met l yX11_parsed (GC yX11_parsed cX11_parsed 3 (some .int)) rxX11_parsed (va_Pc [.ref (ad 0), .int x1, .int x2] (wd D cA ad base S)) QF (XQ D cA ad base S' (k + 1)) 1 6 (aB base) := by
  refine vx_ofW (cc := cX11_parsed) (maxL := 3) (ret := (some .int)) (by decide) rfl ?_
  intro p e s m args below meth c s₁ B hml ht hv
  obtain ⟨C, hw⟩ := CX.of (own := RX11) rfl B hml hv.2
  have hargs := hv.1
  have hr := B.returns
  have hlocks := B.notSynchronized
  have hx := C.1
  have hb := C.2.1
  have hl := lv_entry ([.ref (ad 0), .int x1, .int x2]) (n := 3) (Nat.le_of_ble_eq_true rfl)
  rw [show entryFrame m args 3 = entryFrame m ([.ref (ad 0), .int x1, .int x2] : List Value).toArray 3 from by rw [hargs], lg_entry_eq]
  generalize (lg_sl ([.ref (ad 0), .int x1, .int x2]) ++ List.replicate (3 - (lg_sl ([.ref (ad 0), .int x1, .int x2])).length) Slot.unset).toArray = ls at hl ⊢
  have hl : lv_has ls 3 [(0, .ref (ad 0)), (1, .int x1), (2, .int x2)] := hl
  show W p l e rxX11_parsed s m args below meth c s.heap [] 0 0 _ _
  refine lv_aload_n hx hb dX11_parsed_0 rfl (lv_at hl 0 rfl) ?_
  refine r_getR C hw (k := 7) (r := 36) dq_0 ln_0 rfl vc_11 inX11 (by decide) rfl gw2_120 dX11_parsed_1 ?_
  refine lv_iload_n hx hb dX11_parsed_4 rfl (lv_at hl 1 rfl) ?_
  obtain ⟨S_5, r_5, h_5, hf⟩ := bd_some hf
  refine r_bi hw (r_runV (rest := []) C hw (m_X5_has l D cA ad base fu 36 kRo_36 h_5) mvX5_has gw5_47 ⟨rfl, rfl, Nat.le_of_ble_eq_true rfl, Nat.le_of_ble_eq_true rfl⟩ dq_36 ln_36 vc_5 rfl hl.1 rfl (Nat.le_of_ble_eq_true rfl) dX11_parsed_5 (Nat.zero_le _) (Nat.zero_le _)) (fun H locs hw => ?_)
  refine lv_if_ne (tgt := 21) hx hb dX11_parsed_8 (by decide) (fun c_8 => ?_) (fun c_8 => ?_)
  · have hf := if_f hf c_8
    refine lv_iload_n hx hb dX11_parsed_21 rfl (lv_at hl 2 rfl) ?_
    by_cases c_22_0 : x2 = (0 : Int32)
    · have hf := if_t hf c_22_0
      refine lv_tableIn (tgt := 56) hx hb dX11_parsed_22 (by rw [c_22_0]; decide) (by rw [c_22_0]; decide) (off := 34) (by rw [c_22_0]; rfl) (by decide) ?_
      refine lv_aload_n hx hb dX11_parsed_56 rfl (lv_at hl 0 rfl) ?_
      refine r_getR C hw (k := 7) (r := 36) dq_0 ln_0 rfl vc_11 inX11 (by decide) rfl gw2_120 dX11_parsed_57 ?_
      refine lv_iload_n hx hb dX11_parsed_60 rfl (lv_at hl 1 rfl) ?_
      obtain ⟨S_61, r_61, h_61, hf⟩ := bd_some hf
      refine r_bi hw (r_runV (rest := []) C hw (m_X5_section l D cA ad base fu 36 kRo_36 h_61) mvX5_section gw5_52 ⟨rfl, rfl, Nat.le_of_ble_eq_true rfl, Nat.le_of_ble_eq_true rfl⟩ dq_36 ln_36 vc_5 rfl hl.1 rfl (Nat.le_of_ble_eq_true rfl) dX11_parsed_61 (Nat.zero_le _) (Nat.zero_le _)) (fun H locs hw => ?_)
      exact (no_ret hf).elim
    have hf := if_f hf c_22_0
    by_cases c_22_1 : x2 = (1 : Int32)
    · have hf := if_t hf c_22_1
      refine lv_tableIn (tgt := 65) hx hb dX11_parsed_22 (by rw [c_22_1]; decide) (by rw [c_22_1]; decide) (off := 43) (by rw [c_22_1]; rfl) (by decide) ?_
      refine lv_aload_n hx hb dX11_parsed_65 rfl (lv_at hl 0 rfl) ?_
      refine r_getR C hw (k := 7) (r := 36) dq_0 ln_0 rfl vc_11 inX11 (by decide) rfl gw2_120 dX11_parsed_66 ?_
      refine lv_iload_n hx hb dX11_parsed_69 rfl (lv_at hl 1 rfl) ?_
      obtain ⟨S_70, r_70, h_70, hf⟩ := bd_some hf
      refine r_bi hw (r_runV (rest := []) C hw (m_X5_owner l D cA ad base fu 36 kRo_36 h_70) mvX5_owner gw5_57 ⟨rfl, rfl, Nat.le_of_ble_eq_true rfl, Nat.le_of_ble_eq_true rfl⟩ dq_36 ln_36 vc_5 rfl hl.1 rfl (Nat.le_of_ble_eq_true rfl) dX11_parsed_70 (Nat.zero_le _) (Nat.zero_le _)) (fun H locs hw => ?_)
      exact (no_ret hf).elim
    have hf := if_f hf c_22_1
    by_cases c_22_2 : x2 = (2 : Int32)
    · have hf := if_t hf c_22_2
      refine lv_tableIn (tgt := 74) hx hb dX11_parsed_22 (by rw [c_22_2]; decide) (by rw [c_22_2]; decide) (off := 52) (by rw [c_22_2]; rfl) (by decide) ?_
      refine lv_aload_n hx hb dX11_parsed_74 rfl (lv_at hl 0 rfl) ?_
      refine r_getR C hw (k := 7) (r := 36) dq_0 ln_0 rfl vc_11 inX11 (by decide) rfl gw2_120 dX11_parsed_75 ?_
      refine lv_iload_n hx hb dX11_parsed_78 rfl (lv_at hl 1 rfl) ?_
      obtain ⟨S_79, r_79, h_79, hf⟩ := bd_some hf
      refine r_bi hw (r_runV (rest := []) C hw (m_X5_type l D cA ad base fu 36 kRo_36 h_79) mvX5_type gw5_61 ⟨rfl, rfl, Nat.le_of_ble_eq_true rfl, Nat.le_of_ble_eq_true rfl⟩ dq_36 ln_36 vc_5 rfl hl.1 rfl (Nat.le_of_ble_eq_true rfl) dX11_parsed_79 (Nat.zero_le _) (Nat.zero_le _)) (fun H locs hw => ?_)
      exact (no_ret hf).elim
    have hf := if_f hf c_22_2
    by_cases c_22_3 : x2 = (3 : Int32)
    · have hf := if_t hf c_22_3
      refine lv_tableIn (tgt := 83) hx hb dX11_parsed_22 (by rw [c_22_3]; decide) (by rw [c_22_3]; decide) (off := 61) (by rw [c_22_3]; rfl) (by decide) ?_
      refine lv_aload_n hx hb dX11_parsed_83 rfl (lv_at hl 0 rfl) ?_
      refine r_getR C hw (k := 7) (r := 36) dq_0 ln_0 rfl vc_11 inX11 (by decide) rfl gw2_120 dX11_parsed_84 ?_
      refine lv_iload_n hx hb dX11_parsed_87 rfl (lv_at hl 1 rfl) ?_
      obtain ⟨S_88, r_88, h_88, hf⟩ := bd_some hf
      refine r_bi hw (r_runV (rest := []) C hw (m_X5_value l D cA ad base fu 36 kRo_36 h_88) mvX5_value gw5_65 ⟨rfl, rfl, Nat.le_of_ble_eq_true rfl, Nat.le_of_ble_eq_true rfl⟩ dq_36 ln_36 vc_5 rfl hl.1 rfl (Nat.le_of_ble_eq_true rfl) dX11_parsed_88 (Nat.zero_le _) (Nat.zero_le _)) (fun H locs hw => ?_)
      exact (no_ret hf).elim
    have hf := if_f hf c_22_3
    by_cases c_22_4 : x2 = (4 : Int32)
    · have hf := if_t hf c_22_4
      refine lv_tableIn (tgt := 92) hx hb dX11_parsed_22 (by rw [c_22_4]; decide) (by rw [c_22_4]; decide) (off := 70) (by rw [c_22_4]; rfl) (by decide) ?_
      refine lv_aload_n hx hb dX11_parsed_92 rfl (lv_at hl 0 rfl) ?_
      refine r_getR C hw (k := 7) (r := 36) dq_0 ln_0 rfl vc_11 inX11 (by decide) rfl gw2_120 dX11_parsed_93 ?_
      refine lv_iload_n hx hb dX11_parsed_96 rfl (lv_at hl 1 rfl) ?_
      obtain ⟨S_97, r_97, h_97, hf⟩ := bd_some hf
      refine r_bi hw (r_runV (rest := []) C hw (m_X5_life l D cA ad base fu 36 kRo_36 h_97) mvX5_life gw5_69 ⟨rfl, rfl, Nat.le_of_ble_eq_true rfl, Nat.le_of_ble_eq_true rfl⟩ dq_36 ln_36 vc_5 rfl hl.1 rfl (Nat.le_of_ble_eq_true rfl) dX11_parsed_97 (Nat.zero_le _) (Nat.zero_le _)) (fun H locs hw => ?_)
      exact (no_ret hf).elim
    have hf := if_f hf c_22_4
    refine lv_tableOut (tgt := 101) hx hb dX11_parsed_22 (sw_out 5 (fun k hk => by rcases (show k = 0 ∨ k = 1 ∨ k = 2 ∨ k = 3 ∨ k = 4 by omega) with rfl | rfl | rfl | rfl | rfl <;> assumption)) (by decide) ?_
    exact r_throwNW C hw hlt ht hlocks hl.1 (is := 264) (text := "no such property of a record") gw4_22 (by decide) dX11_parsed_101 dX11_parsed_104 dX11_parsed_105 dX11_parsed_108 dX11_parsed_111 (Nat.le_of_ble_eq_true rfl) (Nat.le_of_ble_eq_true rfl) (Nat.le_of_ble_eq_true rfl) (Nat.le_of_ble_eq_true rfl) hf
  · have hf := if_t hf c_8
    exact r_throwN C hw hlt ht hlocks hl.1 (is := 247) (text := "no such record") gw4_22 (by decide) dX11_parsed_11 dX11_parsed_14 dX11_parsed_15 dX11_parsed_17 dX11_parsed_20 (Nat.le_of_ble_eq_true rfl) (Nat.le_of_ble_eq_true rfl) (Nat.le_of_ble_eq_true rfl) (Nat.le_of_ble_eq_true rfl) hf
noncomputable def fX11_hint (fu : Nat) (x1 : Int32) (S : St) : Option (St × Int32) :=
  bd (fX6_addHint fu x1 S) fun S_5 r_5 =>
  some (S_5, r_5)
theorem mvX11_hint : MV yX11_hint cX11_hint 2 (some .int) RX11 1 := ⟨gw3_54, gw3_52, gw3_53, gw1_1, by decide +kernel⟩
def rmX11_hint : Room := { frames := 1, cells := 0, slots := 0, locals := 21 }
set_option maxHeartbeats 4000000 in
set_option maxRecDepth 100000 in
theorem m_X11_hint (l : Launch) (D : va_G) (cA : FieldType → ClassId) (ad : Nat → Nat) (base : Nat) (fu : Nat) {S S' : St} {x1 : Int32} {r : Int32} (hf : fX11_hint fu x1 S = some (S', r)) : Met l yX11_hint (GC yX11_hint cX11_hint 2 (some .int)) rmX11_hint (va_Pc [.ref (ad 0), .int x1] (wd D cA ad base S)) (QI D cA ad base S' r) 0 0 (aB base) := by
  refine Met.ofW (cc := cX11_hint) (maxL := 2) (ret := (some .int)) (by decide) rfl ?_
  intro p e s m args below meth c s₁ B hml hv
  obtain ⟨hargs, hwd⟩ := hv
  have hr := B.returns
  have hlocks := B.notSynchronized
  obtain ⟨C, hw⟩ := CX.of (own := RX11) rfl B hml hwd
  have hx := C.1
  have hb := C.2.1
  have hl := lv_entry ([.ref (ad 0), .int x1]) (n := 2) (Nat.le_of_ble_eq_true rfl)
  rw [show entryFrame m args 2 = entryFrame m ([.ref (ad 0), .int x1] : List Value).toArray 2 from by rw [hargs], lg_entry_eq]
  generalize (lg_sl ([.ref (ad 0), .int x1]) ++ List.replicate (2 - (lg_sl ([.ref (ad 0), .int x1])).length) Slot.unset).toArray = ls at hl ⊢
  have hl : lv_has ls 2 [(0, .ref (ad 0)), (1, .int x1)] := hl
  show W p l e rmX11_hint s m args below meth c s.heap [] 0 0 _ _
  refine lv_aload_n hx hb dX11_hint_0 rfl (lv_at hl 0 rfl) ?_
  refine r_getR C hw (k := 9) (r := 49) dq_0 ln_0 rfl vc_11 inX11 (by decide) rfl gw2_122 dX11_hint_1 ?_
  refine lv_iload_n hx hb dX11_hint_4 rfl (lv_at hl 1 rfl) ?_
  obtain ⟨S_5, r_5, h_5, hf⟩ := bd_some hf
  refine r_bi hw (r_runV (rest := []) C hw (m_X6_addHint l D cA ad base fu h_5) mvX6_addHint gw3_55 ⟨rfl, rfl, Nat.le_of_ble_eq_true rfl, Nat.le_of_ble_eq_true rfl⟩ dq_49 ln_49 vc_6 rfl hl.1 rfl (Nat.le_of_ble_eq_true rfl) dX11_hint_5 (Nat.zero_le _) (Nat.zero_le _)) (fun H locs hw => ?_)
  exact r_iret C hw hr hlocks hf dX11_hint_8
noncomputable def fX11_tick_11 (fu : Nat) (S : St) : Option (St × Ot) :=
  some (S, (1, (0 : Int32)))
noncomputable def fX11_tick (fu : Nat) (x1 : Int32) (S : St) : Option (St × Ot) :=
  if x1 < 0 then
    fX11_tick_11 fu S
  else
    if x1 ≤ (100000 : Int32) then
      bd (fX1_goOn fu x1 S) fun S_27 r_27 =>
      some (S_27, (0, r_27))
    else
      fX11_tick_11 fu S
theorem mvX11_tick : MV yX11_tick cX11_tick 2 (some .int) RX11 1 := ⟨gw5_80, gw5_78, gw5_79, gw1_1, by decide +kernel⟩
def rmX11_tick : Room := { frames := 1, cells := 0, slots := 0, locals := 21 }
set_option maxHeartbeats 4000000 in
set_option maxRecDepth 100000 in
theorem m_X11_tick (l : Launch) (D : va_G) (cA : FieldType → ClassId) (ad : Nat → Nat) (base : Nat) (fu : Nat) {S S' : St} {x1 : Int32} {r : Int32} (hf : fX11_tick fu x1 S = some (S', (0, r))) : Met l yX11_tick (GC yX11_tick cX11_tick 2 (some .int)) rmX11_tick (va_Pc [.ref (ad 0), .int x1] (wd D cA ad base S)) (QI D cA ad base S' r) 0 0 (aB base) := by
  refine Met.ofW (cc := cX11_tick) (maxL := 2) (ret := (some .int)) (by decide) rfl ?_
  intro p e s m args below meth c s₁ B hml hv
  obtain ⟨C, hw⟩ := CX.of (own := RX11) rfl B hml hv.2
  have hargs := hv.1
  have hr := B.returns
  have hlocks := B.notSynchronized
  have hx := C.1
  have hb := C.2.1
  have hl := lv_entry ([.ref (ad 0), .int x1]) (n := 2) (Nat.le_of_ble_eq_true rfl)
  rw [show entryFrame m args 2 = entryFrame m ([.ref (ad 0), .int x1] : List Value).toArray 2 from by rw [hargs], lg_entry_eq]
  generalize (lg_sl ([.ref (ad 0), .int x1]) ++ List.replicate (2 - (lg_sl ([.ref (ad 0), .int x1])).length) Slot.unset).toArray = ls at hl ⊢
  have hl : lv_has ls 2 [(0, .ref (ad 0)), (1, .int x1)] := hl
  have J_11 : ∀ (S : St) (H : Heap) (locs : List Loc) (ls : Array Slot), fX11_tick_11 fu S = some (S', (0, r)) → lv_has ls 2 [] → WS D cA ad base s S H locs → W p l e rmX11_tick s m args below meth c H locs 0 0 (MQ below (QI D cA ad base S' r) args s 0 0 (aB base)) (F0 m 11 ls []) := by
    intro  S H locs ls hf hl hw
    exact (no_thr hf).elim
  show W p l e rmX11_tick s m args below meth c s.heap [] 0 0 _ _
  refine lv_iload_n hx hb dX11_tick_0 rfl (lv_at hl 1 rfl) ?_
  refine lv_if_lt (tgt := 11) hx hb dX11_tick_1 (by decide) (fun c_1 => ?_) (fun c_1 => ?_)
  · have hf := if_t hf c_1
    exact J_11 _ _ _ _ hf (lv_sub hl [] rfl) hw
  · have hf := if_f hf c_1
    refine lv_iload_n hx hb dX11_tick_4 rfl (lv_at hl 1 rfl) ?_
    refine lv_ldcw hx hb C.2.2.2.1 (C.2.2.2.2.1 _ (gw_of gw4_64 rfl)) dX11_tick_5 ?_
    refine lv_icmp_le (tgt := 22) hx hb dX11_tick_8 (by decide) (fun c_8 => ?_) (fun c_8 => ?_)
    · have hf := if_t hf c_8
      refine lv_aload_n hx hb dX11_tick_22 rfl (lv_at hl 0 rfl) ?_
      refine r_getR C hw (k := 8) (r := 42) dq_0 ln_0 rfl vc_11 inX11 (by decide) rfl gw2_121 dX11_tick_23 ?_
      refine lv_iload_n hx hb dX11_tick_26 rfl (lv_at hl 1 rfl) ?_
      obtain ⟨S_27, r_27, h_27, hf⟩ := bd_some hf
      refine r_bi hw (r_runV (rest := []) C hw (m_X1_goOn l D cA ad base fu h_27) mvX1_goOn gw5_82 ⟨rfl, rfl, Nat.le_of_ble_eq_true rfl, Nat.le_of_ble_eq_true rfl⟩ dq_42 ln_42 vc_1 rfl hl.1 rfl (Nat.le_of_ble_eq_true rfl) dX11_tick_27 (Nat.zero_le _) (Nat.zero_le _)) (fun H locs hw => ?_)
      exact r_iret C hw hr hlocks (ot_ret hf) dX11_tick_30
    · have hf := if_f hf c_8
      exact J_11 _ _ _ _ hf (lv_sub hl [] rfl) hw
def rxX11_tick : Room := { frames := 6, cells := 1, slots := 6, locals := 90 }
set_option maxHeartbeats 4000000 in
set_option maxRecDepth 100000 in
theorem n_X11_tick (l : Launch) (hlt : l.stackTraces = false) (D : va_G) (cA : FieldType → ClassId) (ad : Nat → Nat) (base : Nat) (fu : Nat) {S S' : St} {x1 : Int32} {k : Nat} {r : Int32} (hf : fX11_tick fu x1 S = some (S', (k + 1, r))) : vx_Met l yX11_tick (GC yX11_tick cX11_tick 2 (some .int)) rxX11_tick (va_Pc [.ref (ad 0), .int x1] (wd D cA ad base S)) QF (XQ D cA ad base S' (k + 1)) 1 6 (aB base) := by
  refine vx_ofW (cc := cX11_tick) (maxL := 2) (ret := (some .int)) (by decide) rfl ?_
  intro p e s m args below meth c s₁ B hml ht hv
  obtain ⟨C, hw⟩ := CX.of (own := RX11) rfl B hml hv.2
  have hargs := hv.1
  have hr := B.returns
  have hlocks := B.notSynchronized
  have hx := C.1
  have hb := C.2.1
  have hl := lv_entry ([.ref (ad 0), .int x1]) (n := 2) (Nat.le_of_ble_eq_true rfl)
  rw [show entryFrame m args 2 = entryFrame m ([.ref (ad 0), .int x1] : List Value).toArray 2 from by rw [hargs], lg_entry_eq]
  generalize (lg_sl ([.ref (ad 0), .int x1]) ++ List.replicate (2 - (lg_sl ([.ref (ad 0), .int x1])).length) Slot.unset).toArray = ls at hl ⊢
  have hl : lv_has ls 2 [(0, .ref (ad 0)), (1, .int x1)] := hl
  have J_11 : ∀ (S : St) (H : Heap) (locs : List Loc) (ls : Array Slot), fX11_tick_11 fu S = some (S', (k + 1, r)) → lv_has ls 2 [] → WS D cA ad base s S H locs → W p l e rxX11_tick s m args below meth c H locs 0 0 (vx_MQ below QF (XQ D cA ad base S' (k + 1)) args s 1 6 (aB base)) (F0 m 11 ls []) := by
    intro  S H locs ls hf hl hw
    exact r_throwW C hw hlt ht hlocks hl.1 (k := 0) (is := 270) (text := "time does not go on so") txIAE gw3_122 (by decide) rfl dX11_tick_11 dX11_tick_14 dX11_tick_15 dX11_tick_18 dX11_tick_21 (Nat.le_of_ble_eq_true rfl) (Nat.le_of_ble_eq_true rfl) (Nat.le_of_ble_eq_true rfl) (Nat.le_of_ble_eq_true rfl) hf
  show W p l e rxX11_tick s m args below meth c s.heap [] 0 0 _ _
  refine lv_iload_n hx hb dX11_tick_0 rfl (lv_at hl 1 rfl) ?_
  refine lv_if_lt (tgt := 11) hx hb dX11_tick_1 (by decide) (fun c_1 => ?_) (fun c_1 => ?_)
  · have hf := if_t hf c_1
    exact J_11 _ _ _ _ hf (lv_sub hl [] rfl) hw
  · have hf := if_f hf c_1
    refine lv_iload_n hx hb dX11_tick_4 rfl (lv_at hl 1 rfl) ?_
    refine lv_ldcw hx hb C.2.2.2.1 (C.2.2.2.2.1 _ (gw_of gw4_64 rfl)) dX11_tick_5 ?_
    refine lv_icmp_le (tgt := 22) hx hb dX11_tick_8 (by decide) (fun c_8 => ?_) (fun c_8 => ?_)
    · have hf := if_t hf c_8
      refine lv_aload_n hx hb dX11_tick_22 rfl (lv_at hl 0 rfl) ?_
      refine r_getR C hw (k := 8) (r := 42) dq_0 ln_0 rfl vc_11 inX11 (by decide) rfl gw2_121 dX11_tick_23 ?_
      refine lv_iload_n hx hb dX11_tick_26 rfl (lv_at hl 1 rfl) ?_
      obtain ⟨S_27, r_27, h_27, hf⟩ := bd_some hf
      refine r_bi hw (r_runV (rest := []) C hw (m_X1_goOn l D cA ad base fu h_27) mvX1_goOn gw5_82 ⟨rfl, rfl, Nat.le_of_ble_eq_true rfl, Nat.le_of_ble_eq_true rfl⟩ dq_42 ln_42 vc_1 rfl hl.1 rfl (Nat.le_of_ble_eq_true rfl) dX11_tick_27 (Nat.zero_le _) (Nat.zero_le _)) (fun H locs hw => ?_)
      exact (no_ret hf).elim
    · have hf := if_f hf c_8
      exact J_11 _ _ _ _ hf (lv_sub hl [] rfl) hw
noncomputable def fX11_ask (fu : Nat) (x1 : Int32) (x2 : Int32) (S : St) : Option (St × Ot) :=
  bx (fX11_needName fu x1 S) fun S_2 _ =>
  bd (fX6_state fu S_2) fun S_9 r_9 =>
  if r_9 = (4 : Int32) then
    some (S_9, (5, (0 : Int32)))
  else
    bd (fX11_isKept fu x2 S_9) fun S_28 r_28 =>
    if r_28 = 0 then
      some (S_28, (1, (0 : Int32)))
    else
      bd (fX6_begin fu x1 x2 S_28) fun S_51 _ =>
      bd (fX6_goOn fu S_51) fun S_58 r_58 =>
      some (S_58, (0, r_58))
theorem mvX11_ask : MV yX11_ask cX11_ask 3 (some .int) RX11 2 := ⟨gw5_93, gw5_91, gw5_92, gw1_1, by decide +kernel⟩
def rmX11_ask : Room := { frames := 6, cells := 0, slots := 0, locals := 140 }
set_option maxHeartbeats 4000000 in
set_option maxRecDepth 100000 in
theorem m_X11_ask (l : Launch) (D : va_G) (cA : FieldType → ClassId) (ad : Nat → Nat) (base : Nat) (fu : Nat) {S S' : St} {x1 : Int32} {x2 : Int32} {r : Int32} (hf : fX11_ask fu x1 x2 S = some (S', (0, r))) : Met l yX11_ask (GC yX11_ask cX11_ask 3 (some .int)) rmX11_ask (va_Pc [.ref (ad 0), .int x1, .int x2] (wd D cA ad base S)) (QI D cA ad base S' r) 0 0 (aB base) := by
  refine Met.ofW (cc := cX11_ask) (maxL := 3) (ret := (some .int)) (by decide) rfl ?_
  intro p e s m args below meth c s₁ B hml hv
  obtain ⟨C, hw⟩ := CX.of (own := RX11) rfl B hml hv.2
  have hargs := hv.1
  have hr := B.returns
  have hlocks := B.notSynchronized
  have hx := C.1
  have hb := C.2.1
  have hl := lv_entry ([.ref (ad 0), .int x1, .int x2]) (n := 3) (Nat.le_of_ble_eq_true rfl)
  rw [show entryFrame m args 3 = entryFrame m ([.ref (ad 0), .int x1, .int x2] : List Value).toArray 3 from by rw [hargs], lg_entry_eq]
  generalize (lg_sl ([.ref (ad 0), .int x1, .int x2]) ++ List.replicate (3 - (lg_sl ([.ref (ad 0), .int x1, .int x2])).length) Slot.unset).toArray = ls at hl ⊢
  have hl : lv_has ls 3 [(0, .ref (ad 0)), (1, .int x1), (2, .int x2)] := hl
  show W p l e rmX11_ask s m args below meth c s.heap [] 0 0 _ _
  refine lv_aload_n hx hb dX11_ask_0 rfl (lv_at hl 0 rfl) ?_
  refine lv_iload_n hx hb dX11_ask_1 rfl (lv_at hl 1 rfl) ?_
  obtain ⟨S_2, r_2, h_2, hf⟩ := bx_ret hf
  refine r_bv hw (r_runV (rest := []) C hw (m_X11_needName l D cA ad base fu h_2) mvX11_needName gw3_221 ⟨rfl, rfl, Nat.le_of_ble_eq_true rfl, Nat.le_of_ble_eq_true rfl⟩ dq_0 ln_0 vc_11 rfl hl.1 rfl (Nat.le_of_ble_eq_true rfl) dX11_ask_2 (Nat.zero_le _) (Nat.zero_le _)) (fun H locs hw => ?_)
  refine lv_aload_n hx hb dX11_ask_5 rfl (lv_at hl 0 rfl) ?_
  refine r_getR C hw (k := 9) (r := 49) dq_0 ln_0 rfl vc_11 inX11 (by decide) rfl gw2_122 dX11_ask_6 ?_
  obtain ⟨S_9, r_9, h_9, hf⟩ := bd_some hf
  refine r_bi hw (r_runV (rest := []) C hw (m_X6_state l D cA ad base fu h_9) mvX6_state gw5_94 ⟨rfl, rfl, Nat.le_of_ble_eq_true rfl, Nat.le_of_ble_eq_true rfl⟩ dq_49 ln_49 vc_6 rfl hl.1 rfl (Nat.le_of_ble_eq_true rfl) dX11_ask_9 (Nat.zero_le _) (Nat.zero_le _)) (fun H locs hw => ?_)
  refine lv_iconst (v := (4 : Int32)) hx hb dX11_ask_12 (by decide) ?_
  refine lv_icmp_ne (tgt := 27) hx hb dX11_ask_13 (by decide) (fun c_13 => ?_) (fun c_13 => ?_)
  · have hf := if_f hf c_13
    refine lv_iload_n hx hb dX11_ask_27 rfl (lv_at hl 2 rfl) ?_
    obtain ⟨S_28, r_28, h_28, hf⟩ := bd_some hf
    refine r_bi hw (r_runS (rest := []) C hw (m_X11_isKept l D cA ad base fu h_28) msX11_isKept gw4_100 ⟨rfl, rfl, Nat.le_of_ble_eq_true rfl, Nat.le_of_ble_eq_true rfl⟩ rfl hl.1 rfl (Nat.le_of_ble_eq_true rfl) dX11_ask_28 (Nat.zero_le _) (Nat.zero_le _)) (fun H locs hw => ?_)
    refine lv_if_ne (tgt := 45) hx hb dX11_ask_31 (by decide) (fun c_31 => ?_) (fun c_31 => ?_)
    · have hf := if_f hf c_31
      refine lv_aload_n hx hb dX11_ask_45 rfl (lv_at hl 0 rfl) ?_
      refine r_getR C hw (k := 9) (r := 49) dq_0 ln_0 rfl vc_11 inX11 (by decide) rfl gw2_122 dX11_ask_46 ?_
      refine lv_iload_n hx hb dX11_ask_49 rfl (lv_at hl 1 rfl) ?_
      refine lv_iload_n hx hb dX11_ask_50 rfl (lv_at hl 2 rfl) ?_
      obtain ⟨S_51, r_51, h_51, hf⟩ := bd_some hf
      refine r_bv hw (r_runV (rest := []) C hw (m_X6_begin l D cA ad base fu h_51) mvX6_begin gw5_115 ⟨rfl, rfl, Nat.le_of_ble_eq_true rfl, Nat.le_of_ble_eq_true rfl⟩ dq_49 ln_49 vc_6 rfl hl.1 rfl (Nat.le_of_ble_eq_true rfl) dX11_ask_51 (Nat.zero_le _) (Nat.zero_le _)) (fun H locs hw => ?_)
      refine lv_aload_n hx hb dX11_ask_54 rfl (lv_at hl 0 rfl) ?_
      refine r_getR C hw (k := 9) (r := 49) dq_0 ln_0 rfl vc_11 inX11 (by decide) rfl gw2_122 dX11_ask_55 ?_
      obtain ⟨S_58, r_58, h_58, hf⟩ := bd_some hf
      refine r_bi hw (r_runV (rest := []) C hw (m_X6_goOn l D cA ad base fu h_58) mvX6_goOn gw5_131 ⟨rfl, rfl, Nat.le_of_ble_eq_true rfl, Nat.le_of_ble_eq_true rfl⟩ dq_49 ln_49 vc_6 rfl hl.1 rfl (Nat.le_of_ble_eq_true rfl) dX11_ask_58 (Nat.zero_le _) (Nat.zero_le _)) (fun H locs hw => ?_)
      exact r_iret C hw hr hlocks (ot_ret hf) dX11_ask_61
    · have hf := if_t hf c_31
      exact (no_thr hf).elim
  · have hf := if_t hf c_13
    exact (no_thr hf).elim
def rxX11_ask : Room := { frames := 7, cells := 1, slots := 6, locals := 140 }
set_option maxHeartbeats 4000000 in
set_option maxRecDepth 100000 in
theorem n_X11_ask (l : Launch) (hlt : l.stackTraces = false) (D : va_G) (cA : FieldType → ClassId) (ad : Nat → Nat) (base : Nat) (fu : Nat) {S S' : St} {x1 : Int32} {x2 : Int32} {k : Nat} {r : Int32} (hf : fX11_ask fu x1 x2 S = some (S', (k + 1, r))) : vx_Met l yX11_ask (GC yX11_ask cX11_ask 3 (some .int)) rxX11_ask (va_Pc [.ref (ad 0), .int x1, .int x2] (wd D cA ad base S)) QF (XQ D cA ad base S' (k + 1)) 1 6 (aB base) := by
  refine vx_ofW (cc := cX11_ask) (maxL := 3) (ret := (some .int)) (by decide) rfl ?_
  intro p e s m args below meth c s₁ B hml ht hv
  obtain ⟨C, hw⟩ := CX.of (own := RX11) rfl B hml hv.2
  have hargs := hv.1
  have hr := B.returns
  have hlocks := B.notSynchronized
  have hx := C.1
  have hb := C.2.1
  have hl := lv_entry ([.ref (ad 0), .int x1, .int x2]) (n := 3) (Nat.le_of_ble_eq_true rfl)
  rw [show entryFrame m args 3 = entryFrame m ([.ref (ad 0), .int x1, .int x2] : List Value).toArray 3 from by rw [hargs], lg_entry_eq]
  generalize (lg_sl ([.ref (ad 0), .int x1, .int x2]) ++ List.replicate (3 - (lg_sl ([.ref (ad 0), .int x1, .int x2])).length) Slot.unset).toArray = ls at hl ⊢
  have hl : lv_has ls 3 [(0, .ref (ad 0)), (1, .int x1), (2, .int x2)] := hl
  show W p l e rxX11_ask s m args below meth c s.heap [] 0 0 _ _
  refine lv_aload_n hx hb dX11_ask_0 rfl (lv_at hl 0 rfl) ?_
  refine lv_iload_n hx hb dX11_ask_1 rfl (lv_at hl 1 rfl) ?_
  rcases bx_some hf with ⟨S_2, r_2, h_2, hf⟩ | ⟨h_2, -⟩
  rotate_left
  · refine r_xV (rest := []) C hw (n_X11_needName l hlt D cA ad base fu h_2) mvX11_needName gw3_221 ⟨rfl, rfl, Nat.le_of_ble_eq_true rfl, Nat.le_of_ble_eq_true rfl⟩ dq_0 ln_0 vc_11 rfl hl.1 rfl (Nat.le_of_ble_eq_true rfl) dX11_ask_2 (Nat.le_of_ble_eq_true rfl) (Nat.le_of_ble_eq_true rfl) (fun ce q9 H locs hw hce hcv hcl => ?_)
    exact r_out C hw ht hlocks hce hcv hcl
  refine r_bv hw (r_runV (rest := []) C hw (m_X11_needName l D cA ad base fu h_2) mvX11_needName gw3_221 ⟨rfl, rfl, Nat.le_of_ble_eq_true rfl, Nat.le_of_ble_eq_true rfl⟩ dq_0 ln_0 vc_11 rfl hl.1 rfl (Nat.le_of_ble_eq_true rfl) dX11_ask_2 (Nat.zero_le _) (Nat.zero_le _)) (fun H locs hw => ?_)
  refine lv_aload_n hx hb dX11_ask_5 rfl (lv_at hl 0 rfl) ?_
  refine r_getR C hw (k := 9) (r := 49) dq_0 ln_0 rfl vc_11 inX11 (by decide) rfl gw2_122 dX11_ask_6 ?_
  obtain ⟨S_9, r_9, h_9, hf⟩ := bd_some hf
  refine r_bi hw (r_runV (rest := []) C hw (m_X6_state l D cA ad base fu h_9) mvX6_state gw5_94 ⟨rfl, rfl, Nat.le_of_ble_eq_true rfl, Nat.le_of_ble_eq_true rfl⟩ dq_49 ln_49 vc_6 rfl hl.1 rfl (Nat.le_of_ble_eq_true rfl) dX11_ask_9 (Nat.zero_le _) (Nat.zero_le _)) (fun H locs hw => ?_)
  refine lv_iconst (v := (4 : Int32)) hx hb dX11_ask_12 (by decide) ?_
  refine lv_icmp_ne (tgt := 27) hx hb dX11_ask_13 (by decide) (fun c_13 => ?_) (fun c_13 => ?_)
  · have hf := if_f hf c_13
    refine lv_iload_n hx hb dX11_ask_27 rfl (lv_at hl 2 rfl) ?_
    obtain ⟨S_28, r_28, h_28, hf⟩ := bd_some hf
    refine r_bi hw (r_runS (rest := []) C hw (m_X11_isKept l D cA ad base fu h_28) msX11_isKept gw4_100 ⟨rfl, rfl, Nat.le_of_ble_eq_true rfl, Nat.le_of_ble_eq_true rfl⟩ rfl hl.1 rfl (Nat.le_of_ble_eq_true rfl) dX11_ask_28 (Nat.zero_le _) (Nat.zero_le _)) (fun H locs hw => ?_)
    refine lv_if_ne (tgt := 45) hx hb dX11_ask_31 (by decide) (fun c_31 => ?_) (fun c_31 => ?_)
    · have hf := if_f hf c_31
      refine lv_aload_n hx hb dX11_ask_45 rfl (lv_at hl 0 rfl) ?_
      refine r_getR C hw (k := 9) (r := 49) dq_0 ln_0 rfl vc_11 inX11 (by decide) rfl gw2_122 dX11_ask_46 ?_
      refine lv_iload_n hx hb dX11_ask_49 rfl (lv_at hl 1 rfl) ?_
      refine lv_iload_n hx hb dX11_ask_50 rfl (lv_at hl 2 rfl) ?_
      obtain ⟨S_51, r_51, h_51, hf⟩ := bd_some hf
      refine r_bv hw (r_runV (rest := []) C hw (m_X6_begin l D cA ad base fu h_51) mvX6_begin gw5_115 ⟨rfl, rfl, Nat.le_of_ble_eq_true rfl, Nat.le_of_ble_eq_true rfl⟩ dq_49 ln_49 vc_6 rfl hl.1 rfl (Nat.le_of_ble_eq_true rfl) dX11_ask_51 (Nat.zero_le _) (Nat.zero_le _)) (fun H locs hw => ?_)
      refine lv_aload_n hx hb dX11_ask_54 rfl (lv_at hl 0 rfl) ?_
      refine r_getR C hw (k := 9) (r := 49) dq_0 ln_0 rfl vc_11 inX11 (by decide) rfl gw2_122 dX11_ask_55 ?_
      obtain ⟨S_58, r_58, h_58, hf⟩ := bd_some hf
      refine r_bi hw (r_runV (rest := []) C hw (m_X6_goOn l D cA ad base fu h_58) mvX6_goOn gw5_131 ⟨rfl, rfl, Nat.le_of_ble_eq_true rfl, Nat.le_of_ble_eq_true rfl⟩ dq_49 ln_49 vc_6 rfl hl.1 rfl (Nat.le_of_ble_eq_true rfl) dX11_ask_58 (Nat.zero_le _) (Nat.zero_le _)) (fun H locs hw => ?_)
      exact (no_ret hf).elim
    · have hf := if_t hf c_31
      exact r_throwW C hw hlt ht hlocks hl.1 (k := 0) (is := 283) (text := "no such type can be asked for") txIAE gw3_122 (by decide) rfl dX11_ask_34 dX11_ask_37 dX11_ask_38 dX11_ask_41 dX11_ask_44 (Nat.le_of_ble_eq_true rfl) (Nat.le_of_ble_eq_true rfl) (Nat.le_of_ble_eq_true rfl) (Nat.le_of_ble_eq_true rfl) hf
  · have hf := if_t hf c_13
    exact r_throwW C hw hlt ht hlocks hl.1 (k := 4) (is := 280) (text := "a seeking is not at its end") txISE gw5_98 (by decide) rfl dX11_ask_16 dX11_ask_19 dX11_ask_20 dX11_ask_23 dX11_ask_26 (Nat.le_of_ble_eq_true rfl) (Nat.le_of_ble_eq_true rfl) (Nat.le_of_ble_eq_true rfl) (Nat.le_of_ble_eq_true rfl) hf
noncomputable def fX11_needQuery (fu : Nat) (S : St) : Option (St × Ot) :=
  bd (fX6_isWaiting fu S) fun S_4 r_4 =>
  if r_4 = 0 then
    some (S_4, (5, (0 : Int32)))
  else
    some (S_4, (0, (0 : Int32)))
theorem mvX11_needQuery : MV yX11_needQuery cX11_needQuery 1 none RX11 0 := ⟨gw6_8, gw6_7, gs_34, gw1_1, by decide +kernel⟩
def rmX11_needQuery : Room := { frames := 1, cells := 0, slots := 0, locals := 20 }
set_option maxHeartbeats 4000000 in
set_option maxRecDepth 100000 in
theorem m_X11_needQuery (l : Launch) (D : va_G) (cA : FieldType → ClassId) (ad : Nat → Nat) (base : Nat) (fu : Nat) {S S' : St} {r : Int32} (hf : fX11_needQuery fu S = some (S', (0, r))) : Met l yX11_needQuery (GC yX11_needQuery cX11_needQuery 1 none) rmX11_needQuery (va_Pc [.ref (ad 0)] (wd D cA ad base S)) (QV D cA ad base S') 0 0 (aB base) := by
  refine Met.ofW (cc := cX11_needQuery) (maxL := 1) (ret := none) (by decide) rfl ?_
  intro p e s m args below meth c s₁ B hml hv
  obtain ⟨C, hw⟩ := CX.of (own := RX11) rfl B hml hv.2
  have hargs := hv.1
  have hr := B.returns
  have hlocks := B.notSynchronized
  have hx := C.1
  have hb := C.2.1
  have hl := lv_entry ([.ref (ad 0)]) (n := 1) (Nat.le_of_ble_eq_true rfl)
  rw [show entryFrame m args 1 = entryFrame m ([.ref (ad 0)] : List Value).toArray 1 from by rw [hargs], lg_entry_eq]
  generalize (lg_sl ([.ref (ad 0)]) ++ List.replicate (1 - (lg_sl ([.ref (ad 0)])).length) Slot.unset).toArray = ls at hl ⊢
  have hl : lv_has ls 1 [(0, .ref (ad 0))] := hl
  show W p l e rmX11_needQuery s m args below meth c s.heap [] 0 0 _ _
  refine lv_aload_n hx hb dX11_needQuery_0 rfl (lv_at hl 0 rfl) ?_
  refine r_getR C hw (k := 9) (r := 49) dq_0 ln_0 rfl vc_11 inX11 (by decide) rfl gw2_122 dX11_needQuery_1 ?_
  obtain ⟨S_4, r_4, h_4, hf⟩ := bd_some hf
  refine r_bi hw (r_runV (rest := []) C hw (m_X6_isWaiting l D cA ad base fu h_4) mvX6_isWaiting gw6_9 ⟨rfl, rfl, Nat.le_of_ble_eq_true rfl, Nat.le_of_ble_eq_true rfl⟩ dq_49 ln_49 vc_6 rfl hl.1 rfl (Nat.le_of_ble_eq_true rfl) dX11_needQuery_4 (Nat.zero_le _) (Nat.zero_le _)) (fun H locs hw => ?_)
  refine lv_if_ne (tgt := 21) hx hb dX11_needQuery_7 (by decide) (fun c_7 => ?_) (fun c_7 => ?_)
  · have hf := if_f hf c_7
    exact r_vret C hw hr hlocks (ot_ret hf) dX11_needQuery_21
  · have hf := if_t hf c_7
    exact (no_thr hf).elim
def rxX11_needQuery : Room := { frames := 6, cells := 1, slots := 6, locals := 90 }
set_option maxHeartbeats 4000000 in
set_option maxRecDepth 100000 in
theorem n_X11_needQuery (l : Launch) (hlt : l.stackTraces = false) (D : va_G) (cA : FieldType → ClassId) (ad : Nat → Nat) (base : Nat) (fu : Nat) {S S' : St} {k : Nat} {r : Int32} (hf : fX11_needQuery fu S = some (S', (k + 1, r))) : vx_Met l yX11_needQuery (GC yX11_needQuery cX11_needQuery 1 none) rxX11_needQuery (va_Pc [.ref (ad 0)] (wd D cA ad base S)) QF (XQ D cA ad base S' (k + 1)) 1 6 (aB base) := by
  refine vx_ofW (cc := cX11_needQuery) (maxL := 1) (ret := none) (by decide) rfl ?_
  intro p e s m args below meth c s₁ B hml ht hv
  obtain ⟨C, hw⟩ := CX.of (own := RX11) rfl B hml hv.2
  have hargs := hv.1
  have hr := B.returns
  have hlocks := B.notSynchronized
  have hx := C.1
  have hb := C.2.1
  have hl := lv_entry ([.ref (ad 0)]) (n := 1) (Nat.le_of_ble_eq_true rfl)
  rw [show entryFrame m args 1 = entryFrame m ([.ref (ad 0)] : List Value).toArray 1 from by rw [hargs], lg_entry_eq]
  generalize (lg_sl ([.ref (ad 0)]) ++ List.replicate (1 - (lg_sl ([.ref (ad 0)])).length) Slot.unset).toArray = ls at hl ⊢
  have hl : lv_has ls 1 [(0, .ref (ad 0))] := hl
  show W p l e rxX11_needQuery s m args below meth c s.heap [] 0 0 _ _
  refine lv_aload_n hx hb dX11_needQuery_0 rfl (lv_at hl 0 rfl) ?_
  refine r_getR C hw (k := 9) (r := 49) dq_0 ln_0 rfl vc_11 inX11 (by decide) rfl gw2_122 dX11_needQuery_1 ?_
  obtain ⟨S_4, r_4, h_4, hf⟩ := bd_some hf
  refine r_bi hw (r_runV (rest := []) C hw (m_X6_isWaiting l D cA ad base fu h_4) mvX6_isWaiting gw6_9 ⟨rfl, rfl, Nat.le_of_ble_eq_true rfl, Nat.le_of_ble_eq_true rfl⟩ dq_49 ln_49 vc_6 rfl hl.1 rfl (Nat.le_of_ble_eq_true rfl) dX11_needQuery_4 (Nat.zero_le _) (Nat.zero_le _)) (fun H locs hw => ?_)
  refine lv_if_ne (tgt := 21) hx hb dX11_needQuery_7 (by decide) (fun c_7 => ?_) (fun c_7 => ?_)
  · have hf := if_f hf c_7
    exact (no_ret hf).elim
  · have hf := if_t hf c_7
    exact r_throwW C hw hlt ht hlocks hl.1 (k := 4) (is := 318) (text := "no query is out") txISE gw5_98 (by decide) rfl dX11_needQuery_10 dX11_needQuery_13 dX11_needQuery_14 dX11_needQuery_17 dX11_needQuery_20 (Nat.le_of_ble_eq_true rfl) (Nat.le_of_ble_eq_true rfl) (Nat.le_of_ble_eq_true rfl) (Nat.le_of_ble_eq_true rfl) hf
noncomputable def fX11_step_120 (fu : Nat) (S : St) : Option (St × Ot) :=
  bd (fX6_goOn fu S) fun S_124 r_124 =>
  some (S_124, (0, r_124))
noncomputable def fX11_step (fu : Nat) (S : St) : Option (St × Ot) :=
  bx (fX11_needQuery fu S) fun S_1 _ =>
  bd (fX6_address fu S_1) fun S_12 r_12 =>
  bd (fX7_ofAddress fu r_12 S_12) fun S_15 r_15 =>
  bd (fX6_askedName fu S_15) fun S_28 r_28 =>
  bd (fX7_zoneFor fu r_15 r_28 S_28) fun S_31 r_31 =>
  if r_31 = (-1 : Int32) then
    fX11_step_120 fu S_31
  else
    bd (fX6_askedName fu S_31) fun S_49 r_49 =>
    bd (fX6_askedType fu S_49) fun S_56 r_56 =>
    bd (fX6_id fu S_56) fun S_63 r_63 =>
    bd (fX10_tell fu r_31 r_49 r_56 r_63 S_63) fun S_70 r_70 =>
    if r_70 = 0 then
      fX11_step_120 fu S_70
    else
      bd (fX9_message fu S_70) fun S_84 _ =>
      bd (fX4_read fu 19 S_84) fun S_87 r_87 =>
      if r_87 = 0 then
        bd (fX6_isAnsweredBy fu S_87) fun S_103 r_103 =>
        if r_103 = 0 then
          fX11_step_120 fu S_103
        else
          bd (fX6_learn fu S_103) fun S_117 _ =>
          fX11_step_120 fu S_117
      else
        fX11_step_120 fu S_87
theorem mvX11_step : MV yX11_step cX11_step 4 (some .int) RX11 0 := ⟨gw6_4, gw6_2, gw6_3, gw1_1, by decide +kernel⟩
def rmX11_step : Room := { frames := 7, cells := 0, slots := 0, locals := 173 }
set_option maxHeartbeats 4000000 in
set_option maxRecDepth 100000 in
theorem m_X11_step (l : Launch) (D : va_G) (cA : FieldType → ClassId) (ad : Nat → Nat) (base : Nat) (fu : Nat) {S S' : St} {r : Int32} (hf : fX11_step fu S = some (S', (0, r))) : Met l yX11_step (GC yX11_step cX11_step 4 (some .int)) rmX11_step (va_Pc [.ref (ad 0)] (wd D cA ad base S)) (QI D cA ad base S' r) 0 0 (aB base) := by
  refine Met.ofW (cc := cX11_step) (maxL := 4) (ret := (some .int)) (by decide) rfl ?_
  intro p e s m args below meth c s₁ B hml hv
  obtain ⟨C, hw⟩ := CX.of (own := RX11) rfl B hml hv.2
  have hargs := hv.1
  have hr := B.returns
  have hlocks := B.notSynchronized
  have hx := C.1
  have hb := C.2.1
  have hl := lv_entry ([.ref (ad 0)]) (n := 4) (Nat.le_of_ble_eq_true rfl)
  rw [show entryFrame m args 4 = entryFrame m ([.ref (ad 0)] : List Value).toArray 4 from by rw [hargs], lg_entry_eq]
  generalize (lg_sl ([.ref (ad 0)]) ++ List.replicate (4 - (lg_sl ([.ref (ad 0)])).length) Slot.unset).toArray = ls at hl ⊢
  have hl : lv_has ls 4 [(0, .ref (ad 0))] := hl
  have J_120 : ∀ (S : St) (H : Heap) (locs : List Loc) (ls : Array Slot), fX11_step_120 fu S = some (S', (0, r)) → lv_has ls 4 [(0, .ref (ad 0))] → WS D cA ad base s S H locs → W p l e rmX11_step s m args below meth c H locs 0 0 (MQ below (QI D cA ad base S' r) args s 0 0 (aB base)) (F0 m 120 ls []) := by
    intro  S H locs ls hf hl hw
    refine lv_aload_n hx hb dX11_step_120 rfl (lv_at hl 0 rfl) ?_
    refine r_getR C hw (k := 9) (r := 49) dq_0 ln_0 rfl vc_11 inX11 (by decide) rfl gw2_122 dX11_step_121 ?_
    obtain ⟨S_124, r_124, h_124, hf⟩ := bd_some hf
    refine r_bi hw (r_runV (rest := []) C hw (m_X6_goOn l D cA ad base fu h_124) mvX6_goOn gw5_131 ⟨rfl, rfl, Nat.le_of_ble_eq_true rfl, Nat.le_of_ble_eq_true rfl⟩ dq_49 ln_49 vc_6 rfl hl.1 rfl (Nat.le_of_ble_eq_true rfl) dX11_step_124 (Nat.zero_le _) (Nat.zero_le _)) (fun H locs hw => ?_)
    exact r_iret C hw hr hlocks (ot_ret hf) dX11_step_127
  show W p l e rmX11_step s m args below meth c s.heap [] 0 0 _ _
  refine lv_aload_n hx hb dX11_step_0 rfl (lv_at hl 0 rfl) ?_
  obtain ⟨S_1, r_1, h_1, hf⟩ := bx_ret hf
  refine r_bv hw (r_runV (rest := []) C hw (m_X11_needQuery l D cA ad base fu h_1) mvX11_needQuery gw6_5 ⟨rfl, rfl, Nat.le_of_ble_eq_true rfl, Nat.le_of_ble_eq_true rfl⟩ dq_0 ln_0 vc_11 rfl hl.1 rfl (Nat.le_of_ble_eq_true rfl) dX11_step_1 (Nat.zero_le _) (Nat.zero_le _)) (fun H locs hw => ?_)
  refine lv_aload_n hx hb dX11_step_4 rfl (lv_at hl 0 rfl) ?_
  refine r_getR C hw (k := 5) (r := 23) dq_0 ln_0 rfl vc_11 inX11 (by decide) rfl gw2_118 dX11_step_5 ?_
  refine lv_aload_n hx hb dX11_step_8 rfl (lv_at hl 0 rfl) ?_
  refine r_getR C hw (k := 9) (r := 49) dq_0 ln_0 rfl vc_11 inX11 (by decide) rfl gw2_122 dX11_step_9 ?_
  obtain ⟨S_12, r_12, h_12, hf⟩ := bd_some hf
  refine r_bi hw (r_runV (rest := [.ref (ad 23)]) C hw (m_X6_address l D cA ad base fu h_12) mvX6_address gw6_14 ⟨rfl, rfl, Nat.le_of_ble_eq_true rfl, Nat.le_of_ble_eq_true rfl⟩ dq_49 ln_49 vc_6 rfl hl.1 rfl (Nat.le_of_ble_eq_true rfl) dX11_step_12 (Nat.zero_le _) (Nat.zero_le _)) (fun H locs hw => ?_)
  obtain ⟨S_15, r_15, h_15, hf⟩ := bd_some hf
  refine r_bi hw (r_runV (rest := []) C hw (m_X7_ofAddress l D cA ad base fu h_15) mvX7_ofAddress gw4_135 ⟨rfl, rfl, Nat.le_of_ble_eq_true rfl, Nat.le_of_ble_eq_true rfl⟩ dq_23 ln_23 vc_7 rfl hl.1 rfl (Nat.le_of_ble_eq_true rfl) dX11_step_15 (Nat.zero_le _) (Nat.zero_le _)) (fun H locs hw => ?_)
  refine lv_istore_n (lv' := [(1, .int r_15), (0, .ref (ad 0))]) hx hb dX11_step_18 rfl hl (by decide) rfl (fun ls hl => ?_)
  refine lv_aload_n hx hb dX11_step_19 rfl (lv_at hl 1 rfl) ?_
  refine r_getR C hw (k := 5) (r := 23) dq_0 ln_0 rfl vc_11 inX11 (by decide) rfl gw2_118 dX11_step_20 ?_
  refine lv_iload_n hx hb dX11_step_23 rfl (lv_at hl 0 rfl) ?_
  refine lv_aload_n hx hb dX11_step_24 rfl (lv_at hl 1 rfl) ?_
  refine r_getR C hw (k := 9) (r := 49) dq_0 ln_0 rfl vc_11 inX11 (by decide) rfl gw2_122 dX11_step_25 ?_
  obtain ⟨S_28, r_28, h_28, hf⟩ := bd_some hf
  refine r_bi hw (r_runV (rest := [.int r_15, .ref (ad 23)]) C hw (m_X6_askedName l D cA ad base fu h_28) mvX6_askedName gw6_18 ⟨rfl, rfl, Nat.le_of_ble_eq_true rfl, Nat.le_of_ble_eq_true rfl⟩ dq_49 ln_49 vc_6 rfl hl.1 rfl (Nat.le_of_ble_eq_true rfl) dX11_step_28 (Nat.zero_le _) (Nat.zero_le _)) (fun H locs hw => ?_)
  obtain ⟨S_31, r_31, h_31, hf⟩ := bd_some hf
  refine r_bi hw (r_runV (rest := []) C hw (m_X7_zoneFor l D cA ad base fu h_31) mvX7_zoneFor gw4_177 ⟨rfl, rfl, Nat.le_of_ble_eq_true rfl, Nat.le_of_ble_eq_true rfl⟩ dq_23 ln_23 vc_7 rfl hl.1 rfl (Nat.le_of_ble_eq_true rfl) dX11_step_31 (Nat.zero_le _) (Nat.zero_le _)) (fun H locs hw => ?_)
  refine lv_istore_n (lv' := [(2, .int r_31), (1, .int r_15), (0, .ref (ad 0))]) hx hb dX11_step_34 rfl hl (by decide) rfl (fun ls hl => ?_)
  refine lv_iload_n hx hb dX11_step_35 rfl (lv_at hl 0 rfl) ?_
  refine lv_iconst (v := (-1 : Int32)) hx hb dX11_step_36 (by decide) ?_
  refine lv_icmp_eq (tgt := 120) hx hb dX11_step_37 (by decide) (fun c_37 => ?_) (fun c_37 => ?_)
  · have hf := if_t hf c_37
    exact J_120 _ _ _ _ hf (lv_sub hl [2] rfl) hw
  · have hf := if_f hf c_37
    refine lv_aload_n hx hb dX11_step_40 rfl (lv_at hl 2 rfl) ?_
    refine r_getR C hw (k := 3) (r := 10) dq_0 ln_0 rfl vc_11 inX11 (by decide) rfl gw2_116 dX11_step_41 ?_
    refine lv_iload_n hx hb dX11_step_44 rfl (lv_at hl 0 rfl) ?_
    refine lv_aload_n hx hb dX11_step_45 rfl (lv_at hl 2 rfl) ?_
    refine r_getR C hw (k := 9) (r := 49) dq_0 ln_0 rfl vc_11 inX11 (by decide) rfl gw2_122 dX11_step_46 ?_
    obtain ⟨S_49, r_49, h_49, hf⟩ := bd_some hf
    refine r_bi hw (r_runV (rest := [.int r_31, .ref (ad 10)]) C hw (m_X6_askedName l D cA ad base fu h_49) mvX6_askedName gw6_18 ⟨rfl, rfl, Nat.le_of_ble_eq_true rfl, Nat.le_of_ble_eq_true rfl⟩ dq_49 ln_49 vc_6 rfl hl.1 rfl (Nat.le_of_ble_eq_true rfl) dX11_step_49 (Nat.zero_le _) (Nat.zero_le _)) (fun H locs hw => ?_)
    refine lv_aload_n hx hb dX11_step_52 rfl (lv_at hl 2 rfl) ?_
    refine r_getR C hw (k := 9) (r := 49) dq_0 ln_0 rfl vc_11 inX11 (by decide) rfl gw2_122 dX11_step_53 ?_
    obtain ⟨S_56, r_56, h_56, hf⟩ := bd_some hf
    refine r_bi hw (r_runV (rest := [.int r_49, .int r_31, .ref (ad 10)]) C hw (m_X6_askedType l D cA ad base fu h_56) mvX6_askedType gw6_22 ⟨rfl, rfl, Nat.le_of_ble_eq_true rfl, Nat.le_of_ble_eq_true rfl⟩ dq_49 ln_49 vc_6 rfl hl.1 rfl (Nat.le_of_ble_eq_true rfl) dX11_step_56 (Nat.zero_le _) (Nat.zero_le _)) (fun H locs hw => ?_)
    refine lv_aload_n hx hb dX11_step_59 rfl (lv_at hl 2 rfl) ?_
    refine r_getR C hw (k := 9) (r := 49) dq_0 ln_0 rfl vc_11 inX11 (by decide) rfl gw2_122 dX11_step_60 ?_
    obtain ⟨S_63, r_63, h_63, hf⟩ := bd_some hf
    refine r_bi hw (r_runV (rest := [.int r_56, .int r_49, .int r_31, .ref (ad 10)]) C hw (m_X6_id l D cA ad base fu h_63) mvX6_id gw6_26 ⟨rfl, rfl, Nat.le_of_ble_eq_true rfl, Nat.le_of_ble_eq_true rfl⟩ dq_49 ln_49 vc_6 rfl hl.1 rfl (Nat.le_of_ble_eq_true rfl) dX11_step_63 (Nat.zero_le _) (Nat.zero_le _)) (fun H locs hw => ?_)
    refine lv_aload_n hx hb dX11_step_66 rfl (lv_at hl 2 rfl) ?_
    refine r_getR C hw (k := 4) (r := 18) dq_0 ln_0 rfl vc_11 inX11 (by decide) rfl gw2_117 dX11_step_67 ?_
    obtain ⟨S_70, r_70, h_70, hf⟩ := bd_some hf
    refine r_bi hw (r_runV (rest := []) C hw (m_X10_tell l D cA ad base fu h_70) mvX10_tell gw4_183 ⟨rfl, rfl, Nat.le_of_ble_eq_true rfl, Nat.le_of_ble_eq_true rfl⟩ dq_10 ln_10 vc_10 rfl hl.1 rfl (Nat.le_of_ble_eq_true rfl) dX11_step_70 (Nat.zero_le _) (Nat.zero_le _)) (fun H locs hw => ?_)
    refine lv_if_eq (tgt := 120) hx hb dX11_step_73 (by decide) (fun c_73 => ?_) (fun c_73 => ?_)
    · have hf := if_t hf c_73
      exact J_120 _ _ _ _ hf (lv_sub hl [2] rfl) hw
    · have hf := if_f hf c_73
      refine lv_aload_n hx hb dX11_step_76 rfl (lv_at hl 2 rfl) ?_
      refine r_getR C hw (k := 6) (r := 26) dq_0 ln_0 rfl vc_11 inX11 (by decide) rfl gw2_119 dX11_step_77 ?_
      refine lv_aload_n hx hb dX11_step_80 rfl (lv_at hl 2 rfl) ?_
      refine r_getR C hw (k := 4) (r := 18) dq_0 ln_0 rfl vc_11 inX11 (by decide) rfl gw2_117 dX11_step_81 ?_
      obtain ⟨S_84, r_84, h_84, hf⟩ := bd_some hf
      refine r_br hw (r_runV (rest := [.ref (ad 26)]) C hw (m_X9_message l D cA ad base fu h_84) mvX9_message gw5_29 ⟨rfl, rfl, Nat.le_of_ble_eq_true rfl, Nat.le_of_ble_eq_true rfl⟩ dq_18 ln_18 vc_9 rfl hl.1 rfl (Nat.le_of_ble_eq_true rfl) dX11_step_84 (Nat.zero_le _) (Nat.zero_le _)) (fun H locs hw => ?_)
      obtain ⟨S_87, r_87, h_87, hf⟩ := bd_some hf
      refine r_bi hw (r_runV (rest := []) C hw (m_X4_read l D cA ad base fu 19 kBy_19 h_87) mvX4_read gw2_180 ⟨rfl, rfl, Nat.le_of_ble_eq_true rfl, Nat.le_of_ble_eq_true rfl⟩ dq_26 ln_26 vc_4 rfl hl.1 rfl (Nat.le_of_ble_eq_true rfl) dX11_step_87 (Nat.zero_le _) (Nat.zero_le _)) (fun H locs hw => ?_)
      refine lv_istore_n (lv' := [(3, .int r_87), (2, .int r_31), (1, .int r_15), (0, .ref (ad 0))]) hx hb dX11_step_90 rfl hl (by decide) rfl (fun ls hl => ?_)
      refine lv_iload_n hx hb dX11_step_91 rfl (lv_at hl 0 rfl) ?_
      refine lv_if_ne (tgt := 120) hx hb dX11_step_92 (by decide) (fun c_92 => ?_) (fun c_92 => ?_)
      · have hf := if_f hf c_92
        exact J_120 _ _ _ _ hf (lv_sub hl [3] rfl) hw
      · have hf := if_t hf c_92
        refine lv_aload_n hx hb dX11_step_95 rfl (lv_at hl 3 rfl) ?_
        refine r_getR C hw (k := 9) (r := 49) dq_0 ln_0 rfl vc_11 inX11 (by decide) rfl gw2_122 dX11_step_96 ?_
        refine lv_aload_n hx hb dX11_step_99 rfl (lv_at hl 3 rfl) ?_
        refine r_getR C hw (k := 6) (r := 26) dq_0 ln_0 rfl vc_11 inX11 (by decide) rfl gw2_119 dX11_step_100 ?_
        obtain ⟨S_103, r_103, h_103, hf⟩ := bd_some hf
        refine r_bi hw (r_runV (rest := []) C hw (m_X6_isAnsweredBy l D cA ad base fu h_103) mvX6_isAnsweredBy gw6_31 ⟨rfl, rfl, Nat.le_of_ble_eq_true rfl, Nat.le_of_ble_eq_true rfl⟩ dq_49 ln_49 vc_6 rfl hl.1 rfl (Nat.le_of_ble_eq_true rfl) dX11_step_103 (Nat.zero_le _) (Nat.zero_le _)) (fun H locs hw => ?_)
        refine lv_if_eq (tgt := 120) hx hb dX11_step_106 (by decide) (fun c_106 => ?_) (fun c_106 => ?_)
        · have hf := if_t hf c_106
          exact J_120 _ _ _ _ hf (lv_sub hl [3] rfl) hw
        · have hf := if_f hf c_106
          refine lv_aload_n hx hb dX11_step_109 rfl (lv_at hl 3 rfl) ?_
          refine r_getR C hw (k := 9) (r := 49) dq_0 ln_0 rfl vc_11 inX11 (by decide) rfl gw2_122 dX11_step_110 ?_
          refine lv_aload_n hx hb dX11_step_113 rfl (lv_at hl 3 rfl) ?_
          refine r_getR C hw (k := 6) (r := 26) dq_0 ln_0 rfl vc_11 inX11 (by decide) rfl gw2_119 dX11_step_114 ?_
          obtain ⟨S_117, r_117, h_117, hf⟩ := bd_some hf
          refine r_bv hw (r_runV (rest := []) C hw (m_X6_learn l D cA ad base fu h_117) mvX6_learn gw6_43 ⟨rfl, rfl, Nat.le_of_ble_eq_true rfl, Nat.le_of_ble_eq_true rfl⟩ dq_49 ln_49 vc_6 rfl hl.1 rfl (Nat.le_of_ble_eq_true rfl) dX11_step_117 (Nat.zero_le _) (Nat.zero_le _)) (fun H locs hw => ?_)
          exact J_120 _ _ _ _ hf (lv_sub hl [3] rfl) hw
def rxX11_step : Room := { frames := 7, cells := 1, slots := 6, locals := 173 }
set_option maxHeartbeats 4000000 in
set_option maxRecDepth 100000 in
theorem n_X11_step (l : Launch) (hlt : l.stackTraces = false) (D : va_G) (cA : FieldType → ClassId) (ad : Nat → Nat) (base : Nat) (fu : Nat) {S S' : St} {k : Nat} {r : Int32} (hf : fX11_step fu S = some (S', (k + 1, r))) : vx_Met l yX11_step (GC yX11_step cX11_step 4 (some .int)) rxX11_step (va_Pc [.ref (ad 0)] (wd D cA ad base S)) QF (XQ D cA ad base S' (k + 1)) 1 6 (aB base) := by
  refine vx_ofW (cc := cX11_step) (maxL := 4) (ret := (some .int)) (by decide) rfl ?_
  intro p e s m args below meth c s₁ B hml ht hv
  obtain ⟨C, hw⟩ := CX.of (own := RX11) rfl B hml hv.2
  have hargs := hv.1
  have hr := B.returns
  have hlocks := B.notSynchronized
  have hx := C.1
  have hb := C.2.1
  have hl := lv_entry ([.ref (ad 0)]) (n := 4) (Nat.le_of_ble_eq_true rfl)
  rw [show entryFrame m args 4 = entryFrame m ([.ref (ad 0)] : List Value).toArray 4 from by rw [hargs], lg_entry_eq]
  generalize (lg_sl ([.ref (ad 0)]) ++ List.replicate (4 - (lg_sl ([.ref (ad 0)])).length) Slot.unset).toArray = ls at hl ⊢
  have hl : lv_has ls 4 [(0, .ref (ad 0))] := hl
  have J_120 : ∀ (S : St) (H : Heap) (locs : List Loc) (ls : Array Slot), fX11_step_120 fu S = some (S', (k + 1, r)) → lv_has ls 4 [(0, .ref (ad 0))] → WS D cA ad base s S H locs → W p l e rxX11_step s m args below meth c H locs 0 0 (vx_MQ below QF (XQ D cA ad base S' (k + 1)) args s 1 6 (aB base)) (F0 m 120 ls []) := by
    intro  S H locs ls hf hl hw
    refine lv_aload_n hx hb dX11_step_120 rfl (lv_at hl 0 rfl) ?_
    refine r_getR C hw (k := 9) (r := 49) dq_0 ln_0 rfl vc_11 inX11 (by decide) rfl gw2_122 dX11_step_121 ?_
    obtain ⟨S_124, r_124, h_124, hf⟩ := bd_some hf
    refine r_bi hw (r_runV (rest := []) C hw (m_X6_goOn l D cA ad base fu h_124) mvX6_goOn gw5_131 ⟨rfl, rfl, Nat.le_of_ble_eq_true rfl, Nat.le_of_ble_eq_true rfl⟩ dq_49 ln_49 vc_6 rfl hl.1 rfl (Nat.le_of_ble_eq_true rfl) dX11_step_124 (Nat.zero_le _) (Nat.zero_le _)) (fun H locs hw => ?_)
    exact (no_ret hf).elim
  show W p l e rxX11_step s m args below meth c s.heap [] 0 0 _ _
  refine lv_aload_n hx hb dX11_step_0 rfl (lv_at hl 0 rfl) ?_
  rcases bx_some hf with ⟨S_1, r_1, h_1, hf⟩ | ⟨h_1, -⟩
  rotate_left
  · refine r_xV (rest := []) C hw (n_X11_needQuery l hlt D cA ad base fu h_1) mvX11_needQuery gw6_5 ⟨rfl, rfl, Nat.le_of_ble_eq_true rfl, Nat.le_of_ble_eq_true rfl⟩ dq_0 ln_0 vc_11 rfl hl.1 rfl (Nat.le_of_ble_eq_true rfl) dX11_step_1 (Nat.le_of_ble_eq_true rfl) (Nat.le_of_ble_eq_true rfl) (fun ce q9 H locs hw hce hcv hcl => ?_)
    exact r_out C hw ht hlocks hce hcv hcl
  refine r_bv hw (r_runV (rest := []) C hw (m_X11_needQuery l D cA ad base fu h_1) mvX11_needQuery gw6_5 ⟨rfl, rfl, Nat.le_of_ble_eq_true rfl, Nat.le_of_ble_eq_true rfl⟩ dq_0 ln_0 vc_11 rfl hl.1 rfl (Nat.le_of_ble_eq_true rfl) dX11_step_1 (Nat.zero_le _) (Nat.zero_le _)) (fun H locs hw => ?_)
  refine lv_aload_n hx hb dX11_step_4 rfl (lv_at hl 0 rfl) ?_
  refine r_getR C hw (k := 5) (r := 23) dq_0 ln_0 rfl vc_11 inX11 (by decide) rfl gw2_118 dX11_step_5 ?_
  refine lv_aload_n hx hb dX11_step_8 rfl (lv_at hl 0 rfl) ?_
  refine r_getR C hw (k := 9) (r := 49) dq_0 ln_0 rfl vc_11 inX11 (by decide) rfl gw2_122 dX11_step_9 ?_
  obtain ⟨S_12, r_12, h_12, hf⟩ := bd_some hf
  refine r_bi hw (r_runV (rest := [.ref (ad 23)]) C hw (m_X6_address l D cA ad base fu h_12) mvX6_address gw6_14 ⟨rfl, rfl, Nat.le_of_ble_eq_true rfl, Nat.le_of_ble_eq_true rfl⟩ dq_49 ln_49 vc_6 rfl hl.1 rfl (Nat.le_of_ble_eq_true rfl) dX11_step_12 (Nat.zero_le _) (Nat.zero_le _)) (fun H locs hw => ?_)
  obtain ⟨S_15, r_15, h_15, hf⟩ := bd_some hf
  refine r_bi hw (r_runV (rest := []) C hw (m_X7_ofAddress l D cA ad base fu h_15) mvX7_ofAddress gw4_135 ⟨rfl, rfl, Nat.le_of_ble_eq_true rfl, Nat.le_of_ble_eq_true rfl⟩ dq_23 ln_23 vc_7 rfl hl.1 rfl (Nat.le_of_ble_eq_true rfl) dX11_step_15 (Nat.zero_le _) (Nat.zero_le _)) (fun H locs hw => ?_)
  refine lv_istore_n (lv' := [(1, .int r_15), (0, .ref (ad 0))]) hx hb dX11_step_18 rfl hl (by decide) rfl (fun ls hl => ?_)
  refine lv_aload_n hx hb dX11_step_19 rfl (lv_at hl 1 rfl) ?_
  refine r_getR C hw (k := 5) (r := 23) dq_0 ln_0 rfl vc_11 inX11 (by decide) rfl gw2_118 dX11_step_20 ?_
  refine lv_iload_n hx hb dX11_step_23 rfl (lv_at hl 0 rfl) ?_
  refine lv_aload_n hx hb dX11_step_24 rfl (lv_at hl 1 rfl) ?_
  refine r_getR C hw (k := 9) (r := 49) dq_0 ln_0 rfl vc_11 inX11 (by decide) rfl gw2_122 dX11_step_25 ?_
  obtain ⟨S_28, r_28, h_28, hf⟩ := bd_some hf
  refine r_bi hw (r_runV (rest := [.int r_15, .ref (ad 23)]) C hw (m_X6_askedName l D cA ad base fu h_28) mvX6_askedName gw6_18 ⟨rfl, rfl, Nat.le_of_ble_eq_true rfl, Nat.le_of_ble_eq_true rfl⟩ dq_49 ln_49 vc_6 rfl hl.1 rfl (Nat.le_of_ble_eq_true rfl) dX11_step_28 (Nat.zero_le _) (Nat.zero_le _)) (fun H locs hw => ?_)
  obtain ⟨S_31, r_31, h_31, hf⟩ := bd_some hf
  refine r_bi hw (r_runV (rest := []) C hw (m_X7_zoneFor l D cA ad base fu h_31) mvX7_zoneFor gw4_177 ⟨rfl, rfl, Nat.le_of_ble_eq_true rfl, Nat.le_of_ble_eq_true rfl⟩ dq_23 ln_23 vc_7 rfl hl.1 rfl (Nat.le_of_ble_eq_true rfl) dX11_step_31 (Nat.zero_le _) (Nat.zero_le _)) (fun H locs hw => ?_)
  refine lv_istore_n (lv' := [(2, .int r_31), (1, .int r_15), (0, .ref (ad 0))]) hx hb dX11_step_34 rfl hl (by decide) rfl (fun ls hl => ?_)
  refine lv_iload_n hx hb dX11_step_35 rfl (lv_at hl 0 rfl) ?_
  refine lv_iconst (v := (-1 : Int32)) hx hb dX11_step_36 (by decide) ?_
  refine lv_icmp_eq (tgt := 120) hx hb dX11_step_37 (by decide) (fun c_37 => ?_) (fun c_37 => ?_)
  · have hf := if_t hf c_37
    exact J_120 _ _ _ _ hf (lv_sub hl [2] rfl) hw
  · have hf := if_f hf c_37
    refine lv_aload_n hx hb dX11_step_40 rfl (lv_at hl 2 rfl) ?_
    refine r_getR C hw (k := 3) (r := 10) dq_0 ln_0 rfl vc_11 inX11 (by decide) rfl gw2_116 dX11_step_41 ?_
    refine lv_iload_n hx hb dX11_step_44 rfl (lv_at hl 0 rfl) ?_
    refine lv_aload_n hx hb dX11_step_45 rfl (lv_at hl 2 rfl) ?_
    refine r_getR C hw (k := 9) (r := 49) dq_0 ln_0 rfl vc_11 inX11 (by decide) rfl gw2_122 dX11_step_46 ?_
    obtain ⟨S_49, r_49, h_49, hf⟩ := bd_some hf
    refine r_bi hw (r_runV (rest := [.int r_31, .ref (ad 10)]) C hw (m_X6_askedName l D cA ad base fu h_49) mvX6_askedName gw6_18 ⟨rfl, rfl, Nat.le_of_ble_eq_true rfl, Nat.le_of_ble_eq_true rfl⟩ dq_49 ln_49 vc_6 rfl hl.1 rfl (Nat.le_of_ble_eq_true rfl) dX11_step_49 (Nat.zero_le _) (Nat.zero_le _)) (fun H locs hw => ?_)
    refine lv_aload_n hx hb dX11_step_52 rfl (lv_at hl 2 rfl) ?_
    refine r_getR C hw (k := 9) (r := 49) dq_0 ln_0 rfl vc_11 inX11 (by decide) rfl gw2_122 dX11_step_53 ?_
    obtain ⟨S_56, r_56, h_56, hf⟩ := bd_some hf
    refine r_bi hw (r_runV (rest := [.int r_49, .int r_31, .ref (ad 10)]) C hw (m_X6_askedType l D cA ad base fu h_56) mvX6_askedType gw6_22 ⟨rfl, rfl, Nat.le_of_ble_eq_true rfl, Nat.le_of_ble_eq_true rfl⟩ dq_49 ln_49 vc_6 rfl hl.1 rfl (Nat.le_of_ble_eq_true rfl) dX11_step_56 (Nat.zero_le _) (Nat.zero_le _)) (fun H locs hw => ?_)
    refine lv_aload_n hx hb dX11_step_59 rfl (lv_at hl 2 rfl) ?_
    refine r_getR C hw (k := 9) (r := 49) dq_0 ln_0 rfl vc_11 inX11 (by decide) rfl gw2_122 dX11_step_60 ?_
    obtain ⟨S_63, r_63, h_63, hf⟩ := bd_some hf
    refine r_bi hw (r_runV (rest := [.int r_56, .int r_49, .int r_31, .ref (ad 10)]) C hw (m_X6_id l D cA ad base fu h_63) mvX6_id gw6_26 ⟨rfl, rfl, Nat.le_of_ble_eq_true rfl, Nat.le_of_ble_eq_true rfl⟩ dq_49 ln_49 vc_6 rfl hl.1 rfl (Nat.le_of_ble_eq_true rfl) dX11_step_63 (Nat.zero_le _) (Nat.zero_le _)) (fun H locs hw => ?_)
    refine lv_aload_n hx hb dX11_step_66 rfl (lv_at hl 2 rfl) ?_
    refine r_getR C hw (k := 4) (r := 18) dq_0 ln_0 rfl vc_11 inX11 (by decide) rfl gw2_117 dX11_step_67 ?_
    obtain ⟨S_70, r_70, h_70, hf⟩ := bd_some hf
    refine r_bi hw (r_runV (rest := []) C hw (m_X10_tell l D cA ad base fu h_70) mvX10_tell gw4_183 ⟨rfl, rfl, Nat.le_of_ble_eq_true rfl, Nat.le_of_ble_eq_true rfl⟩ dq_10 ln_10 vc_10 rfl hl.1 rfl (Nat.le_of_ble_eq_true rfl) dX11_step_70 (Nat.zero_le _) (Nat.zero_le _)) (fun H locs hw => ?_)
    refine lv_if_eq (tgt := 120) hx hb dX11_step_73 (by decide) (fun c_73 => ?_) (fun c_73 => ?_)
    · have hf := if_t hf c_73
      exact J_120 _ _ _ _ hf (lv_sub hl [2] rfl) hw
    · have hf := if_f hf c_73
      refine lv_aload_n hx hb dX11_step_76 rfl (lv_at hl 2 rfl) ?_
      refine r_getR C hw (k := 6) (r := 26) dq_0 ln_0 rfl vc_11 inX11 (by decide) rfl gw2_119 dX11_step_77 ?_
      refine lv_aload_n hx hb dX11_step_80 rfl (lv_at hl 2 rfl) ?_
      refine r_getR C hw (k := 4) (r := 18) dq_0 ln_0 rfl vc_11 inX11 (by decide) rfl gw2_117 dX11_step_81 ?_
      obtain ⟨S_84, r_84, h_84, hf⟩ := bd_some hf
      refine r_br hw (r_runV (rest := [.ref (ad 26)]) C hw (m_X9_message l D cA ad base fu h_84) mvX9_message gw5_29 ⟨rfl, rfl, Nat.le_of_ble_eq_true rfl, Nat.le_of_ble_eq_true rfl⟩ dq_18 ln_18 vc_9 rfl hl.1 rfl (Nat.le_of_ble_eq_true rfl) dX11_step_84 (Nat.zero_le _) (Nat.zero_le _)) (fun H locs hw => ?_)
      obtain ⟨S_87, r_87, h_87, hf⟩ := bd_some hf
      refine r_bi hw (r_runV (rest := []) C hw (m_X4_read l D cA ad base fu 19 kBy_19 h_87) mvX4_read gw2_180 ⟨rfl, rfl, Nat.le_of_ble_eq_true rfl, Nat.le_of_ble_eq_true rfl⟩ dq_26 ln_26 vc_4 rfl hl.1 rfl (Nat.le_of_ble_eq_true rfl) dX11_step_87 (Nat.zero_le _) (Nat.zero_le _)) (fun H locs hw => ?_)
      refine lv_istore_n (lv' := [(3, .int r_87), (2, .int r_31), (1, .int r_15), (0, .ref (ad 0))]) hx hb dX11_step_90 rfl hl (by decide) rfl (fun ls hl => ?_)
      refine lv_iload_n hx hb dX11_step_91 rfl (lv_at hl 0 rfl) ?_
      refine lv_if_ne (tgt := 120) hx hb dX11_step_92 (by decide) (fun c_92 => ?_) (fun c_92 => ?_)
      · have hf := if_f hf c_92
        exact J_120 _ _ _ _ hf (lv_sub hl [3] rfl) hw
      · have hf := if_t hf c_92
        refine lv_aload_n hx hb dX11_step_95 rfl (lv_at hl 3 rfl) ?_
        refine r_getR C hw (k := 9) (r := 49) dq_0 ln_0 rfl vc_11 inX11 (by decide) rfl gw2_122 dX11_step_96 ?_
        refine lv_aload_n hx hb dX11_step_99 rfl (lv_at hl 3 rfl) ?_
        refine r_getR C hw (k := 6) (r := 26) dq_0 ln_0 rfl vc_11 inX11 (by decide) rfl gw2_119 dX11_step_100 ?_
        obtain ⟨S_103, r_103, h_103, hf⟩ := bd_some hf
        refine r_bi hw (r_runV (rest := []) C hw (m_X6_isAnsweredBy l D cA ad base fu h_103) mvX6_isAnsweredBy gw6_31 ⟨rfl, rfl, Nat.le_of_ble_eq_true rfl, Nat.le_of_ble_eq_true rfl⟩ dq_49 ln_49 vc_6 rfl hl.1 rfl (Nat.le_of_ble_eq_true rfl) dX11_step_103 (Nat.zero_le _) (Nat.zero_le _)) (fun H locs hw => ?_)
        refine lv_if_eq (tgt := 120) hx hb dX11_step_106 (by decide) (fun c_106 => ?_) (fun c_106 => ?_)
        · have hf := if_t hf c_106
          exact J_120 _ _ _ _ hf (lv_sub hl [3] rfl) hw
        · have hf := if_f hf c_106
          refine lv_aload_n hx hb dX11_step_109 rfl (lv_at hl 3 rfl) ?_
          refine r_getR C hw (k := 9) (r := 49) dq_0 ln_0 rfl vc_11 inX11 (by decide) rfl gw2_122 dX11_step_110 ?_
          refine lv_aload_n hx hb dX11_step_113 rfl (lv_at hl 3 rfl) ?_
          refine r_getR C hw (k := 6) (r := 26) dq_0 ln_0 rfl vc_11 inX11 (by decide) rfl gw2_119 dX11_step_114 ?_
          obtain ⟨S_117, r_117, h_117, hf⟩ := bd_some hf
          refine r_bv hw (r_runV (rest := []) C hw (m_X6_learn l D cA ad base fu h_117) mvX6_learn gw6_43 ⟨rfl, rfl, Nat.le_of_ble_eq_true rfl, Nat.le_of_ble_eq_true rfl⟩ dq_49 ln_49 vc_6 rfl hl.1 rfl (Nat.le_of_ble_eq_true rfl) dX11_step_117 (Nat.zero_le _) (Nat.zero_le _)) (fun H locs hw => ?_)
          exact J_120 _ _ _ _ hf (lv_sub hl [3] rfl) hw
noncomputable def fX11_lose (fu : Nat) (S : St) : Option (St × Ot) :=
  bx (fX11_needQuery fu S) fun S_1 _ =>
  bd (fX6_goOn fu S_1) fun S_8 r_8 =>
  some (S_8, (0, r_8))
theorem mvX11_lose : MV yX11_lose cX11_lose 1 (some .int) RX11 0 := ⟨gw6_111, gw6_109, gw6_110, gw1_1, by decide +kernel⟩
def rmX11_lose : Room := { frames := 6, cells := 0, slots := 0, locals := 140 }
set_option maxHeartbeats 4000000 in
set_option maxRecDepth 100000 in
theorem m_X11_lose (l : Launch) (D : va_G) (cA : FieldType → ClassId) (ad : Nat → Nat) (base : Nat) (fu : Nat) {S S' : St} {r : Int32} (hf : fX11_lose fu S = some (S', (0, r))) : Met l yX11_lose (GC yX11_lose cX11_lose 1 (some .int)) rmX11_lose (va_Pc [.ref (ad 0)] (wd D cA ad base S)) (QI D cA ad base S' r) 0 0 (aB base) := by
  refine Met.ofW (cc := cX11_lose) (maxL := 1) (ret := (some .int)) (by decide) rfl ?_
  intro p e s m args below meth c s₁ B hml hv
  obtain ⟨C, hw⟩ := CX.of (own := RX11) rfl B hml hv.2
  have hargs := hv.1
  have hr := B.returns
  have hlocks := B.notSynchronized
  have hx := C.1
  have hb := C.2.1
  have hl := lv_entry ([.ref (ad 0)]) (n := 1) (Nat.le_of_ble_eq_true rfl)
  rw [show entryFrame m args 1 = entryFrame m ([.ref (ad 0)] : List Value).toArray 1 from by rw [hargs], lg_entry_eq]
  generalize (lg_sl ([.ref (ad 0)]) ++ List.replicate (1 - (lg_sl ([.ref (ad 0)])).length) Slot.unset).toArray = ls at hl ⊢
  have hl : lv_has ls 1 [(0, .ref (ad 0))] := hl
  show W p l e rmX11_lose s m args below meth c s.heap [] 0 0 _ _
  refine lv_aload_n hx hb dX11_lose_0 rfl (lv_at hl 0 rfl) ?_
  obtain ⟨S_1, r_1, h_1, hf⟩ := bx_ret hf
  refine r_bv hw (r_runV (rest := []) C hw (m_X11_needQuery l D cA ad base fu h_1) mvX11_needQuery gw6_5 ⟨rfl, rfl, Nat.le_of_ble_eq_true rfl, Nat.le_of_ble_eq_true rfl⟩ dq_0 ln_0 vc_11 rfl hl.1 rfl (Nat.le_of_ble_eq_true rfl) dX11_lose_1 (Nat.zero_le _) (Nat.zero_le _)) (fun H locs hw => ?_)
  refine lv_aload_n hx hb dX11_lose_4 rfl (lv_at hl 0 rfl) ?_
  refine r_getR C hw (k := 9) (r := 49) dq_0 ln_0 rfl vc_11 inX11 (by decide) rfl gw2_122 dX11_lose_5 ?_
  obtain ⟨S_8, r_8, h_8, hf⟩ := bd_some hf
  refine r_bi hw (r_runV (rest := []) C hw (m_X6_goOn l D cA ad base fu h_8) mvX6_goOn gw5_131 ⟨rfl, rfl, Nat.le_of_ble_eq_true rfl, Nat.le_of_ble_eq_true rfl⟩ dq_49 ln_49 vc_6 rfl hl.1 rfl (Nat.le_of_ble_eq_true rfl) dX11_lose_8 (Nat.zero_le _) (Nat.zero_le _)) (fun H locs hw => ?_)
  exact r_iret C hw hr hlocks (ot_ret hf) dX11_lose_11
def rxX11_lose : Room := { frames := 7, cells := 1, slots := 6, locals := 140 }
set_option maxHeartbeats 4000000 in
set_option maxRecDepth 100000 in
theorem n_X11_lose (l : Launch) (hlt : l.stackTraces = false) (D : va_G) (cA : FieldType → ClassId) (ad : Nat → Nat) (base : Nat) (fu : Nat) {S S' : St} {k : Nat} {r : Int32} (hf : fX11_lose fu S = some (S', (k + 1, r))) : vx_Met l yX11_lose (GC yX11_lose cX11_lose 1 (some .int)) rxX11_lose (va_Pc [.ref (ad 0)] (wd D cA ad base S)) QF (XQ D cA ad base S' (k + 1)) 1 6 (aB base) := by
  refine vx_ofW (cc := cX11_lose) (maxL := 1) (ret := (some .int)) (by decide) rfl ?_
  intro p e s m args below meth c s₁ B hml ht hv
  obtain ⟨C, hw⟩ := CX.of (own := RX11) rfl B hml hv.2
  have hargs := hv.1
  have hr := B.returns
  have hlocks := B.notSynchronized
  have hx := C.1
  have hb := C.2.1
  have hl := lv_entry ([.ref (ad 0)]) (n := 1) (Nat.le_of_ble_eq_true rfl)
  rw [show entryFrame m args 1 = entryFrame m ([.ref (ad 0)] : List Value).toArray 1 from by rw [hargs], lg_entry_eq]
  generalize (lg_sl ([.ref (ad 0)]) ++ List.replicate (1 - (lg_sl ([.ref (ad 0)])).length) Slot.unset).toArray = ls at hl ⊢
  have hl : lv_has ls 1 [(0, .ref (ad 0))] := hl
  show W p l e rxX11_lose s m args below meth c s.heap [] 0 0 _ _
  refine lv_aload_n hx hb dX11_lose_0 rfl (lv_at hl 0 rfl) ?_
  rcases bx_some hf with ⟨S_1, r_1, h_1, hf⟩ | ⟨h_1, -⟩
  rotate_left
  · refine r_xV (rest := []) C hw (n_X11_needQuery l hlt D cA ad base fu h_1) mvX11_needQuery gw6_5 ⟨rfl, rfl, Nat.le_of_ble_eq_true rfl, Nat.le_of_ble_eq_true rfl⟩ dq_0 ln_0 vc_11 rfl hl.1 rfl (Nat.le_of_ble_eq_true rfl) dX11_lose_1 (Nat.le_of_ble_eq_true rfl) (Nat.le_of_ble_eq_true rfl) (fun ce q9 H locs hw hce hcv hcl => ?_)
    exact r_out C hw ht hlocks hce hcv hcl
  refine r_bv hw (r_runV (rest := []) C hw (m_X11_needQuery l D cA ad base fu h_1) mvX11_needQuery gw6_5 ⟨rfl, rfl, Nat.le_of_ble_eq_true rfl, Nat.le_of_ble_eq_true rfl⟩ dq_0 ln_0 vc_11 rfl hl.1 rfl (Nat.le_of_ble_eq_true rfl) dX11_lose_1 (Nat.zero_le _) (Nat.zero_le _)) (fun H locs hw => ?_)
  refine lv_aload_n hx hb dX11_lose_4 rfl (lv_at hl 0 rfl) ?_
  refine r_getR C hw (k := 9) (r := 49) dq_0 ln_0 rfl vc_11 inX11 (by decide) rfl gw2_122 dX11_lose_5 ?_
  obtain ⟨S_8, r_8, h_8, hf⟩ := bd_some hf
  refine r_bi hw (r_runV (rest := []) C hw (m_X6_goOn l D cA ad base fu h_8) mvX6_goOn gw5_131 ⟨rfl, rfl, Nat.le_of_ble_eq_true rfl, Nat.le_of_ble_eq_true rfl⟩ dq_49 ln_49 vc_6 rfl hl.1 rfl (Nat.le_of_ble_eq_true rfl) dX11_lose_8 (Nat.zero_le _) (Nat.zero_le _)) (fun H locs hw => ?_)
  exact (no_ret hf).elim
noncomputable def fX11_forge (fu : Nat) (S : St) : Option (St × Ot) :=
  bd (fX6_isWaiting fu S) fun S_4 r_4 =>
  if r_4 = 0 then
    bd (fX0_clear fu 1 S_4) fun S_14 _ =>
    some (S_14, (5, (0 : Int32)))
  else
    bd (fX4_read fu 1 S_4) fun S_36 r_36 =>
    bd (fX0_clear fu 1 S_36) fun S_44 _ =>
    if r_36 = 0 then
      bd (fX6_isAnsweredBy fu S_44) fun S_59 r_59 =>
      if r_59 = 0 then
        some (S_59, (0, (-1 : Int32)))
      else
        bd (fX6_learn fu S_59) fun S_75 _ =>
        bd (fX6_goOn fu S_75) fun S_82 r_82 =>
        some (S_82, (0, r_82))
    else
      some (S_44, (0, (-1 : Int32)))
theorem mvX11_forge : MV yX11_forge cX11_forge 2 (some .int) RX11 0 := ⟨gw6_118, gw6_116, gw6_117, gw1_1, by decide +kernel⟩
def rmX11_forge : Room := { frames := 6, cells := 0, slots := 0, locals := 153 }
set_option maxHeartbeats 4000000 in
set_option maxRecDepth 100000 in
theorem m_X11_forge (l : Launch) (D : va_G) (cA : FieldType → ClassId) (ad : Nat → Nat) (base : Nat) (fu : Nat) {S S' : St} {r : Int32} (hf : fX11_forge fu S = some (S', (0, r))) : Met l yX11_forge (GC yX11_forge cX11_forge 2 (some .int)) rmX11_forge (va_Pc [.ref (ad 0)] (wd D cA ad base S)) (QI D cA ad base S' r) 0 0 (aB base) := by
  refine Met.ofW (cc := cX11_forge) (maxL := 2) (ret := (some .int)) (by decide) rfl ?_
  intro p e s m args below meth c s₁ B hml hv
  obtain ⟨C, hw⟩ := CX.of (own := RX11) rfl B hml hv.2
  have hargs := hv.1
  have hr := B.returns
  have hlocks := B.notSynchronized
  have hx := C.1
  have hb := C.2.1
  have hl := lv_entry ([.ref (ad 0)]) (n := 2) (Nat.le_of_ble_eq_true rfl)
  rw [show entryFrame m args 2 = entryFrame m ([.ref (ad 0)] : List Value).toArray 2 from by rw [hargs], lg_entry_eq]
  generalize (lg_sl ([.ref (ad 0)]) ++ List.replicate (2 - (lg_sl ([.ref (ad 0)])).length) Slot.unset).toArray = ls at hl ⊢
  have hl : lv_has ls 2 [(0, .ref (ad 0))] := hl
  show W p l e rmX11_forge s m args below meth c s.heap [] 0 0 _ _
  refine lv_aload_n hx hb dX11_forge_0 rfl (lv_at hl 0 rfl) ?_
  refine r_getR C hw (k := 9) (r := 49) dq_0 ln_0 rfl vc_11 inX11 (by decide) rfl gw2_122 dX11_forge_1 ?_
  obtain ⟨S_4, r_4, h_4, hf⟩ := bd_some hf
  refine r_bi hw (r_runV (rest := []) C hw (m_X6_isWaiting l D cA ad base fu h_4) mvX6_isWaiting gw6_9 ⟨rfl, rfl, Nat.le_of_ble_eq_true rfl, Nat.le_of_ble_eq_true rfl⟩ dq_49 ln_49 vc_6 rfl hl.1 rfl (Nat.le_of_ble_eq_true rfl) dX11_forge_4 (Nat.zero_le _) (Nat.zero_le _)) (fun H locs hw => ?_)
  refine lv_if_ne (tgt := 28) hx hb dX11_forge_7 (by decide) (fun c_7 => ?_) (fun c_7 => ?_)
  · have hf := if_f hf c_7
    refine lv_aload_n hx hb dX11_forge_28 rfl (lv_at hl 0 rfl) ?_
    refine r_getR C hw (k := 6) (r := 26) dq_0 ln_0 rfl vc_11 inX11 (by decide) rfl gw2_119 dX11_forge_29 ?_
    refine lv_aload_n hx hb dX11_forge_32 rfl (lv_at hl 0 rfl) ?_
    refine r_getR C hw (k := 0) (r := 1) dq_0 ln_0 rfl vc_11 inX11 (by decide) rfl gw2_113 dX11_forge_33 ?_
    obtain ⟨S_36, r_36, h_36, hf⟩ := bd_some hf
    refine r_bi hw (r_runV (rest := []) C hw (m_X4_read l D cA ad base fu 1 kBy_1 h_36) mvX4_read gw2_180 ⟨rfl, rfl, Nat.le_of_ble_eq_true rfl, Nat.le_of_ble_eq_true rfl⟩ dq_26 ln_26 vc_4 rfl hl.1 rfl (Nat.le_of_ble_eq_true rfl) dX11_forge_36 (Nat.zero_le _) (Nat.zero_le _)) (fun H locs hw => ?_)
    refine lv_istore_n (lv' := [(1, .int r_36), (0, .ref (ad 0))]) hx hb dX11_forge_39 rfl hl (by decide) rfl (fun ls hl => ?_)
    refine lv_aload_n hx hb dX11_forge_40 rfl (lv_at hl 1 rfl) ?_
    refine r_getR C hw (k := 0) (r := 1) dq_0 ln_0 rfl vc_11 inX11 (by decide) rfl gw2_113 dX11_forge_41 ?_
    obtain ⟨S_44, r_44, h_44, hf⟩ := bd_some hf
    refine r_bv hw (r_runV (rest := []) C hw (m_X0_clear l D cA ad base fu 1 kBy_1 h_44) mvX0_clear gw3_33 ⟨rfl, rfl, Nat.le_of_ble_eq_true rfl, Nat.le_of_ble_eq_true rfl⟩ dq_1 ln_1 vc_0 rfl hl.1 rfl (Nat.le_of_ble_eq_true rfl) dX11_forge_44 (Nat.zero_le _) (Nat.zero_le _)) (fun H locs hw => ?_)
    refine lv_iload_n hx hb dX11_forge_47 rfl (lv_at hl 0 rfl) ?_
    refine lv_if_ne (tgt := 65) hx hb dX11_forge_48 (by decide) (fun c_48 => ?_) (fun c_48 => ?_)
    · have hf := if_f hf c_48
      refine lv_iconst (v := (-1 : Int32)) hx hb dX11_forge_65 (by decide) ?_
      exact r_iret C hw hr hlocks (ot_ret hf) dX11_forge_66
    · have hf := if_t hf c_48
      refine lv_aload_n hx hb dX11_forge_51 rfl (lv_at hl 1 rfl) ?_
      refine r_getR C hw (k := 9) (r := 49) dq_0 ln_0 rfl vc_11 inX11 (by decide) rfl gw2_122 dX11_forge_52 ?_
      refine lv_aload_n hx hb dX11_forge_55 rfl (lv_at hl 1 rfl) ?_
      refine r_getR C hw (k := 6) (r := 26) dq_0 ln_0 rfl vc_11 inX11 (by decide) rfl gw2_119 dX11_forge_56 ?_
      obtain ⟨S_59, r_59, h_59, hf⟩ := bd_some hf
      refine r_bi hw (r_runV (rest := []) C hw (m_X6_isAnsweredBy l D cA ad base fu h_59) mvX6_isAnsweredBy gw6_31 ⟨rfl, rfl, Nat.le_of_ble_eq_true rfl, Nat.le_of_ble_eq_true rfl⟩ dq_49 ln_49 vc_6 rfl hl.1 rfl (Nat.le_of_ble_eq_true rfl) dX11_forge_59 (Nat.zero_le _) (Nat.zero_le _)) (fun H locs hw => ?_)
      refine lv_if_ne (tgt := 67) hx hb dX11_forge_62 (by decide) (fun c_62 => ?_) (fun c_62 => ?_)
      · have hf := if_f hf c_62
        refine lv_aload_n hx hb dX11_forge_67 rfl (lv_at hl 1 rfl) ?_
        refine r_getR C hw (k := 9) (r := 49) dq_0 ln_0 rfl vc_11 inX11 (by decide) rfl gw2_122 dX11_forge_68 ?_
        refine lv_aload_n hx hb dX11_forge_71 rfl (lv_at hl 1 rfl) ?_
        refine r_getR C hw (k := 6) (r := 26) dq_0 ln_0 rfl vc_11 inX11 (by decide) rfl gw2_119 dX11_forge_72 ?_
        obtain ⟨S_75, r_75, h_75, hf⟩ := bd_some hf
        refine r_bv hw (r_runV (rest := []) C hw (m_X6_learn l D cA ad base fu h_75) mvX6_learn gw6_43 ⟨rfl, rfl, Nat.le_of_ble_eq_true rfl, Nat.le_of_ble_eq_true rfl⟩ dq_49 ln_49 vc_6 rfl hl.1 rfl (Nat.le_of_ble_eq_true rfl) dX11_forge_75 (Nat.zero_le _) (Nat.zero_le _)) (fun H locs hw => ?_)
        refine lv_aload_n hx hb dX11_forge_78 rfl (lv_at hl 1 rfl) ?_
        refine r_getR C hw (k := 9) (r := 49) dq_0 ln_0 rfl vc_11 inX11 (by decide) rfl gw2_122 dX11_forge_79 ?_
        obtain ⟨S_82, r_82, h_82, hf⟩ := bd_some hf
        refine r_bi hw (r_runV (rest := []) C hw (m_X6_goOn l D cA ad base fu h_82) mvX6_goOn gw5_131 ⟨rfl, rfl, Nat.le_of_ble_eq_true rfl, Nat.le_of_ble_eq_true rfl⟩ dq_49 ln_49 vc_6 rfl hl.1 rfl (Nat.le_of_ble_eq_true rfl) dX11_forge_82 (Nat.zero_le _) (Nat.zero_le _)) (fun H locs hw => ?_)
        exact r_iret C hw hr hlocks (ot_ret hf) dX11_forge_85
      · have hf := if_t hf c_62
        refine lv_iconst (v := (-1 : Int32)) hx hb dX11_forge_65 (by decide) ?_
        exact r_iret C hw hr hlocks (ot_ret hf) dX11_forge_66
  · have hf := if_t hf c_7
    refine lv_aload_n hx hb dX11_forge_10 rfl (lv_at hl 0 rfl) ?_
    refine r_getR C hw (k := 0) (r := 1) dq_0 ln_0 rfl vc_11 inX11 (by decide) rfl gw2_113 dX11_forge_11 ?_
    obtain ⟨S_14, r_14, h_14, hf⟩ := bd_some hf
    refine r_bv hw (r_runV (rest := []) C hw (m_X0_clear l D cA ad base fu 1 kBy_1 h_14) mvX0_clear gw3_33 ⟨rfl, rfl, Nat.le_of_ble_eq_true rfl, Nat.le_of_ble_eq_true rfl⟩ dq_1 ln_1 vc_0 rfl hl.1 rfl (Nat.le_of_ble_eq_true rfl) dX11_forge_14 (Nat.zero_le _) (Nat.zero_le _)) (fun H locs hw => ?_)
    exact (no_thr hf).elim
def rxX11_forge : Room := { frames := 6, cells := 1, slots := 6, locals := 153 }
set_option maxHeartbeats 4000000 in
set_option maxRecDepth 100000 in
theorem n_X11_forge (l : Launch) (hlt : l.stackTraces = false) (D : va_G) (cA : FieldType → ClassId) (ad : Nat → Nat) (base : Nat) (fu : Nat) {S S' : St} {k : Nat} {r : Int32} (hf : fX11_forge fu S = some (S', (k + 1, r))) : vx_Met l yX11_forge (GC yX11_forge cX11_forge 2 (some .int)) rxX11_forge (va_Pc [.ref (ad 0)] (wd D cA ad base S)) QF (XQ D cA ad base S' (k + 1)) 1 6 (aB base) := by
  refine vx_ofW (cc := cX11_forge) (maxL := 2) (ret := (some .int)) (by decide) rfl ?_
  intro p e s m args below meth c s₁ B hml ht hv
  obtain ⟨C, hw⟩ := CX.of (own := RX11) rfl B hml hv.2
  have hargs := hv.1
  have hr := B.returns
  have hlocks := B.notSynchronized
  have hx := C.1
  have hb := C.2.1
  have hl := lv_entry ([.ref (ad 0)]) (n := 2) (Nat.le_of_ble_eq_true rfl)
  rw [show entryFrame m args 2 = entryFrame m ([.ref (ad 0)] : List Value).toArray 2 from by rw [hargs], lg_entry_eq]
  generalize (lg_sl ([.ref (ad 0)]) ++ List.replicate (2 - (lg_sl ([.ref (ad 0)])).length) Slot.unset).toArray = ls at hl ⊢
  have hl : lv_has ls 2 [(0, .ref (ad 0))] := hl
  show W p l e rxX11_forge s m args below meth c s.heap [] 0 0 _ _
  refine lv_aload_n hx hb dX11_forge_0 rfl (lv_at hl 0 rfl) ?_
  refine r_getR C hw (k := 9) (r := 49) dq_0 ln_0 rfl vc_11 inX11 (by decide) rfl gw2_122 dX11_forge_1 ?_
  obtain ⟨S_4, r_4, h_4, hf⟩ := bd_some hf
  refine r_bi hw (r_runV (rest := []) C hw (m_X6_isWaiting l D cA ad base fu h_4) mvX6_isWaiting gw6_9 ⟨rfl, rfl, Nat.le_of_ble_eq_true rfl, Nat.le_of_ble_eq_true rfl⟩ dq_49 ln_49 vc_6 rfl hl.1 rfl (Nat.le_of_ble_eq_true rfl) dX11_forge_4 (Nat.zero_le _) (Nat.zero_le _)) (fun H locs hw => ?_)
  refine lv_if_ne (tgt := 28) hx hb dX11_forge_7 (by decide) (fun c_7 => ?_) (fun c_7 => ?_)
  · have hf := if_f hf c_7
    refine lv_aload_n hx hb dX11_forge_28 rfl (lv_at hl 0 rfl) ?_
    refine r_getR C hw (k := 6) (r := 26) dq_0 ln_0 rfl vc_11 inX11 (by decide) rfl gw2_119 dX11_forge_29 ?_
    refine lv_aload_n hx hb dX11_forge_32 rfl (lv_at hl 0 rfl) ?_
    refine r_getR C hw (k := 0) (r := 1) dq_0 ln_0 rfl vc_11 inX11 (by decide) rfl gw2_113 dX11_forge_33 ?_
    obtain ⟨S_36, r_36, h_36, hf⟩ := bd_some hf
    refine r_bi hw (r_runV (rest := []) C hw (m_X4_read l D cA ad base fu 1 kBy_1 h_36) mvX4_read gw2_180 ⟨rfl, rfl, Nat.le_of_ble_eq_true rfl, Nat.le_of_ble_eq_true rfl⟩ dq_26 ln_26 vc_4 rfl hl.1 rfl (Nat.le_of_ble_eq_true rfl) dX11_forge_36 (Nat.zero_le _) (Nat.zero_le _)) (fun H locs hw => ?_)
    refine lv_istore_n (lv' := [(1, .int r_36), (0, .ref (ad 0))]) hx hb dX11_forge_39 rfl hl (by decide) rfl (fun ls hl => ?_)
    refine lv_aload_n hx hb dX11_forge_40 rfl (lv_at hl 1 rfl) ?_
    refine r_getR C hw (k := 0) (r := 1) dq_0 ln_0 rfl vc_11 inX11 (by decide) rfl gw2_113 dX11_forge_41 ?_
    obtain ⟨S_44, r_44, h_44, hf⟩ := bd_some hf
    refine r_bv hw (r_runV (rest := []) C hw (m_X0_clear l D cA ad base fu 1 kBy_1 h_44) mvX0_clear gw3_33 ⟨rfl, rfl, Nat.le_of_ble_eq_true rfl, Nat.le_of_ble_eq_true rfl⟩ dq_1 ln_1 vc_0 rfl hl.1 rfl (Nat.le_of_ble_eq_true rfl) dX11_forge_44 (Nat.zero_le _) (Nat.zero_le _)) (fun H locs hw => ?_)
    refine lv_iload_n hx hb dX11_forge_47 rfl (lv_at hl 0 rfl) ?_
    refine lv_if_ne (tgt := 65) hx hb dX11_forge_48 (by decide) (fun c_48 => ?_) (fun c_48 => ?_)
    · have hf := if_f hf c_48
      refine lv_iconst (v := (-1 : Int32)) hx hb dX11_forge_65 (by decide) ?_
      exact (no_ret hf).elim
    · have hf := if_t hf c_48
      refine lv_aload_n hx hb dX11_forge_51 rfl (lv_at hl 1 rfl) ?_
      refine r_getR C hw (k := 9) (r := 49) dq_0 ln_0 rfl vc_11 inX11 (by decide) rfl gw2_122 dX11_forge_52 ?_
      refine lv_aload_n hx hb dX11_forge_55 rfl (lv_at hl 1 rfl) ?_
      refine r_getR C hw (k := 6) (r := 26) dq_0 ln_0 rfl vc_11 inX11 (by decide) rfl gw2_119 dX11_forge_56 ?_
      obtain ⟨S_59, r_59, h_59, hf⟩ := bd_some hf
      refine r_bi hw (r_runV (rest := []) C hw (m_X6_isAnsweredBy l D cA ad base fu h_59) mvX6_isAnsweredBy gw6_31 ⟨rfl, rfl, Nat.le_of_ble_eq_true rfl, Nat.le_of_ble_eq_true rfl⟩ dq_49 ln_49 vc_6 rfl hl.1 rfl (Nat.le_of_ble_eq_true rfl) dX11_forge_59 (Nat.zero_le _) (Nat.zero_le _)) (fun H locs hw => ?_)
      refine lv_if_ne (tgt := 67) hx hb dX11_forge_62 (by decide) (fun c_62 => ?_) (fun c_62 => ?_)
      · have hf := if_f hf c_62
        refine lv_aload_n hx hb dX11_forge_67 rfl (lv_at hl 1 rfl) ?_
        refine r_getR C hw (k := 9) (r := 49) dq_0 ln_0 rfl vc_11 inX11 (by decide) rfl gw2_122 dX11_forge_68 ?_
        refine lv_aload_n hx hb dX11_forge_71 rfl (lv_at hl 1 rfl) ?_
        refine r_getR C hw (k := 6) (r := 26) dq_0 ln_0 rfl vc_11 inX11 (by decide) rfl gw2_119 dX11_forge_72 ?_
        obtain ⟨S_75, r_75, h_75, hf⟩ := bd_some hf
        refine r_bv hw (r_runV (rest := []) C hw (m_X6_learn l D cA ad base fu h_75) mvX6_learn gw6_43 ⟨rfl, rfl, Nat.le_of_ble_eq_true rfl, Nat.le_of_ble_eq_true rfl⟩ dq_49 ln_49 vc_6 rfl hl.1 rfl (Nat.le_of_ble_eq_true rfl) dX11_forge_75 (Nat.zero_le _) (Nat.zero_le _)) (fun H locs hw => ?_)
        refine lv_aload_n hx hb dX11_forge_78 rfl (lv_at hl 1 rfl) ?_
        refine r_getR C hw (k := 9) (r := 49) dq_0 ln_0 rfl vc_11 inX11 (by decide) rfl gw2_122 dX11_forge_79 ?_
        obtain ⟨S_82, r_82, h_82, hf⟩ := bd_some hf
        refine r_bi hw (r_runV (rest := []) C hw (m_X6_goOn l D cA ad base fu h_82) mvX6_goOn gw5_131 ⟨rfl, rfl, Nat.le_of_ble_eq_true rfl, Nat.le_of_ble_eq_true rfl⟩ dq_49 ln_49 vc_6 rfl hl.1 rfl (Nat.le_of_ble_eq_true rfl) dX11_forge_82 (Nat.zero_le _) (Nat.zero_le _)) (fun H locs hw => ?_)
        exact (no_ret hf).elim
      · have hf := if_t hf c_62
        refine lv_iconst (v := (-1 : Int32)) hx hb dX11_forge_65 (by decide) ?_
        exact (no_ret hf).elim
  · have hf := if_t hf c_7
    refine lv_aload_n hx hb dX11_forge_10 rfl (lv_at hl 0 rfl) ?_
    refine r_getR C hw (k := 0) (r := 1) dq_0 ln_0 rfl vc_11 inX11 (by decide) rfl gw2_113 dX11_forge_11 ?_
    obtain ⟨S_14, r_14, h_14, hf⟩ := bd_some hf
    refine r_bv hw (r_runV (rest := []) C hw (m_X0_clear l D cA ad base fu 1 kBy_1 h_14) mvX0_clear gw3_33 ⟨rfl, rfl, Nat.le_of_ble_eq_true rfl, Nat.le_of_ble_eq_true rfl⟩ dq_1 ln_1 vc_0 rfl hl.1 rfl (Nat.le_of_ble_eq_true rfl) dX11_forge_14 (Nat.zero_le _) (Nat.zero_le _)) (fun H locs hw => ?_)
    exact r_throwW C hw hlt ht hlocks hl.1 (k := 4) (is := 318) (text := "no query is out") txISE gw5_98 (by decide) rfl dX11_forge_17 dX11_forge_20 dX11_forge_21 dX11_forge_24 dX11_forge_27 (Nat.le_of_ble_eq_true rfl) (Nat.le_of_ble_eq_true rfl) (Nat.le_of_ble_eq_true rfl) (Nat.le_of_ble_eq_true rfl) hf
noncomputable def fX11_query (fu : Nat) (x1 : Int32) (S : St) : Option (St × Ot) :=
  bx (fX11_needQuery fu S) fun S_1 _ =>
  if x1 = (0 : Int32) then
    bd (fX6_address fu S_1) fun S_48 r_48 =>
    some (S_48, (0, r_48))
  else
  if x1 = (1 : Int32) then
    bd (fX6_id fu S_1) fun S_56 r_56 =>
    some (S_56, (0, r_56))
  else
  if x1 = (2 : Int32) then
    bd (fX6_askedName fu S_1) fun S_64 r_64 =>
    some (S_64, (0, r_64))
  else
  if x1 = (3 : Int32) then
    bd (fX6_askedType fu S_1) fun S_72 r_72 =>
    some (S_72, (0, r_72))
  else
  if x1 = (4 : Int32) then
    bd (fX6_depth fu S_1) fun S_80 r_80 =>
    some (S_80, (0, r_80))
  else
  if x1 = (5 : Int32) then
    bd (fX6_place fu S_1) fun S_88 r_88 =>
    some (S_88, (0, r_88))
  else
    some (S_1, (4, (0 : Int32)))
theorem mvX11_query : MV yX11_query cX11_query 2 (some .int) RX11 1 := ⟨gw6_125, gw6_123, gw6_124, gw1_1, by decide +kernel⟩
def rmX11_query : Room := { frames := 2, cells := 0, slots := 0, locals := 40 }
set_option maxHeartbeats 4000000 in
set_option maxRecDepth 100000 in
theorem m_X11_query (l : Launch) (D : va_G) (cA : FieldType → ClassId) (ad : Nat → Nat) (base : Nat) (fu : Nat) {S S' : St} {x1 : Int32} {r : Int32} (hf : fX11_query fu x1 S = some (S', (0, r))) : Met l yX11_query (GC yX11_query cX11_query 2 (some .int)) rmX11_query (va_Pc [.ref (ad 0), .int x1] (wd D cA ad base S)) (QI D cA ad base S' r) 0 0 (aB base) := by
  refine Met.ofW (cc := cX11_query) (maxL := 2) (ret := (some .int)) (by decide) rfl ?_
  intro p e s m args below meth c s₁ B hml hv
  obtain ⟨C, hw⟩ := CX.of (own := RX11) rfl B hml hv.2
  have hargs := hv.1
  have hr := B.returns
  have hlocks := B.notSynchronized
  have hx := C.1
  have hb := C.2.1
  have hl := lv_entry ([.ref (ad 0), .int x1]) (n := 2) (Nat.le_of_ble_eq_true rfl)
  rw [show entryFrame m args 2 = entryFrame m ([.ref (ad 0), .int x1] : List Value).toArray 2 from by rw [hargs], lg_entry_eq]
  generalize (lg_sl ([.ref (ad 0), .int x1]) ++ List.replicate (2 - (lg_sl ([.ref (ad 0), .int x1])).length) Slot.unset).toArray = ls at hl ⊢
  have hl : lv_has ls 2 [(0, .ref (ad 0)), (1, .int x1)] := hl
  show W p l e rmX11_query s m args below meth c s.heap [] 0 0 _ _
  refine lv_aload_n hx hb dX11_query_0 rfl (lv_at hl 0 rfl) ?_
  obtain ⟨S_1, r_1, h_1, hf⟩ := bx_ret hf
  refine r_bv hw (r_runV (rest := []) C hw (m_X11_needQuery l D cA ad base fu h_1) mvX11_needQuery gw6_5 ⟨rfl, rfl, Nat.le_of_ble_eq_true rfl, Nat.le_of_ble_eq_true rfl⟩ dq_0 ln_0 vc_11 rfl hl.1 rfl (Nat.le_of_ble_eq_true rfl) dX11_query_1 (Nat.zero_le _) (Nat.zero_le _)) (fun H locs hw => ?_)
  refine lv_iload_n hx hb dX11_query_4 rfl (lv_at hl 1 rfl) ?_
  by_cases c_5_0 : x1 = (0 : Int32)
  · have hf := if_t hf c_5_0
    refine lv_tableIn (tgt := 44) hx hb dX11_query_5 (by rw [c_5_0]; decide) (by rw [c_5_0]; decide) (off := 39) (by rw [c_5_0]; rfl) (by decide) ?_
    refine lv_aload_n hx hb dX11_query_44 rfl (lv_at hl 0 rfl) ?_
    refine r_getR C hw (k := 9) (r := 49) dq_0 ln_0 rfl vc_11 inX11 (by decide) rfl gw2_122 dX11_query_45 ?_
    obtain ⟨S_48, r_48, h_48, hf⟩ := bd_some hf
    refine r_bi hw (r_runV (rest := []) C hw (m_X6_address l D cA ad base fu h_48) mvX6_address gw6_14 ⟨rfl, rfl, Nat.le_of_ble_eq_true rfl, Nat.le_of_ble_eq_true rfl⟩ dq_49 ln_49 vc_6 rfl hl.1 rfl (Nat.le_of_ble_eq_true rfl) dX11_query_48 (Nat.zero_le _) (Nat.zero_le _)) (fun H locs hw => ?_)
    exact r_iret C hw hr hlocks (ot_ret hf) dX11_query_51
  have hf := if_f hf c_5_0
  by_cases c_5_1 : x1 = (1 : Int32)
  · have hf := if_t hf c_5_1
    refine lv_tableIn (tgt := 52) hx hb dX11_query_5 (by rw [c_5_1]; decide) (by rw [c_5_1]; decide) (off := 47) (by rw [c_5_1]; rfl) (by decide) ?_
    refine lv_aload_n hx hb dX11_query_52 rfl (lv_at hl 0 rfl) ?_
    refine r_getR C hw (k := 9) (r := 49) dq_0 ln_0 rfl vc_11 inX11 (by decide) rfl gw2_122 dX11_query_53 ?_
    obtain ⟨S_56, r_56, h_56, hf⟩ := bd_some hf
    refine r_bi hw (r_runV (rest := []) C hw (m_X6_id l D cA ad base fu h_56) mvX6_id gw6_26 ⟨rfl, rfl, Nat.le_of_ble_eq_true rfl, Nat.le_of_ble_eq_true rfl⟩ dq_49 ln_49 vc_6 rfl hl.1 rfl (Nat.le_of_ble_eq_true rfl) dX11_query_56 (Nat.zero_le _) (Nat.zero_le _)) (fun H locs hw => ?_)
    exact r_iret C hw hr hlocks (ot_ret hf) dX11_query_59
  have hf := if_f hf c_5_1
  by_cases c_5_2 : x1 = (2 : Int32)
  · have hf := if_t hf c_5_2
    refine lv_tableIn (tgt := 60) hx hb dX11_query_5 (by rw [c_5_2]; decide) (by rw [c_5_2]; decide) (off := 55) (by rw [c_5_2]; rfl) (by decide) ?_
    refine lv_aload_n hx hb dX11_query_60 rfl (lv_at hl 0 rfl) ?_
    refine r_getR C hw (k := 9) (r := 49) dq_0 ln_0 rfl vc_11 inX11 (by decide) rfl gw2_122 dX11_query_61 ?_
    obtain ⟨S_64, r_64, h_64, hf⟩ := bd_some hf
    refine r_bi hw (r_runV (rest := []) C hw (m_X6_askedName l D cA ad base fu h_64) mvX6_askedName gw6_18 ⟨rfl, rfl, Nat.le_of_ble_eq_true rfl, Nat.le_of_ble_eq_true rfl⟩ dq_49 ln_49 vc_6 rfl hl.1 rfl (Nat.le_of_ble_eq_true rfl) dX11_query_64 (Nat.zero_le _) (Nat.zero_le _)) (fun H locs hw => ?_)
    exact r_iret C hw hr hlocks (ot_ret hf) dX11_query_67
  have hf := if_f hf c_5_2
  by_cases c_5_3 : x1 = (3 : Int32)
  · have hf := if_t hf c_5_3
    refine lv_tableIn (tgt := 68) hx hb dX11_query_5 (by rw [c_5_3]; decide) (by rw [c_5_3]; decide) (off := 63) (by rw [c_5_3]; rfl) (by decide) ?_
    refine lv_aload_n hx hb dX11_query_68 rfl (lv_at hl 0 rfl) ?_
    refine r_getR C hw (k := 9) (r := 49) dq_0 ln_0 rfl vc_11 inX11 (by decide) rfl gw2_122 dX11_query_69 ?_
    obtain ⟨S_72, r_72, h_72, hf⟩ := bd_some hf
    refine r_bi hw (r_runV (rest := []) C hw (m_X6_askedType l D cA ad base fu h_72) mvX6_askedType gw6_22 ⟨rfl, rfl, Nat.le_of_ble_eq_true rfl, Nat.le_of_ble_eq_true rfl⟩ dq_49 ln_49 vc_6 rfl hl.1 rfl (Nat.le_of_ble_eq_true rfl) dX11_query_72 (Nat.zero_le _) (Nat.zero_le _)) (fun H locs hw => ?_)
    exact r_iret C hw hr hlocks (ot_ret hf) dX11_query_75
  have hf := if_f hf c_5_3
  by_cases c_5_4 : x1 = (4 : Int32)
  · have hf := if_t hf c_5_4
    refine lv_tableIn (tgt := 76) hx hb dX11_query_5 (by rw [c_5_4]; decide) (by rw [c_5_4]; decide) (off := 71) (by rw [c_5_4]; rfl) (by decide) ?_
    refine lv_aload_n hx hb dX11_query_76 rfl (lv_at hl 0 rfl) ?_
    refine r_getR C hw (k := 9) (r := 49) dq_0 ln_0 rfl vc_11 inX11 (by decide) rfl gw2_122 dX11_query_77 ?_
    obtain ⟨S_80, r_80, h_80, hf⟩ := bd_some hf
    refine r_bi hw (r_runV (rest := []) C hw (m_X6_depth l D cA ad base fu h_80) mvX6_depth gw6_126 ⟨rfl, rfl, Nat.le_of_ble_eq_true rfl, Nat.le_of_ble_eq_true rfl⟩ dq_49 ln_49 vc_6 rfl hl.1 rfl (Nat.le_of_ble_eq_true rfl) dX11_query_80 (Nat.zero_le _) (Nat.zero_le _)) (fun H locs hw => ?_)
    exact r_iret C hw hr hlocks (ot_ret hf) dX11_query_83
  have hf := if_f hf c_5_4
  by_cases c_5_5 : x1 = (5 : Int32)
  · have hf := if_t hf c_5_5
    refine lv_tableIn (tgt := 84) hx hb dX11_query_5 (by rw [c_5_5]; decide) (by rw [c_5_5]; decide) (off := 79) (by rw [c_5_5]; rfl) (by decide) ?_
    refine lv_aload_n hx hb dX11_query_84 rfl (lv_at hl 0 rfl) ?_
    refine r_getR C hw (k := 9) (r := 49) dq_0 ln_0 rfl vc_11 inX11 (by decide) rfl gw2_122 dX11_query_85 ?_
    obtain ⟨S_88, r_88, h_88, hf⟩ := bd_some hf
    refine r_bi hw (r_runV (rest := []) C hw (m_X6_place l D cA ad base fu h_88) mvX6_place gw6_130 ⟨rfl, rfl, Nat.le_of_ble_eq_true rfl, Nat.le_of_ble_eq_true rfl⟩ dq_49 ln_49 vc_6 rfl hl.1 rfl (Nat.le_of_ble_eq_true rfl) dX11_query_88 (Nat.zero_le _) (Nat.zero_le _)) (fun H locs hw => ?_)
    exact r_iret C hw hr hlocks (ot_ret hf) dX11_query_91
  have hf := if_f hf c_5_5
  refine lv_tableOut (tgt := 92) hx hb dX11_query_5 (sw_out 6 (fun k hk => by rcases (show k = 0 ∨ k = 1 ∨ k = 2 ∨ k = 3 ∨ k = 4 ∨ k = 5 by omega) with rfl | rfl | rfl | rfl | rfl | rfl <;> assumption)) (by decide) ?_
  exact (no_thr hf).elim
def rxX11_query : Room := { frames := 7, cells := 1, slots := 6, locals := 110 }
set_option maxHeartbeats 4000000 in
set_option maxRecDepth 100000 in
theorem n_X11_query (l : Launch) (hlt : l.stackTraces = false) (D : va_G) (cA : FieldType → ClassId) (ad : Nat → Nat) (base : Nat) (fu : Nat) {S S' : St} {x1 : Int32} {k : Nat} {r : Int32} (hf : fX11_query fu x1 S = some (S', (k + 1, r))) : vx_Met l yX11_query (GC yX11_query cX11_query 2 (some .int)) rxX11_query (va_Pc [.ref (ad 0), .int x1] (wd D cA ad base S)) QF (XQ D cA ad base S' (k + 1)) 1 6 (aB base) := by
  refine vx_ofW (cc := cX11_query) (maxL := 2) (ret := (some .int)) (by decide) rfl ?_
  intro p e s m args below meth c s₁ B hml ht hv
  obtain ⟨C, hw⟩ := CX.of (own := RX11) rfl B hml hv.2
  have hargs := hv.1
  have hr := B.returns
  have hlocks := B.notSynchronized
  have hx := C.1
  have hb := C.2.1
  have hl := lv_entry ([.ref (ad 0), .int x1]) (n := 2) (Nat.le_of_ble_eq_true rfl)
  rw [show entryFrame m args 2 = entryFrame m ([.ref (ad 0), .int x1] : List Value).toArray 2 from by rw [hargs], lg_entry_eq]
  generalize (lg_sl ([.ref (ad 0), .int x1]) ++ List.replicate (2 - (lg_sl ([.ref (ad 0), .int x1])).length) Slot.unset).toArray = ls at hl ⊢
  have hl : lv_has ls 2 [(0, .ref (ad 0)), (1, .int x1)] := hl
  show W p l e rxX11_query s m args below meth c s.heap [] 0 0 _ _
  refine lv_aload_n hx hb dX11_query_0 rfl (lv_at hl 0 rfl) ?_
  rcases bx_some hf with ⟨S_1, r_1, h_1, hf⟩ | ⟨h_1, -⟩
  rotate_left
  · refine r_xV (rest := []) C hw (n_X11_needQuery l hlt D cA ad base fu h_1) mvX11_needQuery gw6_5 ⟨rfl, rfl, Nat.le_of_ble_eq_true rfl, Nat.le_of_ble_eq_true rfl⟩ dq_0 ln_0 vc_11 rfl hl.1 rfl (Nat.le_of_ble_eq_true rfl) dX11_query_1 (Nat.le_of_ble_eq_true rfl) (Nat.le_of_ble_eq_true rfl) (fun ce q9 H locs hw hce hcv hcl => ?_)
    exact r_out C hw ht hlocks hce hcv hcl
  refine r_bv hw (r_runV (rest := []) C hw (m_X11_needQuery l D cA ad base fu h_1) mvX11_needQuery gw6_5 ⟨rfl, rfl, Nat.le_of_ble_eq_true rfl, Nat.le_of_ble_eq_true rfl⟩ dq_0 ln_0 vc_11 rfl hl.1 rfl (Nat.le_of_ble_eq_true rfl) dX11_query_1 (Nat.zero_le _) (Nat.zero_le _)) (fun H locs hw => ?_)
  refine lv_iload_n hx hb dX11_query_4 rfl (lv_at hl 1 rfl) ?_
  by_cases c_5_0 : x1 = (0 : Int32)
  · have hf := if_t hf c_5_0
    refine lv_tableIn (tgt := 44) hx hb dX11_query_5 (by rw [c_5_0]; decide) (by rw [c_5_0]; decide) (off := 39) (by rw [c_5_0]; rfl) (by decide) ?_
    refine lv_aload_n hx hb dX11_query_44 rfl (lv_at hl 0 rfl) ?_
    refine r_getR C hw (k := 9) (r := 49) dq_0 ln_0 rfl vc_11 inX11 (by decide) rfl gw2_122 dX11_query_45 ?_
    obtain ⟨S_48, r_48, h_48, hf⟩ := bd_some hf
    refine r_bi hw (r_runV (rest := []) C hw (m_X6_address l D cA ad base fu h_48) mvX6_address gw6_14 ⟨rfl, rfl, Nat.le_of_ble_eq_true rfl, Nat.le_of_ble_eq_true rfl⟩ dq_49 ln_49 vc_6 rfl hl.1 rfl (Nat.le_of_ble_eq_true rfl) dX11_query_48 (Nat.zero_le _) (Nat.zero_le _)) (fun H locs hw => ?_)
    exact (no_ret hf).elim
  have hf := if_f hf c_5_0
  by_cases c_5_1 : x1 = (1 : Int32)
  · have hf := if_t hf c_5_1
    refine lv_tableIn (tgt := 52) hx hb dX11_query_5 (by rw [c_5_1]; decide) (by rw [c_5_1]; decide) (off := 47) (by rw [c_5_1]; rfl) (by decide) ?_
    refine lv_aload_n hx hb dX11_query_52 rfl (lv_at hl 0 rfl) ?_
    refine r_getR C hw (k := 9) (r := 49) dq_0 ln_0 rfl vc_11 inX11 (by decide) rfl gw2_122 dX11_query_53 ?_
    obtain ⟨S_56, r_56, h_56, hf⟩ := bd_some hf
    refine r_bi hw (r_runV (rest := []) C hw (m_X6_id l D cA ad base fu h_56) mvX6_id gw6_26 ⟨rfl, rfl, Nat.le_of_ble_eq_true rfl, Nat.le_of_ble_eq_true rfl⟩ dq_49 ln_49 vc_6 rfl hl.1 rfl (Nat.le_of_ble_eq_true rfl) dX11_query_56 (Nat.zero_le _) (Nat.zero_le _)) (fun H locs hw => ?_)
    exact (no_ret hf).elim
  have hf := if_f hf c_5_1
  by_cases c_5_2 : x1 = (2 : Int32)
  · have hf := if_t hf c_5_2
    refine lv_tableIn (tgt := 60) hx hb dX11_query_5 (by rw [c_5_2]; decide) (by rw [c_5_2]; decide) (off := 55) (by rw [c_5_2]; rfl) (by decide) ?_
    refine lv_aload_n hx hb dX11_query_60 rfl (lv_at hl 0 rfl) ?_
    refine r_getR C hw (k := 9) (r := 49) dq_0 ln_0 rfl vc_11 inX11 (by decide) rfl gw2_122 dX11_query_61 ?_
    obtain ⟨S_64, r_64, h_64, hf⟩ := bd_some hf
    refine r_bi hw (r_runV (rest := []) C hw (m_X6_askedName l D cA ad base fu h_64) mvX6_askedName gw6_18 ⟨rfl, rfl, Nat.le_of_ble_eq_true rfl, Nat.le_of_ble_eq_true rfl⟩ dq_49 ln_49 vc_6 rfl hl.1 rfl (Nat.le_of_ble_eq_true rfl) dX11_query_64 (Nat.zero_le _) (Nat.zero_le _)) (fun H locs hw => ?_)
    exact (no_ret hf).elim
  have hf := if_f hf c_5_2
  by_cases c_5_3 : x1 = (3 : Int32)
  · have hf := if_t hf c_5_3
    refine lv_tableIn (tgt := 68) hx hb dX11_query_5 (by rw [c_5_3]; decide) (by rw [c_5_3]; decide) (off := 63) (by rw [c_5_3]; rfl) (by decide) ?_
    refine lv_aload_n hx hb dX11_query_68 rfl (lv_at hl 0 rfl) ?_
    refine r_getR C hw (k := 9) (r := 49) dq_0 ln_0 rfl vc_11 inX11 (by decide) rfl gw2_122 dX11_query_69 ?_
    obtain ⟨S_72, r_72, h_72, hf⟩ := bd_some hf
    refine r_bi hw (r_runV (rest := []) C hw (m_X6_askedType l D cA ad base fu h_72) mvX6_askedType gw6_22 ⟨rfl, rfl, Nat.le_of_ble_eq_true rfl, Nat.le_of_ble_eq_true rfl⟩ dq_49 ln_49 vc_6 rfl hl.1 rfl (Nat.le_of_ble_eq_true rfl) dX11_query_72 (Nat.zero_le _) (Nat.zero_le _)) (fun H locs hw => ?_)
    exact (no_ret hf).elim
  have hf := if_f hf c_5_3
  by_cases c_5_4 : x1 = (4 : Int32)
  · have hf := if_t hf c_5_4
    refine lv_tableIn (tgt := 76) hx hb dX11_query_5 (by rw [c_5_4]; decide) (by rw [c_5_4]; decide) (off := 71) (by rw [c_5_4]; rfl) (by decide) ?_
    refine lv_aload_n hx hb dX11_query_76 rfl (lv_at hl 0 rfl) ?_
    refine r_getR C hw (k := 9) (r := 49) dq_0 ln_0 rfl vc_11 inX11 (by decide) rfl gw2_122 dX11_query_77 ?_
    obtain ⟨S_80, r_80, h_80, hf⟩ := bd_some hf
    refine r_bi hw (r_runV (rest := []) C hw (m_X6_depth l D cA ad base fu h_80) mvX6_depth gw6_126 ⟨rfl, rfl, Nat.le_of_ble_eq_true rfl, Nat.le_of_ble_eq_true rfl⟩ dq_49 ln_49 vc_6 rfl hl.1 rfl (Nat.le_of_ble_eq_true rfl) dX11_query_80 (Nat.zero_le _) (Nat.zero_le _)) (fun H locs hw => ?_)
    exact (no_ret hf).elim
  have hf := if_f hf c_5_4
  by_cases c_5_5 : x1 = (5 : Int32)
  · have hf := if_t hf c_5_5
    refine lv_tableIn (tgt := 84) hx hb dX11_query_5 (by rw [c_5_5]; decide) (by rw [c_5_5]; decide) (off := 79) (by rw [c_5_5]; rfl) (by decide) ?_
    refine lv_aload_n hx hb dX11_query_84 rfl (lv_at hl 0 rfl) ?_
    refine r_getR C hw (k := 9) (r := 49) dq_0 ln_0 rfl vc_11 inX11 (by decide) rfl gw2_122 dX11_query_85 ?_
    obtain ⟨S_88, r_88, h_88, hf⟩ := bd_some hf
    refine r_bi hw (r_runV (rest := []) C hw (m_X6_place l D cA ad base fu h_88) mvX6_place gw6_130 ⟨rfl, rfl, Nat.le_of_ble_eq_true rfl, Nat.le_of_ble_eq_true rfl⟩ dq_49 ln_49 vc_6 rfl hl.1 rfl (Nat.le_of_ble_eq_true rfl) dX11_query_88 (Nat.zero_le _) (Nat.zero_le _)) (fun H locs hw => ?_)
    exact (no_ret hf).elim
  have hf := if_f hf c_5_5
  refine lv_tableOut (tgt := 92) hx hb dX11_query_5 (sw_out 6 (fun k hk => by rcases (show k = 0 ∨ k = 1 ∨ k = 2 ∨ k = 3 ∨ k = 4 ∨ k = 5 by omega) with rfl | rfl | rfl | rfl | rfl | rfl <;> assumption)) (by decide) ?_
  exact r_throwNW C hw hlt ht hlocks hl.1 (is := 325) (text := "no such property of a query") gw4_22 (by decide) dX11_query_92 dX11_query_95 dX11_query_96 dX11_query_99 dX11_query_102 (Nat.le_of_ble_eq_true rfl) (Nat.le_of_ble_eq_true rfl) (Nat.le_of_ble_eq_true rfl) (Nat.le_of_ble_eq_true rfl) hf
noncomputable def fX11_result (fu : Nat) (x1 : Int32) (S : St) : Option (St × Ot) :=
  if x1 = (0 : Int32) then
    bd (fX6_state fu S) fun S_40 r_40 =>
    some (S_40, (0, r_40))
  else
  if x1 = (1 : Int32) then
    bd (fX6_foundSize fu S) fun S_48 r_48 =>
    some (S_48, (0, r_48))
  else
  if x1 = (2 : Int32) then
    bd (fX6_firstChains fu S) fun S_56 r_56 =>
    some (S_56, (0, r_56))
  else
  if x1 = (3 : Int32) then
    bd (fX6_firstName fu S) fun S_64 r_64 =>
    some (S_64, (0, r_64))
  else
  if x1 = (4 : Int32) then
    bd (fX6_sent fu S) fun S_72 r_72 =>
    some (S_72, (0, r_72))
  else
    some (S, (4, (0 : Int32)))
theorem mvX11_result : MV yX11_result cX11_result 2 (some .int) RX11 1 := ⟨gw6_141, gw6_139, gw6_140, gw1_1, by decide +kernel⟩
def rmX11_result : Room := { frames := 2, cells := 0, slots := 0, locals := 40 }
set_option maxHeartbeats 4000000 in
set_option maxRecDepth 100000 in
theorem m_X11_result (l : Launch) (D : va_G) (cA : FieldType → ClassId) (ad : Nat → Nat) (base : Nat) (fu : Nat) {S S' : St} {x1 : Int32} {r : Int32} (hf : fX11_result fu x1 S = some (S', (0, r))) : Met l yX11_result (GC yX11_result cX11_result 2 (some .int)) rmX11_result (va_Pc [.ref (ad 0), .int x1] (wd D cA ad base S)) (QI D cA ad base S' r) 0 0 (aB base) := by
  refine Met.ofW (cc := cX11_result) (maxL := 2) (ret := (some .int)) (by decide) rfl ?_
  intro p e s m args below meth c s₁ B hml hv
  obtain ⟨C, hw⟩ := CX.of (own := RX11) rfl B hml hv.2
  have hargs := hv.1
  have hr := B.returns
  have hlocks := B.notSynchronized
  have hx := C.1
  have hb := C.2.1
  have hl := lv_entry ([.ref (ad 0), .int x1]) (n := 2) (Nat.le_of_ble_eq_true rfl)
  rw [show entryFrame m args 2 = entryFrame m ([.ref (ad 0), .int x1] : List Value).toArray 2 from by rw [hargs], lg_entry_eq]
  generalize (lg_sl ([.ref (ad 0), .int x1]) ++ List.replicate (2 - (lg_sl ([.ref (ad 0), .int x1])).length) Slot.unset).toArray = ls at hl ⊢
  have hl : lv_has ls 2 [(0, .ref (ad 0)), (1, .int x1)] := hl
  show W p l e rmX11_result s m args below meth c s.heap [] 0 0 _ _
  refine lv_iload_n hx hb dX11_result_0 rfl (lv_at hl 1 rfl) ?_
  by_cases c_1_0 : x1 = (0 : Int32)
  · have hf := if_t hf c_1_0
    refine lv_tableIn (tgt := 36) hx hb dX11_result_1 (by rw [c_1_0]; decide) (by rw [c_1_0]; decide) (off := 35) (by rw [c_1_0]; rfl) (by decide) ?_
    refine lv_aload_n hx hb dX11_result_36 rfl (lv_at hl 0 rfl) ?_
    refine r_getR C hw (k := 9) (r := 49) dq_0 ln_0 rfl vc_11 inX11 (by decide) rfl gw2_122 dX11_result_37 ?_
    obtain ⟨S_40, r_40, h_40, hf⟩ := bd_some hf
    refine r_bi hw (r_runV (rest := []) C hw (m_X6_state l D cA ad base fu h_40) mvX6_state gw5_94 ⟨rfl, rfl, Nat.le_of_ble_eq_true rfl, Nat.le_of_ble_eq_true rfl⟩ dq_49 ln_49 vc_6 rfl hl.1 rfl (Nat.le_of_ble_eq_true rfl) dX11_result_40 (Nat.zero_le _) (Nat.zero_le _)) (fun H locs hw => ?_)
    exact r_iret C hw hr hlocks (ot_ret hf) dX11_result_43
  have hf := if_f hf c_1_0
  by_cases c_1_1 : x1 = (1 : Int32)
  · have hf := if_t hf c_1_1
    refine lv_tableIn (tgt := 44) hx hb dX11_result_1 (by rw [c_1_1]; decide) (by rw [c_1_1]; decide) (off := 43) (by rw [c_1_1]; rfl) (by decide) ?_
    refine lv_aload_n hx hb dX11_result_44 rfl (lv_at hl 0 rfl) ?_
    refine r_getR C hw (k := 9) (r := 49) dq_0 ln_0 rfl vc_11 inX11 (by decide) rfl gw2_122 dX11_result_45 ?_
    obtain ⟨S_48, r_48, h_48, hf⟩ := bd_some hf
    refine r_bi hw (r_runV (rest := []) C hw (m_X6_foundSize l D cA ad base fu h_48) mvX6_foundSize gw6_142 ⟨rfl, rfl, Nat.le_of_ble_eq_true rfl, Nat.le_of_ble_eq_true rfl⟩ dq_49 ln_49 vc_6 rfl hl.1 rfl (Nat.le_of_ble_eq_true rfl) dX11_result_48 (Nat.zero_le _) (Nat.zero_le _)) (fun H locs hw => ?_)
    exact r_iret C hw hr hlocks (ot_ret hf) dX11_result_51
  have hf := if_f hf c_1_1
  by_cases c_1_2 : x1 = (2 : Int32)
  · have hf := if_t hf c_1_2
    refine lv_tableIn (tgt := 52) hx hb dX11_result_1 (by rw [c_1_2]; decide) (by rw [c_1_2]; decide) (off := 51) (by rw [c_1_2]; rfl) (by decide) ?_
    refine lv_aload_n hx hb dX11_result_52 rfl (lv_at hl 0 rfl) ?_
    refine r_getR C hw (k := 9) (r := 49) dq_0 ln_0 rfl vc_11 inX11 (by decide) rfl gw2_122 dX11_result_53 ?_
    obtain ⟨S_56, r_56, h_56, hf⟩ := bd_some hf
    refine r_bi hw (r_runV (rest := []) C hw (m_X6_firstChains l D cA ad base fu h_56) mvX6_firstChains gw6_146 ⟨rfl, rfl, Nat.le_of_ble_eq_true rfl, Nat.le_of_ble_eq_true rfl⟩ dq_49 ln_49 vc_6 rfl hl.1 rfl (Nat.le_of_ble_eq_true rfl) dX11_result_56 (Nat.zero_le _) (Nat.zero_le _)) (fun H locs hw => ?_)
    exact r_iret C hw hr hlocks (ot_ret hf) dX11_result_59
  have hf := if_f hf c_1_2
  by_cases c_1_3 : x1 = (3 : Int32)
  · have hf := if_t hf c_1_3
    refine lv_tableIn (tgt := 60) hx hb dX11_result_1 (by rw [c_1_3]; decide) (by rw [c_1_3]; decide) (off := 59) (by rw [c_1_3]; rfl) (by decide) ?_
    refine lv_aload_n hx hb dX11_result_60 rfl (lv_at hl 0 rfl) ?_
    refine r_getR C hw (k := 9) (r := 49) dq_0 ln_0 rfl vc_11 inX11 (by decide) rfl gw2_122 dX11_result_61 ?_
    obtain ⟨S_64, r_64, h_64, hf⟩ := bd_some hf
    refine r_bi hw (r_runV (rest := []) C hw (m_X6_firstName l D cA ad base fu h_64) mvX6_firstName gw6_154 ⟨rfl, rfl, Nat.le_of_ble_eq_true rfl, Nat.le_of_ble_eq_true rfl⟩ dq_49 ln_49 vc_6 rfl hl.1 rfl (Nat.le_of_ble_eq_true rfl) dX11_result_64 (Nat.zero_le _) (Nat.zero_le _)) (fun H locs hw => ?_)
    exact r_iret C hw hr hlocks (ot_ret hf) dX11_result_67
  have hf := if_f hf c_1_3
  by_cases c_1_4 : x1 = (4 : Int32)
  · have hf := if_t hf c_1_4
    refine lv_tableIn (tgt := 68) hx hb dX11_result_1 (by rw [c_1_4]; decide) (by rw [c_1_4]; decide) (off := 67) (by rw [c_1_4]; rfl) (by decide) ?_
    refine lv_aload_n hx hb dX11_result_68 rfl (lv_at hl 0 rfl) ?_
    refine r_getR C hw (k := 9) (r := 49) dq_0 ln_0 rfl vc_11 inX11 (by decide) rfl gw2_122 dX11_result_69 ?_
    obtain ⟨S_72, r_72, h_72, hf⟩ := bd_some hf
    refine r_bi hw (r_runV (rest := []) C hw (m_X6_sent l D cA ad base fu h_72) mvX6_sent gw6_162 ⟨rfl, rfl, Nat.le_of_ble_eq_true rfl, Nat.le_of_ble_eq_true rfl⟩ dq_49 ln_49 vc_6 rfl hl.1 rfl (Nat.le_of_ble_eq_true rfl) dX11_result_72 (Nat.zero_le _) (Nat.zero_le _)) (fun H locs hw => ?_)
    exact r_iret C hw hr hlocks (ot_ret hf) dX11_result_75
  have hf := if_f hf c_1_4
  refine lv_tableOut (tgt := 76) hx hb dX11_result_1 (sw_out 5 (fun k hk => by rcases (show k = 0 ∨ k = 1 ∨ k = 2 ∨ k = 3 ∨ k = 4 by omega) with rfl | rfl | rfl | rfl | rfl <;> assumption)) (by decide) ?_
  exact (no_thr hf).elim
def rxX11_result : Room := { frames := 6, cells := 1, slots := 6, locals := 90 }
set_option maxHeartbeats 4000000 in
set_option maxRecDepth 100000 in
theorem n_X11_result (l : Launch) (hlt : l.stackTraces = false) (D : va_G) (cA : FieldType → ClassId) (ad : Nat → Nat) (base : Nat) (fu : Nat) {S S' : St} {x1 : Int32} {k : Nat} {r : Int32} (hf : fX11_result fu x1 S = some (S', (k + 1, r))) : vx_Met l yX11_result (GC yX11_result cX11_result 2 (some .int)) rxX11_result (va_Pc [.ref (ad 0), .int x1] (wd D cA ad base S)) QF (XQ D cA ad base S' (k + 1)) 1 6 (aB base) := by
  refine vx_ofW (cc := cX11_result) (maxL := 2) (ret := (some .int)) (by decide) rfl ?_
  intro p e s m args below meth c s₁ B hml ht hv
  obtain ⟨C, hw⟩ := CX.of (own := RX11) rfl B hml hv.2
  have hargs := hv.1
  have hr := B.returns
  have hlocks := B.notSynchronized
  have hx := C.1
  have hb := C.2.1
  have hl := lv_entry ([.ref (ad 0), .int x1]) (n := 2) (Nat.le_of_ble_eq_true rfl)
  rw [show entryFrame m args 2 = entryFrame m ([.ref (ad 0), .int x1] : List Value).toArray 2 from by rw [hargs], lg_entry_eq]
  generalize (lg_sl ([.ref (ad 0), .int x1]) ++ List.replicate (2 - (lg_sl ([.ref (ad 0), .int x1])).length) Slot.unset).toArray = ls at hl ⊢
  have hl : lv_has ls 2 [(0, .ref (ad 0)), (1, .int x1)] := hl
  show W p l e rxX11_result s m args below meth c s.heap [] 0 0 _ _
  refine lv_iload_n hx hb dX11_result_0 rfl (lv_at hl 1 rfl) ?_
  by_cases c_1_0 : x1 = (0 : Int32)
  · have hf := if_t hf c_1_0
    refine lv_tableIn (tgt := 36) hx hb dX11_result_1 (by rw [c_1_0]; decide) (by rw [c_1_0]; decide) (off := 35) (by rw [c_1_0]; rfl) (by decide) ?_
    refine lv_aload_n hx hb dX11_result_36 rfl (lv_at hl 0 rfl) ?_
    refine r_getR C hw (k := 9) (r := 49) dq_0 ln_0 rfl vc_11 inX11 (by decide) rfl gw2_122 dX11_result_37 ?_
    obtain ⟨S_40, r_40, h_40, hf⟩ := bd_some hf
    refine r_bi hw (r_runV (rest := []) C hw (m_X6_state l D cA ad base fu h_40) mvX6_state gw5_94 ⟨rfl, rfl, Nat.le_of_ble_eq_true rfl, Nat.le_of_ble_eq_true rfl⟩ dq_49 ln_49 vc_6 rfl hl.1 rfl (Nat.le_of_ble_eq_true rfl) dX11_result_40 (Nat.zero_le _) (Nat.zero_le _)) (fun H locs hw => ?_)
    exact (no_ret hf).elim
  have hf := if_f hf c_1_0
  by_cases c_1_1 : x1 = (1 : Int32)
  · have hf := if_t hf c_1_1
    refine lv_tableIn (tgt := 44) hx hb dX11_result_1 (by rw [c_1_1]; decide) (by rw [c_1_1]; decide) (off := 43) (by rw [c_1_1]; rfl) (by decide) ?_
    refine lv_aload_n hx hb dX11_result_44 rfl (lv_at hl 0 rfl) ?_
    refine r_getR C hw (k := 9) (r := 49) dq_0 ln_0 rfl vc_11 inX11 (by decide) rfl gw2_122 dX11_result_45 ?_
    obtain ⟨S_48, r_48, h_48, hf⟩ := bd_some hf
    refine r_bi hw (r_runV (rest := []) C hw (m_X6_foundSize l D cA ad base fu h_48) mvX6_foundSize gw6_142 ⟨rfl, rfl, Nat.le_of_ble_eq_true rfl, Nat.le_of_ble_eq_true rfl⟩ dq_49 ln_49 vc_6 rfl hl.1 rfl (Nat.le_of_ble_eq_true rfl) dX11_result_48 (Nat.zero_le _) (Nat.zero_le _)) (fun H locs hw => ?_)
    exact (no_ret hf).elim
  have hf := if_f hf c_1_1
  by_cases c_1_2 : x1 = (2 : Int32)
  · have hf := if_t hf c_1_2
    refine lv_tableIn (tgt := 52) hx hb dX11_result_1 (by rw [c_1_2]; decide) (by rw [c_1_2]; decide) (off := 51) (by rw [c_1_2]; rfl) (by decide) ?_
    refine lv_aload_n hx hb dX11_result_52 rfl (lv_at hl 0 rfl) ?_
    refine r_getR C hw (k := 9) (r := 49) dq_0 ln_0 rfl vc_11 inX11 (by decide) rfl gw2_122 dX11_result_53 ?_
    obtain ⟨S_56, r_56, h_56, hf⟩ := bd_some hf
    refine r_bi hw (r_runV (rest := []) C hw (m_X6_firstChains l D cA ad base fu h_56) mvX6_firstChains gw6_146 ⟨rfl, rfl, Nat.le_of_ble_eq_true rfl, Nat.le_of_ble_eq_true rfl⟩ dq_49 ln_49 vc_6 rfl hl.1 rfl (Nat.le_of_ble_eq_true rfl) dX11_result_56 (Nat.zero_le _) (Nat.zero_le _)) (fun H locs hw => ?_)
    exact (no_ret hf).elim
  have hf := if_f hf c_1_2
  by_cases c_1_3 : x1 = (3 : Int32)
  · have hf := if_t hf c_1_3
    refine lv_tableIn (tgt := 60) hx hb dX11_result_1 (by rw [c_1_3]; decide) (by rw [c_1_3]; decide) (off := 59) (by rw [c_1_3]; rfl) (by decide) ?_
    refine lv_aload_n hx hb dX11_result_60 rfl (lv_at hl 0 rfl) ?_
    refine r_getR C hw (k := 9) (r := 49) dq_0 ln_0 rfl vc_11 inX11 (by decide) rfl gw2_122 dX11_result_61 ?_
    obtain ⟨S_64, r_64, h_64, hf⟩ := bd_some hf
    refine r_bi hw (r_runV (rest := []) C hw (m_X6_firstName l D cA ad base fu h_64) mvX6_firstName gw6_154 ⟨rfl, rfl, Nat.le_of_ble_eq_true rfl, Nat.le_of_ble_eq_true rfl⟩ dq_49 ln_49 vc_6 rfl hl.1 rfl (Nat.le_of_ble_eq_true rfl) dX11_result_64 (Nat.zero_le _) (Nat.zero_le _)) (fun H locs hw => ?_)
    exact (no_ret hf).elim
  have hf := if_f hf c_1_3
  by_cases c_1_4 : x1 = (4 : Int32)
  · have hf := if_t hf c_1_4
    refine lv_tableIn (tgt := 68) hx hb dX11_result_1 (by rw [c_1_4]; decide) (by rw [c_1_4]; decide) (off := 67) (by rw [c_1_4]; rfl) (by decide) ?_
    refine lv_aload_n hx hb dX11_result_68 rfl (lv_at hl 0 rfl) ?_
    refine r_getR C hw (k := 9) (r := 49) dq_0 ln_0 rfl vc_11 inX11 (by decide) rfl gw2_122 dX11_result_69 ?_
    obtain ⟨S_72, r_72, h_72, hf⟩ := bd_some hf
    refine r_bi hw (r_runV (rest := []) C hw (m_X6_sent l D cA ad base fu h_72) mvX6_sent gw6_162 ⟨rfl, rfl, Nat.le_of_ble_eq_true rfl, Nat.le_of_ble_eq_true rfl⟩ dq_49 ln_49 vc_6 rfl hl.1 rfl (Nat.le_of_ble_eq_true rfl) dX11_result_72 (Nat.zero_le _) (Nat.zero_le _)) (fun H locs hw => ?_)
    exact (no_ret hf).elim
  have hf := if_f hf c_1_4
  refine lv_tableOut (tgt := 76) hx hb dX11_result_1 (sw_out 5 (fun k hk => by rcases (show k = 0 ∨ k = 1 ∨ k = 2 ∨ k = 3 ∨ k = 4 by omega) with rfl | rfl | rfl | rfl | rfl <;> assumption)) (by decide) ?_
  exact r_throwNW C hw hlt ht hlocks hl.1 (is := 339) (text := "no such property of a seeking") gw4_22 (by decide) dX11_result_76 dX11_result_79 dX11_result_80 dX11_result_83 dX11_result_86 (Nat.le_of_ble_eq_true rfl) (Nat.le_of_ble_eq_true rfl) (Nat.le_of_ble_eq_true rfl) (Nat.le_of_ble_eq_true rfl) hf
noncomputable def fX11_data (fu : Nat) (x1 : Int32) (S : St) : Option (St × Int32) :=
  bd (fX6_found fu x1 S) fun S_5 r_5 =>
  some (S_5, r_5)
theorem mvX11_data : MV yX11_data cX11_data 2 (some .int) RX11 1 := ⟨gw3_62, gw3_60, gw3_61, gw1_1, by decide +kernel⟩
def rmX11_data : Room := { frames := 1, cells := 0, slots := 0, locals := 21 }
set_option maxHeartbeats 4000000 in
set_option maxRecDepth 100000 in
theorem m_X11_data (l : Launch) (D : va_G) (cA : FieldType → ClassId) (ad : Nat → Nat) (base : Nat) (fu : Nat) {S S' : St} {x1 : Int32} {r : Int32} (hf : fX11_data fu x1 S = some (S', r)) : Met l yX11_data (GC yX11_data cX11_data 2 (some .int)) rmX11_data (va_Pc [.ref (ad 0), .int x1] (wd D cA ad base S)) (QI D cA ad base S' r) 0 0 (aB base) := by
  refine Met.ofW (cc := cX11_data) (maxL := 2) (ret := (some .int)) (by decide) rfl ?_
  intro p e s m args below meth c s₁ B hml hv
  obtain ⟨hargs, hwd⟩ := hv
  have hr := B.returns
  have hlocks := B.notSynchronized
  obtain ⟨C, hw⟩ := CX.of (own := RX11) rfl B hml hwd
  have hx := C.1
  have hb := C.2.1
  have hl := lv_entry ([.ref (ad 0), .int x1]) (n := 2) (Nat.le_of_ble_eq_true rfl)
  rw [show entryFrame m args 2 = entryFrame m ([.ref (ad 0), .int x1] : List Value).toArray 2 from by rw [hargs], lg_entry_eq]
  generalize (lg_sl ([.ref (ad 0), .int x1]) ++ List.replicate (2 - (lg_sl ([.ref (ad 0), .int x1])).length) Slot.unset).toArray = ls at hl ⊢
  have hl : lv_has ls 2 [(0, .ref (ad 0)), (1, .int x1)] := hl
  show W p l e rmX11_data s m args below meth c s.heap [] 0 0 _ _
  refine lv_aload_n hx hb dX11_data_0 rfl (lv_at hl 0 rfl) ?_
  refine r_getR C hw (k := 9) (r := 49) dq_0 ln_0 rfl vc_11 inX11 (by decide) rfl gw2_122 dX11_data_1 ?_
  refine lv_iload_n hx hb dX11_data_4 rfl (lv_at hl 1 rfl) ?_
  obtain ⟨S_5, r_5, h_5, hf⟩ := bd_some hf
  refine r_bi hw (r_runV (rest := []) C hw (m_X6_found l D cA ad base fu h_5) mvX6_found gw3_63 ⟨rfl, rfl, Nat.le_of_ble_eq_true rfl, Nat.le_of_ble_eq_true rfl⟩ dq_49 ln_49 vc_6 rfl hl.1 rfl (Nat.le_of_ble_eq_true rfl) dX11_data_5 (Nat.zero_le _) (Nat.zero_le _)) (fun H locs hw => ?_)
  exact r_iret C hw hr hlocks hf dX11_data_8
noncomputable def fX11_cached (fu : Nat) (x1 : Int32) (x2 : Int32) (S : St) : Option (St × Ot) :=
  bx (fX11_needName fu x1 S) fun S_2 _ =>
  bd (fX1_held fu x1 x2 S_2) fun S_11 r_11 =>
  some (S_11, (0, r_11))
theorem mvX11_cached : MV yX11_cached cX11_cached 3 (some .int) RX11 2 := ⟨gw6_173, gw6_171, gw6_172, gw1_1, by decide +kernel⟩
def rmX11_cached : Room := { frames := 2, cells := 0, slots := 0, locals := 46 }
set_option maxHeartbeats 4000000 in
set_option maxRecDepth 100000 in
theorem m_X11_cached (l : Launch) (D : va_G) (cA : FieldType → ClassId) (ad : Nat → Nat) (base : Nat) (fu : Nat) {S S' : St} {x1 : Int32} {x2 : Int32} {r : Int32} (hf : fX11_cached fu x1 x2 S = some (S', (0, r))) : Met l yX11_cached (GC yX11_cached cX11_cached 3 (some .int)) rmX11_cached (va_Pc [.ref (ad 0), .int x1, .int x2] (wd D cA ad base S)) (QI D cA ad base S' r) 0 0 (aB base) := by
  refine Met.ofW (cc := cX11_cached) (maxL := 3) (ret := (some .int)) (by decide) rfl ?_
  intro p e s m args below meth c s₁ B hml hv
  obtain ⟨C, hw⟩ := CX.of (own := RX11) rfl B hml hv.2
  have hargs := hv.1
  have hr := B.returns
  have hlocks := B.notSynchronized
  have hx := C.1
  have hb := C.2.1
  have hl := lv_entry ([.ref (ad 0), .int x1, .int x2]) (n := 3) (Nat.le_of_ble_eq_true rfl)
  rw [show entryFrame m args 3 = entryFrame m ([.ref (ad 0), .int x1, .int x2] : List Value).toArray 3 from by rw [hargs], lg_entry_eq]
  generalize (lg_sl ([.ref (ad 0), .int x1, .int x2]) ++ List.replicate (3 - (lg_sl ([.ref (ad 0), .int x1, .int x2])).length) Slot.unset).toArray = ls at hl ⊢
  have hl : lv_has ls 3 [(0, .ref (ad 0)), (1, .int x1), (2, .int x2)] := hl
  show W p l e rmX11_cached s m args below meth c s.heap [] 0 0 _ _
  refine lv_aload_n hx hb dX11_cached_0 rfl (lv_at hl 0 rfl) ?_
  refine lv_iload_n hx hb dX11_cached_1 rfl (lv_at hl 1 rfl) ?_
  obtain ⟨S_2, r_2, h_2, hf⟩ := bx_ret hf
  refine r_bv hw (r_runV (rest := []) C hw (m_X11_needName l D cA ad base fu h_2) mvX11_needName gw3_221 ⟨rfl, rfl, Nat.le_of_ble_eq_true rfl, Nat.le_of_ble_eq_true rfl⟩ dq_0 ln_0 vc_11 rfl hl.1 rfl (Nat.le_of_ble_eq_true rfl) dX11_cached_2 (Nat.zero_le _) (Nat.zero_le _)) (fun H locs hw => ?_)
  refine lv_aload_n hx hb dX11_cached_5 rfl (lv_at hl 0 rfl) ?_
  refine r_getR C hw (k := 8) (r := 42) dq_0 ln_0 rfl vc_11 inX11 (by decide) rfl gw2_121 dX11_cached_6 ?_
  refine lv_iload_n hx hb dX11_cached_9 rfl (lv_at hl 1 rfl) ?_
  refine lv_iload_n hx hb dX11_cached_10 rfl (lv_at hl 2 rfl) ?_
  obtain ⟨S_11, r_11, h_11, hf⟩ := bd_some hf
  refine r_bi hw (r_runV (rest := []) C hw (m_X1_held l D cA ad base fu h_11) mvX1_held gw6_174 ⟨rfl, rfl, Nat.le_of_ble_eq_true rfl, Nat.le_of_ble_eq_true rfl⟩ dq_42 ln_42 vc_1 rfl hl.1 rfl (Nat.le_of_ble_eq_true rfl) dX11_cached_11 (Nat.zero_le _) (Nat.zero_le _)) (fun H locs hw => ?_)
  exact r_iret C hw hr hlocks (ot_ret hf) dX11_cached_14
def rxX11_cached : Room := { frames := 7, cells := 1, slots := 6, locals := 111 }
set_option maxHeartbeats 4000000 in
set_option maxRecDepth 100000 in
theorem n_X11_cached (l : Launch) (hlt : l.stackTraces = false) (D : va_G) (cA : FieldType → ClassId) (ad : Nat → Nat) (base : Nat) (fu : Nat) {S S' : St} {x1 : Int32} {x2 : Int32} {k : Nat} {r : Int32} (hf : fX11_cached fu x1 x2 S = some (S', (k + 1, r))) : vx_Met l yX11_cached (GC yX11_cached cX11_cached 3 (some .int)) rxX11_cached (va_Pc [.ref (ad 0), .int x1, .int x2] (wd D cA ad base S)) QF (XQ D cA ad base S' (k + 1)) 1 6 (aB base) := by
  refine vx_ofW (cc := cX11_cached) (maxL := 3) (ret := (some .int)) (by decide) rfl ?_
  intro p e s m args below meth c s₁ B hml ht hv
  obtain ⟨C, hw⟩ := CX.of (own := RX11) rfl B hml hv.2
  have hargs := hv.1
  have hr := B.returns
  have hlocks := B.notSynchronized
  have hx := C.1
  have hb := C.2.1
  have hl := lv_entry ([.ref (ad 0), .int x1, .int x2]) (n := 3) (Nat.le_of_ble_eq_true rfl)
  rw [show entryFrame m args 3 = entryFrame m ([.ref (ad 0), .int x1, .int x2] : List Value).toArray 3 from by rw [hargs], lg_entry_eq]
  generalize (lg_sl ([.ref (ad 0), .int x1, .int x2]) ++ List.replicate (3 - (lg_sl ([.ref (ad 0), .int x1, .int x2])).length) Slot.unset).toArray = ls at hl ⊢
  have hl : lv_has ls 3 [(0, .ref (ad 0)), (1, .int x1), (2, .int x2)] := hl
  show W p l e rxX11_cached s m args below meth c s.heap [] 0 0 _ _
  refine lv_aload_n hx hb dX11_cached_0 rfl (lv_at hl 0 rfl) ?_
  refine lv_iload_n hx hb dX11_cached_1 rfl (lv_at hl 1 rfl) ?_
  rcases bx_some hf with ⟨S_2, r_2, h_2, hf⟩ | ⟨h_2, -⟩
  rotate_left
  · refine r_xV (rest := []) C hw (n_X11_needName l hlt D cA ad base fu h_2) mvX11_needName gw3_221 ⟨rfl, rfl, Nat.le_of_ble_eq_true rfl, Nat.le_of_ble_eq_true rfl⟩ dq_0 ln_0 vc_11 rfl hl.1 rfl (Nat.le_of_ble_eq_true rfl) dX11_cached_2 (Nat.le_of_ble_eq_true rfl) (Nat.le_of_ble_eq_true rfl) (fun ce q9 H locs hw hce hcv hcl => ?_)
    exact r_out C hw ht hlocks hce hcv hcl
  refine r_bv hw (r_runV (rest := []) C hw (m_X11_needName l D cA ad base fu h_2) mvX11_needName gw3_221 ⟨rfl, rfl, Nat.le_of_ble_eq_true rfl, Nat.le_of_ble_eq_true rfl⟩ dq_0 ln_0 vc_11 rfl hl.1 rfl (Nat.le_of_ble_eq_true rfl) dX11_cached_2 (Nat.zero_le _) (Nat.zero_le _)) (fun H locs hw => ?_)
  refine lv_aload_n hx hb dX11_cached_5 rfl (lv_at hl 0 rfl) ?_
  refine r_getR C hw (k := 8) (r := 42) dq_0 ln_0 rfl vc_11 inX11 (by decide) rfl gw2_121 dX11_cached_6 ?_
  refine lv_iload_n hx hb dX11_cached_9 rfl (lv_at hl 1 rfl) ?_
  refine lv_iload_n hx hb dX11_cached_10 rfl (lv_at hl 2 rfl) ?_
  obtain ⟨S_11, r_11, h_11, hf⟩ := bd_some hf
  refine r_bi hw (r_runV (rest := []) C hw (m_X1_held l D cA ad base fu h_11) mvX1_held gw6_174 ⟨rfl, rfl, Nat.le_of_ble_eq_true rfl, Nat.le_of_ble_eq_true rfl⟩ dq_42 ln_42 vc_1 rfl hl.1 rfl (Nat.le_of_ble_eq_true rfl) dX11_cached_11 (Nat.zero_le _) (Nat.zero_le _)) (fun H locs hw => ?_)
  exact (no_ret hf).elim
noncomputable def fX11_count (fu : Nat) (x1 : Int32) (S : St) : Option (St × Int32) :=
  if x1 = (0 : Int32) then
    bd (fX3_size fu S) fun S_56 r_56 =>
    some (S_56, r_56)
  else
  if x1 = (1 : Int32) then
    bd (fX10_size fu S) fun S_64 r_64 =>
    some (S_64, r_64)
  else
  if x1 = (2 : Int32) then
    bd (fX10_records fu S) fun S_72 r_72 =>
    some (S_72, r_72)
  else
  if x1 = (3 : Int32) then
    bd (fX7_size fu S) fun S_80 r_80 =>
    some (S_80, r_80)
  else
  if x1 = (4 : Int32) then
    bd (fX6_hints fu S) fun S_88 r_88 =>
    some (S_88, r_88)
  else
  if x1 = (5 : Int32) then
    bd (fX1_now fu S) fun S_96 r_96 =>
    some (S_96, r_96)
  else
  if x1 = (6 : Int32) then
    bd (fX1_size fu S) fun S_104 r_104 =>
    some (S_104, r_104)
  else
  if x1 = (7 : Int32) then
    bd (fX6_sentEver fu S) fun S_112 r_112 =>
    some (S_112, r_112)
  else
  if x1 = (8 : Int32) then
    bd (fX0_size fu 1 S) fun S_120 r_120 =>
    some (S_120, r_120)
  else
    some (S, (-1 : Int32))
theorem mvX11_count : MV yX11_count cX11_count 2 (some .int) RX11 1 := ⟨gw3_70, gw3_68, gw3_69, gw1_1, by decide +kernel⟩
def rmX11_count : Room := { frames := 1, cells := 0, slots := 0, locals := 20 }
set_option maxHeartbeats 4000000 in
set_option maxRecDepth 100000 in
theorem m_X11_count (l : Launch) (D : va_G) (cA : FieldType → ClassId) (ad : Nat → Nat) (base : Nat) (fu : Nat) {S S' : St} {x1 : Int32} {r : Int32} (hf : fX11_count fu x1 S = some (S', r)) : Met l yX11_count (GC yX11_count cX11_count 2 (some .int)) rmX11_count (va_Pc [.ref (ad 0), .int x1] (wd D cA ad base S)) (QI D cA ad base S' r) 0 0 (aB base) := by
  refine Met.ofW (cc := cX11_count) (maxL := 2) (ret := (some .int)) (by decide) rfl ?_
  intro p e s m args below meth c s₁ B hml hv
  obtain ⟨hargs, hwd⟩ := hv
  have hr := B.returns
  have hlocks := B.notSynchronized
  obtain ⟨C, hw⟩ := CX.of (own := RX11) rfl B hml hwd
  have hx := C.1
  have hb := C.2.1
  have hl := lv_entry ([.ref (ad 0), .int x1]) (n := 2) (Nat.le_of_ble_eq_true rfl)
  rw [show entryFrame m args 2 = entryFrame m ([.ref (ad 0), .int x1] : List Value).toArray 2 from by rw [hargs], lg_entry_eq]
  generalize (lg_sl ([.ref (ad 0), .int x1]) ++ List.replicate (2 - (lg_sl ([.ref (ad 0), .int x1])).length) Slot.unset).toArray = ls at hl ⊢
  have hl : lv_has ls 2 [(0, .ref (ad 0)), (1, .int x1)] := hl
  show W p l e rmX11_count s m args below meth c s.heap [] 0 0 _ _
  refine lv_iload_n hx hb dX11_count_0 rfl (lv_at hl 1 rfl) ?_
  by_cases c_1_0 : x1 = (0 : Int32)
  · have hf := if_t hf c_1_0
    refine lv_tableIn (tgt := 52) hx hb dX11_count_1 (by rw [c_1_0]; decide) (by rw [c_1_0]; decide) (off := 51) (by rw [c_1_0]; rfl) (by decide) ?_
    refine lv_aload_n hx hb dX11_count_52 rfl (lv_at hl 0 rfl) ?_
    refine r_getR C hw (k := 1) (r := 3) dq_0 ln_0 rfl vc_11 inX11 (by decide) rfl gw2_114 dX11_count_53 ?_
    obtain ⟨S_56, r_56, h_56, hf⟩ := bd_some hf
    refine r_bi hw (r_runV (rest := []) C hw (m_X3_size l D cA ad base fu h_56) mvX3_size gw3_71 ⟨rfl, rfl, Nat.le_of_ble_eq_true rfl, Nat.le_of_ble_eq_true rfl⟩ dq_3 ln_3 vc_3 rfl hl.1 rfl (Nat.le_of_ble_eq_true rfl) dX11_count_56 (Nat.zero_le _) (Nat.zero_le _)) (fun H locs hw => ?_)
    exact r_iret C hw hr hlocks hf dX11_count_59
  have hf := if_f hf c_1_0
  by_cases c_1_1 : x1 = (1 : Int32)
  · have hf := if_t hf c_1_1
    refine lv_tableIn (tgt := 60) hx hb dX11_count_1 (by rw [c_1_1]; decide) (by rw [c_1_1]; decide) (off := 59) (by rw [c_1_1]; rfl) (by decide) ?_
    refine lv_aload_n hx hb dX11_count_60 rfl (lv_at hl 0 rfl) ?_
    refine r_getR C hw (k := 3) (r := 10) dq_0 ln_0 rfl vc_11 inX11 (by decide) rfl gw2_116 dX11_count_61 ?_
    obtain ⟨S_64, r_64, h_64, hf⟩ := bd_some hf
    refine r_bi hw (r_runV (rest := []) C hw (m_X10_size l D cA ad base fu h_64) mvX10_size gw3_75 ⟨rfl, rfl, Nat.le_of_ble_eq_true rfl, Nat.le_of_ble_eq_true rfl⟩ dq_10 ln_10 vc_10 rfl hl.1 rfl (Nat.le_of_ble_eq_true rfl) dX11_count_64 (Nat.zero_le _) (Nat.zero_le _)) (fun H locs hw => ?_)
    exact r_iret C hw hr hlocks hf dX11_count_67
  have hf := if_f hf c_1_1
  by_cases c_1_2 : x1 = (2 : Int32)
  · have hf := if_t hf c_1_2
    refine lv_tableIn (tgt := 68) hx hb dX11_count_1 (by rw [c_1_2]; decide) (by rw [c_1_2]; decide) (off := 67) (by rw [c_1_2]; rfl) (by decide) ?_
    refine lv_aload_n hx hb dX11_count_68 rfl (lv_at hl 0 rfl) ?_
    refine r_getR C hw (k := 3) (r := 10) dq_0 ln_0 rfl vc_11 inX11 (by decide) rfl gw2_116 dX11_count_69 ?_
    obtain ⟨S_72, r_72, h_72, hf⟩ := bd_some hf
    refine r_bi hw (r_runV (rest := []) C hw (m_X10_records l D cA ad base fu h_72) mvX10_records gw3_79 ⟨rfl, rfl, Nat.le_of_ble_eq_true rfl, Nat.le_of_ble_eq_true rfl⟩ dq_10 ln_10 vc_10 rfl hl.1 rfl (Nat.le_of_ble_eq_true rfl) dX11_count_72 (Nat.zero_le _) (Nat.zero_le _)) (fun H locs hw => ?_)
    exact r_iret C hw hr hlocks hf dX11_count_75
  have hf := if_f hf c_1_2
  by_cases c_1_3 : x1 = (3 : Int32)
  · have hf := if_t hf c_1_3
    refine lv_tableIn (tgt := 76) hx hb dX11_count_1 (by rw [c_1_3]; decide) (by rw [c_1_3]; decide) (off := 75) (by rw [c_1_3]; rfl) (by decide) ?_
    refine lv_aload_n hx hb dX11_count_76 rfl (lv_at hl 0 rfl) ?_
    refine r_getR C hw (k := 5) (r := 23) dq_0 ln_0 rfl vc_11 inX11 (by decide) rfl gw2_118 dX11_count_77 ?_
    obtain ⟨S_80, r_80, h_80, hf⟩ := bd_some hf
    refine r_bi hw (r_runV (rest := []) C hw (m_X7_size l D cA ad base fu h_80) mvX7_size gw3_83 ⟨rfl, rfl, Nat.le_of_ble_eq_true rfl, Nat.le_of_ble_eq_true rfl⟩ dq_23 ln_23 vc_7 rfl hl.1 rfl (Nat.le_of_ble_eq_true rfl) dX11_count_80 (Nat.zero_le _) (Nat.zero_le _)) (fun H locs hw => ?_)
    exact r_iret C hw hr hlocks hf dX11_count_83
  have hf := if_f hf c_1_3
  by_cases c_1_4 : x1 = (4 : Int32)
  · have hf := if_t hf c_1_4
    refine lv_tableIn (tgt := 84) hx hb dX11_count_1 (by rw [c_1_4]; decide) (by rw [c_1_4]; decide) (off := 83) (by rw [c_1_4]; rfl) (by decide) ?_
    refine lv_aload_n hx hb dX11_count_84 rfl (lv_at hl 0 rfl) ?_
    refine r_getR C hw (k := 9) (r := 49) dq_0 ln_0 rfl vc_11 inX11 (by decide) rfl gw2_122 dX11_count_85 ?_
    obtain ⟨S_88, r_88, h_88, hf⟩ := bd_some hf
    refine r_bi hw (r_runV (rest := []) C hw (m_X6_hints l D cA ad base fu h_88) mvX6_hints gw3_87 ⟨rfl, rfl, Nat.le_of_ble_eq_true rfl, Nat.le_of_ble_eq_true rfl⟩ dq_49 ln_49 vc_6 rfl hl.1 rfl (Nat.le_of_ble_eq_true rfl) dX11_count_88 (Nat.zero_le _) (Nat.zero_le _)) (fun H locs hw => ?_)
    exact r_iret C hw hr hlocks hf dX11_count_91
  have hf := if_f hf c_1_4
  by_cases c_1_5 : x1 = (5 : Int32)
  · have hf := if_t hf c_1_5
    refine lv_tableIn (tgt := 92) hx hb dX11_count_1 (by rw [c_1_5]; decide) (by rw [c_1_5]; decide) (off := 91) (by rw [c_1_5]; rfl) (by decide) ?_
    refine lv_aload_n hx hb dX11_count_92 rfl (lv_at hl 0 rfl) ?_
    refine r_getR C hw (k := 8) (r := 42) dq_0 ln_0 rfl vc_11 inX11 (by decide) rfl gw2_121 dX11_count_93 ?_
    obtain ⟨S_96, r_96, h_96, hf⟩ := bd_some hf
    refine r_bi hw (r_runV (rest := []) C hw (m_X1_now l D cA ad base fu h_96) mvX1_now gw3_91 ⟨rfl, rfl, Nat.le_of_ble_eq_true rfl, Nat.le_of_ble_eq_true rfl⟩ dq_42 ln_42 vc_1 rfl hl.1 rfl (Nat.le_of_ble_eq_true rfl) dX11_count_96 (Nat.zero_le _) (Nat.zero_le _)) (fun H locs hw => ?_)
    exact r_iret C hw hr hlocks hf dX11_count_99
  have hf := if_f hf c_1_5
  by_cases c_1_6 : x1 = (6 : Int32)
  · have hf := if_t hf c_1_6
    refine lv_tableIn (tgt := 100) hx hb dX11_count_1 (by rw [c_1_6]; decide) (by rw [c_1_6]; decide) (off := 99) (by rw [c_1_6]; rfl) (by decide) ?_
    refine lv_aload_n hx hb dX11_count_100 rfl (lv_at hl 0 rfl) ?_
    refine r_getR C hw (k := 8) (r := 42) dq_0 ln_0 rfl vc_11 inX11 (by decide) rfl gw2_121 dX11_count_101 ?_
    obtain ⟨S_104, r_104, h_104, hf⟩ := bd_some hf
    refine r_bi hw (r_runV (rest := []) C hw (m_X1_size l D cA ad base fu h_104) mvX1_size gw3_95 ⟨rfl, rfl, Nat.le_of_ble_eq_true rfl, Nat.le_of_ble_eq_true rfl⟩ dq_42 ln_42 vc_1 rfl hl.1 rfl (Nat.le_of_ble_eq_true rfl) dX11_count_104 (Nat.zero_le _) (Nat.zero_le _)) (fun H locs hw => ?_)
    exact r_iret C hw hr hlocks hf dX11_count_107
  have hf := if_f hf c_1_6
  by_cases c_1_7 : x1 = (7 : Int32)
  · have hf := if_t hf c_1_7
    refine lv_tableIn (tgt := 108) hx hb dX11_count_1 (by rw [c_1_7]; decide) (by rw [c_1_7]; decide) (off := 107) (by rw [c_1_7]; rfl) (by decide) ?_
    refine lv_aload_n hx hb dX11_count_108 rfl (lv_at hl 0 rfl) ?_
    refine r_getR C hw (k := 9) (r := 49) dq_0 ln_0 rfl vc_11 inX11 (by decide) rfl gw2_122 dX11_count_109 ?_
    obtain ⟨S_112, r_112, h_112, hf⟩ := bd_some hf
    refine r_bi hw (r_runV (rest := []) C hw (m_X6_sentEver l D cA ad base fu h_112) mvX6_sentEver gw3_99 ⟨rfl, rfl, Nat.le_of_ble_eq_true rfl, Nat.le_of_ble_eq_true rfl⟩ dq_49 ln_49 vc_6 rfl hl.1 rfl (Nat.le_of_ble_eq_true rfl) dX11_count_112 (Nat.zero_le _) (Nat.zero_le _)) (fun H locs hw => ?_)
    exact r_iret C hw hr hlocks hf dX11_count_115
  have hf := if_f hf c_1_7
  by_cases c_1_8 : x1 = (8 : Int32)
  · have hf := if_t hf c_1_8
    refine lv_tableIn (tgt := 116) hx hb dX11_count_1 (by rw [c_1_8]; decide) (by rw [c_1_8]; decide) (off := 115) (by rw [c_1_8]; rfl) (by decide) ?_
    refine lv_aload_n hx hb dX11_count_116 rfl (lv_at hl 0 rfl) ?_
    refine r_getR C hw (k := 0) (r := 1) dq_0 ln_0 rfl vc_11 inX11 (by decide) rfl gw2_113 dX11_count_117 ?_
    obtain ⟨S_120, r_120, h_120, hf⟩ := bd_some hf
    refine r_bi hw (r_runV (rest := []) C hw (m_X0_size l D cA ad base fu 1 kBy_1 h_120) mvX0_size gw2_148 ⟨rfl, rfl, Nat.le_of_ble_eq_true rfl, Nat.le_of_ble_eq_true rfl⟩ dq_1 ln_1 vc_0 rfl hl.1 rfl (Nat.le_of_ble_eq_true rfl) dX11_count_120 (Nat.zero_le _) (Nat.zero_le _)) (fun H locs hw => ?_)
    exact r_iret C hw hr hlocks hf dX11_count_123
  have hf := if_f hf c_1_8
  refine lv_tableOut (tgt := 124) hx hb dX11_count_1 (sw_out 9 (fun k hk => by rcases (show k = 0 ∨ k = 1 ∨ k = 2 ∨ k = 3 ∨ k = 4 ∨ k = 5 ∨ k = 6 ∨ k = 7 ∨ k = 8 by omega) with rfl | rfl | rfl | rfl | rfl | rfl | rfl | rfl | rfl <;> assumption)) (by decide) ?_
  refine lv_iconst (v := (-1 : Int32)) hx hb dX11_count_124 (by decide) ?_
  exact r_iret C hw hr hlocks hf dX11_count_125
