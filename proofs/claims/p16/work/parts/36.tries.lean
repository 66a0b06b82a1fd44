noncomputable def fL_name (fu : Nat) (S : St) : Option (St × Int32) :=
  bc (fX11_name fu S) (fun S_3 r_3 =>
    gd (ck (0 : Int32) 1) <|
    sJ 106 ((0 : Int32)).toNatClampNeg (r_3).toInt64 S_3 fun S_7 =>
    some (S_7, (0 : Int32))) (fun S_3 k_3 =>
    if k_3 = 1 then
      some (S_3, (1 : Int32))
    else
    if k_3 = 2 then
      some (S_3, (2 : Int32))
    else
      none)
def rmL_name : Room := { frames := 7, cells := 1, slots := 6, locals := 111 }
theorem msL_name : MSW yL_name cL_name 3 (some .int) [(0, 8, 11, 13), (0, 8, 14, 15)] 2 := ⟨gw3_105, gw3_104, gw1_0, by decide +kernel⟩
set_option maxHeartbeats 4000000 in
set_option maxRecDepth 100000 in
theorem m_L_name (l : Launch) (hlt : l.stackTraces = false) (D : va_G) (cA : FieldType → ClassId) (ad : Nat → Nat) (base : Nat) (fu : Nat) {S S' : St} {r : Int32} (hf : fL_name fu S = some (S', r)) : Met l yL_name (GCW yL_name cL_name 3 (some .int) [(0, 8, 11, 13), (0, 8, 14, 15)]) rmL_name (va_Pc [.ref (ad 0), .ref (ad 106)] (wd D cA ad base S)) (QI D cA ad base S' r) 1 6 (aB base) := by
  refine va_MetW (cc := cL_name) (maxL := 3) (ret := (some .int)) (by decide) rfl ?_
  intro p e s m args below meth c s₁ B hml hv
  obtain ⟨C, hw, htb⟩ := CX.ofW (own := RL) rfl B hml hv.2
  have htb : c.exceptionTable.toList = [⟨0, 8, 11, 13⟩, ⟨0, 8, 14, 15⟩] := htb
  have hargs := hv.1
  have hr := B.returns
  have hlocks := B.notSynchronized
  have hx := C.1
  have hb := C.2.1
  have hl := lv_entry ([.ref (ad 0), .ref (ad 106)]) (n := 3) (Nat.le_of_ble_eq_true rfl)
  rw [show entryFrame m args 3 = entryFrame m ([.ref (ad 0), .ref (ad 106)] : List Value).toArray 3 from by rw [hargs], lg_entry_eq]
  generalize (lg_sl ([.ref (ad 0), .ref (ad 106)]) ++ List.replicate (3 - (lg_sl ([.ref (ad 0), .ref (ad 106)])).length) Slot.unset).toArray = ls at hl ⊢
  have hl : lv_has ls 3 [(0, .ref (ad 0)), (1, .ref (ad 106))] := hl
  show W p l e rmL_name s m args below meth c s.heap [] 0 0 _ _
  refine lv_aload_n hx hb dL_name_0 rfl (lv_at hl 1 rfl) ?_
  refine lv_iconst (v := (0 : Int32)) hx hb dL_name_1 (by decide) ?_
  refine lv_aload_n hx hb dL_name_2 rfl (lv_at hl 0 rfl) ?_
  rcases bc_some hf with ⟨S_3, r_3, h_3, hf⟩ | ⟨S_3, k_3, r_3, h_3, hf⟩
  · refine r_bi hw (r_runV (rest := [.int (0 : Int32), .ref (ad 106)]) C hw (m_X11_name l D cA ad base fu h_3) mvX11_name gw3_108 ⟨rfl, rfl, Nat.le_of_ble_eq_true rfl, Nat.le_of_ble_eq_true rfl⟩ dq_0 ln_0 vc_11 rfl hl.1 rfl (Nat.le_of_ble_eq_true rfl) dL_name_3 (Nat.zero_le _) (Nat.zero_le _)) (fun H locs hw => ?_)
    refine W.widen (k := 1) (n := 6) (Nat.zero_le _) (Nat.zero_le _) ?_
    refine lv_i2l hx hb dL_name_6 rfl ?_
    obtain ⟨z_7, hf⟩ := gd_some hf
    obtain ⟨S_7, e_7, hf⟩ := sJ_some hf
    refine r_last C hw (x := 106) dq_106 ln_106 z_7 dL_name_7 e_7 (fun H locs hw => ?_)
    refine lv_goto (tgt := 17) hx hb dL_name_8 (by decide) ?_
    refine lv_iconst (v := (0 : Int32)) hx hb dL_name_17 (by decide) ?_
    exact r_iret C hw hr hlocks hf dL_name_18
  · refine r_xV (rest := [.int (0 : Int32), .ref (ad 106)]) C hw (n_X11_name l hlt D cA ad base fu h_3) mvX11_name gw3_108 ⟨rfl, rfl, Nat.le_of_ble_eq_true rfl, Nat.le_of_ble_eq_true rfl⟩ dq_0 ln_0 vc_11 rfl hl.1 rfl (Nat.le_of_ble_eq_true rfl) dL_name_3 (Nat.le_of_ble_eq_true rfl) (Nat.le_of_ble_eq_true rfl) (fun ce q9 H locs hw hce hcv hcl => ?_)
    show vx_W p l e rmL_name s m args below meth c H locs 1 6 _ _ _
    by_cases e_3_0 : k_3 + 1 = 1
    · have hf := if_t hf e_3_0
      rw [e_3_0] at hcl
      refine r_caught C hce hcv hcl [] ⟨0, 8, 11, 13⟩ [⟨0, 8, 14, 15⟩] htb (fun z =>  "") (by decide) (fun z hz => absurd hz List.not_mem_nil) rfl (by decide) gw3_106 ?_
      refine lv_astore_n (lv' := [(2, .ref q9), (0, .ref (ad 0)), (1, .ref (ad 106))]) hx hb dL_name_11 rfl hl (by decide) rfl (fun ls hl => ?_)
      refine lv_iconst (v := (1 : Int32)) hx hb dL_name_12 (by decide) ?_
      exact r_iret C hw hr hlocks hf dL_name_13
    have hf := if_f hf e_3_0
    by_cases e_3_1 : k_3 + 1 = 2
    · have hf := if_t hf e_3_1
      rw [e_3_1] at hcl
      refine r_caught C hce hcv hcl [⟨0, 8, 11, 13⟩] ⟨0, 8, 14, 15⟩ [] htb (fun z => if z.catchType = 13 then "java/lang/IllegalArgumentException" else "") (by decide) (List.forall_mem_cons.mpr ⟨⟨rfl, by decide, gw3_106, by decide, by decide⟩, (fun z hz => absurd hz List.not_mem_nil)⟩) rfl (by decide) gw3_107 ?_
      refine lv_astore_n (lv' := [(2, .ref q9), (0, .ref (ad 0)), (1, .ref (ad 106))]) hx hb dL_name_14 rfl hl (by decide) rfl (fun ls hl => ?_)
      refine lv_iconst (v := (2 : Int32)) hx hb dL_name_15 (by decide) ?_
      exact r_iret C hw hr hlocks hf dL_name_16
    have hf := if_f hf e_3_1
    exact (no_none hf).elim
noncomputable def fL_look (fu : Nat) (x1 : Int32) (x2 : Int32) (S : St) : Option (St × Int32) :=
  bc (fX11_look fu x1 x2 S) (fun S_5 r_5 =>
    gd (ck (0 : Int32) 1) <|
    sJ 106 ((0 : Int32)).toNatClampNeg (r_5).toInt64 S_5 fun S_9 =>
    some (S_9, (0 : Int32))) (fun S_5 k_5 =>
    if k_5 = 3 then
      some (S_5, (1 : Int32))
    else
    if k_5 = 4 then
      some (S_5, (2 : Int32))
    else
      none)
def rmL_look : Room := { frames := 8, cells := 1, slots := 6, locals := 133 }
theorem msL_look : MSW yL_look cL_look 5 (some .int) [(0, 10, 13, 21), (0, 10, 17, 23)] 4 := ⟨gw3_214, gw3_213, gw1_0, by decide +kernel⟩
set_option maxHeartbeats 4000000 in
set_option maxRecDepth 100000 in
theorem m_L_look (l : Launch) (hlt : l.stackTraces = false) (D : va_G) (cA : FieldType → ClassId) (ad : Nat → Nat) (base : Nat) (fu : Nat) {S S' : St} {x1 : Int32} {x2 : Int32} {r : Int32} (hf : fL_look fu x1 x2 S = some (S', r)) : Met l yL_look (GCW yL_look cL_look 5 (some .int) [(0, 10, 13, 21), (0, 10, 17, 23)]) rmL_look (va_Pc [.ref (ad 0), .int x1, .int x2, .ref (ad 106)] (wd D cA ad base S)) (QI D cA ad base S' r) 1 6 (aB base) := by
  refine va_MetW (cc := cL_look) (maxL := 5) (ret := (some .int)) (by decide) rfl ?_
  intro p e s m args below meth c s₁ B hml hv
  obtain ⟨C, hw, htb⟩ := CX.ofW (own := RL) rfl B hml hv.2
  have htb : c.exceptionTable.toList = [⟨0, 10, 13, 21⟩, ⟨0, 10, 17, 23⟩] := htb
  have hargs := hv.1
  have hr := B.returns
  have hlocks := B.notSynchronized
  have hx := C.1
  have hb := C.2.1
  have hl := lv_entry ([.ref (ad 0), .int x1, .int x2, .ref (ad 106)]) (n := 5) (Nat.le_of_ble_eq_true rfl)
  rw [show entryFrame m args 5 = entryFrame m ([.ref (ad 0), .int x1, .int x2, .ref (ad 106)] : List Value).toArray 5 from by rw [hargs], lg_entry_eq]
  generalize (lg_sl ([.ref (ad 0), .int x1, .int x2, .ref (ad 106)]) ++ List.replicate (5 - (lg_sl ([.ref (ad 0), .int x1, .int x2, .ref (ad 106)])).length) Slot.unset).toArray = ls at hl ⊢
  have hl : lv_has ls 5 [(0, .ref (ad 0)), (1, .int x1), (2, .int x2), (3, .ref (ad 106))] := hl
  show W p l e rmL_look s m args below meth c s.heap [] 0 0 _ _
  refine lv_aload_n hx hb dL_look_0 rfl (lv_at hl 3 rfl) ?_
  refine lv_iconst (v := (0 : Int32)) hx hb dL_look_1 (by decide) ?_
  refine lv_aload_n hx hb dL_look_2 rfl (lv_at hl 0 rfl) ?_
  refine lv_iload_n hx hb dL_look_3 rfl (lv_at hl 1 rfl) ?_
  refine lv_iload_n hx hb dL_look_4 rfl (lv_at hl 2 rfl) ?_
  rcases bc_some hf with ⟨S_5, r_5, h_5, hf⟩ | ⟨S_5, k_5, r_5, h_5, hf⟩
  · refine r_bi hw (r_runV (rest := [.int (0 : Int32), .ref (ad 106)]) C hw (m_X11_look l D cA ad base fu h_5) mvX11_look gw3_217 ⟨rfl, rfl, Nat.le_of_ble_eq_true rfl, Nat.le_of_ble_eq_true rfl⟩ dq_0 ln_0 vc_11 rfl hl.1 rfl (Nat.le_of_ble_eq_true rfl) dL_look_5 (Nat.zero_le _) (Nat.zero_le _)) (fun H locs hw => ?_)
    refine W.widen (k := 1) (n := 6) (Nat.zero_le _) (Nat.zero_le _) ?_
    refine lv_i2l hx hb dL_look_8 rfl ?_
    obtain ⟨z_9, hf⟩ := gd_some hf
    obtain ⟨S_9, e_9, hf⟩ := sJ_some hf
    refine r_last C hw (x := 106) dq_106 ln_106 z_9 dL_look_9 e_9 (fun H locs hw => ?_)
    refine lv_goto (tgt := 21) hx hb dL_look_10 (by decide) ?_
    refine lv_iconst (v := (0 : Int32)) hx hb dL_look_21 (by decide) ?_
    exact r_iret C hw hr hlocks hf dL_look_22
  · refine r_xV (rest := [.int (0 : Int32), .ref (ad 106)]) C hw (n_X11_look l hlt D cA ad base fu h_5) mvX11_look gw3_217 ⟨rfl, rfl, Nat.le_of_ble_eq_true rfl, Nat.le_of_ble_eq_true rfl⟩ dq_0 ln_0 vc_11 rfl hl.1 rfl (Nat.le_of_ble_eq_true rfl) dL_look_5 (Nat.le_of_ble_eq_true rfl) (Nat.le_of_ble_eq_true rfl) (fun ce q9 H locs hw hce hcv hcl => ?_)
    show vx_W p l e rmL_look s m args below meth c H locs 1 6 _ _ _
    by_cases e_5_0 : k_5 + 1 = 3
    · have hf := if_t hf e_5_0
      rw [e_5_0] at hcl
      refine r_caught C hce hcv hcl [] ⟨0, 10, 13, 21⟩ [⟨0, 10, 17, 23⟩] htb (fun z =>  "") (by decide) (fun z hz => absurd hz List.not_mem_nil) rfl (by decide) gw3_215 ?_
      refine lv_astore (lv' := [(4, .ref q9), (0, .ref (ad 0)), (1, .int x1), (2, .int x2), (3, .ref (ad 106))]) hx hb dL_look_13 hl (by decide) rfl (fun ls hl => ?_)
      refine lv_iconst (v := (1 : Int32)) hx hb dL_look_15 (by decide) ?_
      exact r_iret C hw hr hlocks hf dL_look_16
    have hf := if_f hf e_5_0
    by_cases e_5_1 : k_5 + 1 = 4
    · have hf := if_t hf e_5_1
      rw [e_5_1] at hcl
      refine r_caught C hce hcv hcl [⟨0, 10, 13, 21⟩] ⟨0, 10, 17, 23⟩ [] htb (fun z => if z.catchType = 21 then "java/lang/IndexOutOfBoundsException" else "") (by decide) (List.forall_mem_cons.mpr ⟨⟨rfl, by decide, gw3_215, by decide, by decide⟩, (fun z hz => absurd hz List.not_mem_nil)⟩) rfl (by decide) gw3_216 ?_
      refine lv_astore (lv' := [(4, .ref q9), (0, .ref (ad 0)), (1, .int x1), (2, .int x2), (3, .ref (ad 106))]) hx hb dL_look_17 hl (by decide) rfl (fun ls hl => ?_)
      refine lv_iconst (v := (2 : Int32)) hx hb dL_look_19 (by decide) ?_
      exact r_iret C hw hr hlocks hf dL_look_20
    have hf := if_f hf e_5_1
    exact (no_none hf).elim
noncomputable def fL_text (fu : Nat) (x1 : Int32) (x2 : Int32) (S : St) : Option (St × Int32) :=
  bc (fX11_text fu x1 x2 S) (fun S_5 r_5 =>
    gd (ck (0 : Int32) 1) <|
    sJ 106 ((0 : Int32)).toNatClampNeg (r_5).toInt64 S_5 fun S_9 =>
    some (S_9, (0 : Int32))) (fun S_5 k_5 =>
    if k_5 = 3 then
      some (S_5, (1 : Int32))
    else
      none)
def rmL_text : Room := { frames := 8, cells := 1, slots := 6, locals := 133 }
theorem msL_text : MSW yL_text cL_text 5 (some .int) [(0, 10, 13, 21)] 4 := ⟨gw4_40, gw4_39, gw1_0, by decide +kernel⟩
set_option maxHeartbeats 4000000 in
set_option maxRecDepth 100000 in
theorem m_L_text (l : Launch) (hlt : l.stackTraces = false) (D : va_G) (cA : FieldType → ClassId) (ad : Nat → Nat) (base : Nat) (fu : Nat) {S S' : St} {x1 : Int32} {x2 : Int32} {r : Int32} (hf : fL_text fu x1 x2 S = some (S', r)) : Met l yL_text (GCW yL_text cL_text 5 (some .int) [(0, 10, 13, 21)]) rmL_text (va_Pc [.ref (ad 0), .int x1, .int x2, .ref (ad 106)] (wd D cA ad base S)) (QI D cA ad base S' r) 1 6 (aB base) := by
  refine va_MetW (cc := cL_text) (maxL := 5) (ret := (some .int)) (by decide) rfl ?_
  intro p e s m args below meth c s₁ B hml hv
  obtain ⟨C, hw, htb⟩ := CX.ofW (own := RL) rfl B hml hv.2
  have htb : c.exceptionTable.toList = [⟨0, 10, 13, 21⟩] := htb
  have hargs := hv.1
  have hr := B.returns
  have hlocks := B.notSynchronized
  have hx := C.1
  have hb := C.2.1
  have hl := lv_entry ([.ref (ad 0), .int x1, .int x2, .ref (ad 106)]) (n := 5) (Nat.le_of_ble_eq_true rfl)
  rw [show entryFrame m args 5 = entryFrame m ([.ref (ad 0), .int x1, .int x2, .ref (ad 106)] : List Value).toArray 5 from by rw [hargs], lg_entry_eq]
  generalize (lg_sl ([.ref (ad 0), .int x1, .int x2, .ref (ad 106)]) ++ List.replicate (5 - (lg_sl ([.ref (ad 0), .int x1, .int x2, .ref (ad 106)])).length) Slot.unset).toArray = ls at hl ⊢
  have hl : lv_has ls 5 [(0, .ref (ad 0)), (1, .int x1), (2, .int x2), (3, .ref (ad 106))] := hl
  show W p l e rmL_text s m args below meth c s.heap [] 0 0 _ _
  refine lv_aload_n hx hb dL_text_0 rfl (lv_at hl 3 rfl) ?_
  refine lv_iconst (v := (0 : Int32)) hx hb dL_text_1 (by decide) ?_
  refine lv_aload_n hx hb dL_text_2 rfl (lv_at hl 0 rfl) ?_
  refine lv_iload_n hx hb dL_text_3 rfl (lv_at hl 1 rfl) ?_
  refine lv_iload_n hx hb dL_text_4 rfl (lv_at hl 2 rfl) ?_
  rcases bc_some hf with ⟨S_5, r_5, h_5, hf⟩ | ⟨S_5, k_5, r_5, h_5, hf⟩
  · refine r_bi hw (r_runV (rest := [.int (0 : Int32), .ref (ad 106)]) C hw (m_X11_text l D cA ad base fu h_5) mvX11_text gw4_41 ⟨rfl, rfl, Nat.le_of_ble_eq_true rfl, Nat.le_of_ble_eq_true rfl⟩ dq_0 ln_0 vc_11 rfl hl.1 rfl (Nat.le_of_ble_eq_true rfl) dL_text_5 (Nat.zero_le _) (Nat.zero_le _)) (fun H locs hw => ?_)
    refine W.widen (k := 1) (n := 6) (Nat.zero_le _) (Nat.zero_le _) ?_
    refine lv_i2l hx hb dL_text_8 rfl ?_
    obtain ⟨z_9, hf⟩ := gd_some hf
    obtain ⟨S_9, e_9, hf⟩ := sJ_some hf
    refine r_last C hw (x := 106) dq_106 ln_106 z_9 dL_text_9 e_9 (fun H locs hw => ?_)
    refine lv_goto (tgt := 17) hx hb dL_text_10 (by decide) ?_
    refine lv_iconst (v := (0 : Int32)) hx hb dL_text_17 (by decide) ?_
    exact r_iret C hw hr hlocks hf dL_text_18
  · refine r_xV (rest := [.int (0 : Int32), .ref (ad 106)]) C hw (n_X11_text l hlt D cA ad base fu h_5) mvX11_text gw4_41 ⟨rfl, rfl, Nat.le_of_ble_eq_true rfl, Nat.le_of_ble_eq_true rfl⟩ dq_0 ln_0 vc_11 rfl hl.1 rfl (Nat.le_of_ble_eq_true rfl) dL_text_5 (Nat.le_of_ble_eq_true rfl) (Nat.le_of_ble_eq_true rfl) (fun ce q9 H locs hw hce hcv hcl => ?_)
    show vx_W p l e rmL_text s m args below meth c H locs 1 6 _ _ _
    by_cases e_5_0 : k_5 + 1 = 3
    · have hf := if_t hf e_5_0
      rw [e_5_0] at hcl
      refine r_caught C hce hcv hcl [] ⟨0, 10, 13, 21⟩ [] htb (fun z =>  "") (by decide) (fun z hz => absurd hz List.not_mem_nil) rfl (by decide) gw3_215 ?_
      refine lv_astore (lv' := [(4, .ref q9), (0, .ref (ad 0)), (1, .int x1), (2, .int x2), (3, .ref (ad 106))]) hx hb dL_text_13 hl (by decide) rfl (fun ls hl => ?_)
      refine lv_iconst (v := (1 : Int32)) hx hb dL_text_15 (by decide) ?_
      exact r_iret C hw hr hlocks hf dL_text_16
    have hf := if_f hf e_5_0
    exact (no_none hf).elim
noncomputable def fL_zone (fu : Nat) (x1 : Int32) (x2 : Int32) (S : St) : Option (St × Int32) :=
  bc (fX11_zone fu x1 x2 S) (fun S_5 r_5 =>
    gd (ck (0 : Int32) 1) <|
    sJ 106 ((0 : Int32)).toNatClampNeg (r_5).toInt64 S_5 fun S_9 =>
    some (S_9, (0 : Int32))) (fun S_5 k_5 =>
    if k_5 = 3 then
      some (S_5, (1 : Int32))
    else
    if k_5 = 1 then
      some (S_5, (2 : Int32))
    else
    if k_5 = 2 then
      some (S_5, (3 : Int32))
    else
      none)
def rmL_zone : Room := { frames := 8, cells := 1, slots := 6, locals := 133 }
theorem msL_zone : MSW yL_zone cL_zone 5 (some .int) [(0, 10, 13, 21), (0, 10, 17, 13), (0, 10, 21, 15)] 4 := ⟨gw4_56, gw4_55, gw1_0, by decide +kernel⟩
set_option maxHeartbeats 4000000 in
set_option maxRecDepth 100000 in
theorem m_L_zone (l : Launch) (hlt : l.stackTraces = false) (D : va_G) (cA : FieldType → ClassId) (ad : Nat → Nat) (base : Nat) (fu : Nat) {S S' : St} {x1 : Int32} {x2 : Int32} {r : Int32} (hf : fL_zone fu x1 x2 S = some (S', r)) : Met l yL_zone (GCW yL_zone cL_zone 5 (some .int) [(0, 10, 13, 21), (0, 10, 17, 13), (0, 10, 21, 15)]) rmL_zone (va_Pc [.ref (ad 0), .int x1, .int x2, .ref (ad 106)] (wd D cA ad base S)) (QI D cA ad base S' r) 1 6 (aB base) := by
  refine va_MetW (cc := cL_zone) (maxL := 5) (ret := (some .int)) (by decide) rfl ?_
  intro p e s m args below meth c s₁ B hml hv
  obtain ⟨C, hw, htb⟩ := CX.ofW (own := RL) rfl B hml hv.2
  have htb : c.exceptionTable.toList = [⟨0, 10, 13, 21⟩, ⟨0, 10, 17, 13⟩, ⟨0, 10, 21, 15⟩] := htb
  have hargs := hv.1
  have hr := B.returns
  have hlocks := B.notSynchronized
  have hx := C.1
  have hb := C.2.1
  have hl := lv_entry ([.ref (ad 0), .int x1, .int x2, .ref (ad 106)]) (n := 5) (Nat.le_of_ble_eq_true rfl)
  rw [show entryFrame m args 5 = entryFrame m ([.ref (ad 0), .int x1, .int x2, .ref (ad 106)] : List Value).toArray 5 from by rw [hargs], lg_entry_eq]
  generalize (lg_sl ([.ref (ad 0), .int x1, .int x2, .ref (ad 106)]) ++ List.replicate (5 - (lg_sl ([.ref (ad 0), .int x1, .int x2, .ref (ad 106)])).length) Slot.unset).toArray = ls at hl ⊢
  have hl : lv_has ls 5 [(0, .ref (ad 0)), (1, .int x1), (2, .int x2), (3, .ref (ad 106))] := hl
  show W p l e rmL_zone s m args below meth c s.heap [] 0 0 _ _
  refine lv_aload_n hx hb dL_zone_0 rfl (lv_at hl 3 rfl) ?_
  refine lv_iconst (v := (0 : Int32)) hx hb dL_zone_1 (by decide) ?_
  refine lv_aload_n hx hb dL_zone_2 rfl (lv_at hl 0 rfl) ?_
  refine lv_iload_n hx hb dL_zone_3 rfl (lv_at hl 1 rfl) ?_
  refine lv_iload_n hx hb dL_zone_4 rfl (lv_at hl 2 rfl) ?_
  rcases bc_some hf with ⟨S_5, r_5, h_5, hf⟩ | ⟨S_5, k_5, r_5, h_5, hf⟩
  · refine r_bi hw (r_runV (rest := [.int (0 : Int32), .ref (ad 106)]) C hw (m_X11_zone l D cA ad base fu h_5) mvX11_zone gw4_57 ⟨rfl, rfl, Nat.le_of_ble_eq_true rfl, Nat.le_of_ble_eq_true rfl⟩ dq_0 ln_0 vc_11 rfl hl.1 rfl (Nat.le_of_ble_eq_true rfl) dL_zone_5 (Nat.zero_le _) (Nat.zero_le _)) (fun H locs hw => ?_)
    refine W.widen (k := 1) (n := 6) (Nat.zero_le _) (Nat.zero_le _) ?_
    refine lv_i2l hx hb dL_zone_8 rfl ?_
    obtain ⟨z_9, hf⟩ := gd_some hf
    obtain ⟨S_9, e_9, hf⟩ := sJ_some hf
    refine r_last C hw (x := 106) dq_106 ln_106 z_9 dL_zone_9 e_9 (fun H locs hw => ?_)
    refine lv_goto (tgt := 25) hx hb dL_zone_10 (by decide) ?_
    refine lv_iconst (v := (0 : Int32)) hx hb dL_zone_25 (by decide) ?_
    exact r_iret C hw hr hlocks hf dL_zone_26
  · refine r_xV (rest := [.int (0 : Int32), .ref (ad 106)]) C hw (n_X11_zone l hlt D cA ad base fu h_5) mvX11_zone gw4_57 ⟨rfl, rfl, Nat.le_of_ble_eq_true rfl, Nat.le_of_ble_eq_true rfl⟩ dq_0 ln_0 vc_11 rfl hl.1 rfl (Nat.le_of_ble_eq_true rfl) dL_zone_5 (Nat.le_of_ble_eq_true rfl) (Nat.le_of_ble_eq_true rfl) (fun ce q9 H locs hw hce hcv hcl => ?_)
    show vx_W p l e rmL_zone s m args below meth c H locs 1 6 _ _ _
    by_cases e_5_0 : k_5 + 1 = 3
    · have hf := if_t hf e_5_0
      rw [e_5_0] at hcl
      refine r_caught C hce hcv hcl [] ⟨0, 10, 13, 21⟩ [⟨0, 10, 17, 13⟩, ⟨0, 10, 21, 15⟩] htb (fun z =>  "") (by decide) (fun z hz => absurd hz List.not_mem_nil) rfl (by decide) gw3_215 ?_
      refine lv_astore (lv' := [(4, .ref q9), (0, .ref (ad 0)), (1, .int x1), (2, .int x2), (3, .ref (ad 106))]) hx hb dL_zone_13 hl (by decide) rfl (fun ls hl => ?_)
      refine lv_iconst (v := (1 : Int32)) hx hb dL_zone_15 (by decide) ?_
      exact r_iret C hw hr hlocks hf dL_zone_16
    have hf := if_f hf e_5_0
    by_cases e_5_1 : k_5 + 1 = 1
    · have hf := if_t hf e_5_1
      rw [e_5_1] at hcl
      refine r_caught C hce hcv hcl [⟨0, 10, 13, 21⟩] ⟨0, 10, 17, 13⟩ [⟨0, 10, 21, 15⟩] htb (fun z => if z.catchType = 21 then "java/lang/IndexOutOfBoundsException" else "") (by decide) (List.forall_mem_cons.mpr ⟨⟨rfl, by decide, gw3_215, by decide, by decide⟩, (fun z hz => absurd hz List.not_mem_nil)⟩) rfl (by decide) gw3_106 ?_
      refine lv_astore (lv' := [(4, .ref q9), (0, .ref (ad 0)), (1, .int x1), (2, .int x2), (3, .ref (ad 106))]) hx hb dL_zone_17 hl (by decide) rfl (fun ls hl => ?_)
      refine lv_iconst (v := (2 : Int32)) hx hb dL_zone_19 (by decide) ?_
      exact r_iret C hw hr hlocks hf dL_zone_20
    have hf := if_f hf e_5_1
    by_cases e_5_2 : k_5 + 1 = 2
    · have hf := if_t hf e_5_2
      rw [e_5_2] at hcl
      refine r_caught C hce hcv hcl [⟨0, 10, 13, 21⟩, ⟨0, 10, 17, 13⟩] ⟨0, 10, 21, 15⟩ [] htb (fun z => if z.catchType = 21 then "java/lang/IndexOutOfBoundsException" else if z.catchType = 13 then "java/lang/IllegalArgumentException" else "") (by decide) (List.forall_mem_cons.mpr ⟨⟨rfl, by decide, gw3_215, by decide, by decide⟩, (List.forall_mem_cons.mpr ⟨⟨rfl, by decide, gw3_106, by decide, by decide⟩, (fun z hz => absurd hz List.not_mem_nil)⟩)⟩) rfl (by decide) gw3_107 ?_
      refine lv_astore (lv' := [(4, .ref q9), (0, .ref (ad 0)), (1, .int x1), (2, .int x2), (3, .ref (ad 106))]) hx hb dL_zone_21 hl (by decide) rfl (fun ls hl => ?_)
      refine lv_iconst (v := (3 : Int32)) hx hb dL_zone_23 (by decide) ?_
      exact r_iret C hw hr hlocks hf dL_zone_24
    have hf := if_f hf e_5_2
    exact (no_none hf).elim
noncomputable def fL_record (fu : Nat) (x1 : Int32) (x2 : Int32) (x3 : Int32) (x4 : Int32) (x5 : Int32) (S : St) : Option (St × Int32) :=
  bc (fX11_record fu x1 x2 x3 x4 x5 S) (fun S_11 r_11 =>
    gd (ck (0 : Int32) 1) <|
    sJ 106 ((0 : Int32)).toNatClampNeg (r_11).toInt64 S_11 fun S_15 =>
    some (S_15, (0 : Int32))) (fun S_11 k_11 =>
    if k_11 = 3 then
      some (S_11, (1 : Int32))
    else
    if k_11 = 1 then
      some (S_11, (2 : Int32))
    else
    if k_11 = 2 then
      some (S_11, (3 : Int32))
    else
      none)
def rmL_record : Room := { frames := 8, cells := 1, slots := 6, locals := 136 }
theorem msL_record : MSW yL_record cL_record 8 (some .int) [(0, 16, 19, 21), (0, 16, 23, 13), (0, 16, 27, 15)] 7 := ⟨gw4_77, gw4_76, gw1_0, by decide +kernel⟩
set_option maxHeartbeats 4000000 in
set_option maxRecDepth 100000 in
theorem m_L_record (l : Launch) (hlt : l.stackTraces = false) (D : va_G) (cA : FieldType → ClassId) (ad : Nat → Nat) (base : Nat) (fu : Nat) {S S' : St} {x1 : Int32} {x2 : Int32} {x3 : Int32} {x4 : Int32} {x5 : Int32} {r : Int32} (hf : fL_record fu x1 x2 x3 x4 x5 S = some (S', r)) : Met l yL_record (GCW yL_record cL_record 8 (some .int) [(0, 16, 19, 21), (0, 16, 23, 13), (0, 16, 27, 15)]) rmL_record (va_Pc [.ref (ad 0), .int x1, .int x2, .int x3, .int x4, .int x5, .ref (ad 106)] (wd D cA ad base S)) (QI D cA ad base S' r) 1 6 (aB base) := by
  refine va_MetW (cc := cL_record) (maxL := 8) (ret := (some .int)) (by decide) rfl ?_
  intro p e s m args below meth c s₁ B hml hv
  obtain ⟨C, hw, htb⟩ := CX.ofW (own := RL) rfl B hml hv.2
  have htb : c.exceptionTable.toList = [⟨0, 16, 19, 21⟩, ⟨0, 16, 23, 13⟩, ⟨0, 16, 27, 15⟩] := htb
  have hargs := hv.1
  have hr := B.returns
  have hlocks := B.notSynchronized
  have hx := C.1
  have hb := C.2.1
  have hl := lv_entry ([.ref (ad 0), .int x1, .int x2, .int x3, .int x4, .int x5, .ref (ad 106)]) (n := 8) (Nat.le_of_ble_eq_true rfl)
  rw [show entryFrame m args 8 = entryFrame m ([.ref (ad 0), .int x1, .int x2, .int x3, .int x4, .int x5, .ref (ad 106)] : List Value).toArray 8 from by rw [hargs], lg_entry_eq]
  generalize (lg_sl ([.ref (ad 0), .int x1, .int x2, .int x3, .int x4, .int x5, .ref (ad 106)]) ++ List.replicate (8 - (lg_sl ([.ref (ad 0), .int x1, .int x2, .int x3, .int x4, .int x5, .ref (ad 106)])).length) Slot.unset).toArray = ls at hl ⊢
  have hl : lv_has ls 8 [(0, .ref (ad 0)), (1, .int x1), (2, .int x2), (3, .int x3), (4, .int x4), (5, .int x5), (6, .ref (ad 106))] := hl
  show W p l e rmL_record s m args below meth c s.heap [] 0 0 _ _
  refine lv_aload hx hb dL_record_0 (lv_at hl 6 rfl) ?_
  refine lv_iconst (v := (0 : Int32)) hx hb dL_record_2 (by decide) ?_
  refine lv_aload_n hx hb dL_record_3 rfl (lv_at hl 0 rfl) ?_
  refine lv_iload_n hx hb dL_record_4 rfl (lv_at hl 1 rfl) ?_
  refine lv_iload_n hx hb dL_record_5 rfl (lv_at hl 2 rfl) ?_
  refine lv_iload_n hx hb dL_record_6 rfl (lv_at hl 3 rfl) ?_
  refine lv_iload hx hb dL_record_7 (lv_at hl 4 rfl) ?_
  refine lv_iload hx hb dL_record_9 (lv_at hl 5 rfl) ?_
  rcases bc_some hf with ⟨S_11, r_11, h_11, hf⟩ | ⟨S_11, k_11, r_11, h_11, hf⟩
  · refine r_bi hw (r_runV (rest := [.int (0 : Int32), .ref (ad 106)]) C hw (m_X11_record l D cA ad base fu h_11) mvX11_record gw4_78 ⟨rfl, rfl, Nat.le_of_ble_eq_true rfl, Nat.le_of_ble_eq_true rfl⟩ dq_0 ln_0 vc_11 rfl hl.1 rfl (Nat.le_of_ble_eq_true rfl) dL_record_11 (Nat.zero_le _) (Nat.zero_le _)) (fun H locs hw => ?_)
    refine W.widen (k := 1) (n := 6) (Nat.zero_le _) (Nat.zero_le _) ?_
    refine lv_i2l hx hb dL_record_14 rfl ?_
    obtain ⟨z_15, hf⟩ := gd_some hf
    obtain ⟨S_15, e_15, hf⟩ := sJ_some hf
    refine r_last C hw (x := 106) dq_106 ln_106 z_15 dL_record_15 e_15 (fun H locs hw => ?_)
    refine lv_goto (tgt := 31) hx hb dL_record_16 (by decide) ?_
    refine lv_iconst (v := (0 : Int32)) hx hb dL_record_31 (by decide) ?_
    exact r_iret C hw hr hlocks hf dL_record_32
  · refine r_xV (rest := [.int (0 : Int32), .ref (ad 106)]) C hw (n_X11_record l hlt D cA ad base fu h_11) mvX11_record gw4_78 ⟨rfl, rfl, Nat.le_of_ble_eq_true rfl, Nat.le_of_ble_eq_true rfl⟩ dq_0 ln_0 vc_11 rfl hl.1 rfl (Nat.le_of_ble_eq_true rfl) dL_record_11 (Nat.le_of_ble_eq_true rfl) (Nat.le_of_ble_eq_true rfl) (fun ce q9 H locs hw hce hcv hcl => ?_)
    show vx_W p l e rmL_record s m args below meth c H locs 1 6 _ _ _
    by_cases e_11_0 : k_11 + 1 = 3
    · have hf := if_t hf e_11_0
      rw [e_11_0] at hcl
      refine r_caught C hce hcv hcl [] ⟨0, 16, 19, 21⟩ [⟨0, 16, 23, 13⟩, ⟨0, 16, 27, 15⟩] htb (fun z =>  "") (by decide) (fun z hz => absurd hz List.not_mem_nil) rfl (by decide) gw3_215 ?_
      refine lv_astore (lv' := [(7, .ref q9), (0, .ref (ad 0)), (1, .int x1), (2, .int x2), (3, .int x3), (4, .int x4), (5, .int x5), (6, .ref (ad 106))]) hx hb dL_record_19 hl (by decide) rfl (fun ls hl => ?_)
      refine lv_iconst (v := (1 : Int32)) hx hb dL_record_21 (by decide) ?_
      exact r_iret C hw hr hlocks hf dL_record_22
    have hf := if_f hf e_11_0
    by_cases e_11_1 : k_11 + 1 = 1
    · have hf := if_t hf e_11_1
      rw [e_11_1] at hcl
      refine r_caught C hce hcv hcl [⟨0, 16, 19, 21⟩] ⟨0, 16, 23, 13⟩ [⟨0, 16, 27, 15⟩] htb (fun z => if z.catchType = 21 then "java/lang/IndexOutOfBoundsException" else "") (by decide) (List.forall_mem_cons.mpr ⟨⟨rfl, by decide, gw3_215, by decide, by decide⟩, (fun z hz => absurd hz List.not_mem_nil)⟩) rfl (by decide) gw3_106 ?_
      refine lv_astore (lv' := [(7, .ref q9), (0, .ref (ad 0)), (1, .int x1), (2, .int x2), (3, .int x3), (4, .int x4), (5, .int x5), (6, .ref (ad 106))]) hx hb dL_record_23 hl (by decide) rfl (fun ls hl => ?_)
      refine lv_iconst (v := (2 : Int32)) hx hb dL_record_25 (by decide) ?_
      exact r_iret C hw hr hlocks hf dL_record_26
    have hf := if_f hf e_11_1
    by_cases e_11_2 : k_11 + 1 = 2
    · have hf := if_t hf e_11_2
      rw [e_11_2] at hcl
      refine r_caught C hce hcv hcl [⟨0, 16, 19, 21⟩, ⟨0, 16, 23, 13⟩] ⟨0, 16, 27, 15⟩ [] htb (fun z => if z.catchType = 21 then "java/lang/IndexOutOfBoundsException" else if z.catchType = 13 then "java/lang/IllegalArgumentException" else "") (by decide) (List.forall_mem_cons.mpr ⟨⟨rfl, by decide, gw3_215, by decide, by decide⟩, (List.forall_mem_cons.mpr ⟨⟨rfl, by decide, gw3_106, by decide, by decide⟩, (fun z hz => absurd hz List.not_mem_nil)⟩)⟩) rfl (by decide) gw3_107 ?_
      refine lv_astore (lv' := [(7, .ref q9), (0, .ref (ad 0)), (1, .int x1), (2, .int x2), (3, .int x3), (4, .int x4), (5, .int x5), (6, .ref (ad 106))]) hx hb dL_record_27 hl (by decide) rfl (fun ls hl => ?_)
      refine lv_iconst (v := (3 : Int32)) hx hb dL_record_29 (by decide) ?_
      exact r_iret C hw hr hlocks hf dL_record_30
    have hf := if_f hf e_11_2
    exact (no_none hf).elim
noncomputable def fL_drop (fu : Nat) (x1 : Int32) (x2 : Int32) (x3 : Int32) (S : St) : Option (St × Int32) :=
  bc (fX11_drop fu x1 x2 x3 S) (fun S_7 r_7 =>
    gd (ck (0 : Int32) 1) <|
    sJ 106 ((0 : Int32)).toNatClampNeg (r_7).toInt64 S_7 fun S_11 =>
    some (S_11, (0 : Int32))) (fun S_7 k_7 =>
    if k_7 = 3 then
      some (S_7, (1 : Int32))
    else
      none)
def rmL_drop : Room := { frames := 8, cells := 1, slots := 6, locals := 134 }
theorem msL_drop : MSW yL_drop cL_drop 6 (some .int) [(0, 12, 15, 21)] 5 := ⟨gw4_115, gw4_114, gw1_0, by decide +kernel⟩
set_option maxHeartbeats 4000000 in
set_option maxRecDepth 100000 in
theorem m_L_drop (l : Launch) (hlt : l.stackTraces = false) (D : va_G) (cA : FieldType → ClassId) (ad : Nat → Nat) (base : Nat) (fu : Nat) {S S' : St} {x1 : Int32} {x2 : Int32} {x3 : Int32} {r : Int32} (hf : fL_drop fu x1 x2 x3 S = some (S', r)) : Met l yL_drop (GCW yL_drop cL_drop 6 (some .int) [(0, 12, 15, 21)]) rmL_drop (va_Pc [.ref (ad 0), .int x1, .int x2, .int x3, .ref (ad 106)] (wd D cA ad base S)) (QI D cA ad base S' r) 1 6 (aB base) := by
  refine va_MetW (cc := cL_drop) (maxL := 6) (ret := (some .int)) (by decide) rfl ?_
  intro p e s m args below meth c s₁ B hml hv
  obtain ⟨C, hw, htb⟩ := CX.ofW (own := RL) rfl B hml hv.2
  have htb : c.exceptionTable.toList = [⟨0, 12, 15, 21⟩] := htb
  have hargs := hv.1
  have hr := B.returns
  have hlocks := B.notSynchronized
  have hx := C.1
  have hb := C.2.1
  have hl := lv_entry ([.ref (ad 0), .int x1, .int x2, .int x3, .ref (ad 106)]) (n := 6) (Nat.le_of_ble_eq_true rfl)
  rw [show entryFrame m args 6 = entryFrame m ([.ref (ad 0), .int x1, .int x2, .int x3, .ref (ad 106)] : List Value).toArray 6 from by rw [hargs], lg_entry_eq]
  generalize (lg_sl ([.ref (ad 0), .int x1, .int x2, .int x3, .ref (ad 106)]) ++ List.replicate (6 - (lg_sl ([.ref (ad 0), .int x1, .int x2, .int x3, .ref (ad 106)])).length) Slot.unset).toArray = ls at hl ⊢
  have hl : lv_has ls 6 [(0, .ref (ad 0)), (1, .int x1), (2, .int x2), (3, .int x3), (4, .ref (ad 106))] := hl
  show W p l e rmL_drop s m args below meth c s.heap [] 0 0 _ _
  refine lv_aload hx hb dL_drop_0 (lv_at hl 4 rfl) ?_
  refine lv_iconst (v := (0 : Int32)) hx hb dL_drop_2 (by decide) ?_
  refine lv_aload_n hx hb dL_drop_3 rfl (lv_at hl 0 rfl) ?_
  refine lv_iload_n hx hb dL_drop_4 rfl (lv_at hl 1 rfl) ?_
  refine lv_iload_n hx hb dL_drop_5 rfl (lv_at hl 2 rfl) ?_
  refine lv_iload_n hx hb dL_drop_6 rfl (lv_at hl 3 rfl) ?_
  rcases bc_some hf with ⟨S_7, r_7, h_7, hf⟩ | ⟨S_7, k_7, r_7, h_7, hf⟩
  · refine r_bi hw (r_runV (rest := [.int (0 : Int32), .ref (ad 106)]) C hw (m_X11_drop l D cA ad base fu h_7) mvX11_drop gw4_116 ⟨rfl, rfl, Nat.le_of_ble_eq_true rfl, Nat.le_of_ble_eq_true rfl⟩ dq_0 ln_0 vc_11 rfl hl.1 rfl (Nat.le_of_ble_eq_true rfl) dL_drop_7 (Nat.zero_le _) (Nat.zero_le _)) (fun H locs hw => ?_)
    refine W.widen (k := 1) (n := 6) (Nat.zero_le _) (Nat.zero_le _) ?_
    refine lv_i2l hx hb dL_drop_10 rfl ?_
    obtain ⟨z_11, hf⟩ := gd_some hf
    obtain ⟨S_11, e_11, hf⟩ := sJ_some hf
    refine r_last C hw (x := 106) dq_106 ln_106 z_11 dL_drop_11 e_11 (fun H locs hw => ?_)
    refine lv_goto (tgt := 19) hx hb dL_drop_12 (by decide) ?_
    refine lv_iconst (v := (0 : Int32)) hx hb dL_drop_19 (by decide) ?_
    exact r_iret C hw hr hlocks hf dL_drop_20
  · refine r_xV (rest := [.int (0 : Int32), .ref (ad 106)]) C hw (n_X11_drop l hlt D cA ad base fu h_7) mvX11_drop gw4_116 ⟨rfl, rfl, Nat.le_of_ble_eq_true rfl, Nat.le_of_ble_eq_true rfl⟩ dq_0 ln_0 vc_11 rfl hl.1 rfl (Nat.le_of_ble_eq_true rfl) dL_drop_7 (Nat.le_of_ble_eq_true rfl) (Nat.le_of_ble_eq_true rfl) (fun ce q9 H locs hw hce hcv hcl => ?_)
    show vx_W p l e rmL_drop s m args below meth c H locs 1 6 _ _ _
    by_cases e_7_0 : k_7 + 1 = 3
    · have hf := if_t hf e_7_0
      rw [e_7_0] at hcl
      refine r_caught C hce hcv hcl [] ⟨0, 12, 15, 21⟩ [] htb (fun z =>  "") (by decide) (fun z hz => absurd hz List.not_mem_nil) rfl (by decide) gw3_215 ?_
      refine lv_astore (lv' := [(5, .ref q9), (0, .ref (ad 0)), (1, .int x1), (2, .int x2), (3, .int x3), (4, .ref (ad 106))]) hx hb dL_drop_15 hl (by decide) rfl (fun ls hl => ?_)
      refine lv_iconst (v := (1 : Int32)) hx hb dL_drop_17 (by decide) ?_
      exact r_iret C hw hr hlocks hf dL_drop_18
    have hf := if_f hf e_7_0
    exact (no_none hf).elim
noncomputable def fL_server (fu : Nat) (x1 : Int32) (S : St) : Option (St × Int32) :=
  bc (fX11_server fu x1 S) (fun S_4 r_4 =>
    gd (ck (0 : Int32) 1) <|
    sJ 106 ((0 : Int32)).toNatClampNeg (r_4).toInt64 S_4 fun S_8 =>
    some (S_8, (0 : Int32))) (fun S_4 k_4 =>
    if k_4 = 1 then
      some (S_4, (1 : Int32))
    else
    if k_4 = 2 then
      some (S_4, (2 : Int32))
    else
      none)
def rmL_server : Room := { frames := 7, cells := 1, slots := 6, locals := 111 }
theorem msL_server : MSW yL_server cL_server 4 (some .int) [(0, 9, 12, 13), (0, 9, 15, 15)] 3 := ⟨gw4_130, gw4_129, gw1_0, by decide +kernel⟩
set_option maxHeartbeats 4000000 in
set_option maxRecDepth 100000 in
theorem m_L_server (l : Launch) (hlt : l.stackTraces = false) (D : va_G) (cA : FieldType → ClassId) (ad : Nat → Nat) (base : Nat) (fu : Nat) {S S' : St} {x1 : Int32} {r : Int32} (hf : fL_server fu x1 S = some (S', r)) : Met l yL_server (GCW yL_server cL_server 4 (some .int) [(0, 9, 12, 13), (0, 9, 15, 15)]) rmL_server (va_Pc [.ref (ad 0), .int x1, .ref (ad 106)] (wd D cA ad base S)) (QI D cA ad base S' r) 1 6 (aB base) := by
  refine va_MetW (cc := cL_server) (maxL := 4) (ret := (some .int)) (by decide) rfl ?_
  intro p e s m args below meth c s₁ B hml hv
  obtain ⟨C, hw, htb⟩ := CX.ofW (own := RL) rfl B hml hv.2
  have htb : c.exceptionTable.toList = [⟨0, 9, 12, 13⟩, ⟨0, 9, 15, 15⟩] := htb
  have hargs := hv.1
  have hr := B.returns
  have hlocks := B.notSynchronized
  have hx := C.1
  have hb := C.2.1
  have hl := lv_entry ([.ref (ad 0), .int x1, .ref (ad 106)]) (n := 4) (Nat.le_of_ble_eq_true rfl)
  rw [show entryFrame m args 4 = entryFrame m ([.ref (ad 0), .int x1, .ref (ad 106)] : List Value).toArray 4 from by rw [hargs], lg_entry_eq]
  generalize (lg_sl ([.ref (ad 0), .int x1, .ref (ad 106)]) ++ List.replicate (4 - (lg_sl ([.ref (ad 0), .int x1, .ref (ad 106)])).length) Slot.unset).toArray = ls at hl ⊢
  have hl : lv_has ls 4 [(0, .ref (ad 0)), (1, .int x1), (2, .ref (ad 106))] := hl
  show W p l e rmL_server s m args below meth c s.heap [] 0 0 _ _
  refine lv_aload_n hx hb dL_server_0 rfl (lv_at hl 2 rfl) ?_
  refine lv_iconst (v := (0 : Int32)) hx hb dL_server_1 (by decide) ?_
  refine lv_aload_n hx hb dL_server_2 rfl (lv_at hl 0 rfl) ?_
  refine lv_iload_n hx hb dL_server_3 rfl (lv_at hl 1 rfl) ?_
  rcases bc_some hf with ⟨S_4, r_4, h_4, hf⟩ | ⟨S_4, k_4, r_4, h_4, hf⟩
  · refine r_bi hw (r_runV (rest := [.int (0 : Int32), .ref (ad 106)]) C hw (m_X11_server l D cA ad base fu h_4) mvX11_server gw4_131 ⟨rfl, rfl, Nat.le_of_ble_eq_true rfl, Nat.le_of_ble_eq_true rfl⟩ dq_0 ln_0 vc_11 rfl hl.1 rfl (Nat.le_of_ble_eq_true rfl) dL_server_4 (Nat.zero_le _) (Nat.zero_le _)) (fun H locs hw => ?_)
    refine W.widen (k := 1) (n := 6) (Nat.zero_le _) (Nat.zero_le _) ?_
    refine lv_i2l hx hb dL_server_7 rfl ?_
    obtain ⟨z_8, hf⟩ := gd_some hf
    obtain ⟨S_8, e_8, hf⟩ := sJ_some hf
    refine r_last C hw (x := 106) dq_106 ln_106 z_8 dL_server_8 e_8 (fun H locs hw => ?_)
    refine lv_goto (tgt := 18) hx hb dL_server_9 (by decide) ?_
    refine lv_iconst (v := (0 : Int32)) hx hb dL_server_18 (by decide) ?_
    exact r_iret C hw hr hlocks hf dL_server_19
  · refine r_xV (rest := [.int (0 : Int32), .ref (ad 106)]) C hw (n_X11_server l hlt D cA ad base fu h_4) mvX11_server gw4_131 ⟨rfl, rfl, Nat.le_of_ble_eq_true rfl, Nat.le_of_ble_eq_true rfl⟩ dq_0 ln_0 vc_11 rfl hl.1 rfl (Nat.le_of_ble_eq_true rfl) dL_server_4 (Nat.le_of_ble_eq_true rfl) (Nat.le_of_ble_eq_true rfl) (fun ce q9 H locs hw hce hcv hcl => ?_)
    show vx_W p l e rmL_server s m args below meth c H locs 1 6 _ _ _
    by_cases e_4_0 : k_4 + 1 = 1
    · have hf := if_t hf e_4_0
      rw [e_4_0] at hcl
      refine r_caught C hce hcv hcl [] ⟨0, 9, 12, 13⟩ [⟨0, 9, 15, 15⟩] htb (fun z =>  "") (by decide) (fun z hz => absurd hz List.not_mem_nil) rfl (by decide) gw3_106 ?_
      refine lv_astore_n (lv' := [(3, .ref q9), (0, .ref (ad 0)), (1, .int x1), (2, .ref (ad 106))]) hx hb dL_server_12 rfl hl (by decide) rfl (fun ls hl => ?_)
      refine lv_iconst (v := (1 : Int32)) hx hb dL_server_13 (by decide) ?_
      exact r_iret C hw hr hlocks hf dL_server_14
    have hf := if_f hf e_4_0
    by_cases e_4_1 : k_4 + 1 = 2
    · have hf := if_t hf e_4_1
      rw [e_4_1] at hcl
      refine r_caught C hce hcv hcl [⟨0, 9, 12, 13⟩] ⟨0, 9, 15, 15⟩ [] htb (fun z => if z.catchType = 13 then "java/lang/IllegalArgumentException" else "") (by decide) (List.forall_mem_cons.mpr ⟨⟨rfl, by decide, gw3_106, by decide, by decide⟩, (fun z hz => absurd hz List.not_mem_nil)⟩) rfl (by decide) gw3_107 ?_
      refine lv_astore_n (lv' := [(3, .ref q9), (0, .ref (ad 0)), (1, .int x1), (2, .ref (ad 106))]) hx hb dL_server_15 rfl hl (by decide) rfl (fun ls hl => ?_)
      refine lv_iconst (v := (2 : Int32)) hx hb dL_server_16 (by decide) ?_
      exact r_iret C hw hr hlocks hf dL_server_17
    have hf := if_f hf e_4_1
    exact (no_none hf).elim
noncomputable def fL_serve_18 (fu : Nat) (t0 : Int64) (t1 : Int32) (S : St) : Option (St × Int32) :=
  gd (ck t1 1) <|
  sJ 106 (t1).toNatClampNeg t0 S fun S_18 =>
  some (S_18, (0 : Int32))
noncomputable def fL_serve (fu : Nat) (x1 : Int32) (x2 : Int32) (x3 : Int32) (S : St) : Option (St × Int32) :=
  bc (fX11_serve fu x1 x2 x3 S) (fun S_7 r_7 =>
    if r_7 = 0 then
      fL_serve_18 fu (0 : Int64) (0 : Int32) S_7
    else
      fL_serve_18 fu (1 : Int64) (0 : Int32) S_7) (fun S_7 k_7 =>
    if k_7 = 3 then
      some (S_7, (1 : Int32))
    else
      none)
def rmL_serve : Room := { frames := 8, cells := 1, slots := 6, locals := 134 }
theorem msL_serve : MSW yL_serve cL_serve 6 (some .int) [(0, 19, 22, 21)] 5 := ⟨gw4_147, gw4_146, gw1_0, by decide +kernel⟩
set_option maxHeartbeats 4000000 in
set_option maxRecDepth 100000 in
theorem m_L_serve (l : Launch) (hlt : l.stackTraces = false) (D : va_G) (cA : FieldType → ClassId) (ad : Nat → Nat) (base : Nat) (fu : Nat) {S S' : St} {x1 : Int32} {x2 : Int32} {x3 : Int32} {r : Int32} (hf : fL_serve fu x1 x2 x3 S = some (S', r)) : Met l yL_serve (GCW yL_serve cL_serve 6 (some .int) [(0, 19, 22, 21)]) rmL_serve (va_Pc [.ref (ad 0), .int x1, .int x2, .int x3, .ref (ad 106)] (wd D cA ad base S)) (QI D cA ad base S' r) 1 6 (aB base) := by
  refine va_MetW (cc := cL_serve) (maxL := 6) (ret := (some .int)) (by decide) rfl ?_
  intro p e s m args below meth c s₁ B hml hv
  obtain ⟨C, hw, htb⟩ := CX.ofW (own := RL) rfl B hml hv.2
  have htb : c.exceptionTable.toList = [⟨0, 19, 22, 21⟩] := htb
  have hargs := hv.1
  have hr := B.returns
  have hlocks := B.notSynchronized
  have hx := C.1
  have hb := C.2.1
  have hl := lv_entry ([.ref (ad 0), .int x1, .int x2, .int x3, .ref (ad 106)]) (n := 6) (Nat.le_of_ble_eq_true rfl)
  rw [show entryFrame m args 6 = entryFrame m ([.ref (ad 0), .int x1, .int x2, .int x3, .ref (ad 106)] : List Value).toArray 6 from by rw [hargs], lg_entry_eq]
  generalize (lg_sl ([.ref (ad 0), .int x1, .int x2, .int x3, .ref (ad 106)]) ++ List.replicate (6 - (lg_sl ([.ref (ad 0), .int x1, .int x2, .int x3, .ref (ad 106)])).length) Slot.unset).toArray = ls at hl ⊢
  have hl : lv_has ls 6 [(0, .ref (ad 0)), (1, .int x1), (2, .int x2), (3, .int x3), (4, .ref (ad 106))] := hl
  have J_18 : ∀ (t0 : Int64) (t1 : Int32) (S : St) (H : Heap) (locs : List Loc) (ls : Array Slot), fL_serve_18 fu t0 t1 S = some (S', r) → lv_has ls 6 [] → WS D cA ad base s S H locs → W p l e rmL_serve s m args below meth c H locs 1 6 (MQ below (QI D cA ad base S' r) args s 1 6 (aB base)) (F0 m 18 ls [.long t0, .int t1, .ref (ad 106)]) := by
    intro t0 t1 S H locs ls hf hl hw
    obtain ⟨z_18, hf⟩ := gd_some hf
    obtain ⟨S_18, e_18, hf⟩ := sJ_some hf
    refine r_last C hw (x := 106) dq_106 ln_106 z_18 dL_serve_18 e_18 (fun H locs hw => ?_)
    refine lv_goto (tgt := 26) hx hb dL_serve_19 (by decide) ?_
    refine lv_iconst (v := (0 : Int32)) hx hb dL_serve_26 (by decide) ?_
    exact r_iret C hw hr hlocks hf dL_serve_27
  show W p l e rmL_serve s m args below meth c s.heap [] 0 0 _ _
  refine lv_aload hx hb dL_serve_0 (lv_at hl 4 rfl) ?_
  refine lv_iconst (v := (0 : Int32)) hx hb dL_serve_2 (by decide) ?_
  refine lv_aload_n hx hb dL_serve_3 rfl (lv_at hl 0 rfl) ?_
  refine lv_iload_n hx hb dL_serve_4 rfl (lv_at hl 1 rfl) ?_
  refine lv_iload_n hx hb dL_serve_5 rfl (lv_at hl 2 rfl) ?_
  refine lv_iload_n hx hb dL_serve_6 rfl (lv_at hl 3 rfl) ?_
  rcases bc_some hf with ⟨S_7, r_7, h_7, hf⟩ | ⟨S_7, k_7, r_7, h_7, hf⟩
  · refine r_bi hw (r_runV (rest := [.int (0 : Int32), .ref (ad 106)]) C hw (m_X11_serve l D cA ad base fu h_7) mvX11_serve gw4_148 ⟨rfl, rfl, Nat.le_of_ble_eq_true rfl, Nat.le_of_ble_eq_true rfl⟩ dq_0 ln_0 vc_11 rfl hl.1 rfl (Nat.le_of_ble_eq_true rfl) dL_serve_7 (Nat.zero_le _) (Nat.zero_le _)) (fun H locs hw => ?_)
    refine W.widen (k := 1) (n := 6) (Nat.zero_le _) (Nat.zero_le _) ?_
    refine lv_if_eq (tgt := 17) hx hb dL_serve_10 (by decide) (fun c_10 => ?_) (fun c_10 => ?_)
    · have hf := if_t hf c_10
      refine lv_lconst (v := (0 : Int64)) hx hb dL_serve_17 (by decide) ?_
      exact J_18 _ _ _ _ _ _ hf (lv_sub hl [] rfl) hw
    · have hf := if_f hf c_10
      refine lv_lconst (v := (1 : Int64)) hx hb dL_serve_13 (by decide) ?_
      refine lv_goto (tgt := 18) hx hb dL_serve_14 (by decide) ?_
      exact J_18 _ _ _ _ _ _ hf (lv_sub hl [] rfl) hw
  · refine r_xV (rest := [.int (0 : Int32), .ref (ad 106)]) C hw (n_X11_serve l hlt D cA ad base fu h_7) mvX11_serve gw4_148 ⟨rfl, rfl, Nat.le_of_ble_eq_true rfl, Nat.le_of_ble_eq_true rfl⟩ dq_0 ln_0 vc_11 rfl hl.1 rfl (Nat.le_of_ble_eq_true rfl) dL_serve_7 (Nat.le_of_ble_eq_true rfl) (Nat.le_of_ble_eq_true rfl) (fun ce q9 H locs hw hce hcv hcl => ?_)
    show vx_W p l e rmL_serve s m args below meth c H locs 1 6 _ _ _
    by_cases e_7_0 : k_7 + 1 = 3
    · have hf := if_t hf e_7_0
      rw [e_7_0] at hcl
      refine r_caught C hce hcv hcl [] ⟨0, 19, 22, 21⟩ [] htb (fun z =>  "") (by decide) (fun z hz => absurd hz List.not_mem_nil) rfl (by decide) gw3_215 ?_
      refine lv_astore (lv' := [(5, .ref q9), (0, .ref (ad 0)), (1, .int x1), (2, .int x2), (3, .int x3), (4, .ref (ad 106))]) hx hb dL_serve_22 hl (by decide) rfl (fun ls hl => ?_)
      refine lv_iconst (v := (1 : Int32)) hx hb dL_serve_24 (by decide) ?_
      exact r_iret C hw hr hlocks hf dL_serve_25
    have hf := if_f hf e_7_0
    exact (no_none hf).elim
noncomputable def fL_say (fu : Nat) (x1 : Int32) (x2 : Int32) (x3 : Int32) (S : St) : Option (St × Int32) :=
  bc (fX11_say fu x1 x2 x3 S) (fun S_7 r_7 =>
    gd (ck (0 : Int32) 1) <|
    sJ 106 ((0 : Int32)).toNatClampNeg (r_7).toInt64 S_7 fun S_11 =>
    some (S_11, (0 : Int32))) (fun S_7 k_7 =>
    if k_7 = 3 then
      some (S_7, (1 : Int32))
    else
      none)
def rmL_say : Room := { frames := 8, cells := 1, slots := 6, locals := 197 }
theorem msL_say : MSW yL_say cL_say 6 (some .int) [(0, 12, 15, 21)] 5 := ⟨gw4_172, gw4_171, gw1_0, by decide +kernel⟩
set_option maxHeartbeats 4000000 in
set_option maxRecDepth 100000 in
theorem m_L_say (l : Launch) (hlt : l.stackTraces = false) (D : va_G) (cA : FieldType → ClassId) (ad : Nat → Nat) (base : Nat) (fu : Nat) {S S' : St} {x1 : Int32} {x2 : Int32} {x3 : Int32} {r : Int32} (hf : fL_say fu x1 x2 x3 S = some (S', r)) : Met l yL_say (GCW yL_say cL_say 6 (some .int) [(0, 12, 15, 21)]) rmL_say (va_Pc [.ref (ad 0), .int x1, .int x2, .int x3, .ref (ad 106)] (wd D cA ad base S)) (QI D cA ad base S' r) 1 6 (aB base) := by
  refine va_MetW (cc := cL_say) (maxL := 6) (ret := (some .int)) (by decide) rfl ?_
  intro p e s m args below meth c s₁ B hml hv
  obtain ⟨C, hw, htb⟩ := CX.ofW (own := RL) rfl B hml hv.2
  have htb : c.exceptionTable.toList = [⟨0, 12, 15, 21⟩] := htb
  have hargs := hv.1
  have hr := B.returns
  have hlocks := B.notSynchronized
  have hx := C.1
  have hb := C.2.1
  have hl := lv_entry ([.ref (ad 0), .int x1, .int x2, .int x3, .ref (ad 106)]) (n := 6) (Nat.le_of_ble_eq_true rfl)
  rw [show entryFrame m args 6 = entryFrame m ([.ref (ad 0), .int x1, .int x2, .int x3, .ref (ad 106)] : List Value).toArray 6 from by rw [hargs], lg_entry_eq]
  generalize (lg_sl ([.ref (ad 0), .int x1, .int x2, .int x3, .ref (ad 106)]) ++ List.replicate (6 - (lg_sl ([.ref (ad 0), .int x1, .int x2, .int x3, .ref (ad 106)])).length) Slot.unset).toArray = ls at hl ⊢
  have hl : lv_has ls 6 [(0, .ref (ad 0)), (1, .int x1), (2, .int x2), (3, .int x3), (4, .ref (ad 106))] := hl
  show W p l e rmL_say s m args below meth c s.heap [] 0 0 _ _
  refine lv_aload hx hb dL_say_0 (lv_at hl 4 rfl) ?_
  refine lv_iconst (v := (0 : Int32)) hx hb dL_say_2 (by decide) ?_
  refine lv_aload_n hx hb dL_say_3 rfl (lv_at hl 0 rfl) ?_
  refine lv_iload_n hx hb dL_say_4 rfl (lv_at hl 1 rfl) ?_
  refine lv_iload_n hx hb dL_say_5 rfl (lv_at hl 2 rfl) ?_
  refine lv_iload_n hx hb dL_say_6 rfl (lv_at hl 3 rfl) ?_
  rcases bc_some hf with ⟨S_7, r_7, h_7, hf⟩ | ⟨S_7, k_7, r_7, h_7, hf⟩
  · refine r_bi hw (r_runV (rest := [.int (0 : Int32), .ref (ad 106)]) C hw (m_X11_say l D cA ad base fu h_7) mvX11_say gw4_173 ⟨rfl, rfl, Nat.le_of_ble_eq_true rfl, Nat.le_of_ble_eq_true rfl⟩ dq_0 ln_0 vc_11 rfl hl.1 rfl (Nat.le_of_ble_eq_true rfl) dL_say_7 (Nat.zero_le _) (Nat.zero_le _)) (fun H locs hw => ?_)
    refine W.widen (k := 1) (n := 6) (Nat.zero_le _) (Nat.zero_le _) ?_
    refine lv_i2l hx hb dL_say_10 rfl ?_
    obtain ⟨z_11, hf⟩ := gd_some hf
    obtain ⟨S_11, e_11, hf⟩ := sJ_some hf
    refine r_last C hw (x := 106) dq_106 ln_106 z_11 dL_say_11 e_11 (fun H locs hw => ?_)
    refine lv_goto (tgt := 19) hx hb dL_say_12 (by decide) ?_
    refine lv_iconst (v := (0 : Int32)) hx hb dL_say_19 (by decide) ?_
    exact r_iret C hw hr hlocks hf dL_say_20
  · refine r_xV (rest := [.int (0 : Int32), .ref (ad 106)]) C hw (n_X11_say l hlt D cA ad base fu h_7) mvX11_say gw4_173 ⟨rfl, rfl, Nat.le_of_ble_eq_true rfl, Nat.le_of_ble_eq_true rfl⟩ dq_0 ln_0 vc_11 rfl hl.1 rfl (Nat.le_of_ble_eq_true rfl) dL_say_7 (Nat.le_of_ble_eq_true rfl) (Nat.le_of_ble_eq_true rfl) (fun ce q9 H locs hw hce hcv hcl => ?_)
    show vx_W p l e rmL_say s m args below meth c H locs 1 6 _ _ _
    by_cases e_7_0 : k_7 + 1 = 3
    · have hf := if_t hf e_7_0
      rw [e_7_0] at hcl
      refine r_caught C hce hcv hcl [] ⟨0, 12, 15, 21⟩ [] htb (fun z =>  "") (by decide) (fun z hz => absurd hz List.not_mem_nil) rfl (by decide) gw3_215 ?_
      refine lv_astore (lv' := [(5, .ref q9), (0, .ref (ad 0)), (1, .int x1), (2, .int x2), (3, .int x3), (4, .ref (ad 106))]) hx hb dL_say_15 hl (by decide) rfl (fun ls hl => ?_)
      refine lv_iconst (v := (1 : Int32)) hx hb dL_say_17 (by decide) ?_
      exact r_iret C hw hr hlocks hf dL_say_18
    have hf := if_f hf e_7_0
    exact (no_none hf).elim
noncomputable def fL_parsed (fu : Nat) (x1 : Int32) (x2 : Int32) (S : St) : Option (St × Int32) :=
  bc (fX11_parsed fu x1 x2 S) (fun S_5 r_5 =>
    gd (ck (0 : Int32) 1) <|
    sJ 106 ((0 : Int32)).toNatClampNeg (r_5).toInt64 S_5 fun S_9 =>
    some (S_9, (0 : Int32))) (fun S_5 k_5 =>
    if k_5 = 4 then
      some (S_5, (1 : Int32))
    else
      none)
def rmL_parsed : Room := { frames := 7, cells := 1, slots := 6, locals := 112 }
theorem msL_parsed : MSW yL_parsed cL_parsed 5 (some .int) [(0, 10, 13, 23)] 4 := ⟨gw5_42, gw5_41, gw1_0, by decide +kernel⟩
set_option maxHeartbeats 4000000 in
set_option maxRecDepth 100000 in
theorem m_L_parsed (l : Launch) (hlt : l.stackTraces = false) (D : va_G) (cA : FieldType → ClassId) (ad : Nat → Nat) (base : Nat) (fu : Nat) {S S' : St} {x1 : Int32} {x2 : Int32} {r : Int32} (hf : fL_parsed fu x1 x2 S = some (S', r)) : Met l yL_parsed (GCW yL_parsed cL_parsed 5 (some .int) [(0, 10, 13, 23)]) rmL_parsed (va_Pc [.ref (ad 0), .int x1, .int x2, .ref (ad 106)] (wd D cA ad base S)) (QI D cA ad base S' r) 1 6 (aB base) := by
  refine va_MetW (cc := cL_parsed) (maxL := 5) (ret := (some .int)) (by decide) rfl ?_
  intro p e s m args below meth c s₁ B hml hv
  obtain ⟨C, hw, htb⟩ := CX.ofW (own := RL) rfl B hml hv.2
  have htb : c.exceptionTable.toList = [⟨0, 10, 13, 23⟩] := htb
  have hargs := hv.1
  have hr := B.returns
  have hlocks := B.notSynchronized
  have hx := C.1
  have hb := C.2.1
  have hl := lv_entry ([.ref (ad 0), .int x1, .int x2, .ref (ad 106)]) (n := 5) (Nat.le_of_ble_eq_true rfl)
  rw [show entryFrame m args 5 = entryFrame m ([.ref (ad 0), .int x1, .int x2, .ref (ad 106)] : List Value).toArray 5 from by rw [hargs], lg_entry_eq]
  generalize (lg_sl ([.ref (ad 0), .int x1, .int x2, .ref (ad 106)]) ++ List.replicate (5 - (lg_sl ([.ref (ad 0), .int x1, .int x2, .ref (ad 106)])).length) Slot.unset).toArray = ls at hl ⊢
  have hl : lv_has ls 5 [(0, .ref (ad 0)), (1, .int x1), (2, .int x2), (3, .ref (ad 106))] := hl
  show W p l e rmL_parsed s m args below meth c s.heap [] 0 0 _ _
  refine lv_aload_n hx hb dL_parsed_0 rfl (lv_at hl 3 rfl) ?_
  refine lv_iconst (v := (0 : Int32)) hx hb dL_parsed_1 (by decide) ?_
  refine lv_aload_n hx hb dL_parsed_2 rfl (lv_at hl 0 rfl) ?_
  refine lv_iload_n hx hb dL_parsed_3 rfl (lv_at hl 1 rfl) ?_
  refine lv_iload_n hx hb dL_parsed_4 rfl (lv_at hl 2 rfl) ?_
  rcases bc_some hf with ⟨S_5, r_5, h_5, hf⟩ | ⟨S_5, k_5, r_5, h_5, hf⟩
  · refine r_bi hw (r_runV (rest := [.int (0 : Int32), .ref (ad 106)]) C hw (m_X11_parsed l D cA ad base fu h_5) mvX11_parsed gw5_43 ⟨rfl, rfl, Nat.le_of_ble_eq_true rfl, Nat.le_of_ble_eq_true rfl⟩ dq_0 ln_0 vc_11 rfl hl.1 rfl (Nat.le_of_ble_eq_true rfl) dL_parsed_5 (Nat.zero_le _) (Nat.zero_le _)) (fun H locs hw => ?_)
    refine W.widen (k := 1) (n := 6) (Nat.zero_le _) (Nat.zero_le _) ?_
    refine lv_i2l hx hb dL_parsed_8 rfl ?_
    obtain ⟨z_9, hf⟩ := gd_some hf
    obtain ⟨S_9, e_9, hf⟩ := sJ_some hf
    refine r_last C hw (x := 106) dq_106 ln_106 z_9 dL_parsed_9 e_9 (fun H locs hw => ?_)
    refine lv_goto (tgt := 17) hx hb dL_parsed_10 (by decide) ?_
    refine lv_iconst (v := (0 : Int32)) hx hb dL_parsed_17 (by decide) ?_
    exact r_iret C hw hr hlocks hf dL_parsed_18
  · refine r_xV (rest := [.int (0 : Int32), .ref (ad 106)]) C hw (n_X11_parsed l hlt D cA ad base fu h_5) mvX11_parsed gw5_43 ⟨rfl, rfl, Nat.le_of_ble_eq_true rfl, Nat.le_of_ble_eq_true rfl⟩ dq_0 ln_0 vc_11 rfl hl.1 rfl (Nat.le_of_ble_eq_true rfl) dL_parsed_5 (Nat.le_of_ble_eq_true rfl) (Nat.le_of_ble_eq_true rfl) (fun ce q9 H locs hw hce hcv hcl => ?_)
    show vx_W p l e rmL_parsed s m args below meth c H locs 1 6 _ _ _
    by_cases e_5_0 : k_5 + 1 = 4
    · have hf := if_t hf e_5_0
      rw [e_5_0] at hcl
      refine r_caught C hce hcv hcl [] ⟨0, 10, 13, 23⟩ [] htb (fun z =>  "") (by decide) (fun z hz => absurd hz List.not_mem_nil) rfl (by decide) gw3_216 ?_
      refine lv_astore (lv' := [(4, .ref q9), (0, .ref (ad 0)), (1, .int x1), (2, .int x2), (3, .ref (ad 106))]) hx hb dL_parsed_13 hl (by decide) rfl (fun ls hl => ?_)
      refine lv_iconst (v := (1 : Int32)) hx hb dL_parsed_15 (by decide) ?_
      exact r_iret C hw hr hlocks hf dL_parsed_16
    have hf := if_f hf e_5_0
    exact (no_none hf).elim
noncomputable def fL_tick (fu : Nat) (x1 : Int32) (S : St) : Option (St × Int32) :=
  bc (fX11_tick fu x1 S) (fun S_4 r_4 =>
    gd (ck (0 : Int32) 1) <|
    sJ 106 ((0 : Int32)).toNatClampNeg (r_4).toInt64 S_4 fun S_8 =>
    some (S_8, (0 : Int32))) (fun S_4 k_4 =>
    if k_4 = 1 then
      some (S_4, (1 : Int32))
    else
      none)
def rmL_tick : Room := { frames := 7, cells := 1, slots := 6, locals := 111 }
theorem msL_tick : MSW yL_tick cL_tick 4 (some .int) [(0, 9, 12, 13)] 3 := ⟨gw5_76, gw5_75, gw1_0, by decide +kernel⟩
set_option maxHeartbeats 4000000 in
set_option maxRecDepth 100000 in
theorem m_L_tick (l : Launch) (hlt : l.stackTraces = false) (D : va_G) (cA : FieldType → ClassId) (ad : Nat → Nat) (base : Nat) (fu : Nat) {S S' : St} {x1 : Int32} {r : Int32} (hf : fL_tick fu x1 S = some (S', r)) : Met l yL_tick (GCW yL_tick cL_tick 4 (some .int) [(0, 9, 12, 13)]) rmL_tick (va_Pc [.ref (ad 0), .int x1, .ref (ad 106)] (wd D cA ad base S)) (QI D cA ad base S' r) 1 6 (aB base) := by
  refine va_MetW (cc := cL_tick) (maxL := 4) (ret := (some .int)) (by decide) rfl ?_
  intro p e s m args below meth c s₁ B hml hv
  obtain ⟨C, hw, htb⟩ := CX.ofW (own := RL) rfl B hml hv.2
  have htb : c.exceptionTable.toList = [⟨0, 9, 12, 13⟩] := htb
  have hargs := hv.1
  have hr := B.returns
  have hlocks := B.notSynchronized
  have hx := C.1
  have hb := C.2.1
  have hl := lv_entry ([.ref (ad 0), .int x1, .ref (ad 106)]) (n := 4) (Nat.le_of_ble_eq_true rfl)
  rw [show entryFrame m args 4 = entryFrame m ([.ref (ad 0), .int x1, .ref (ad 106)] : List Value).toArray 4 from by rw [hargs], lg_entry_eq]
  generalize (lg_sl ([.ref (ad 0), .int x1, .ref (ad 106)]) ++ List.replicate (4 - (lg_sl ([.ref (ad 0), .int x1, .ref (ad 106)])).length) Slot.unset).toArray = ls at hl ⊢
  have hl : lv_has ls 4 [(0, .ref (ad 0)), (1, .int x1), (2, .ref (ad 106))] := hl
  show W p l e rmL_tick s m args below meth c s.heap [] 0 0 _ _
  refine lv_aload_n hx hb dL_tick_0 rfl (lv_at hl 2 rfl) ?_
  refine lv_iconst (v := (0 : Int32)) hx hb dL_tick_1 (by decide) ?_
  refine lv_aload_n hx hb dL_tick_2 rfl (lv_at hl 0 rfl) ?_
  refine lv_iload_n hx hb dL_tick_3 rfl (lv_at hl 1 rfl) ?_
  rcases bc_some hf with ⟨S_4, r_4, h_4, hf⟩ | ⟨S_4, k_4, r_4, h_4, hf⟩
  · refine r_bi hw (r_runV (rest := [.int (0 : Int32), .ref (ad 106)]) C hw (m_X11_tick l D cA ad base fu h_4) mvX11_tick gw5_77 ⟨rfl, rfl, Nat.le_of_ble_eq_true rfl, Nat.le_of_ble_eq_true rfl⟩ dq_0 ln_0 vc_11 rfl hl.1 rfl (Nat.le_of_ble_eq_true rfl) dL_tick_4 (Nat.zero_le _) (Nat.zero_le _)) (fun H locs hw => ?_)
    refine W.widen (k := 1) (n := 6) (Nat.zero_le _) (Nat.zero_le _) ?_
    refine lv_i2l hx hb dL_tick_7 rfl ?_
    obtain ⟨z_8, hf⟩ := gd_some hf
    obtain ⟨S_8, e_8, hf⟩ := sJ_some hf
    refine r_last C hw (x := 106) dq_106 ln_106 z_8 dL_tick_8 e_8 (fun H locs hw => ?_)
    refine lv_goto (tgt := 15) hx hb dL_tick_9 (by decide) ?_
    refine lv_iconst (v := (0 : Int32)) hx hb dL_tick_15 (by decide) ?_
    exact r_iret C hw hr hlocks hf dL_tick_16
  · refine r_xV (rest := [.int (0 : Int32), .ref (ad 106)]) C hw (n_X11_tick l hlt D cA ad base fu h_4) mvX11_tick gw5_77 ⟨rfl, rfl, Nat.le_of_ble_eq_true rfl, Nat.le_of_ble_eq_true rfl⟩ dq_0 ln_0 vc_11 rfl hl.1 rfl (Nat.le_of_ble_eq_true rfl) dL_tick_4 (Nat.le_of_ble_eq_true rfl) (Nat.le_of_ble_eq_true rfl) (fun ce q9 H locs hw hce hcv hcl => ?_)
    show vx_W p l e rmL_tick s m args below meth c H locs 1 6 _ _ _
    by_cases e_4_0 : k_4 + 1 = 1
    · have hf := if_t hf e_4_0
      rw [e_4_0] at hcl
      refine r_caught C hce hcv hcl [] ⟨0, 9, 12, 13⟩ [] htb (fun z =>  "") (by decide) (fun z hz => absurd hz List.not_mem_nil) rfl (by decide) gw3_106 ?_
      refine lv_astore_n (lv' := [(3, .ref q9), (0, .ref (ad 0)), (1, .int x1), (2, .ref (ad 106))]) hx hb dL_tick_12 rfl hl (by decide) rfl (fun ls hl => ?_)
      refine lv_iconst (v := (1 : Int32)) hx hb dL_tick_13 (by decide) ?_
      exact r_iret C hw hr hlocks hf dL_tick_14
    have hf := if_f hf e_4_0
    exact (no_none hf).elim
noncomputable def fL_ask (fu : Nat) (x1 : Int32) (x2 : Int32) (S : St) : Option (St × Int32) :=
  bc (fX11_ask fu x1 x2 S) (fun S_5 r_5 =>
    gd (ck (0 : Int32) 1) <|
    sJ 106 ((0 : Int32)).toNatClampNeg (r_5).toInt64 S_5 fun S_9 =>
    some (S_9, (0 : Int32))) (fun S_5 k_5 =>
    if k_5 = 3 then
      some (S_5, (1 : Int32))
    else
    if k_5 = 5 then
      some (S_5, (2 : Int32))
    else
    if k_5 = 1 then
      some (S_5, (3 : Int32))
    else
      none)
def rmL_ask : Room := { frames := 8, cells := 1, slots := 6, locals := 162 }
theorem msL_ask : MSW yL_ask cL_ask 5 (some .int) [(0, 10, 13, 21), (0, 10, 17, 59), (0, 10, 21, 13)] 4 := ⟨gw5_88, gw5_87, gw1_0, by decide +kernel⟩
set_option maxHeartbeats 4000000 in
set_option maxRecDepth 100000 in
theorem m_L_ask (l : Launch) (hlt : l.stackTraces = false) (D : va_G) (cA : FieldType → ClassId) (ad : Nat → Nat) (base : Nat) (fu : Nat) {S S' : St} {x1 : Int32} {x2 : Int32} {r : Int32} (hf : fL_ask fu x1 x2 S = some (S', r)) : Met l yL_ask (GCW yL_ask cL_ask 5 (some .int) [(0, 10, 13, 21), (0, 10, 17, 59), (0, 10, 21, 13)]) rmL_ask (va_Pc [.ref (ad 0), .int x1, .int x2, .ref (ad 106)] (wd D cA ad base S)) (QI D cA ad base S' r) 1 6 (aB base) := by
  refine va_MetW (cc := cL_ask) (maxL := 5) (ret := (some .int)) (by decide) rfl ?_
  intro p e s m args below meth c s₁ B hml hv
  obtain ⟨C, hw, htb⟩ := CX.ofW (own := RL) rfl B hml hv.2
  have htb : c.exceptionTable.toList = [⟨0, 10, 13, 21⟩, ⟨0, 10, 17, 59⟩, ⟨0, 10, 21, 13⟩] := htb
  have hargs := hv.1
  have hr := B.returns
  have hlocks := B.notSynchronized
  have hx := C.1
  have hb := C.2.1
  have hl := lv_entry ([.ref (ad 0), .int x1, .int x2, .ref (ad 106)]) (n := 5) (Nat.le_of_ble_eq_true rfl)
  rw [show entryFrame m args 5 = entryFrame m ([.ref (ad 0), .int x1, .int x2, .ref (ad 106)] : List Value).toArray 5 from by rw [hargs], lg_entry_eq]
  generalize (lg_sl ([.ref (ad 0), .int x1, .int x2, .ref (ad 106)]) ++ List.replicate (5 - (lg_sl ([.ref (ad 0), .int x1, .int x2, .ref (ad 106)])).length) Slot.unset).toArray = ls at hl ⊢
  have hl : lv_has ls 5 [(0, .ref (ad 0)), (1, .int x1), (2, .int x2), (3, .ref (ad 106))] := hl
  show W p l e rmL_ask s m args below meth c s.heap [] 0 0 _ _
  refine lv_aload_n hx hb dL_ask_0 rfl (lv_at hl 3 rfl) ?_
  refine lv_iconst (v := (0 : Int32)) hx hb dL_ask_1 (by decide) ?_
  refine lv_aload_n hx hb dL_ask_2 rfl (lv_at hl 0 rfl) ?_
  refine lv_iload_n hx hb dL_ask_3 rfl (lv_at hl 1 rfl) ?_
  refine lv_iload_n hx hb dL_ask_4 rfl (lv_at hl 2 rfl) ?_
  rcases bc_some hf with ⟨S_5, r_5, h_5, hf⟩ | ⟨S_5, k_5, r_5, h_5, hf⟩
  · refine r_bi hw (r_runV (rest := [.int (0 : Int32), .ref (ad 106)]) C hw (m_X11_ask l D cA ad base fu h_5) mvX11_ask gw5_90 ⟨rfl, rfl, Nat.le_of_ble_eq_true rfl, Nat.le_of_ble_eq_true rfl⟩ dq_0 ln_0 vc_11 rfl hl.1 rfl (Nat.le_of_ble_eq_true rfl) dL_ask_5 (Nat.zero_le _) (Nat.zero_le _)) (fun H locs hw => ?_)
    refine W.widen (k := 1) (n := 6) (Nat.zero_le _) (Nat.zero_le _) ?_
    refine lv_i2l hx hb dL_ask_8 rfl ?_
    obtain ⟨z_9, hf⟩ := gd_some hf
    obtain ⟨S_9, e_9, hf⟩ := sJ_some hf
    refine r_last C hw (x := 106) dq_106 ln_106 z_9 dL_ask_9 e_9 (fun H locs hw => ?_)
    refine lv_goto (tgt := 25) hx hb dL_ask_10 (by decide) ?_
    refine lv_iconst (v := (0 : Int32)) hx hb dL_ask_25 (by decide) ?_
    exact r_iret C hw hr hlocks hf dL_ask_26
  · refine r_xV (rest := [.int (0 : Int32), .ref (ad 106)]) C hw (n_X11_ask l hlt D cA ad base fu h_5) mvX11_ask gw5_90 ⟨rfl, rfl, Nat.le_of_ble_eq_true rfl, Nat.le_of_ble_eq_true rfl⟩ dq_0 ln_0 vc_11 rfl hl.1 rfl (Nat.le_of_ble_eq_true rfl) dL_ask_5 (Nat.le_of_ble_eq_true rfl) (Nat.le_of_ble_eq_true rfl) (fun ce q9 H locs hw hce hcv hcl => ?_)
    show vx_W p l e rmL_ask s m args below meth c H locs 1 6 _ _ _
    by_cases e_5_0 : k_5 + 1 = 3
    · have hf := if_t hf e_5_0
      rw [e_5_0] at hcl
      refine r_caught C hce hcv hcl [] ⟨0, 10, 13, 21⟩ [⟨0, 10, 17, 59⟩, ⟨0, 10, 21, 13⟩] htb (fun z =>  "") (by decide) (fun z hz => absurd hz List.not_mem_nil) rfl (by decide) gw3_215 ?_
      refine lv_astore (lv' := [(4, .ref q9), (0, .ref (ad 0)), (1, .int x1), (2, .int x2), (3, .ref (ad 106))]) hx hb dL_ask_13 hl (by decide) rfl (fun ls hl => ?_)
      refine lv_iconst (v := (1 : Int32)) hx hb dL_ask_15 (by decide) ?_
      exact r_iret C hw hr hlocks hf dL_ask_16
    have hf := if_f hf e_5_0
    by_cases e_5_1 : k_5 + 1 = 5
    · have hf := if_t hf e_5_1
      rw [e_5_1] at hcl
      refine r_caught C hce hcv hcl [⟨0, 10, 13, 21⟩] ⟨0, 10, 17, 59⟩ [⟨0, 10, 21, 13⟩] htb (fun z => if z.catchType = 21 then "java/lang/IndexOutOfBoundsException" else "") (by decide) (List.forall_mem_cons.mpr ⟨⟨rfl, by decide, gw3_215, by decide, by decide⟩, (fun z hz => absurd hz List.not_mem_nil)⟩) rfl (by decide) gw5_89 ?_
      refine lv_astore (lv' := [(4, .ref q9), (0, .ref (ad 0)), (1, .int x1), (2, .int x2), (3, .ref (ad 106))]) hx hb dL_ask_17 hl (by decide) rfl (fun ls hl => ?_)
      refine lv_iconst (v := (2 : Int32)) hx hb dL_ask_19 (by decide) ?_
      exact r_iret C hw hr hlocks hf dL_ask_20
    have hf := if_f hf e_5_1
    by_cases e_5_2 : k_5 + 1 = 1
    · have hf := if_t hf e_5_2
      rw [e_5_2] at hcl
      refine r_caught C hce hcv hcl [⟨0, 10, 13, 21⟩, ⟨0, 10, 17, 59⟩] ⟨0, 10, 21, 13⟩ [] htb (fun z => if z.catchType = 21 then "java/lang/IndexOutOfBoundsException" else if z.catchType = 59 then "java/lang/IllegalStateException" else "") (by decide) (List.forall_mem_cons.mpr ⟨⟨rfl, by decide, gw3_215, by decide, by decide⟩, (List.forall_mem_cons.mpr ⟨⟨rfl, by decide, gw5_89, by decide, by decide⟩, (fun z hz => absurd hz List.not_mem_nil)⟩)⟩) rfl (by decide) gw3_106 ?_
      refine lv_astore (lv' := [(4, .ref q9), (0, .ref (ad 0)), (1, .int x1), (2, .int x2), (3, .ref (ad 106))]) hx hb dL_ask_21 hl (by decide) rfl (fun ls hl => ?_)
      refine lv_iconst (v := (3 : Int32)) hx hb dL_ask_23 (by decide) ?_
      exact r_iret C hw hr hlocks hf dL_ask_24
    have hf := if_f hf e_5_2
    exact (no_none hf).elim
noncomputable def fL_step (fu : Nat) (S : St) : Option (St × Int32) :=
  bc (fX11_step fu S) (fun S_3 r_3 =>
    gd (ck (0 : Int32) 1) <|
    sJ 106 ((0 : Int32)).toNatClampNeg (r_3).toInt64 S_3 fun S_7 =>
    some (S_7, (0 : Int32))) (fun S_3 k_3 =>
    if k_3 = 5 then
      some (S_3, (1 : Int32))
    else
      none)
def rmL_step : Room := { frames := 8, cells := 1, slots := 6, locals := 196 }
theorem msL_step : MSW yL_step cL_step 3 (some .int) [(0, 8, 11, 59)] 2 := ⟨gw6_0, gw5_239, gw1_0, by decide +kernel⟩
set_option maxHeartbeats 4000000 in
set_option maxRecDepth 100000 in
theorem m_L_step (l : Launch) (hlt : l.stackTraces = false) (D : va_G) (cA : FieldType → ClassId) (ad : Nat → Nat) (base : Nat) (fu : Nat) {S S' : St} {r : Int32} (hf : fL_step fu S = some (S', r)) : Met l yL_step (GCW yL_step cL_step 3 (some .int) [(0, 8, 11, 59)]) rmL_step (va_Pc [.ref (ad 0), .ref (ad 106)] (wd D cA ad base S)) (QI D cA ad base S' r) 1 6 (aB base) := by
  refine va_MetW (cc := cL_step) (maxL := 3) (ret := (some .int)) (by decide) rfl ?_
  intro p e s m args below meth c s₁ B hml hv
  obtain ⟨C, hw, htb⟩ := CX.ofW (own := RL) rfl B hml hv.2
  have htb : c.exceptionTable.toList = [⟨0, 8, 11, 59⟩] := htb
  have hargs := hv.1
  have hr := B.returns
  have hlocks := B.notSynchronized
  have hx := C.1
  have hb := C.2.1
  have hl := lv_entry ([.ref (ad 0), .ref (ad 106)]) (n := 3) (Nat.le_of_ble_eq_true rfl)
  rw [show entryFrame m args 3 = entryFrame m ([.ref (ad 0), .ref (ad 106)] : List Value).toArray 3 from by rw [hargs], lg_entry_eq]
  generalize (lg_sl ([.ref (ad 0), .ref (ad 106)]) ++ List.replicate (3 - (lg_sl ([.ref (ad 0), .ref (ad 106)])).length) Slot.unset).toArray = ls at hl ⊢
  have hl : lv_has ls 3 [(0, .ref (ad 0)), (1, .ref (ad 106))] := hl
  show W p l e rmL_step s m args below meth c s.heap [] 0 0 _ _
  refine lv_aload_n hx hb dL_step_0 rfl (lv_at hl 1 rfl) ?_
  refine lv_iconst (v := (0 : Int32)) hx hb dL_step_1 (by decide) ?_
  refine lv_aload_n hx hb dL_step_2 rfl (lv_at hl 0 rfl) ?_
  rcases bc_some hf with ⟨S_3, r_3, h_3, hf⟩ | ⟨S_3, k_3, r_3, h_3, hf⟩
  · refine r_bi hw (r_runV (rest := [.int (0 : Int32), .ref (ad 106)]) C hw (m_X11_step l D cA ad base fu h_3) mvX11_step gw6_1 ⟨rfl, rfl, Nat.le_of_ble_eq_true rfl, Nat.le_of_ble_eq_true rfl⟩ dq_0 ln_0 vc_11 rfl hl.1 rfl (Nat.le_of_ble_eq_true rfl) dL_step_3 (Nat.zero_le _) (Nat.zero_le _)) (fun H locs hw => ?_)
    refine W.widen (k := 1) (n := 6) (Nat.zero_le _) (Nat.zero_le _) ?_
    refine lv_i2l hx hb dL_step_6 rfl ?_
    obtain ⟨z_7, hf⟩ := gd_some hf
    obtain ⟨S_7, e_7, hf⟩ := sJ_some hf
    refine r_last C hw (x := 106) dq_106 ln_106 z_7 dL_step_7 e_7 (fun H locs hw => ?_)
    refine lv_goto (tgt := 14) hx hb dL_step_8 (by decide) ?_
    refine lv_iconst (v := (0 : Int32)) hx hb dL_step_14 (by decide) ?_
    exact r_iret C hw hr hlocks hf dL_step_15
  · refine r_xV (rest := [.int (0 : Int32), .ref (ad 106)]) C hw (n_X11_step l hlt D cA ad base fu h_3) mvX11_step gw6_1 ⟨rfl, rfl, Nat.le_of_ble_eq_true rfl, Nat.le_of_ble_eq_true rfl⟩ dq_0 ln_0 vc_11 rfl hl.1 rfl (Nat.le_of_ble_eq_true rfl) dL_step_3 (Nat.le_of_ble_eq_true rfl) (Nat.le_of_ble_eq_true rfl) (fun ce q9 H locs hw hce hcv hcl => ?_)
    show vx_W p l e rmL_step s m args below meth c H locs 1 6 _ _ _
    by_cases e_3_0 : k_3 + 1 = 5
    · have hf := if_t hf e_3_0
      rw [e_3_0] at hcl
      refine r_caught C hce hcv hcl [] ⟨0, 8, 11, 59⟩ [] htb (fun z =>  "") (by decide) (fun z hz => absurd hz List.not_mem_nil) rfl (by decide) gw5_89 ?_
      refine lv_astore_n (lv' := [(2, .ref q9), (0, .ref (ad 0)), (1, .ref (ad 106))]) hx hb dL_step_11 rfl hl (by decide) rfl (fun ls hl => ?_)
      refine lv_iconst (v := (1 : Int32)) hx hb dL_step_12 (by decide) ?_
      exact r_iret C hw hr hlocks hf dL_step_13
    have hf := if_f hf e_3_0
    exact (no_none hf).elim
noncomputable def fL_lose (fu : Nat) (S : St) : Option (St × Int32) :=
  bc (fX11_lose fu S) (fun S_3 r_3 =>
    gd (ck (0 : Int32) 1) <|
    sJ 106 ((0 : Int32)).toNatClampNeg (r_3).toInt64 S_3 fun S_7 =>
    some (S_7, (0 : Int32))) (fun S_3 k_3 =>
    if k_3 = 5 then
      some (S_3, (1 : Int32))
    else
      none)
def rmL_lose : Room := { frames := 8, cells := 1, slots := 6, locals := 160 }
theorem msL_lose : MSW yL_lose cL_lose 3 (some .int) [(0, 8, 11, 59)] 2 := ⟨gw6_107, gw6_106, gw1_0, by decide +kernel⟩
set_option maxHeartbeats 4000000 in
set_option maxRecDepth 100000 in
theorem m_L_lose (l : Launch) (hlt : l.stackTraces = false) (D : va_G) (cA : FieldType → ClassId) (ad : Nat → Nat) (base : Nat) (fu : Nat) {S S' : St} {r : Int32} (hf : fL_lose fu S = some (S', r)) : Met l yL_lose (GCW yL_lose cL_lose 3 (some .int) [(0, 8, 11, 59)]) rmL_lose (va_Pc [.ref (ad 0), .ref (ad 106)] (wd D cA ad base S)) (QI D cA ad base S' r) 1 6 (aB base) := by
  refine va_MetW (cc := cL_lose) (maxL := 3) (ret := (some .int)) (by decide) rfl ?_
  intro p e s m args below meth c s₁ B hml hv
  obtain ⟨C, hw, htb⟩ := CX.ofW (own := RL) rfl B hml hv.2
  have htb : c.exceptionTable.toList = [⟨0, 8, 11, 59⟩] := htb
  have hargs := hv.1
  have hr := B.returns
  have hlocks := B.notSynchronized
  have hx := C.1
  have hb := C.2.1
  have hl := lv_entry ([.ref (ad 0), .ref (ad 106)]) (n := 3) (Nat.le_of_ble_eq_true rfl)
  rw [show entryFrame m args 3 = entryFrame m ([.ref (ad 0), .ref (ad 106)] : List Value).toArray 3 from by rw [hargs], lg_entry_eq]
  generalize (lg_sl ([.ref (ad 0), .ref (ad 106)]) ++ List.replicate (3 - (lg_sl ([.ref (ad 0), .ref (ad 106)])).length) Slot.unset).toArray = ls at hl ⊢
  have hl : lv_has ls 3 [(0, .ref (ad 0)), (1, .ref (ad 106))] := hl
  show W p l e rmL_lose s m args below meth c s.heap [] 0 0 _ _
  refine lv_aload_n hx hb dL_lose_0 rfl (lv_at hl 1 rfl) ?_
  refine lv_iconst (v := (0 : Int32)) hx hb dL_lose_1 (by decide) ?_
  refine lv_aload_n hx hb dL_lose_2 rfl (lv_at hl 0 rfl) ?_
  rcases bc_some hf with ⟨S_3, r_3, h_3, hf⟩ | ⟨S_3, k_3, r_3, h_3, hf⟩
  · refine r_bi hw (r_runV (rest := [.int (0 : Int32), .ref (ad 106)]) C hw (m_X11_lose l D cA ad base fu h_3) mvX11_lose gw6_108 ⟨rfl, rfl, Nat.le_of_ble_eq_true rfl, Nat.le_of_ble_eq_true rfl⟩ dq_0 ln_0 vc_11 rfl hl.1 rfl (Nat.le_of_ble_eq_true rfl) dL_lose_3 (Nat.zero_le _) (Nat.zero_le _)) (fun H locs hw => ?_)
    refine W.widen (k := 1) (n := 6) (Nat.zero_le _) (Nat.zero_le _) ?_
    refine lv_i2l hx hb dL_lose_6 rfl ?_
    obtain ⟨z_7, hf⟩ := gd_some hf
    obtain ⟨S_7, e_7, hf⟩ := sJ_some hf
    refine r_last C hw (x := 106) dq_106 ln_106 z_7 dL_lose_7 e_7 (fun H locs hw => ?_)
    refine lv_goto (tgt := 14) hx hb dL_lose_8 (by decide) ?_
    refine lv_iconst (v := (0 : Int32)) hx hb dL_lose_14 (by decide) ?_
    exact r_iret C hw hr hlocks hf dL_lose_15
  · refine r_xV (rest := [.int (0 : Int32), .ref (ad 106)]) C hw (n_X11_lose l hlt D cA ad base fu h_3) mvX11_lose gw6_108 ⟨rfl, rfl, Nat.le_of_ble_eq_true rfl, Nat.le_of_ble_eq_true rfl⟩ dq_0 ln_0 vc_11 rfl hl.1 rfl (Nat.le_of_ble_eq_true rfl) dL_lose_3 (Nat.le_of_ble_eq_true rfl) (Nat.le_of_ble_eq_true rfl) (fun ce q9 H locs hw hce hcv hcl => ?_)
    show vx_W p l e rmL_lose s m args below meth c H locs 1 6 _ _ _
    by_cases e_3_0 : k_3 + 1 = 5
    · have hf := if_t hf e_3_0
      rw [e_3_0] at hcl
      refine r_caught C hce hcv hcl [] ⟨0, 8, 11, 59⟩ [] htb (fun z =>  "") (by decide) (fun z hz => absurd hz List.not_mem_nil) rfl (by decide) gw5_89 ?_
      refine lv_astore_n (lv' := [(2, .ref q9), (0, .ref (ad 0)), (1, .ref (ad 106))]) hx hb dL_lose_11 rfl hl (by decide) rfl (fun ls hl => ?_)
      refine lv_iconst (v := (1 : Int32)) hx hb dL_lose_12 (by decide) ?_
      exact r_iret C hw hr hlocks hf dL_lose_13
    have hf := if_f hf e_3_0
    exact (no_none hf).elim
noncomputable def fL_forge (fu : Nat) (S : St) : Option (St × Int32) :=
  bc (fX11_forge fu S) (fun S_3 r_3 =>
    gd (ck (0 : Int32) 1) <|
    sJ 106 ((0 : Int32)).toNatClampNeg (r_3).toInt64 S_3 fun S_7 =>
    some (S_7, (0 : Int32))) (fun S_3 k_3 =>
    if k_3 = 5 then
      some (S_3, (1 : Int32))
    else
      none)
def rmL_forge : Room := { frames := 7, cells := 1, slots := 6, locals := 174 }
theorem msL_forge : MSW yL_forge cL_forge 3 (some .int) [(0, 8, 11, 59)] 2 := ⟨gw6_114, gw6_113, gw1_0, by decide +kernel⟩
set_option maxHeartbeats 4000000 in
set_option maxRecDepth 100000 in
theorem m_L_forge (l : Launch) (hlt : l.stackTraces = false) (D : va_G) (cA : FieldType → ClassId) (ad : Nat → Nat) (base : Nat) (fu : Nat) {S S' : St} {r : Int32} (hf : fL_forge fu S = some (S', r)) : Met l yL_forge (GCW yL_forge cL_forge 3 (some .int) [(0, 8, 11, 59)]) rmL_forge (va_Pc [.ref (ad 0), .ref (ad 106)] (wd D cA ad base S)) (QI D cA ad base S' r) 1 6 (aB base) := by
  refine va_MetW (cc := cL_forge) (maxL := 3) (ret := (some .int)) (by decide) rfl ?_
  intro p e s m args below meth c s₁ B hml hv
  obtain ⟨C, hw, htb⟩ := CX.ofW (own := RL) rfl B hml hv.2
  have htb : c.exceptionTable.toList = [⟨0, 8, 11, 59⟩] := htb
  have hargs := hv.1
  have hr := B.returns
  have hlocks := B.notSynchronized
  have hx := C.1
  have hb := C.2.1
  have hl := lv_entry ([.ref (ad 0), .ref (ad 106)]) (n := 3) (Nat.le_of_ble_eq_true rfl)
  rw [show entryFrame m args 3 = entryFrame m ([.ref (ad 0), .ref (ad 106)] : List Value).toArray 3 from by rw [hargs], lg_entry_eq]
  generalize (lg_sl ([.ref (ad 0), .ref (ad 106)]) ++ List.replicate (3 - (lg_sl ([.ref (ad 0), .ref (ad 106)])).length) Slot.unset).toArray = ls at hl ⊢
  have hl : lv_has ls 3 [(0, .ref (ad 0)), (1, .ref (ad 106))] := hl
  show W p l e rmL_forge s m args below meth c s.heap [] 0 0 _ _
  refine lv_aload_n hx hb dL_forge_0 rfl (lv_at hl 1 rfl) ?_
  refine lv_iconst (v := (0 : Int32)) hx hb dL_forge_1 (by decide) ?_
  refine lv_aload_n hx hb dL_forge_2 rfl (lv_at hl 0 rfl) ?_
  rcases bc_some hf with ⟨S_3, r_3, h_3, hf⟩ | ⟨S_3, k_3, r_3, h_3, hf⟩
  · refine r_bi hw (r_runV (rest := [.int (0 : Int32), .ref (ad 106)]) C hw (m_X11_forge l D cA ad base fu h_3) mvX11_forge gw6_115 ⟨rfl, rfl, Nat.le_of_ble_eq_true rfl, Nat.le_of_ble_eq_true rfl⟩ dq_0 ln_0 vc_11 rfl hl.1 rfl (Nat.le_of_ble_eq_true rfl) dL_forge_3 (Nat.zero_le _) (Nat.zero_le _)) (fun H locs hw => ?_)
    refine W.widen (k := 1) (n := 6) (Nat.zero_le _) (Nat.zero_le _) ?_
    refine lv_i2l hx hb dL_forge_6 rfl ?_
    obtain ⟨z_7, hf⟩ := gd_some hf
    obtain ⟨S_7, e_7, hf⟩ := sJ_some hf
    refine r_last C hw (x := 106) dq_106 ln_106 z_7 dL_forge_7 e_7 (fun H locs hw => ?_)
    refine lv_goto (tgt := 14) hx hb dL_forge_8 (by decide) ?_
    refine lv_iconst (v := (0 : Int32)) hx hb dL_forge_14 (by decide) ?_
    exact r_iret C hw hr hlocks hf dL_forge_15
  · refine r_xV (rest := [.int (0 : Int32), .ref (ad 106)]) C hw (n_X11_forge l hlt D cA ad base fu h_3) mvX11_forge gw6_115 ⟨rfl, rfl, Nat.le_of_ble_eq_true rfl, Nat.le_of_ble_eq_true rfl⟩ dq_0 ln_0 vc_11 rfl hl.1 rfl (Nat.le_of_ble_eq_true rfl) dL_forge_3 (Nat.le_of_ble_eq_true rfl) (Nat.le_of_ble_eq_true rfl) (fun ce q9 H locs hw hce hcv hcl => ?_)
    show vx_W p l e rmL_forge s m args below meth c H locs 1 6 _ _ _
    by_cases e_3_0 : k_3 + 1 = 5
    · have hf := if_t hf e_3_0
      rw [e_3_0] at hcl
      refine r_caught C hce hcv hcl [] ⟨0, 8, 11, 59⟩ [] htb (fun z =>  "") (by decide) (fun z hz => absurd hz List.not_mem_nil) rfl (by decide) gw5_89 ?_
      refine lv_astore_n (lv' := [(2, .ref q9), (0, .ref (ad 0)), (1, .ref (ad 106))]) hx hb dL_forge_11 rfl hl (by decide) rfl (fun ls hl => ?_)
      refine lv_iconst (v := (1 : Int32)) hx hb dL_forge_12 (by decide) ?_
      exact r_iret C hw hr hlocks hf dL_forge_13
    have hf := if_f hf e_3_0
    exact (no_none hf).elim
noncomputable def fL_query (fu : Nat) (x1 : Int32) (S : St) : Option (St × Int32) :=
  bc (fX11_query fu x1 S) (fun S_4 r_4 =>
    gd (ck (0 : Int32) 1) <|
    sJ 106 ((0 : Int32)).toNatClampNeg (r_4).toInt64 S_4 fun S_8 =>
    some (S_8, (0 : Int32))) (fun S_4 k_4 =>
    if k_4 = 5 then
      some (S_4, (1 : Int32))
    else
    if k_4 = 4 then
      some (S_4, (2 : Int32))
    else
      none)
def rmL_query : Room := { frames := 8, cells := 1, slots := 6, locals := 131 }
theorem msL_query : MSW yL_query cL_query 4 (some .int) [(0, 9, 12, 59), (0, 9, 15, 23)] 3 := ⟨gw6_121, gw6_120, gw1_0, by decide +kernel⟩
set_option maxHeartbeats 4000000 in
set_option maxRecDepth 100000 in
theorem m_L_query (l : Launch) (hlt : l.stackTraces = false) (D : va_G) (cA : FieldType → ClassId) (ad : Nat → Nat) (base : Nat) (fu : Nat) {S S' : St} {x1 : Int32} {r : Int32} (hf : fL_query fu x1 S = some (S', r)) : Met l yL_query (GCW yL_query cL_query 4 (some .int) [(0, 9, 12, 59), (0, 9, 15, 23)]) rmL_query (va_Pc [.ref (ad 0), .int x1, .ref (ad 106)] (wd D cA ad base S)) (QI D cA ad base S' r) 1 6 (aB base) := by
  refine va_MetW (cc := cL_query) (maxL := 4) (ret := (some .int)) (by decide) rfl ?_
  intro p e s m args below meth c s₁ B hml hv
  obtain ⟨C, hw, htb⟩ := CX.ofW (own := RL) rfl B hml hv.2
  have htb : c.exceptionTable.toList = [⟨0, 9, 12, 59⟩, ⟨0, 9, 15, 23⟩] := htb
  have hargs := hv.1
  have hr := B.returns
  have hlocks := B.notSynchronized
  have hx := C.1
  have hb := C.2.1
  have hl := lv_entry ([.ref (ad 0), .int x1, .ref (ad 106)]) (n := 4) (Nat.le_of_ble_eq_true rfl)
  rw [show entryFrame m args 4 = entryFrame m ([.ref (ad 0), .int x1, .ref (ad 106)] : List Value).toArray 4 from by rw [hargs], lg_entry_eq]
  generalize (lg_sl ([.ref (ad 0), .int x1, .ref (ad 106)]) ++ List.replicate (4 - (lg_sl ([.ref (ad 0), .int x1, .ref (ad 106)])).length) Slot.unset).toArray = ls at hl ⊢
  have hl : lv_has ls 4 [(0, .ref (ad 0)), (1, .int x1), (2, .ref (ad 106))] := hl
  show W p l e rmL_query s m args below meth c s.heap [] 0 0 _ _
  refine lv_aload_n hx hb dL_query_0 rfl (lv_at hl 2 rfl) ?_
  refine lv_iconst (v := (0 : Int32)) hx hb dL_query_1 (by decide) ?_
  refine lv_aload_n hx hb dL_query_2 rfl (lv_at hl 0 rfl) ?_
  refine lv_iload_n hx hb dL_query_3 rfl (lv_at hl 1 rfl) ?_
  rcases bc_some hf with ⟨S_4, r_4, h_4, hf⟩ | ⟨S_4, k_4, r_4, h_4, hf⟩
  · refine r_bi hw (r_runV (rest := [.int (0 : Int32), .ref (ad 106)]) C hw (m_X11_query l D cA ad base fu h_4) mvX11_query gw6_122 ⟨rfl, rfl, Nat.le_of_ble_eq_true rfl, Nat.le_of_ble_eq_true rfl⟩ dq_0 ln_0 vc_11 rfl hl.1 rfl (Nat.le_of_ble_eq_true rfl) dL_query_4 (Nat.zero_le _) (Nat.zero_le _)) (fun H locs hw => ?_)
    refine W.widen (k := 1) (n := 6) (Nat.zero_le _) (Nat.zero_le _) ?_
    refine lv_i2l hx hb dL_query_7 rfl ?_
    obtain ⟨z_8, hf⟩ := gd_some hf
    obtain ⟨S_8, e_8, hf⟩ := sJ_some hf
    refine r_last C hw (x := 106) dq_106 ln_106 z_8 dL_query_8 e_8 (fun H locs hw => ?_)
    refine lv_goto (tgt := 18) hx hb dL_query_9 (by decide) ?_
    refine lv_iconst (v := (0 : Int32)) hx hb dL_query_18 (by decide) ?_
    exact r_iret C hw hr hlocks hf dL_query_19
  · refine r_xV (rest := [.int (0 : Int32), .ref (ad 106)]) C hw (n_X11_query l hlt D cA ad base fu h_4) mvX11_query gw6_122 ⟨rfl, rfl, Nat.le_of_ble_eq_true rfl, Nat.le_of_ble_eq_true rfl⟩ dq_0 ln_0 vc_11 rfl hl.1 rfl (Nat.le_of_ble_eq_true rfl) dL_query_4 (Nat.le_of_ble_eq_true rfl) (Nat.le_of_ble_eq_true rfl) (fun ce q9 H locs hw hce hcv hcl => ?_)
    show vx_W p l e rmL_query s m args below meth c H locs 1 6 _ _ _
    by_cases e_4_0 : k_4 + 1 = 5
    · have hf := if_t hf e_4_0
      rw [e_4_0] at hcl
      refine r_caught C hce hcv hcl [] ⟨0, 9, 12, 59⟩ [⟨0, 9, 15, 23⟩] htb (fun z =>  "") (by decide) (fun z hz => absurd hz List.not_mem_nil) rfl (by decide) gw5_89 ?_
      refine lv_astore_n (lv' := [(3, .ref q9), (0, .ref (ad 0)), (1, .int x1), (2, .ref (ad 106))]) hx hb dL_query_12 rfl hl (by decide) rfl (fun ls hl => ?_)
      refine lv_iconst (v := (1 : Int32)) hx hb dL_query_13 (by decide) ?_
      exact r_iret C hw hr hlocks hf dL_query_14
    have hf := if_f hf e_4_0
    by_cases e_4_1 : k_4 + 1 = 4
    · have hf := if_t hf e_4_1
      rw [e_4_1] at hcl
      refine r_caught C hce hcv hcl [⟨0, 9, 12, 59⟩] ⟨0, 9, 15, 23⟩ [] htb (fun z => if z.catchType = 59 then "java/lang/IllegalStateException" else "") (by decide) (List.forall_mem_cons.mpr ⟨⟨rfl, by decide, gw5_89, by decide, by decide⟩, (fun z hz => absurd hz List.not_mem_nil)⟩) rfl (by decide) gw3_216 ?_
      refine lv_astore_n (lv' := [(3, .ref q9), (0, .ref (ad 0)), (1, .int x1), (2, .ref (ad 106))]) hx hb dL_query_15 rfl hl (by decide) rfl (fun ls hl => ?_)
      refine lv_iconst (v := (2 : Int32)) hx hb dL_query_16 (by decide) ?_
      exact r_iret C hw hr hlocks hf dL_query_17
    have hf := if_f hf e_4_1
    exact (no_none hf).elim
noncomputable def fL_result (fu : Nat) (x1 : Int32) (S : St) : Option (St × Int32) :=
  bc (fX11_result fu x1 S) (fun S_4 r_4 =>
    gd (ck (0 : Int32) 1) <|
    sJ 106 ((0 : Int32)).toNatClampNeg (r_4).toInt64 S_4 fun S_8 =>
    some (S_8, (0 : Int32))) (fun S_4 k_4 =>
    if k_4 = 4 then
      some (S_4, (1 : Int32))
    else
      none)
def rmL_result : Room := { frames := 7, cells := 1, slots := 6, locals := 111 }
theorem msL_result : MSW yL_result cL_result 4 (some .int) [(0, 9, 12, 23)] 3 := ⟨gw6_137, gw6_136, gw1_0, by decide +kernel⟩
set_option maxHeartbeats 4000000 in
set_option maxRecDepth 100000 in
theorem m_L_result (l : Launch) (hlt : l.stackTraces = false) (D : va_G) (cA : FieldType → ClassId) (ad : Nat → Nat) (base : Nat) (fu : Nat) {S S' : St} {x1 : Int32} {r : Int32} (hf : fL_result fu x1 S = some (S', r)) : Met l yL_result (GCW yL_result cL_result 4 (some .int) [(0, 9, 12, 23)]) rmL_result (va_Pc [.ref (ad 0), .int x1, .ref (ad 106)] (wd D cA ad base S)) (QI D cA ad base S' r) 1 6 (aB base) := by
  refine va_MetW (cc := cL_result) (maxL := 4) (ret := (some .int)) (by decide) rfl ?_
  intro p e s m args below meth c s₁ B hml hv
  obtain ⟨C, hw, htb⟩ := CX.ofW (own := RL) rfl B hml hv.2
  have htb : c.exceptionTable.toList = [⟨0, 9, 12, 23⟩] := htb
  have hargs := hv.1
  have hr := B.returns
  have hlocks := B.notSynchronized
  have hx := C.1
  have hb := C.2.1
  have hl := lv_entry ([.ref (ad 0), .int x1, .ref (ad 106)]) (n := 4) (Nat.le_of_ble_eq_true rfl)
  rw [show entryFrame m args 4 = entryFrame m ([.ref (ad 0), .int x1, .ref (ad 106)] : List Value).toArray 4 from by rw [hargs], lg_entry_eq]
  generalize (lg_sl ([.ref (ad 0), .int x1, .ref (ad 106)]) ++ List.replicate (4 - (lg_sl ([.ref (ad 0), .int x1, .ref (ad 106)])).length) Slot.unset).toArray = ls at hl ⊢
  have hl : lv_has ls 4 [(0, .ref (ad 0)), (1, .int x1), (2, .ref (ad 106))] := hl
  show W p l e rmL_result s m args below meth c s.heap [] 0 0 _ _
  refine lv_aload_n hx hb dL_result_0 rfl (lv_at hl 2 rfl) ?_
  refine lv_iconst (v := (0 : Int32)) hx hb dL_result_1 (by decide) ?_
  refine lv_aload_n hx hb dL_result_2 rfl (lv_at hl 0 rfl) ?_
  refine lv_iload_n hx hb dL_result_3 rfl (lv_at hl 1 rfl) ?_
  rcases bc_some hf with ⟨S_4, r_4, h_4, hf⟩ | ⟨S_4, k_4, r_4, h_4, hf⟩
  · refine r_bi hw (r_runV (rest := [.int (0 : Int32), .ref (ad 106)]) C hw (m_X11_result l D cA ad base fu h_4) mvX11_result gw6_138 ⟨rfl, rfl, Nat.le_of_ble_eq_true rfl, Nat.le_of_ble_eq_true rfl⟩ dq_0 ln_0 vc_11 rfl hl.1 rfl (Nat.le_of_ble_eq_true rfl) dL_result_4 (Nat.zero_le _) (Nat.zero_le _)) (fun H locs hw => ?_)
    refine W.widen (k := 1) (n := 6) (Nat.zero_le _) (Nat.zero_le _) ?_
    refine lv_i2l hx hb dL_result_7 rfl ?_
    obtain ⟨z_8, hf⟩ := gd_some hf
    obtain ⟨S_8, e_8, hf⟩ := sJ_some hf
    refine r_last C hw (x := 106) dq_106 ln_106 z_8 dL_result_8 e_8 (fun H locs hw => ?_)
    refine lv_goto (tgt := 15) hx hb dL_result_9 (by decide) ?_
    refine lv_iconst (v := (0 : Int32)) hx hb dL_result_15 (by decide) ?_
    exact r_iret C hw hr hlocks hf dL_result_16
  · refine r_xV (rest := [.int (0 : Int32), .ref (ad 106)]) C hw (n_X11_result l hlt D cA ad base fu h_4) mvX11_result gw6_138 ⟨rfl, rfl, Nat.le_of_ble_eq_true rfl, Nat.le_of_ble_eq_true rfl⟩ dq_0 ln_0 vc_11 rfl hl.1 rfl (Nat.le_of_ble_eq_true rfl) dL_result_4 (Nat.le_of_ble_eq_true rfl) (Nat.le_of_ble_eq_true rfl) (fun ce q9 H locs hw hce hcv hcl => ?_)
    show vx_W p l e rmL_result s m args below meth c H locs 1 6 _ _ _
    by_cases e_4_0 : k_4 + 1 = 4
    · have hf := if_t hf e_4_0
      rw [e_4_0] at hcl
      refine r_caught C hce hcv hcl [] ⟨0, 9, 12, 23⟩ [] htb (fun z =>  "") (by decide) (fun z hz => absurd hz List.not_mem_nil) rfl (by decide) gw3_216 ?_
      refine lv_astore_n (lv' := [(3, .ref q9), (0, .ref (ad 0)), (1, .int x1), (2, .ref (ad 106))]) hx hb dL_result_12 rfl hl (by decide) rfl (fun ls hl => ?_)
      refine lv_iconst (v := (1 : Int32)) hx hb dL_result_13 (by decide) ?_
      exact r_iret C hw hr hlocks hf dL_result_14
    have hf := if_f hf e_4_0
    exact (no_none hf).elim
noncomputable def fL_cached (fu : Nat) (x1 : Int32) (x2 : Int32) (S : St) : Option (St × Int32) :=
  bc (fX11_cached fu x1 x2 S) (fun S_5 r_5 =>
    gd (ck (0 : Int32) 1) <|
    sJ 106 ((0 : Int32)).toNatClampNeg (r_5).toInt64 S_5 fun S_9 =>
    some (S_9, (0 : Int32))) (fun S_5 k_5 =>
    if k_5 = 3 then
      some (S_5, (1 : Int32))
    else
      none)
def rmL_cached : Room := { frames := 8, cells := 1, slots := 6, locals := 133 }
theorem msL_cached : MSW yL_cached cL_cached 5 (some .int) [(0, 10, 13, 21)] 4 := ⟨gw6_169, gw6_168, gw1_0, by decide +kernel⟩
set_option maxHeartbeats 4000000 in
set_option maxRecDepth 100000 in
theorem m_L_cached (l : Launch) (hlt : l.stackTraces = false) (D : va_G) (cA : FieldType → ClassId) (ad : Nat → Nat) (base : Nat) (fu : Nat) {S S' : St} {x1 : Int32} {x2 : Int32} {r : Int32} (hf : fL_cached fu x1 x2 S = some (S', r)) : Met l yL_cached (GCW yL_cached cL_cached 5 (some .int) [(0, 10, 13, 21)]) rmL_cached (va_Pc [.ref (ad 0), .int x1, .int x2, .ref (ad 106)] (wd D cA ad base S)) (QI D cA ad base S' r) 1 6 (aB base) := by
  refine va_MetW (cc := cL_cached) (maxL := 5) (ret := (some .int)) (by decide) rfl ?_
  intro p e s m args below meth c s₁ B hml hv
  obtain ⟨C, hw, htb⟩ := CX.ofW (own := RL) rfl B hml hv.2
  have htb : c.exceptionTable.toList = [⟨0, 10, 13, 21⟩] := htb
  have hargs := hv.1
  have hr := B.returns
  have hlocks := B.notSynchronized
  have hx := C.1
  have hb := C.2.1
  have hl := lv_entry ([.ref (ad 0), .int x1, .int x2, .ref (ad 106)]) (n := 5) (Nat.le_of_ble_eq_true rfl)
  rw [show entryFrame m args 5 = entryFrame m ([.ref (ad 0), .int x1, .int x2, .ref (ad 106)] : List Value).toArray 5 from by rw [hargs], lg_entry_eq]
  generalize (lg_sl ([.ref (ad 0), .int x1, .int x2, .ref (ad 106)]) ++ List.replicate (5 - (lg_sl ([.ref (ad 0), .int x1, .int x2, .ref (ad 106)])).length) Slot.unset).toArray = ls at hl ⊢
  have hl : lv_has ls 5 [(0, .ref (ad 0)), (1, .int x1), (2, .int x2), (3, .ref (ad 106))] := hl
  show W p l e rmL_cached s m args below meth c s.heap [] 0 0 _ _
  refine lv_aload_n hx hb dL_cached_0 rfl (lv_at hl 3 rfl) ?_
  refine lv_iconst (v := (0 : Int32)) hx hb dL_cached_1 (by decide) ?_
  refine lv_aload_n hx hb dL_cached_2 rfl (lv_at hl 0 rfl) ?_
  refine lv_iload_n hx hb dL_cached_3 rfl (lv_at hl 1 rfl) ?_
  refine lv_iload_n hx hb dL_cached_4 rfl (lv_at hl 2 rfl) ?_
  rcases bc_some hf with ⟨S_5, r_5, h_5, hf⟩ | ⟨S_5, k_5, r_5, h_5, hf⟩
  · refine r_bi hw (r_runV (rest := [.int (0 : Int32), .ref (ad 106)]) C hw (m_X11_cached l D cA ad base fu h_5) mvX11_cached gw6_170 ⟨rfl, rfl, Nat.le_of_ble_eq_true rfl, Nat.le_of_ble_eq_true rfl⟩ dq_0 ln_0 vc_11 rfl hl.1 rfl (Nat.le_of_ble_eq_true rfl) dL_cached_5 (Nat.zero_le _) (Nat.zero_le _)) (fun H locs hw => ?_)
    refine W.widen (k := 1) (n := 6) (Nat.zero_le _) (Nat.zero_le _) ?_
    refine lv_i2l hx hb dL_cached_8 rfl ?_
    obtain ⟨z_9, hf⟩ := gd_some hf
    obtain ⟨S_9, e_9, hf⟩ := sJ_some hf
    refine r_last C hw (x := 106) dq_106 ln_106 z_9 dL_cached_9 e_9 (fun H locs hw => ?_)
    refine lv_goto (tgt := 17) hx hb dL_cached_10 (by decide) ?_
    refine lv_iconst (v := (0 : Int32)) hx hb dL_cached_17 (by decide) ?_
    exact r_iret C hw hr hlocks hf dL_cached_18
  · refine r_xV (rest := [.int (0 : Int32), .ref (ad 106)]) C hw (n_X11_cached l hlt D cA ad base fu h_5) mvX11_cached gw6_170 ⟨rfl, rfl, Nat.le_of_ble_eq_true rfl, Nat.le_of_ble_eq_true rfl⟩ dq_0 ln_0 vc_11 rfl hl.1 rfl (Nat.le_of_ble_eq_true rfl) dL_cached_5 (Nat.le_of_ble_eq_true rfl) (Nat.le_of_ble_eq_true rfl) (fun ce q9 H locs hw hce hcv hcl => ?_)
    show vx_W p l e rmL_cached s m args below meth c H locs 1 6 _ _ _
    by_cases e_5_0 : k_5 + 1 = 3
    · have hf := if_t hf e_5_0
      rw [e_5_0] at hcl
      refine r_caught C hce hcv hcl [] ⟨0, 10, 13, 21⟩ [] htb (fun z =>  "") (by decide) (fun z hz => absurd hz List.not_mem_nil) rfl (by decide) gw3_215 ?_
      refine lv_astore (lv' := [(4, .ref q9), (0, .ref (ad 0)), (1, .int x1), (2, .int x2), (3, .ref (ad 106))]) hx hb dL_cached_13 hl (by decide) rfl (fun ls hl => ?_)
      refine lv_iconst (v := (1 : Int32)) hx hb dL_cached_15 (by decide) ?_
      exact r_iret C hw hr hlocks hf dL_cached_16
    have hf := if_f hf e_5_0
    exact (no_none hf).elim
