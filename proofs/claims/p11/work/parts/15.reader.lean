noncomputable def fX4_rows (fu : Nat) (S : St) : Option (St × Int32) :=
  some (S, (0 : Int32))
theorem mvX4_rows : MV yX4_rows cX4_rows 1 (some (.object "NameSeeker$Rows")) RX4 0 := ⟨gw3_40, gw3_38, gw3_39, gw1_8, by decide +kernel⟩
def rmX4_rows : Room := { frames := 0, cells := 0, slots := 0, locals := 0 }
set_option maxHeartbeats 4000000 in
set_option maxRecDepth 100000 in
theorem m_X4_rows (l : Launch) (D : va_G) (cA : FieldType → ClassId) (ad : Nat → Nat) (base : Nat) (fu : Nat) {S S' : St} {r : Int32} (hf : fX4_rows fu S = some (S', r)) : Met l yX4_rows (GC yX4_rows cX4_rows 1 (some (.object "NameSeeker$Rows"))) rmX4_rows (va_Pc [.ref (ad 26)] (wd D cA ad base S)) (QR D cA ad base S' 30) 0 0 (aB base) := by
  refine Met.ofW (cc := cX4_rows) (maxL := 1) (ret := (some (.object "NameSeeker$Rows"))) (by decide) rfl ?_
  intro p e s m args below meth c s₁ B hml hv
  obtain ⟨hargs, hwd⟩ := hv
  have hr := B.returns
  have hlocks := B.notSynchronized
  obtain ⟨C, hw⟩ := CX.of (own := RX4) rfl B hml hwd
  have hx := C.1
  have hb := C.2.1
  have hl := lv_entry ([.ref (ad 26)]) (n := 1) (Nat.le_of_ble_eq_true rfl)
  rw [show entryFrame m args 1 = entryFrame m ([.ref (ad 26)] : List Value).toArray 1 from by rw [hargs], lg_entry_eq]
  generalize (lg_sl ([.ref (ad 26)]) ++ List.replicate (1 - (lg_sl ([.ref (ad 26)])).length) Slot.unset).toArray = ls at hl ⊢
  have hl : lv_has ls 1 [(0, .ref (ad 26))] := hl
  show W p l e rmX4_rows s m args below meth c s.heap [] 0 0 _ _
  refine lv_aload_n hx hb dX4_rows_0 rfl (lv_at hl 0 rfl) ?_
  refine r_getR C hw (k := 2) (r := 30) dq_26 ln_26 rfl vc_4 inX4 (by decide) rfl gw1_202 dX4_rows_1 ?_
  exact r_aret C hw hr hlocks hf dX4_rows_4
noncomputable def fX4_flags (fu : Nat) (S : St) : Option (St × Int32) :=
  some (S, (S.1 26 4))
theorem mvX4_flags : MV yX4_flags cX4_flags 1 (some .int) RX4 0 := ⟨gw6_90, gw6_88, gw6_89, gw1_8, by decide +kernel⟩
def rmX4_flags : Room := { frames := 0, cells := 0, slots := 0, locals := 0 }
set_option maxHeartbeats 4000000 in
set_option maxRecDepth 100000 in
theorem m_X4_flags (l : Launch) (D : va_G) (cA : FieldType → ClassId) (ad : Nat → Nat) (base : Nat) (fu : Nat) {S S' : St} {r : Int32} (hf : fX4_flags fu S = some (S', r)) : Met l yX4_flags (GC yX4_flags cX4_flags 1 (some .int)) rmX4_flags (va_Pc [.ref (ad 26)] (wd D cA ad base S)) (QI D cA ad base S' r) 0 0 (aB base) := by
  refine Met.ofW (cc := cX4_flags) (maxL := 1) (ret := (some .int)) (by decide) rfl ?_
  intro p e s m args below meth c s₁ B hml hv
  obtain ⟨hargs, hwd⟩ := hv
  have hr := B.returns
  have hlocks := B.notSynchronized
  obtain ⟨C, hw⟩ := CX.of (own := RX4) rfl B hml hwd
  have hx := C.1
  have hb := C.2.1
  have hl := lv_entry ([.ref (ad 26)]) (n := 1) (Nat.le_of_ble_eq_true rfl)
  rw [show entryFrame m args 1 = entryFrame m ([.ref (ad 26)] : List Value).toArray 1 from by rw [hargs], lg_entry_eq]
  generalize (lg_sl ([.ref (ad 26)]) ++ List.replicate (1 - (lg_sl ([.ref (ad 26)])).length) Slot.unset).toArray = ls at hl ⊢
  have hl : lv_has ls 1 [(0, .ref (ad 26))] := hl
  show W p l e rmX4_flags s m args below meth c s.heap [] 0 0 _ _
  refine lv_aload_n hx hb dX4_flags_0 rfl (lv_at hl 0 rfl) ?_
  refine r_getI C hw (k := 4) dq_26 ln_26 rfl vc_4 inX4 (by decide) rfl gw1_204 dX4_flags_1 ?_
  exact r_iret C hw hr hlocks hf dX4_flags_4
noncomputable def fX4_isReplyTo (fu : Nat) (x1 : Int32) (x2 : Int32) (x3 : Int32) (S : St) : Option (St × Int32) :=
  if (S.1 26 3) = x1 then
    if (S.1 26 5) = x2 then
      if (S.1 26 6) = x3 then
        if (S.1 26 7) = (1 : Int32) then
          if ((S.1 26 4) &&& (32768 : Int32)) = 0 then
            some (S, (0 : Int32))
          else
            some (S, (1 : Int32))
        else
          some (S, (0 : Int32))
      else
        some (S, (0 : Int32))
    else
      some (S, (0 : Int32))
  else
    some (S, (0 : Int32))
theorem mvX4_isReplyTo : MV yX4_isReplyTo cX4_isReplyTo 4 (some .boolean) RX4 3 := ⟨gw6_41, gw6_39, gw6_40, gw1_8, by decide +kernel⟩
def rmX4_isReplyTo : Room := { frames := 0, cells := 0, slots := 0, locals := 0 }
set_option maxHeartbeats 4000000 in
set_option maxRecDepth 100000 in
theorem m_X4_isReplyTo (l : Launch) (D : va_G) (cA : FieldType → ClassId) (ad : Nat → Nat) (base : Nat) (fu : Nat) {S S' : St} {x1 : Int32} {x2 : Int32} {x3 : Int32} {r : Int32} (hf : fX4_isReplyTo fu x1 x2 x3 S = some (S', r)) : Met l yX4_isReplyTo (GC yX4_isReplyTo cX4_isReplyTo 4 (some .boolean)) rmX4_isReplyTo (va_Pc [.ref (ad 26), .int x1, .int x2, .int x3] (wd D cA ad base S)) (QI D cA ad base S' r) 0 0 (aB base) := by
  refine Met.ofW (cc := cX4_isReplyTo) (maxL := 4) (ret := (some .boolean)) (by decide) rfl ?_
  intro p e s m args below meth c s₁ B hml hv
  obtain ⟨hargs, hwd⟩ := hv
  have hr := B.returns
  have hlocks := B.notSynchronized
  obtain ⟨C, hw⟩ := CX.of (own := RX4) rfl B hml hwd
  have hx := C.1
  have hb := C.2.1
  have hl := lv_entry ([.ref (ad 26), .int x1, .int x2, .int x3]) (n := 4) (Nat.le_of_ble_eq_true rfl)
  rw [show entryFrame m args 4 = entryFrame m ([.ref (ad 26), .int x1, .int x2, .int x3] : List Value).toArray 4 from by rw [hargs], lg_entry_eq]
  generalize (lg_sl ([.ref (ad 26), .int x1, .int x2, .int x3]) ++ List.replicate (4 - (lg_sl ([.ref (ad 26), .int x1, .int x2, .int x3])).length) Slot.unset).toArray = ls at hl ⊢
  have hl : lv_has ls 4 [(0, .ref (ad 26)), (1, .int x1), (2, .int x2), (3, .int x3)] := hl
  show W p l e rmX4_isReplyTo s m args below meth c s.heap [] 0 0 _ _
  refine lv_aload_n hx hb dX4_isReplyTo_0 rfl (lv_at hl 0 rfl) ?_
  refine r_getI C hw (k := 3) dq_26 ln_26 rfl vc_4 inX4 (by decide) rfl gw1_203 dX4_isReplyTo_1 ?_
  refine lv_iload_n hx hb dX4_isReplyTo_4 rfl (lv_at hl 1 rfl) ?_
  refine lv_icmp_ne (tgt := 46) hx hb dX4_isReplyTo_5 (by decide) (fun c_5 => ?_) (fun c_5 => ?_)
  · have hf := if_f hf c_5
    refine lv_iconst (v := (0 : Int32)) hx hb dX4_isReplyTo_46 (by decide) ?_
    exact r_zret C hw hr hlocks rfl hf dX4_isReplyTo_47
  · have hf := if_t hf c_5
    refine lv_aload_n hx hb dX4_isReplyTo_8 rfl (lv_at hl 0 rfl) ?_
    refine r_getI C hw (k := 5) dq_26 ln_26 rfl vc_4 inX4 (by decide) rfl gw1_205 dX4_isReplyTo_9 ?_
    refine lv_iload_n hx hb dX4_isReplyTo_12 rfl (lv_at hl 2 rfl) ?_
    refine lv_icmp_ne (tgt := 46) hx hb dX4_isReplyTo_13 (by decide) (fun c_13 => ?_) (fun c_13 => ?_)
    · have hf := if_f hf c_13
      refine lv_iconst (v := (0 : Int32)) hx hb dX4_isReplyTo_46 (by decide) ?_
      exact r_zret C hw hr hlocks rfl hf dX4_isReplyTo_47
    · have hf := if_t hf c_13
      refine lv_aload_n hx hb dX4_isReplyTo_16 rfl (lv_at hl 0 rfl) ?_
      refine r_getI C hw (k := 6) dq_26 ln_26 rfl vc_4 inX4 (by decide) rfl gw1_206 dX4_isReplyTo_17 ?_
      refine lv_iload_n hx hb dX4_isReplyTo_20 rfl (lv_at hl 3 rfl) ?_
      refine lv_icmp_ne (tgt := 46) hx hb dX4_isReplyTo_21 (by decide) (fun c_21 => ?_) (fun c_21 => ?_)
      · have hf := if_f hf c_21
        refine lv_iconst (v := (0 : Int32)) hx hb dX4_isReplyTo_46 (by decide) ?_
        exact r_zret C hw hr hlocks rfl hf dX4_isReplyTo_47
      · have hf := if_t hf c_21
        refine lv_aload_n hx hb dX4_isReplyTo_24 rfl (lv_at hl 0 rfl) ?_
        refine r_getI C hw (k := 7) dq_26 ln_26 rfl vc_4 inX4 (by decide) rfl gw1_207 dX4_isReplyTo_25 ?_
        refine lv_iconst (v := (1 : Int32)) hx hb dX4_isReplyTo_28 (by decide) ?_
        refine lv_icmp_ne (tgt := 46) hx hb dX4_isReplyTo_29 (by decide) (fun c_29 => ?_) (fun c_29 => ?_)
        · have hf := if_f hf c_29
          refine lv_iconst (v := (0 : Int32)) hx hb dX4_isReplyTo_46 (by decide) ?_
          exact r_zret C hw hr hlocks rfl hf dX4_isReplyTo_47
        · have hf := if_t hf c_29
          refine lv_aload_n hx hb dX4_isReplyTo_32 rfl (lv_at hl 0 rfl) ?_
          refine r_getI C hw (k := 4) dq_26 ln_26 rfl vc_4 inX4 (by decide) rfl gw1_204 dX4_isReplyTo_33 ?_
          refine lv_ldc hx hb C.2.2.2.1 (C.2.2.2.2.1 _ (gw_of gw6_42 rfl)) dX4_isReplyTo_36 ?_
          refine lv_iand hx hb dX4_isReplyTo_38 ?_
          refine lv_if_eq (tgt := 46) hx hb dX4_isReplyTo_39 (by decide) (fun c_39 => ?_) (fun c_39 => ?_)
          · have hf := if_t hf c_39
            refine lv_iconst (v := (0 : Int32)) hx hb dX4_isReplyTo_46 (by decide) ?_
            exact r_zret C hw hr hlocks rfl hf dX4_isReplyTo_47
          · have hf := if_f hf c_39
            refine lv_iconst (v := (1 : Int32)) hx hb dX4_isReplyTo_42 (by decide) ?_
            refine lv_goto (tgt := 47) hx hb dX4_isReplyTo_43 (by decide) ?_
            exact r_zret C hw hr hlocks rfl hf dX4_isReplyTo_47
noncomputable def fX4_readLabel_21 (fu : Nat) (u : Nat) (n : Nat) : Int32 → Int32 → Int32 → St → Option (St × Int32) :=
  Nat.rec (motive := fun _ => Int32 → Int32 → Int32 → St → Option (St × Int32)) (fun _ _ _ _ => none) (fun _ k_21 x2 x3 x4 S =>
    if x3 < x4 then
      some (S, (0 : Int32))
    else
      bd (fX0_at fu u (x2 + x4) S) fun S_32 r_32 =>
      if r_32 = (-1 : Int32) then
        some (S_32, (3 : Int32))
      else
        bd (fX8_add fu 27 r_32 S_32) fun S_51 r_51 =>
        if r_51 = 0 then
          some (S_51, (2 : Int32))
        else
          k_21 x2 x3 (x4 + (1 : Int32)) S_51) n
theorem fX4_readLabel_21_s (fu : Nat) (u : Nat) (n : Nat) (x2 : Int32) (x3 : Int32) (x4 : Int32) (S : St) : fX4_readLabel_21 fu u (n + 1) x2 x3 x4 S = (
    if x3 < x4 then
      some (S, (0 : Int32))
    else
      bd (fX0_at fu u (x2 + x4) S) fun S_32 r_32 =>
      if r_32 = (-1 : Int32) then
        some (S_32, (3 : Int32))
      else
        bd (fX8_add fu 27 r_32 S_32) fun S_51 r_51 =>
        if r_51 = 0 then
          some (S_51, (2 : Int32))
        else
          (fX4_readLabel_21 fu u n) x2 x3 (x4 + (1 : Int32)) S_51) := rfl
noncomputable def fX4_readLabel (fu : Nat) (u : Nat) (x2 : Int32) (x3 : Int32) (S : St) : Option (St × Int32) :=
  if (10 : Int32) < x3 then
    some (S, (2 : Int32))
  else
    bd (fX8_open fu 27 S) fun S_10 r_10 =>
    if r_10 = 0 then
      some (S_10, (2 : Int32))
    else
      fX4_readLabel_21 fu u fu x2 x3 (1 : Int32) S_10
theorem mvX4_readLabel : MV yX4_readLabel cX4_readLabel 6 (some .int) RX4 3 := ⟨gw2_237, gw2_236, gs_4, gw1_8, by decide +kernel⟩
def rmX4_readLabel : Room := { frames := 1, cells := 0, slots := 0, locals := 23 }
set_option maxHeartbeats 4000000 in
set_option maxRecDepth 100000 in
theorem m_X4_readLabel (l : Launch) (D : va_G) (cA : FieldType → ClassId) (ad : Nat → Nat) (base : Nat) (fu : Nat) (u : Nat) (hu : isBytes u) {S S' : St} {x2 : Int32} {x3 : Int32} {r : Int32} (hf : fX4_readLabel fu u x2 x3 S = some (S', r)) : Met l yX4_readLabel (GC yX4_readLabel cX4_readLabel 6 (some .int)) rmX4_readLabel (va_Pc [.ref (ad 26), .ref (ad u), .int x2, .int x3] (wd D cA ad base S)) (QI D cA ad base S' r) 0 0 (aB base) := by
  refine Met.ofW (cc := cX4_readLabel) (maxL := 6) (ret := (some .int)) (by decide) rfl ?_
  intro p e s m args below meth c s₁ B hml hv
  obtain ⟨hargs, hwd⟩ := hv
  have hr := B.returns
  have hlocks := B.notSynchronized
  obtain ⟨C, hw⟩ := CX.of (own := RX4) rfl B hml hwd
  have hx := C.1
  have hb := C.2.1
  have hl := lv_entry ([.ref (ad 26), .ref (ad u), .int x2, .int x3]) (n := 6) (Nat.le_of_ble_eq_true rfl)
  rw [show entryFrame m args 6 = entryFrame m ([.ref (ad 26), .ref (ad u), .int x2, .int x3] : List Value).toArray 6 from by rw [hargs], lg_entry_eq]
  generalize (lg_sl ([.ref (ad 26), .ref (ad u), .int x2, .int x3]) ++ List.replicate (6 - (lg_sl ([.ref (ad 26), .ref (ad u), .int x2, .int x3])).length) Slot.unset).toArray = ls at hl ⊢
  have hl : lv_has ls 6 [(0, .ref (ad 26)), (1, .ref (ad u)), (2, .int x2), (3, .int x3)] := hl
  have L_21 : ∀ (n_21 : Nat) (x2 : Int32) (x3 : Int32) (x4 : Int32) (S : St) (H : Heap) (locs : List Loc) (ls : Array Slot), fX4_readLabel_21 fu u n_21 x2 x3 x4 S = some (S', r) → lv_has ls 6 [(0, .ref (ad 26)), (1, .ref (ad u)), (2, .int x2), (3, .int x3), (4, .int x4)] → WS D cA ad base s S H locs → W p l e rmX4_readLabel s m args below meth c H locs 0 0 (MQ below (QI D cA ad base S' r) args s 0 0 (aB base)) (F0 m 21 ls []) := by
    intro n_21
    induction n_21 with
    | zero =>
      intro x2 x3 x4 S H locs ls hf hl hw
      exact (no_none hf).elim
    | succ n_21 ih_21 =>
      intro x2 x3 x4 S H locs ls hf hl hw
      rw [fX4_readLabel_21_s] at hf
      refine lv_iload hx hb dX4_readLabel_21 (lv_at hl 4 rfl) ?_
      refine lv_iload_n hx hb dX4_readLabel_23 rfl (lv_at hl 3 rfl) ?_
      refine lv_icmp_gt (tgt := 65) hx hb dX4_readLabel_24 (by decide) (fun c_24 => ?_) (fun c_24 => ?_)
      · have hf := if_t hf c_24
        refine lv_iconst (v := (0 : Int32)) hx hb dX4_readLabel_65 (by decide) ?_
        exact r_iret C hw hr hlocks hf dX4_readLabel_66
      · have hf := if_f hf c_24
        refine lv_aload_n hx hb dX4_readLabel_27 rfl (lv_at hl 1 rfl) ?_
        refine lv_iload_n hx hb dX4_readLabel_28 rfl (lv_at hl 2 rfl) ?_
        refine lv_iload hx hb dX4_readLabel_29 (lv_at hl 4 rfl) ?_
        refine lv_iadd hx hb dX4_readLabel_31 ?_
        obtain ⟨S_32, r_32, h_32, hf⟩ := bd_some hf
        refine r_bi hw (r_runV (rest := []) C hw (m_X0_at l D cA ad base fu u hu h_32) mvX0_at gw2_209 ⟨rfl, rfl, Nat.le_of_ble_eq_true rfl, Nat.le_of_ble_eq_true rfl⟩ hu.1 hu.2.1 vc_0 rfl hl.1 rfl (Nat.le_of_ble_eq_true rfl) dX4_readLabel_32 (Nat.zero_le _) (Nat.zero_le _)) (fun H locs hw => ?_)
        refine lv_istore (lv' := [(5, .int r_32), (0, .ref (ad 26)), (1, .ref (ad u)), (2, .int x2), (3, .int x3), (4, .int x4)]) hx hb dX4_readLabel_35 hl (by decide) rfl (fun ls hl => ?_)
        refine lv_iload hx hb dX4_readLabel_37 (lv_at hl 0 rfl) ?_
        refine lv_iconst (v := (-1 : Int32)) hx hb dX4_readLabel_39 (by decide) ?_
        refine lv_icmp_ne (tgt := 45) hx hb dX4_readLabel_40 (by decide) (fun c_40 => ?_) (fun c_40 => ?_)
        · have hf := if_f hf c_40
          refine lv_aload_n hx hb dX4_readLabel_45 rfl (lv_at hl 1 rfl) ?_
          refine r_getR C hw (k := 1) (r := 27) dq_26 ln_26 rfl vc_4 inX4 (by decide) rfl gw1_201 dX4_readLabel_46 ?_
          refine lv_iload hx hb dX4_readLabel_49 (lv_at hl 0 rfl) ?_
          obtain ⟨S_51, r_51, h_51, hf⟩ := bd_some hf
          refine r_bi hw (r_runV (rest := []) C hw (m_X8_add l D cA ad base fu 27 kSp_27 h_51) mvX8_add gw3_2 ⟨rfl, rfl, Nat.le_of_ble_eq_true rfl, Nat.le_of_ble_eq_true rfl⟩ dq_27 ln_27 vc_8 rfl hl.1 rfl (Nat.le_of_ble_eq_true rfl) dX4_readLabel_51 (Nat.zero_le _) (Nat.zero_le _)) (fun H locs hw => ?_)
          refine lv_if_ne (tgt := 59) hx hb dX4_readLabel_54 (by decide) (fun c_54 => ?_) (fun c_54 => ?_)
          · have hf := if_f hf c_54
            refine lv_iinc (v := (x4 + (1 : Int32))) (lv' := [(4, .int (x4 + (1 : Int32))), (5, .int r_32), (0, .ref (ad 26)), (1, .ref (ad u)), (2, .int x2), (3, .int x3)]) hx hb dX4_readLabel_59 hl (k := 5) rfl rfl (by decide) rfl (fun ls hl => ?_)
            refine lv_goto (tgt := 21) hx hb dX4_readLabel_62 (by decide) ?_
            exact ih_21 _ _ _ _ _ _ _ hf (lv_sub hl [2, 3, 4, 5, 0] rfl) hw
          · have hf := if_t hf c_54
            refine lv_iconst (v := (2 : Int32)) hx hb dX4_readLabel_57 (by decide) ?_
            exact r_iret C hw hr hlocks hf dX4_readLabel_58
        · have hf := if_t hf c_40
          refine lv_iconst (v := (3 : Int32)) hx hb dX4_readLabel_43 (by decide) ?_
          exact r_iret C hw hr hlocks hf dX4_readLabel_44
  show W p l e rmX4_readLabel s m args below meth c s.heap [] 0 0 _ _
  refine lv_iload_n hx hb dX4_readLabel_0 rfl (lv_at hl 3 rfl) ?_
  refine lv_bipush (v := (10 : Int32)) hx hb dX4_readLabel_1 (by decide) ?_
  refine lv_icmp_gt (tgt := 16) hx hb dX4_readLabel_3 (by decide) (fun c_3 => ?_) (fun c_3 => ?_)
  · have hf := if_t hf c_3
    refine lv_iconst (v := (2 : Int32)) hx hb dX4_readLabel_16 (by decide) ?_
    exact r_iret C hw hr hlocks hf dX4_readLabel_17
  · have hf := if_f hf c_3
    refine lv_aload_n hx hb dX4_readLabel_6 rfl (lv_at hl 0 rfl) ?_
    refine r_getR C hw (k := 1) (r := 27) dq_26 ln_26 rfl vc_4 inX4 (by decide) rfl gw1_201 dX4_readLabel_7 ?_
    obtain ⟨S_10, r_10, h_10, hf⟩ := bd_some hf
    refine r_bi hw (r_runV (rest := []) C hw (m_X8_open l D cA ad base fu 27 kSp_27 h_10) mvX8_open gw2_238 ⟨rfl, rfl, Nat.le_of_ble_eq_true rfl, Nat.le_of_ble_eq_true rfl⟩ dq_27 ln_27 vc_8 rfl hl.1 rfl (Nat.le_of_ble_eq_true rfl) dX4_readLabel_10 (Nat.zero_le _) (Nat.zero_le _)) (fun H locs hw => ?_)
    refine lv_if_ne (tgt := 18) hx hb dX4_readLabel_13 (by decide) (fun c_13 => ?_) (fun c_13 => ?_)
    · have hf := if_f hf c_13
      refine lv_iconst (v := (1 : Int32)) hx hb dX4_readLabel_18 (by decide) ?_
      refine lv_istore (lv' := [(4, .int (1 : Int32)), (0, .ref (ad 26)), (1, .ref (ad u)), (2, .int x2), (3, .int x3)]) hx hb dX4_readLabel_19 hl (by decide) rfl (fun ls hl => ?_)
      exact L_21 fu _ _ _ _ _ _ _ hf (lv_sub hl [1, 2, 3, 4, 0] rfl) hw
    · have hf := if_t hf c_13
      refine lv_iconst (v := (2 : Int32)) hx hb dX4_readLabel_16 (by decide) ?_
      exact r_iret C hw hr hlocks hf dX4_readLabel_17
noncomputable def fX4_readName_195 (fu : Nat) (u : Nat) (k_23 : Int32 → Int32 → Int32 → Int32 → St → Option (St × Int32)) (x2 : Int32) (x3 : Int32) (x4 : Int32) (x5 : Int32) (S : St) : Option (St × Int32) :=
  k_23 x2 x3 x4 (x5 + (1 : Int32)) S
noncomputable def fX4_readName_187 (fu : Nat) (u : Nat) (k_23 : Int32 → Int32 → Int32 → Int32 → St → Option (St × Int32)) (x5 : Int32) (x8 : Int32) (t0 : Int32) (S : St) : Option (St × Int32) :=
  fX4_readName_195 fu u k_23 x8 x8 t0 x5 S
noncomputable def fX4_readName_66 (fu : Nat) (u : Nat) (t0 : Int32) (S : St) : Option (St × Int32) :=
  sI 26 8 t0 S fun S_66 =>
  bd (fX3_made fu 27 S_66) fun S_78 r_78 =>
  sI 26 9 r_78 S_78 fun S_81 =>
  if (S_81.1 26 9) = (-1 : Int32) then
    some (S_81, (6 : Int32))
  else
    some (S_81, (0 : Int32))
noncomputable def fX4_readName_23 (fu : Nat) (u : Nat) (n : Nat) : Int32 → Int32 → Int32 → Int32 → St → Option (St × Int32) :=
  Nat.rec (motive := fun _ => Int32 → Int32 → Int32 → Int32 → St → Option (St × Int32)) (fun _ _ _ _ _ => none) (fun _ k_23 x2 x3 x4 x5 S =>
    if (1012 : Int32) ≤ x5 then
      some (S, (2 : Int32))
    else
      bd (fX0_at fu u x3 S) fun S_33 r_33 =>
      if r_33 = (-1 : Int32) then
        some (S_33, (3 : Int32))
      else
        if r_33 = 0 then
          if x4 = (-1 : Int32) then
            fX4_readName_66 fu u (x3 + (1 : Int32)) S_33
          else
            fX4_readName_66 fu u x4 S_33
        else
          if (192 : Int32) ≤ r_33 then
            bd (fX0_at fu u (x3 + (1 : Int32)) S_33) fun S_139 r_139 =>
            if r_139 = (-1 : Int32) then
              some (S_139, (3 : Int32))
            else
              if (((r_33 &&& (63 : Int32)) <<< ((8 : Int32) &&& 31)) + r_139) < x2 then
                if x4 = (-1 : Int32) then
                  fX4_readName_187 fu u k_23 x5 (((r_33 &&& (63 : Int32)) <<< ((8 : Int32) &&& 31)) + r_139) (x3 + (2 : Int32)) S_139
                else
                  fX4_readName_187 fu u k_23 x5 (((r_33 &&& (63 : Int32)) <<< ((8 : Int32) &&& 31)) + r_139) x4 S_139
              else
                some (S_139, (2 : Int32))
          else
            bd (fX4_readLabel fu u x3 r_33 S_33) fun S_112 r_112 =>
            if r_112 = 0 then
              fX4_readName_195 fu u k_23 x2 (x3 + (r_33 + (1 : Int32))) x4 x5 S_112
            else
              some (S_112, r_112)) n
theorem fX4_readName_23_s (fu : Nat) (u : Nat) (n : Nat) (x2 : Int32) (x3 : Int32) (x4 : Int32) (x5 : Int32) (S : St) : fX4_readName_23 fu u (n + 1) x2 x3 x4 x5 S = (
    if (1012 : Int32) ≤ x5 then
      some (S, (2 : Int32))
    else
      bd (fX0_at fu u x3 S) fun S_33 r_33 =>
      if r_33 = (-1 : Int32) then
        some (S_33, (3 : Int32))
      else
        if r_33 = 0 then
          if x4 = (-1 : Int32) then
            fX4_readName_66 fu u (x3 + (1 : Int32)) S_33
          else
            fX4_readName_66 fu u x4 S_33
        else
          if (192 : Int32) ≤ r_33 then
            bd (fX0_at fu u (x3 + (1 : Int32)) S_33) fun S_139 r_139 =>
            if r_139 = (-1 : Int32) then
              some (S_139, (3 : Int32))
            else
              if (((r_33 &&& (63 : Int32)) <<< ((8 : Int32) &&& 31)) + r_139) < x2 then
                if x4 = (-1 : Int32) then
                  fX4_readName_187 fu u (fX4_readName_23 fu u n) x5 (((r_33 &&& (63 : Int32)) <<< ((8 : Int32) &&& 31)) + r_139) (x3 + (2 : Int32)) S_139
                else
                  fX4_readName_187 fu u (fX4_readName_23 fu u n) x5 (((r_33 &&& (63 : Int32)) <<< ((8 : Int32) &&& 31)) + r_139) x4 S_139
              else
                some (S_139, (2 : Int32))
          else
            bd (fX4_readLabel fu u x3 r_33 S_33) fun S_112 r_112 =>
            if r_112 = 0 then
              fX4_readName_195 fu u (fX4_readName_23 fu u n) x2 (x3 + (r_33 + (1 : Int32))) x4 x5 S_112
            else
              some (S_112, r_112)) := rfl
noncomputable def fX4_readName (fu : Nat) (u : Nat) (S : St) : Option (St × Int32) :=
  bd (fX8_clear fu 27 S) fun S_4 _ =>
  fX4_readName_23 fu u fu (S_4.1 26 8) (S_4.1 26 8) (-1 : Int32) (0 : Int32) S_4
theorem mvX4_readName : MV yX4_readName cX4_readName 9 (some .int) RX4 1 := ⟨gw2_204, gw2_203, gs_1, gw1_8, by decide +kernel⟩
def rmX4_readName : Room := { frames := 2, cells := 0, slots := 0, locals := 48 }
set_option maxHeartbeats 4000000 in
set_option maxRecDepth 100000 in
theorem m_X4_readName (l : Launch) (D : va_G) (cA : FieldType → ClassId) (ad : Nat → Nat) (base : Nat) (fu : Nat) (u : Nat) (hu : isBytes u) {S S' : St} {r : Int32} (hf : fX4_readName fu u S = some (S', r)) : Met l yX4_readName (GC yX4_readName cX4_readName 9 (some .int)) rmX4_readName (va_Pc [.ref (ad 26), .ref (ad u)] (wd D cA ad base S)) (QI D cA ad base S' r) 0 0 (aB base) := by
  refine Met.ofW (cc := cX4_readName) (maxL := 9) (ret := (some .int)) (by decide) rfl ?_
  intro p e s m args below meth c s₁ B hml hv
  obtain ⟨hargs, hwd⟩ := hv
  have hr := B.returns
  have hlocks := B.notSynchronized
  obtain ⟨C, hw⟩ := CX.of (own := RX4) rfl B hml hwd
  have hx := C.1
  have hb := C.2.1
  have hl := lv_entry ([.ref (ad 26), .ref (ad u)]) (n := 9) (Nat.le_of_ble_eq_true rfl)
  rw [show entryFrame m args 9 = entryFrame m ([.ref (ad 26), .ref (ad u)] : List Value).toArray 9 from by rw [hargs], lg_entry_eq]
  generalize (lg_sl ([.ref (ad 26), .ref (ad u)]) ++ List.replicate (9 - (lg_sl ([.ref (ad 26), .ref (ad u)])).length) Slot.unset).toArray = ls at hl ⊢
  have hl : lv_has ls 9 [(0, .ref (ad 26)), (1, .ref (ad u))] := hl
  have J_66 : ∀ (t0 : Int32) (S : St) (H : Heap) (locs : List Loc) (ls : Array Slot), fX4_readName_66 fu u t0 S = some (S', r) → lv_has ls 9 [(0, .ref (ad 26))] → WS D cA ad base s S H locs → W p l e rmX4_readName s m args below meth c H locs 0 0 (MQ below (QI D cA ad base S' r) args s 0 0 (aB base)) (F0 m 66 ls [.int t0, .ref (ad 26)]) := by
    intro t0 S H locs ls hf hl hw
    obtain ⟨S_66, e_66, hf⟩ := sI_some hf
    refine r_putI C hw (k := 8) (ty0 := tyX4) dq_26 ln_26 rfl vc_4 inX4 tyX4_ok nmX4 (by decide) rfl rfl gw1_208 rfl rfl dX4_readName_66 e_66 (fun H locs hw => ?_)
    refine lv_aload_n hx hb dX4_readName_69 rfl (lv_at hl 0 rfl) ?_
    refine lv_aload_n hx hb dX4_readName_70 rfl (lv_at hl 0 rfl) ?_
    refine r_getR C hw (k := 0) (r := 3) dq_26 ln_26 rfl vc_4 inX4 (by decide) rfl gw1_200 dX4_readName_71 ?_
    refine lv_aload_n hx hb dX4_readName_74 rfl (lv_at hl 0 rfl) ?_
    refine r_getR C hw (k := 1) (r := 27) dq_26 ln_26 rfl vc_4 inX4 (by decide) rfl gw1_201 dX4_readName_75 ?_
    obtain ⟨S_78, r_78, h_78, hf⟩ := bd_some hf
    refine r_bi hw (r_runV (rest := [.ref (ad 26)]) C hw (m_X3_made l D cA ad base fu 27 kSp_27 h_78) mvX3_made gw2_210 ⟨rfl, rfl, Nat.le_of_ble_eq_true rfl, Nat.le_of_ble_eq_true rfl⟩ dq_3 ln_3 vc_3 rfl hl.1 rfl (Nat.le_of_ble_eq_true rfl) dX4_readName_78 (Nat.zero_le _) (Nat.zero_le _)) (fun H locs hw => ?_)
    obtain ⟨S_81, e_81, hf⟩ := sI_some hf
    refine r_putI C hw (k := 9) (ty0 := tyX4) dq_26 ln_26 rfl vc_4 inX4 tyX4_ok nmX4 (by decide) rfl rfl gw1_209 rfl rfl dX4_readName_81 e_81 (fun H locs hw => ?_)
    refine lv_aload_n hx hb dX4_readName_84 rfl (lv_at hl 0 rfl) ?_
    refine r_getI C hw (k := 9) dq_26 ln_26 rfl vc_4 inX4 (by decide) rfl gw1_209 dX4_readName_85 ?_
    refine lv_iconst (v := (-1 : Int32)) hx hb dX4_readName_88 (by decide) ?_
    refine lv_icmp_ne (tgt := 97) hx hb dX4_readName_89 (by decide) (fun c_89 => ?_) (fun c_89 => ?_)
    · have hf := if_f hf c_89
      refine lv_iconst (v := (0 : Int32)) hx hb dX4_readName_97 (by decide) ?_
      exact r_iret C hw hr hlocks hf dX4_readName_98
    · have hf := if_t hf c_89
      refine lv_bipush (v := (6 : Int32)) hx hb dX4_readName_92 (by decide) ?_
      refine lv_goto (tgt := 98) hx hb dX4_readName_94 (by decide) ?_
      exact r_iret C hw hr hlocks hf dX4_readName_98
  have L_23 : ∀ (n_23 : Nat) (x2 : Int32) (x3 : Int32) (x4 : Int32) (x5 : Int32) (S : St) (H : Heap) (locs : List Loc) (ls : Array Slot), fX4_readName_23 fu u n_23 x2 x3 x4 x5 S = some (S', r) → lv_has ls 9 [(0, .ref (ad 26)), (1, .ref (ad u)), (2, .int x2), (3, .int x3), (4, .int x4), (5, .int x5)] → WS D cA ad base s S H locs → W p l e rmX4_readName s m args below meth c H locs 0 0 (MQ below (QI D cA ad base S' r) args s 0 0 (aB base)) (F0 m 23 ls []) := by
    intro n_23
    induction n_23 with
    | zero =>
      intro x2 x3 x4 x5 S H locs ls hf hl hw
      exact (no_none hf).elim
    | succ n_23 ih_23 =>
      have J_195 : ∀ (x2 : Int32) (x3 : Int32) (x4 : Int32) (x5 : Int32) (S : St) (H : Heap) (locs : List Loc) (ls : Array Slot), fX4_readName_195 fu u (fX4_readName_23 fu u n_23) x2 x3 x4 x5 S = some (S', r) → lv_has ls 9 [(0, .ref (ad 26)), (1, .ref (ad u)), (2, .int x2), (3, .int x3), (4, .int x4), (5, .int x5)] → WS D cA ad base s S H locs → W p l e rmX4_readName s m args below meth c H locs 0 0 (MQ below (QI D cA ad base S' r) args s 0 0 (aB base)) (F0 m 195 ls []) := by
        intro x2 x3 x4 x5 S H locs ls hf hl hw
        refine lv_iinc (v := (x5 + (1 : Int32))) (lv' := [(5, .int (x5 + (1 : Int32))), (0, .ref (ad 26)), (1, .ref (ad u)), (2, .int x2), (3, .int x3), (4, .int x4)]) hx hb dX4_readName_195 hl (k := 5) rfl rfl (by decide) rfl (fun ls hl => ?_)
        refine lv_goto (tgt := 23) hx hb dX4_readName_198 (by decide) ?_
        exact ih_23 _ _ _ _ _ _ _ _ hf (lv_sub hl [1, 2, 3, 4, 5, 0] rfl) hw
      have J_187 : ∀ (x5 : Int32) (x8 : Int32) (t0 : Int32) (S : St) (H : Heap) (locs : List Loc) (ls : Array Slot), fX4_readName_187 fu u (fX4_readName_23 fu u n_23) x5 x8 t0 S = some (S', r) → lv_has ls 9 [(0, .ref (ad 26)), (1, .ref (ad u)), (5, .int x5), (8, .int x8)] → WS D cA ad base s S H locs → W p l e rmX4_readName s m args below meth c H locs 0 0 (MQ below (QI D cA ad base S' r) args s 0 0 (aB base)) (F0 m 187 ls [.int t0]) := by
        intro x5 x8 t0 S H locs ls hf hl hw
        refine lv_istore (lv' := [(4, .int t0), (0, .ref (ad 26)), (1, .ref (ad u)), (5, .int x5), (8, .int x8)]) hx hb dX4_readName_187 hl (by decide) rfl (fun ls hl => ?_)
        refine lv_iload hx hb dX4_readName_189 (lv_at hl 4 rfl) ?_
        refine lv_istore_n (lv' := [(2, .int x8), (4, .int t0), (0, .ref (ad 26)), (1, .ref (ad u)), (5, .int x5), (8, .int x8)]) hx hb dX4_readName_191 rfl hl (by decide) rfl (fun ls hl => ?_)
        refine lv_iload hx hb dX4_readName_192 (lv_at hl 5 rfl) ?_
        refine lv_istore_n (lv' := [(3, .int x8), (2, .int x8), (4, .int t0), (0, .ref (ad 26)), (1, .ref (ad u)), (5, .int x5), (8, .int x8)]) hx hb dX4_readName_194 rfl hl (by decide) rfl (fun ls hl => ?_)
        exact J_195 _ _ _ _ _ _ _ _ hf (lv_sub hl [3, 4, 1, 0, 2, 5] rfl) hw
      intro x2 x3 x4 x5 S H locs ls hf hl hw
      rw [fX4_readName_23_s] at hf
      refine lv_iload hx hb dX4_readName_23 (lv_at hl 5 rfl) ?_
      refine lv_sipush (v := (1012 : Int32)) hx hb dX4_readName_25 (by decide) ?_
      refine lv_icmp_ge (tgt := 201) hx hb dX4_readName_28 (by decide) (fun c_28 => ?_) (fun c_28 => ?_)
      · have hf := if_t hf c_28
        refine lv_iconst (v := (2 : Int32)) hx hb dX4_readName_201 (by decide) ?_
        exact r_iret C hw hr hlocks hf dX4_readName_202
      · have hf := if_f hf c_28
        refine lv_aload_n hx hb dX4_readName_31 rfl (lv_at hl 1 rfl) ?_
        refine lv_iload_n hx hb dX4_readName_32 rfl (lv_at hl 3 rfl) ?_
        obtain ⟨S_33, r_33, h_33, hf⟩ := bd_some hf
        refine r_bi hw (r_runV (rest := []) C hw (m_X0_at l D cA ad base fu u hu h_33) mvX0_at gw2_209 ⟨rfl, rfl, Nat.le_of_ble_eq_true rfl, Nat.le_of_ble_eq_true rfl⟩ hu.1 hu.2.1 vc_0 rfl hl.1 rfl (Nat.le_of_ble_eq_true rfl) dX4_readName_33 (Nat.zero_le _) (Nat.zero_le _)) (fun H locs hw => ?_)
        refine lv_istore (lv' := [(6, .int r_33), (0, .ref (ad 26)), (1, .ref (ad u)), (2, .int x2), (3, .int x3), (4, .int x4), (5, .int x5)]) hx hb dX4_readName_36 hl (by decide) rfl (fun ls hl => ?_)
        refine lv_iload hx hb dX4_readName_38 (lv_at hl 0 rfl) ?_
        refine lv_iconst (v := (-1 : Int32)) hx hb dX4_readName_40 (by decide) ?_
        refine lv_icmp_ne (tgt := 46) hx hb dX4_readName_41 (by decide) (fun c_41 => ?_) (fun c_41 => ?_)
        · have hf := if_f hf c_41
          refine lv_iload hx hb dX4_readName_46 (lv_at hl 0 rfl) ?_
          refine lv_if_ne (tgt := 99) hx hb dX4_readName_48 (by decide) (fun c_48 => ?_) (fun c_48 => ?_)
          · have hf := if_f hf c_48
            refine lv_iload hx hb dX4_readName_99 (lv_at hl 0 rfl) ?_
            refine lv_sipush (v := (192 : Int32)) hx hb dX4_readName_101 (by decide) ?_
            refine lv_icmp_ge (tgt := 135) hx hb dX4_readName_104 (by decide) (fun c_104 => ?_) (fun c_104 => ?_)
            · have hf := if_t hf c_104
              refine lv_aload_n hx hb dX4_readName_135 rfl (lv_at hl 2 rfl) ?_
              refine lv_iload_n hx hb dX4_readName_136 rfl (lv_at hl 4 rfl) ?_
              refine lv_iconst (v := (1 : Int32)) hx hb dX4_readName_137 (by decide) ?_
              refine lv_iadd hx hb dX4_readName_138 ?_
              obtain ⟨S_139, r_139, h_139, hf⟩ := bd_some hf
              refine r_bi hw (r_runV (rest := []) C hw (m_X0_at l D cA ad base fu u hu h_139) mvX0_at gw2_209 ⟨rfl, rfl, Nat.le_of_ble_eq_true rfl, Nat.le_of_ble_eq_true rfl⟩ hu.1 hu.2.1 vc_0 rfl hl.1 rfl (Nat.le_of_ble_eq_true rfl) dX4_readName_139 (Nat.zero_le _) (Nat.zero_le _)) (fun H locs hw => ?_)
              refine lv_istore (lv' := [(7, .int r_139), (6, .int r_33), (0, .ref (ad 26)), (1, .ref (ad u)), (2, .int x2), (3, .int x3), (4, .int x4), (5, .int x5)]) hx hb dX4_readName_142 hl (by decide) rfl (fun ls hl => ?_)
              refine lv_iload hx hb dX4_readName_144 (lv_at hl 0 rfl) ?_
              refine lv_iconst (v := (-1 : Int32)) hx hb dX4_readName_146 (by decide) ?_
              refine lv_icmp_ne (tgt := 152) hx hb dX4_readName_147 (by decide) (fun c_147 => ?_) (fun c_147 => ?_)
              · have hf := if_f hf c_147
                refine lv_iload hx hb dX4_readName_152 (lv_at hl 1 rfl) ?_
                refine lv_bipush (v := (63 : Int32)) hx hb dX4_readName_154 (by decide) ?_
                refine lv_iand hx hb dX4_readName_156 ?_
                refine lv_bipush (v := (8 : Int32)) hx hb dX4_readName_157 (by decide) ?_
                refine lv_ishl hx hb dX4_readName_159 ?_
                refine lv_iload hx hb dX4_readName_160 (lv_at hl 0 rfl) ?_
                refine lv_iadd hx hb dX4_readName_162 ?_
                refine lv_istore (lv' := [(8, .int (((r_33 &&& (63 : Int32)) <<< ((8 : Int32) &&& 31)) + r_139)), (7, .int r_139), (6, .int r_33), (0, .ref (ad 26)), (1, .ref (ad u)), (2, .int x2), (3, .int x3), (4, .int x4), (5, .int x5)]) hx hb dX4_readName_163 hl (by decide) rfl (fun ls hl => ?_)
                refine lv_iload hx hb dX4_readName_165 (lv_at hl 0 rfl) ?_
                refine lv_iload_n hx hb dX4_readName_167 rfl (lv_at hl 5 rfl) ?_
                refine lv_icmp_lt (tgt := 173) hx hb dX4_readName_168 (by decide) (fun c_168 => ?_) (fun c_168 => ?_)
                · have hf := if_t hf c_168
                  refine lv_iload hx hb dX4_readName_173 (lv_at hl 7 rfl) ?_
                  refine lv_iconst (v := (-1 : Int32)) hx hb dX4_readName_175 (by decide) ?_
                  refine lv_icmp_ne (tgt := 185) hx hb dX4_readName_176 (by decide) (fun c_176 => ?_) (fun c_176 => ?_)
                  · have hf := if_f hf c_176
                    refine lv_iload hx hb dX4_readName_185 (lv_at hl 7 rfl) ?_
                    exact J_187 _ _ _ _ _ _ _ hf (lv_sub hl [3, 4, 8, 0] rfl) hw
                  · have hf := if_t hf c_176
                    refine lv_iload_n hx hb dX4_readName_179 rfl (lv_at hl 6 rfl) ?_
                    refine lv_iconst (v := (2 : Int32)) hx hb dX4_readName_180 (by decide) ?_
                    refine lv_iadd hx hb dX4_readName_181 ?_
                    refine lv_goto (tgt := 187) hx hb dX4_readName_182 (by decide) ?_
                    exact J_187 _ _ _ _ _ _ _ hf (lv_sub hl [3, 4, 8, 0] rfl) hw
                · have hf := if_f hf c_168
                  refine lv_iconst (v := (2 : Int32)) hx hb dX4_readName_171 (by decide) ?_
                  exact r_iret C hw hr hlocks hf dX4_readName_172
              · have hf := if_t hf c_147
                refine lv_iconst (v := (3 : Int32)) hx hb dX4_readName_150 (by decide) ?_
                exact r_iret C hw hr hlocks hf dX4_readName_151
            · have hf := if_f hf c_104
              refine lv_aload_n hx hb dX4_readName_107 rfl (lv_at hl 1 rfl) ?_
              refine lv_aload_n hx hb dX4_readName_108 rfl (lv_at hl 2 rfl) ?_
              refine lv_iload_n hx hb dX4_readName_109 rfl (lv_at hl 4 rfl) ?_
              refine lv_iload hx hb dX4_readName_110 (lv_at hl 0 rfl) ?_
              obtain ⟨S_112, r_112, h_112, hf⟩ := bd_some hf
              refine r_bi hw (r_runV (rest := []) C hw (m_X4_readLabel l D cA ad base fu u hu h_112) mvX4_readLabel gw2_234 ⟨rfl, rfl, Nat.le_of_ble_eq_true rfl, Nat.le_of_ble_eq_true rfl⟩ dq_26 ln_26 vc_4 rfl hl.1 rfl (Nat.le_of_ble_eq_true rfl) dX4_readName_112 (Nat.zero_le _) (Nat.zero_le _)) (fun H locs hw => ?_)
              refine lv_istore (lv' := [(7, .int r_112), (6, .int r_33), (0, .ref (ad 26)), (1, .ref (ad u)), (2, .int x2), (3, .int x3), (4, .int x4), (5, .int x5)]) hx hb dX4_readName_115 hl (by decide) rfl (fun ls hl => ?_)
              refine lv_iload hx hb dX4_readName_117 (lv_at hl 0 rfl) ?_
              refine lv_if_eq (tgt := 125) hx hb dX4_readName_119 (by decide) (fun c_119 => ?_) (fun c_119 => ?_)
              · have hf := if_t hf c_119
                refine lv_iload_n hx hb dX4_readName_125 rfl (lv_at hl 5 rfl) ?_
                refine lv_iload hx hb dX4_readName_126 (lv_at hl 1 rfl) ?_
                refine lv_iconst (v := (1 : Int32)) hx hb dX4_readName_128 (by decide) ?_
                refine lv_iadd hx hb dX4_readName_129 ?_
                refine lv_iadd hx hb dX4_readName_130 ?_
                refine lv_istore_n (lv' := [(3, .int (x3 + (r_33 + (1 : Int32)))), (7, .int r_112), (6, .int r_33), (0, .ref (ad 26)), (1, .ref (ad u)), (2, .int x2), (4, .int x4), (5, .int x5)]) hx hb dX4_readName_131 rfl hl (by decide) rfl (fun ls hl => ?_)
                refine lv_goto (tgt := 195) hx hb dX4_readName_132 (by decide) ?_
                exact J_195 _ _ _ _ _ _ _ _ hf (lv_sub hl [3, 4, 5, 0, 6, 7] rfl) hw
              · have hf := if_f hf c_119
                refine lv_iload hx hb dX4_readName_122 (lv_at hl 0 rfl) ?_
                exact r_iret C hw hr hlocks hf dX4_readName_124
          · have hf := if_t hf c_48
            refine lv_aload_n hx hb dX4_readName_51 rfl (lv_at hl 1 rfl) ?_
            refine lv_iload hx hb dX4_readName_52 (lv_at hl 5 rfl) ?_
            refine lv_iconst (v := (-1 : Int32)) hx hb dX4_readName_54 (by decide) ?_
            refine lv_icmp_ne (tgt := 64) hx hb dX4_readName_55 (by decide) (fun c_55 => ?_) (fun c_55 => ?_)
            · have hf := if_f hf c_55
              refine lv_iload hx hb dX4_readName_64 (lv_at hl 5 rfl) ?_
              exact J_66 _ _ _ _ _ hf (lv_sub hl [1] rfl) hw
            · have hf := if_t hf c_55
              refine lv_iload_n hx hb dX4_readName_58 rfl (lv_at hl 4 rfl) ?_
              refine lv_iconst (v := (1 : Int32)) hx hb dX4_readName_59 (by decide) ?_
              refine lv_iadd hx hb dX4_readName_60 ?_
              refine lv_goto (tgt := 66) hx hb dX4_readName_61 (by decide) ?_
              exact J_66 _ _ _ _ _ hf (lv_sub hl [1] rfl) hw
        · have hf := if_t hf c_41
          refine lv_iconst (v := (3 : Int32)) hx hb dX4_readName_44 (by decide) ?_
          exact r_iret C hw hr hlocks hf dX4_readName_45
  show W p l e rmX4_readName s m args below meth c s.heap [] 0 0 _ _
  refine lv_aload_n hx hb dX4_readName_0 rfl (lv_at hl 0 rfl) ?_
  refine r_getR C hw (k := 1) (r := 27) dq_26 ln_26 rfl vc_4 inX4 (by decide) rfl gw1_201 dX4_readName_1 ?_
  obtain ⟨S_4, r_4, h_4, hf⟩ := bd_some hf
  refine r_bv hw (r_runV (rest := []) C hw (m_X8_clear l D cA ad base fu 27 kSp_27 h_4) mvX8_clear gw2_205 ⟨rfl, rfl, Nat.le_of_ble_eq_true rfl, Nat.le_of_ble_eq_true rfl⟩ dq_27 ln_27 vc_8 rfl hl.1 rfl (Nat.le_of_ble_eq_true rfl) dX4_readName_4 (Nat.zero_le _) (Nat.zero_le _)) (fun H locs hw => ?_)
  refine lv_aload_n hx hb dX4_readName_7 rfl (lv_at hl 0 rfl) ?_
  refine r_getI C hw (k := 8) dq_26 ln_26 rfl vc_4 inX4 (by decide) rfl gw1_208 dX4_readName_8 ?_
  refine lv_istore_n (lv' := [(2, .int (S_4.1 26 8)), (0, .ref (ad 26)), (1, .ref (ad u))]) hx hb dX4_readName_11 rfl hl (by decide) rfl (fun ls hl => ?_)
  refine lv_aload_n hx hb dX4_readName_12 rfl (lv_at hl 1 rfl) ?_
  refine r_getI C hw (k := 8) dq_26 ln_26 rfl vc_4 inX4 (by decide) rfl gw1_208 dX4_readName_13 ?_
  refine lv_istore_n (lv' := [(3, .int (S_4.1 26 8)), (2, .int (S_4.1 26 8)), (0, .ref (ad 26)), (1, .ref (ad u))]) hx hb dX4_readName_16 rfl hl (by decide) rfl (fun ls hl => ?_)
  refine lv_iconst (v := (-1 : Int32)) hx hb dX4_readName_17 (by decide) ?_
  refine lv_istore (lv' := [(4, .int (-1 : Int32)), (3, .int (S_4.1 26 8)), (2, .int (S_4.1 26 8)), (0, .ref (ad 26)), (1, .ref (ad u))]) hx hb dX4_readName_18 hl (by decide) rfl (fun ls hl => ?_)
  refine lv_iconst (v := (0 : Int32)) hx hb dX4_readName_20 (by decide) ?_
  refine lv_istore (lv' := [(5, .int (0 : Int32)), (4, .int (-1 : Int32)), (3, .int (S_4.1 26 8)), (2, .int (S_4.1 26 8)), (0, .ref (ad 26)), (1, .ref (ad u))]) hx hb dX4_readName_21 hl (by decide) rfl (fun ls hl => ?_)
  exact L_23 fu _ _ _ _ _ _ _ _ hf (lv_sub hl [4, 5, 3, 2, 1, 0] rfl) hw
noncomputable def fX4_readQuestion (fu : Nat) (u : Nat) (S : St) : Option (St × Int32) :=
  bd (fX4_readName fu u S) fun S_2 r_2 =>
  if r_2 = 0 then
    bd (fX0_size fu u S_2) fun S_19 r_19 =>
    if ((S_2.1 26 8) + (4 : Int32)) ≤ r_19 then
      sI 26 5 (S_19.1 26 9) S_19 fun S_32 =>
      bd (fX0_two fu u (S_32.1 26 8) S_32) fun S_41 r_41 =>
      sI 26 6 r_41 S_41 fun S_44 =>
      bd (fX0_two fu u ((S_44.1 26 8) + (2 : Int32)) S_44) fun S_55 r_55 =>
      sI 26 7 r_55 S_55 fun S_58 =>
      sI 26 8 ((S_58.1 26 8) + (4 : Int32)) S_58 fun S_68 =>
      some (S_68, (0 : Int32))
    else
      some (S_19, (3 : Int32))
  else
    some (S_2, r_2)
theorem mvX4_readQuestion : MV yX4_readQuestion cX4_readQuestion 3 (some .int) RX4 1 := ⟨gw2_200, gw2_199, gs_0, gw1_8, by decide +kernel⟩
def rmX4_readQuestion : Room := { frames := 3, cells := 0, slots := 0, locals := 76 }
set_option maxHeartbeats 4000000 in
set_option maxRecDepth 100000 in
theorem m_X4_readQuestion (l : Launch) (D : va_G) (cA : FieldType → ClassId) (ad : Nat → Nat) (base : Nat) (fu : Nat) (u : Nat) (hu : isBytes u) {S S' : St} {r : Int32} (hf : fX4_readQuestion fu u S = some (S', r)) : Met l yX4_readQuestion (GC yX4_readQuestion cX4_readQuestion 3 (some .int)) rmX4_readQuestion (va_Pc [.ref (ad 26), .ref (ad u)] (wd D cA ad base S)) (QI D cA ad base S' r) 0 0 (aB base) := by
  refine Met.ofW (cc := cX4_readQuestion) (maxL := 3) (ret := (some .int)) (by decide) rfl ?_
  intro p e s m args below meth c s₁ B hml hv
  obtain ⟨hargs, hwd⟩ := hv
  have hr := B.returns
  have hlocks := B.notSynchronized
  obtain ⟨C, hw⟩ := CX.of (own := RX4) rfl B hml hwd
  have hx := C.1
  have hb := C.2.1
  have hl := lv_entry ([.ref (ad 26), .ref (ad u)]) (n := 3) (Nat.le_of_ble_eq_true rfl)
  rw [show entryFrame m args 3 = entryFrame m ([.ref (ad 26), .ref (ad u)] : List Value).toArray 3 from by rw [hargs], lg_entry_eq]
  generalize (lg_sl ([.ref (ad 26), .ref (ad u)]) ++ List.replicate (3 - (lg_sl ([.ref (ad 26), .ref (ad u)])).length) Slot.unset).toArray = ls at hl ⊢
  have hl : lv_has ls 3 [(0, .ref (ad 26)), (1, .ref (ad u))] := hl
  show W p l e rmX4_readQuestion s m args below meth c s.heap [] 0 0 _ _
  refine lv_aload_n hx hb dX4_readQuestion_0 rfl (lv_at hl 0 rfl) ?_
  refine lv_aload_n hx hb dX4_readQuestion_1 rfl (lv_at hl 1 rfl) ?_
  obtain ⟨S_2, r_2, h_2, hf⟩ := bd_some hf
  refine r_bi hw (r_runV (rest := []) C hw (m_X4_readName l D cA ad base fu u hu h_2) mvX4_readName gw2_201 ⟨rfl, rfl, Nat.le_of_ble_eq_true rfl, Nat.le_of_ble_eq_true rfl⟩ dq_26 ln_26 vc_4 rfl hl.1 rfl (Nat.le_of_ble_eq_true rfl) dX4_readQuestion_2 (Nat.zero_le _) (Nat.zero_le _)) (fun H locs hw => ?_)
  refine lv_istore_n (lv' := [(2, .int r_2), (0, .ref (ad 26)), (1, .ref (ad u))]) hx hb dX4_readQuestion_5 rfl hl (by decide) rfl (fun ls hl => ?_)
  refine lv_iload_n hx hb dX4_readQuestion_6 rfl (lv_at hl 0 rfl) ?_
  refine lv_if_eq (tgt := 12) hx hb dX4_readQuestion_7 (by decide) (fun c_7 => ?_) (fun c_7 => ?_)
  · have hf := if_t hf c_7
    refine lv_aload_n hx hb dX4_readQuestion_12 rfl (lv_at hl 1 rfl) ?_
    refine r_getI C hw (k := 8) dq_26 ln_26 rfl vc_4 inX4 (by decide) rfl gw1_208 dX4_readQuestion_13 ?_
    refine lv_iconst (v := (4 : Int32)) hx hb dX4_readQuestion_16 (by decide) ?_
    refine lv_iadd hx hb dX4_readQuestion_17 ?_
    refine lv_aload_n hx hb dX4_readQuestion_18 rfl (lv_at hl 2 rfl) ?_
    obtain ⟨S_19, r_19, h_19, hf⟩ := bd_some hf
    refine r_bi hw (r_runV (rest := [.int ((S_2.1 26 8) + (4 : Int32))]) C hw (m_X0_size l D cA ad base fu u hu h_19) mvX0_size gw2_188 ⟨rfl, rfl, Nat.le_of_ble_eq_true rfl, Nat.le_of_ble_eq_true rfl⟩ hu.1 hu.2.1 vc_0 rfl hl.1 rfl (Nat.le_of_ble_eq_true rfl) dX4_readQuestion_19 (Nat.zero_le _) (Nat.zero_le _)) (fun H locs hw => ?_)
    refine lv_icmp_le (tgt := 27) hx hb dX4_readQuestion_22 (by decide) (fun c_22 => ?_) (fun c_22 => ?_)
    · have hf := if_t hf c_22
      refine lv_aload_n hx hb dX4_readQuestion_27 rfl (lv_at hl 1 rfl) ?_
      refine lv_aload_n hx hb dX4_readQuestion_28 rfl (lv_at hl 1 rfl) ?_
      refine r_getI C hw (k := 9) dq_26 ln_26 rfl vc_4 inX4 (by decide) rfl gw1_209 dX4_readQuestion_29 ?_
      obtain ⟨S_32, e_32, hf⟩ := sI_some hf
      refine r_putI C hw (k := 5) (ty0 := tyX4) dq_26 ln_26 rfl vc_4 inX4 tyX4_ok nmX4 (by decide) rfl rfl gw1_205 rfl rfl dX4_readQuestion_32 e_32 (fun H locs hw => ?_)
      refine lv_aload_n hx hb dX4_readQuestion_35 rfl (lv_at hl 1 rfl) ?_
      refine lv_aload_n hx hb dX4_readQuestion_36 rfl (lv_at hl 2 rfl) ?_
      refine lv_aload_n hx hb dX4_readQuestion_37 rfl (lv_at hl 1 rfl) ?_
      refine r_getI C hw (k := 8) dq_26 ln_26 rfl vc_4 inX4 (by decide) rfl gw1_208 dX4_readQuestion_38 ?_
      obtain ⟨S_41, r_41, h_41, hf⟩ := bd_some hf
      refine r_bi hw (r_runV (rest := [.ref (ad 26)]) C hw (m_X0_two l D cA ad base fu u hu h_41) mvX0_two gw2_189 ⟨rfl, rfl, Nat.le_of_ble_eq_true rfl, Nat.le_of_ble_eq_true rfl⟩ hu.1 hu.2.1 vc_0 rfl hl.1 rfl (Nat.le_of_ble_eq_true rfl) dX4_readQuestion_41 (Nat.zero_le _) (Nat.zero_le _)) (fun H locs hw => ?_)
      obtain ⟨S_44, e_44, hf⟩ := sI_some hf
      refine r_putI C hw (k := 6) (ty0 := tyX4) dq_26 ln_26 rfl vc_4 inX4 tyX4_ok nmX4 (by decide) rfl rfl gw1_206 rfl rfl dX4_readQuestion_44 e_44 (fun H locs hw => ?_)
      refine lv_aload_n hx hb dX4_readQuestion_47 rfl (lv_at hl 1 rfl) ?_
      refine lv_aload_n hx hb dX4_readQuestion_48 rfl (lv_at hl 2 rfl) ?_
      refine lv_aload_n hx hb dX4_readQuestion_49 rfl (lv_at hl 1 rfl) ?_
      refine r_getI C hw (k := 8) dq_26 ln_26 rfl vc_4 inX4 (by decide) rfl gw1_208 dX4_readQuestion_50 ?_
      refine lv_iconst (v := (2 : Int32)) hx hb dX4_readQuestion_53 (by decide) ?_
      refine lv_iadd hx hb dX4_readQuestion_54 ?_
      obtain ⟨S_55, r_55, h_55, hf⟩ := bd_some hf
      refine r_bi hw (r_runV (rest := [.ref (ad 26)]) C hw (m_X0_two l D cA ad base fu u hu h_55) mvX0_two gw2_189 ⟨rfl, rfl, Nat.le_of_ble_eq_true rfl, Nat.le_of_ble_eq_true rfl⟩ hu.1 hu.2.1 vc_0 rfl hl.1 rfl (Nat.le_of_ble_eq_true rfl) dX4_readQuestion_55 (Nat.zero_le _) (Nat.zero_le _)) (fun H locs hw => ?_)
      obtain ⟨S_58, e_58, hf⟩ := sI_some hf
      refine r_putI C hw (k := 7) (ty0 := tyX4) dq_26 ln_26 rfl vc_4 inX4 tyX4_ok nmX4 (by decide) rfl rfl gw1_207 rfl rfl dX4_readQuestion_58 e_58 (fun H locs hw => ?_)
      refine lv_aload_n hx hb dX4_readQuestion_61 rfl (lv_at hl 1 rfl) ?_
      refine lv_dup hx hb dX4_readQuestion_62 rfl ?_
      refine r_getI C hw (k := 8) dq_26 ln_26 rfl vc_4 inX4 (by decide) rfl gw1_208 dX4_readQuestion_63 ?_
      refine lv_iconst (v := (4 : Int32)) hx hb dX4_readQuestion_66 (by decide) ?_
      refine lv_iadd hx hb dX4_readQuestion_67 ?_
      obtain ⟨S_68, e_68, hf⟩ := sI_some hf
      refine r_putI C hw (k := 8) (ty0 := tyX4) dq_26 ln_26 rfl vc_4 inX4 tyX4_ok nmX4 (by decide) rfl rfl gw1_208 rfl rfl dX4_readQuestion_68 e_68 (fun H locs hw => ?_)
      refine lv_iconst (v := (0 : Int32)) hx hb dX4_readQuestion_71 (by decide) ?_
      exact r_iret C hw hr hlocks hf dX4_readQuestion_72
    · have hf := if_f hf c_22
      refine lv_iconst (v := (3 : Int32)) hx hb dX4_readQuestion_25 (by decide) ?_
      exact r_iret C hw hr hlocks hf dX4_readQuestion_26
  · have hf := if_f hf c_7
    refine lv_iload_n hx hb dX4_readQuestion_10 rfl (lv_at hl 0 rfl) ?_
    exact r_iret C hw hr hlocks hf dX4_readQuestion_11
noncomputable def fX4_readDataName (fu : Nat) (u : Nat) (x2 : Int32) (x3 : Int32) (S : St) : Option (St × Int32) :=
  sI 26 8 x2 S fun S_2 =>
  bd (fX4_readName fu u S_2) fun S_7 r_7 =>
  if r_7 = (6 : Int32) then
    some (S_7, r_7)
  else
    if r_7 = 0 then
      if (S_7.1 26 8) = x3 then
        some (S_7, (0 : Int32))
      else
        some (S_7, (4 : Int32))
    else
      some (S_7, (4 : Int32))
theorem mvX4_readDataName : MV yX4_readDataName cX4_readDataName 5 (some .int) RX4 3 := ⟨gw3_16, gw3_15, gs_6, gw1_8, by decide +kernel⟩
def rmX4_readDataName : Room := { frames := 3, cells := 0, slots := 0, locals := 76 }
set_option maxHeartbeats 4000000 in
set_option maxRecDepth 100000 in
theorem m_X4_readDataName (l : Launch) (D : va_G) (cA : FieldType → ClassId) (ad : Nat → Nat) (base : Nat) (fu : Nat) (u : Nat) (hu : isBytes u) {S S' : St} {x2 : Int32} {x3 : Int32} {r : Int32} (hf : fX4_readDataName fu u x2 x3 S = some (S', r)) : Met l yX4_readDataName (GC yX4_readDataName cX4_readDataName 5 (some .int)) rmX4_readDataName (va_Pc [.ref (ad 26), .ref (ad u), .int x2, .int x3] (wd D cA ad base S)) (QI D cA ad base S' r) 0 0 (aB base) := by
  refine Met.ofW (cc := cX4_readDataName) (maxL := 5) (ret := (some .int)) (by decide) rfl ?_
  intro p e s m args below meth c s₁ B hml hv
  obtain ⟨hargs, hwd⟩ := hv
  have hr := B.returns
  have hlocks := B.notSynchronized
  obtain ⟨C, hw⟩ := CX.of (own := RX4) rfl B hml hwd
  have hx := C.1
  have hb := C.2.1
  have hl := lv_entry ([.ref (ad 26), .ref (ad u), .int x2, .int x3]) (n := 5) (Nat.le_of_ble_eq_true rfl)
  rw [show entryFrame m args 5 = entryFrame m ([.ref (ad 26), .ref (ad u), .int x2, .int x3] : List Value).toArray 5 from by rw [hargs], lg_entry_eq]
  generalize (lg_sl ([.ref (ad 26), .ref (ad u), .int x2, .int x3]) ++ List.replicate (5 - (lg_sl ([.ref (ad 26), .ref (ad u), .int x2, .int x3])).length) Slot.unset).toArray = ls at hl ⊢
  have hl : lv_has ls 5 [(0, .ref (ad 26)), (1, .ref (ad u)), (2, .int x2), (3, .int x3)] := hl
  show W p l e rmX4_readDataName s m args below meth c s.heap [] 0 0 _ _
  refine lv_aload_n hx hb dX4_readDataName_0 rfl (lv_at hl 0 rfl) ?_
  refine lv_iload_n hx hb dX4_readDataName_1 rfl (lv_at hl 2 rfl) ?_
  obtain ⟨S_2, e_2, hf⟩ := sI_some hf
  refine r_putI C hw (k := 8) (ty0 := tyX4) dq_26 ln_26 rfl vc_4 inX4 tyX4_ok nmX4 (by decide) rfl rfl gw1_208 rfl rfl dX4_readDataName_2 e_2 (fun H locs hw => ?_)
  refine lv_aload_n hx hb dX4_readDataName_5 rfl (lv_at hl 0 rfl) ?_
  refine lv_aload_n hx hb dX4_readDataName_6 rfl (lv_at hl 1 rfl) ?_
  obtain ⟨S_7, r_7, h_7, hf⟩ := bd_some hf
  refine r_bi hw (r_runV (rest := []) C hw (m_X4_readName l D cA ad base fu u hu h_7) mvX4_readName gw2_201 ⟨rfl, rfl, Nat.le_of_ble_eq_true rfl, Nat.le_of_ble_eq_true rfl⟩ dq_26 ln_26 vc_4 rfl hl.1 rfl (Nat.le_of_ble_eq_true rfl) dX4_readDataName_7 (Nat.zero_le _) (Nat.zero_le _)) (fun H locs hw => ?_)
  refine lv_istore (lv' := [(4, .int r_7), (0, .ref (ad 26)), (1, .ref (ad u)), (2, .int x2), (3, .int x3)]) hx hb dX4_readDataName_10 hl (by decide) rfl (fun ls hl => ?_)
  refine lv_iload hx hb dX4_readDataName_12 (lv_at hl 0 rfl) ?_
  refine lv_bipush (v := (6 : Int32)) hx hb dX4_readDataName_14 (by decide) ?_
  refine lv_icmp_ne (tgt := 22) hx hb dX4_readDataName_16 (by decide) (fun c_16 => ?_) (fun c_16 => ?_)
  · have hf := if_f hf c_16
    refine lv_iload hx hb dX4_readDataName_22 (lv_at hl 0 rfl) ?_
    refine lv_if_ne (tgt := 39) hx hb dX4_readDataName_24 (by decide) (fun c_24 => ?_) (fun c_24 => ?_)
    · have hf := if_f hf c_24
      refine lv_iconst (v := (4 : Int32)) hx hb dX4_readDataName_39 (by decide) ?_
      exact r_iret C hw hr hlocks hf dX4_readDataName_40
    · have hf := if_t hf c_24
      refine lv_aload_n hx hb dX4_readDataName_27 rfl (lv_at hl 1 rfl) ?_
      refine r_getI C hw (k := 8) dq_26 ln_26 rfl vc_4 inX4 (by decide) rfl gw1_208 dX4_readDataName_28 ?_
      refine lv_iload_n hx hb dX4_readDataName_31 rfl (lv_at hl 4 rfl) ?_
      refine lv_icmp_ne (tgt := 39) hx hb dX4_readDataName_32 (by decide) (fun c_32 => ?_) (fun c_32 => ?_)
      · have hf := if_f hf c_32
        refine lv_iconst (v := (4 : Int32)) hx hb dX4_readDataName_39 (by decide) ?_
        exact r_iret C hw hr hlocks hf dX4_readDataName_40
      · have hf := if_t hf c_32
        refine lv_iconst (v := (0 : Int32)) hx hb dX4_readDataName_35 (by decide) ?_
        refine lv_goto (tgt := 40) hx hb dX4_readDataName_36 (by decide) ?_
        exact r_iret C hw hr hlocks hf dX4_readDataName_40
  · have hf := if_t hf c_16
    refine lv_iload hx hb dX4_readDataName_19 (lv_at hl 0 rfl) ?_
    exact r_iret C hw hr hlocks hf dX4_readDataName_21
noncomputable def fX4_readData (fu : Nat) (u : Nat) (x2 : Int32) (x3 : Int32) (x4 : Int32) (S : St) : Option (St × Int32) :=
  if x2 = (1 : Int32) then
    bd (fX0_four fu u x3 S) fun S_43 r_43 =>
    sI 26 9 r_43 S_43 fun S_46 =>
    if (x4 - x3) = (4 : Int32) then
      some (S_46, (0 : Int32))
    else
      some (S_46, (4 : Int32))
  else
  if x2 = (6 : Int32) then
    bd (fX0_four fu u (x4 - (4 : Int32)) S) fun S_99 r_99 =>
    sI 26 9 r_99 S_99 fun S_102 =>
    if (x4 - x3) = (22 : Int32) then
      bd (fX0_two fu u x3 S_102) fun S_114 r_114 =>
      if r_114 = 0 then
        some (S_114, (0 : Int32))
      else
        some (S_114, (4 : Int32))
    else
      some (S_102, (4 : Int32))
  else
  if x2 = (16 : Int32) then
    bd (fX0_four fu u (x3 + (1 : Int32)) S) fun S_66 r_66 =>
    sI 26 9 r_66 S_66 fun S_69 =>
    if (x4 - x3) = (5 : Int32) then
      bd (fX0_at fu u x3 S_69) fun S_80 r_80 =>
      if r_80 = (4 : Int32) then
        some (S_80, (0 : Int32))
      else
        some (S_80, (4 : Int32))
    else
      some (S_69, (4 : Int32))
  else
    some (S, (0 : Int32))
theorem mvX4_readData : MV yX4_readData cX4_readData 6 (some .int) RX4 4 := ⟨gw3_20, gw3_19, gs_7, gw1_8, by decide +kernel⟩
def rmX4_readData : Room := { frames := 3, cells := 0, slots := 0, locals := 63 }
set_option maxHeartbeats 4000000 in
set_option maxRecDepth 100000 in
theorem m_X4_readData (l : Launch) (D : va_G) (cA : FieldType → ClassId) (ad : Nat → Nat) (base : Nat) (fu : Nat) (u : Nat) (hu : isBytes u) {S S' : St} {x2 : Int32} {x3 : Int32} {x4 : Int32} {r : Int32} (hf : fX4_readData fu u x2 x3 x4 S = some (S', r)) : Met l yX4_readData (GC yX4_readData cX4_readData 6 (some .int)) rmX4_readData (va_Pc [.ref (ad 26), .ref (ad u), .int x2, .int x3, .int x4] (wd D cA ad base S)) (QI D cA ad base S' r) 0 0 (aB base) := by
  refine Met.ofW (cc := cX4_readData) (maxL := 6) (ret := (some .int)) (by decide) rfl ?_
  intro p e s m args below meth c s₁ B hml hv
  obtain ⟨hargs, hwd⟩ := hv
  have hr := B.returns
  have hlocks := B.notSynchronized
  obtain ⟨C, hw⟩ := CX.of (own := RX4) rfl B hml hwd
  have hx := C.1
  have hb := C.2.1
  have hl := lv_entry ([.ref (ad 26), .ref (ad u), .int x2, .int x3, .int x4]) (n := 6) (Nat.le_of_ble_eq_true rfl)
  rw [show entryFrame m args 6 = entryFrame m ([.ref (ad 26), .ref (ad u), .int x2, .int x3, .int x4] : List Value).toArray 6 from by rw [hargs], lg_entry_eq]
  generalize (lg_sl ([.ref (ad 26), .ref (ad u), .int x2, .int x3, .int x4]) ++ List.replicate (6 - (lg_sl ([.ref (ad 26), .ref (ad u), .int x2, .int x3, .int x4])).length) Slot.unset).toArray = ls at hl ⊢
  have hl : lv_has ls 6 [(0, .ref (ad 26)), (1, .ref (ad u)), (2, .int x2), (3, .int x3), (4, .int x4)] := hl
  show W p l e rmX4_readData s m args below meth c s.heap [] 0 0 _ _
  refine lv_iload hx hb dX4_readData_0 (lv_at hl 4 rfl) ?_
  refine lv_iload_n hx hb dX4_readData_2 rfl (lv_at hl 3 rfl) ?_
  refine lv_isub hx hb dX4_readData_3 ?_
  refine lv_istore (lv' := [(5, .int (x4 - x3)), (0, .ref (ad 26)), (1, .ref (ad u)), (2, .int x2), (3, .int x3), (4, .int x4)]) hx hb dX4_readData_4 hl (by decide) rfl (fun ls hl => ?_)
  refine lv_iload_n hx hb dX4_readData_6 rfl (lv_at hl 3 rfl) ?_
  by_cases c_7_0 : x2 = (1 : Int32)
  · have hf := if_t hf c_7_0
    refine lv_lookup (tgt := 40) (off := 33) hx hb dX4_readData_7 (by decide) (by rw [c_7_0]; decide) (by decide) ?_
    refine lv_aload_n hx hb dX4_readData_40 rfl (lv_at hl 1 rfl) ?_
    refine lv_aload_n hx hb dX4_readData_41 rfl (lv_at hl 2 rfl) ?_
    refine lv_iload_n hx hb dX4_readData_42 rfl (lv_at hl 4 rfl) ?_
    obtain ⟨S_43, r_43, h_43, hf⟩ := bd_some hf
    refine r_bi hw (r_runV (rest := [.ref (ad 26)]) C hw (m_X0_four l D cA ad base fu u hu h_43) mvX0_four gw3_21 ⟨rfl, rfl, Nat.le_of_ble_eq_true rfl, Nat.le_of_ble_eq_true rfl⟩ hu.1 hu.2.1 vc_0 rfl hl.1 rfl (Nat.le_of_ble_eq_true rfl) dX4_readData_43 (Nat.zero_le _) (Nat.zero_le _)) (fun H locs hw => ?_)
    obtain ⟨S_46, e_46, hf⟩ := sI_some hf
    refine r_putI C hw (k := 9) (ty0 := tyX4) dq_26 ln_26 rfl vc_4 inX4 tyX4_ok nmX4 (by decide) rfl rfl gw1_209 rfl rfl dX4_readData_46 e_46 (fun H locs hw => ?_)
    refine lv_iload hx hb dX4_readData_49 (lv_at hl 0 rfl) ?_
    refine lv_iconst (v := (4 : Int32)) hx hb dX4_readData_51 (by decide) ?_
    refine lv_icmp_ne (tgt := 59) hx hb dX4_readData_52 (by decide) (fun c_52 => ?_) (fun c_52 => ?_)
    · have hf := if_f hf c_52
      refine lv_iconst (v := (4 : Int32)) hx hb dX4_readData_59 (by decide) ?_
      exact r_iret C hw hr hlocks hf dX4_readData_60
    · have hf := if_t hf c_52
      refine lv_iconst (v := (0 : Int32)) hx hb dX4_readData_55 (by decide) ?_
      refine lv_goto (tgt := 60) hx hb dX4_readData_56 (by decide) ?_
      exact r_iret C hw hr hlocks hf dX4_readData_60
  have hf := if_f hf c_7_0
  by_cases c_7_1 : x2 = (6 : Int32)
  · have hf := if_t hf c_7_1
    refine lv_lookup (tgt := 93) (off := 86) hx hb dX4_readData_7 (by decide) (by rw [c_7_1]; decide) (by decide) ?_
    refine lv_aload_n hx hb dX4_readData_93 rfl (lv_at hl 1 rfl) ?_
    refine lv_aload_n hx hb dX4_readData_94 rfl (lv_at hl 2 rfl) ?_
    refine lv_iload hx hb dX4_readData_95 (lv_at hl 5 rfl) ?_
    refine lv_iconst (v := (4 : Int32)) hx hb dX4_readData_97 (by decide) ?_
    refine lv_isub hx hb dX4_readData_98 ?_
    obtain ⟨S_99, r_99, h_99, hf⟩ := bd_some hf
    refine r_bi hw (r_runV (rest := [.ref (ad 26)]) C hw (m_X0_four l D cA ad base fu u hu h_99) mvX0_four gw3_21 ⟨rfl, rfl, Nat.le_of_ble_eq_true rfl, Nat.le_of_ble_eq_true rfl⟩ hu.1 hu.2.1 vc_0 rfl hl.1 rfl (Nat.le_of_ble_eq_true rfl) dX4_readData_99 (Nat.zero_le _) (Nat.zero_le _)) (fun H locs hw => ?_)
    obtain ⟨S_102, e_102, hf⟩ := sI_some hf
    refine r_putI C hw (k := 9) (ty0 := tyX4) dq_26 ln_26 rfl vc_4 inX4 tyX4_ok nmX4 (by decide) rfl rfl gw1_209 rfl rfl dX4_readData_102 e_102 (fun H locs hw => ?_)
    refine lv_iload hx hb dX4_readData_105 (lv_at hl 0 rfl) ?_
    refine lv_bipush (v := (22 : Int32)) hx hb dX4_readData_107 (by decide) ?_
    refine lv_icmp_ne (tgt := 124) hx hb dX4_readData_109 (by decide) (fun c_109 => ?_) (fun c_109 => ?_)
    · have hf := if_f hf c_109
      refine lv_iconst (v := (4 : Int32)) hx hb dX4_readData_124 (by decide) ?_
      exact r_iret C hw hr hlocks hf dX4_readData_125
    · have hf := if_t hf c_109
      refine lv_aload_n hx hb dX4_readData_112 rfl (lv_at hl 2 rfl) ?_
      refine lv_iload_n hx hb dX4_readData_113 rfl (lv_at hl 4 rfl) ?_
      obtain ⟨S_114, r_114, h_114, hf⟩ := bd_some hf
      refine r_bi hw (r_runV (rest := []) C hw (m_X0_two l D cA ad base fu u hu h_114) mvX0_two gw2_189 ⟨rfl, rfl, Nat.le_of_ble_eq_true rfl, Nat.le_of_ble_eq_true rfl⟩ hu.1 hu.2.1 vc_0 rfl hl.1 rfl (Nat.le_of_ble_eq_true rfl) dX4_readData_114 (Nat.zero_le _) (Nat.zero_le _)) (fun H locs hw => ?_)
      refine lv_if_ne (tgt := 124) hx hb dX4_readData_117 (by decide) (fun c_117 => ?_) (fun c_117 => ?_)
      · have hf := if_f hf c_117
        refine lv_iconst (v := (4 : Int32)) hx hb dX4_readData_124 (by decide) ?_
        exact r_iret C hw hr hlocks hf dX4_readData_125
      · have hf := if_t hf c_117
        refine lv_iconst (v := (0 : Int32)) hx hb dX4_readData_120 (by decide) ?_
        refine lv_goto (tgt := 125) hx hb dX4_readData_121 (by decide) ?_
        exact r_iret C hw hr hlocks hf dX4_readData_125
  have hf := if_f hf c_7_1
  by_cases c_7_2 : x2 = (16 : Int32)
  · have hf := if_t hf c_7_2
    refine lv_lookup (tgt := 61) (off := 54) hx hb dX4_readData_7 (by decide) (by rw [c_7_2]; decide) (by decide) ?_
    refine lv_aload_n hx hb dX4_readData_61 rfl (lv_at hl 1 rfl) ?_
    refine lv_aload_n hx hb dX4_readData_62 rfl (lv_at hl 2 rfl) ?_
    refine lv_iload_n hx hb dX4_readData_63 rfl (lv_at hl 4 rfl) ?_
    refine lv_iconst (v := (1 : Int32)) hx hb dX4_readData_64 (by decide) ?_
    refine lv_iadd hx hb dX4_readData_65 ?_
    obtain ⟨S_66, r_66, h_66, hf⟩ := bd_some hf
    refine r_bi hw (r_runV (rest := [.ref (ad 26)]) C hw (m_X0_four l D cA ad base fu u hu h_66) mvX0_four gw3_21 ⟨rfl, rfl, Nat.le_of_ble_eq_true rfl, Nat.le_of_ble_eq_true rfl⟩ hu.1 hu.2.1 vc_0 rfl hl.1 rfl (Nat.le_of_ble_eq_true rfl) dX4_readData_66 (Nat.zero_le _) (Nat.zero_le _)) (fun H locs hw => ?_)
    obtain ⟨S_69, e_69, hf⟩ := sI_some hf
    refine r_putI C hw (k := 9) (ty0 := tyX4) dq_26 ln_26 rfl vc_4 inX4 tyX4_ok nmX4 (by decide) rfl rfl gw1_209 rfl rfl dX4_readData_69 e_69 (fun H locs hw => ?_)
    refine lv_iload hx hb dX4_readData_72 (lv_at hl 0 rfl) ?_
    refine lv_iconst (v := (5 : Int32)) hx hb dX4_readData_74 (by decide) ?_
    refine lv_icmp_ne (tgt := 91) hx hb dX4_readData_75 (by decide) (fun c_75 => ?_) (fun c_75 => ?_)
    · have hf := if_f hf c_75
      refine lv_iconst (v := (4 : Int32)) hx hb dX4_readData_91 (by decide) ?_
      exact r_iret C hw hr hlocks hf dX4_readData_92
    · have hf := if_t hf c_75
      refine lv_aload_n hx hb dX4_readData_78 rfl (lv_at hl 2 rfl) ?_
      refine lv_iload_n hx hb dX4_readData_79 rfl (lv_at hl 4 rfl) ?_
      obtain ⟨S_80, r_80, h_80, hf⟩ := bd_some hf
      refine r_bi hw (r_runV (rest := []) C hw (m_X0_at l D cA ad base fu u hu h_80) mvX0_at gw2_209 ⟨rfl, rfl, Nat.le_of_ble_eq_true rfl, Nat.le_of_ble_eq_true rfl⟩ hu.1 hu.2.1 vc_0 rfl hl.1 rfl (Nat.le_of_ble_eq_true rfl) dX4_readData_80 (Nat.zero_le _) (Nat.zero_le _)) (fun H locs hw => ?_)
      refine lv_iconst (v := (4 : Int32)) hx hb dX4_readData_83 (by decide) ?_
      refine lv_icmp_ne (tgt := 91) hx hb dX4_readData_84 (by decide) (fun c_84 => ?_) (fun c_84 => ?_)
      · have hf := if_f hf c_84
        refine lv_iconst (v := (4 : Int32)) hx hb dX4_readData_91 (by decide) ?_
        exact r_iret C hw hr hlocks hf dX4_readData_92
      · have hf := if_t hf c_84
        refine lv_iconst (v := (0 : Int32)) hx hb dX4_readData_87 (by decide) ?_
        refine lv_goto (tgt := 92) hx hb dX4_readData_88 (by decide) ?_
        exact r_iret C hw hr hlocks hf dX4_readData_92
  have hf := if_f hf c_7_2
  refine lv_lookup (tgt := 126) (off := 119) hx hb dX4_readData_7 (by decide) (lk_out3 c_7_0 c_7_1 c_7_2) (by decide) ?_
  refine lv_iconst (v := (0 : Int32)) hx hb dX4_readData_126 (by decide) ?_
  exact r_iret C hw hr hlocks hf dX4_readData_127
noncomputable def fX4_readRecord_146 (fu : Nat) (u : Nat) (x2 : Int32) (x4 : Int32) (x5 : Int32) (x7 : Int32) (S : St) : Option (St × Int32) :=
  bd (fX0_four fu u (x5 + (4 : Int32)) S) fun S_164 r_164 =>
  bd (fX5_add fu 30 x2 x4 x7 (S.1 26 9) r_164 S_164) fun S_167 _ =>
  some (S_167, (0 : Int32))
noncomputable def fX4_readRecord_106 (fu : Nat) (u : Nat) (x2 : Int32) (x4 : Int32) (x5 : Int32) (x7 : Int32) (x8 : Int32) (t0 : Int32) (S : St) : Option (St × Int32) :=
  if t0 = 0 then
    sI 26 8 x8 S fun S_116 =>
    bd (fX0_two fu u (x5 + (2 : Int32)) S_116) fun S_124 r_124 =>
    if r_124 = (1 : Int32) then
      bd (fX11_isKept fu x7 S_124) fun S_133 r_133 =>
      if r_133 = 0 then
        if x7 = (6 : Int32) then
          fX4_readRecord_146 fu u x2 x4 x5 x7 S_133
        else
          some (S_133, (0 : Int32))
      else
        fX4_readRecord_146 fu u x2 x4 x5 x7 S_133
    else
      some (S_124, (0 : Int32))
  else
    some (S, t0)
noncomputable def fX4_readRecord (fu : Nat) (u : Nat) (x2 : Int32) (S : St) : Option (St × Int32) :=
  bd (fX4_readName fu u S) fun S_2 r_2 =>
  if r_2 = 0 then
    bd (fX0_size fu u S_2) fun S_34 r_34 =>
    if ((S_2.1 26 8) + (10 : Int32)) ≤ r_34 then
      bd (fX0_two fu u (S_2.1 26 8) S_34) fun S_45 r_45 =>
      bd (fX0_two fu u ((S_2.1 26 8) + (8 : Int32)) S_45) fun S_58 r_58 =>
      bd (fX0_size fu u S_58) fun S_67 r_67 =>
      if (((S_2.1 26 8) + (10 : Int32)) + r_58) ≤ r_67 then
        bd (fX11_isNamed fu r_45 S_67) fun S_77 r_77 =>
        if r_77 = 0 then
          bd (fX4_readData fu u r_45 ((S_2.1 26 8) + (10 : Int32)) (((S_2.1 26 8) + (10 : Int32)) + r_58) S_77) fun S_103 r_103 =>
          fX4_readRecord_106 fu u x2 (S_2.1 26 9) (S_2.1 26 8) r_45 (((S_2.1 26 8) + (10 : Int32)) + r_58) r_103 S_103
        else
          bd (fX4_readDataName fu u ((S_2.1 26 8) + (10 : Int32)) (((S_2.1 26 8) + (10 : Int32)) + r_58) S_77) fun S_89 r_89 =>
          fX4_readRecord_106 fu u x2 (S_2.1 26 9) (S_2.1 26 8) r_45 (((S_2.1 26 8) + (10 : Int32)) + r_58) r_89 S_89
      else
        some (S_67, (3 : Int32))
    else
      some (S_34, (3 : Int32))
  else
    some (S_2, r_2)
theorem mvX4_readRecord : MV yX4_readRecord cX4_readRecord 9 (some .int) RX4 2 := ⟨gw3_9, gw3_8, gs_5, gw1_8, by decide +kernel⟩
def rmX4_readRecord : Room := { frames := 4, cells := 0, slots := 0, locals := 100 }
set_option maxHeartbeats 4000000 in
set_option maxRecDepth 100000 in
theorem m_X4_readRecord (l : Launch) (D : va_G) (cA : FieldType → ClassId) (ad : Nat → Nat) (base : Nat) (fu : Nat) (u : Nat) (hu : isBytes u) {S S' : St} {x2 : Int32} {r : Int32} (hf : fX4_readRecord fu u x2 S = some (S', r)) : Met l yX4_readRecord (GC yX4_readRecord cX4_readRecord 9 (some .int)) rmX4_readRecord (va_Pc [.ref (ad 26), .ref (ad u), .int x2] (wd D cA ad base S)) (QI D cA ad base S' r) 0 0 (aB base) := by
  refine Met.ofW (cc := cX4_readRecord) (maxL := 9) (ret := (some .int)) (by decide) rfl ?_
  intro p e s m args below meth c s₁ B hml hv
  obtain ⟨hargs, hwd⟩ := hv
  have hr := B.returns
  have hlocks := B.notSynchronized
  obtain ⟨C, hw⟩ := CX.of (own := RX4) rfl B hml hwd
  have hx := C.1
  have hb := C.2.1
  have hl := lv_entry ([.ref (ad 26), .ref (ad u), .int x2]) (n := 9) (Nat.le_of_ble_eq_true rfl)
  rw [show entryFrame m args 9 = entryFrame m ([.ref (ad 26), .ref (ad u), .int x2] : List Value).toArray 9 from by rw [hargs], lg_entry_eq]
  generalize (lg_sl ([.ref (ad 26), .ref (ad u), .int x2]) ++ List.replicate (9 - (lg_sl ([.ref (ad 26), .ref (ad u), .int x2])).length) Slot.unset).toArray = ls at hl ⊢
  have hl : lv_has ls 9 [(0, .ref (ad 26)), (1, .ref (ad u)), (2, .int x2)] := hl
  have J_146 : ∀ (x2 : Int32) (x4 : Int32) (x5 : Int32) (x7 : Int32) (S : St) (H : Heap) (locs : List Loc) (ls : Array Slot), fX4_readRecord_146 fu u x2 x4 x5 x7 S = some (S', r) → lv_has ls 9 [(0, .ref (ad 26)), (1, .ref (ad u)), (2, .int x2), (4, .int x4), (5, .int x5), (7, .int x7)] → WS D cA ad base s S H locs → W p l e rmX4_readRecord s m args below meth c H locs 0 0 (MQ below (QI D cA ad base S' r) args s 0 0 (aB base)) (F0 m 146 ls []) := by
    intro x2 x4 x5 x7 S H locs ls hf hl hw
    refine lv_aload_n hx hb dX4_readRecord_146 rfl (lv_at hl 0 rfl) ?_
    refine r_getR C hw (k := 2) (r := 30) dq_26 ln_26 rfl vc_4 inX4 (by decide) rfl gw1_202 dX4_readRecord_147 ?_
    refine lv_iload_n hx hb dX4_readRecord_150 rfl (lv_at hl 2 rfl) ?_
    refine lv_iload hx hb dX4_readRecord_151 (lv_at hl 3 rfl) ?_
    refine lv_iload hx hb dX4_readRecord_153 (lv_at hl 5 rfl) ?_
    refine lv_aload_n hx hb dX4_readRecord_155 rfl (lv_at hl 0 rfl) ?_
    refine r_getI C hw (k := 9) dq_26 ln_26 rfl vc_4 inX4 (by decide) rfl gw1_209 dX4_readRecord_156 ?_
    refine lv_aload_n hx hb dX4_readRecord_159 rfl (lv_at hl 1 rfl) ?_
    refine lv_iload hx hb dX4_readRecord_160 (lv_at hl 4 rfl) ?_
    refine lv_iconst (v := (4 : Int32)) hx hb dX4_readRecord_162 (by decide) ?_
    refine lv_iadd hx hb dX4_readRecord_163 ?_
    obtain ⟨S_164, r_164, h_164, hf⟩ := bd_some hf
    refine r_bi hw (r_runV (rest := [.int (S.1 26 9), .int x7, .int x4, .int x2, .ref (ad 30)]) C hw (m_X0_four l D cA ad base fu u hu h_164) mvX0_four gw3_21 ⟨rfl, rfl, Nat.le_of_ble_eq_true rfl, Nat.le_of_ble_eq_true rfl⟩ hu.1 hu.2.1 vc_0 rfl hl.1 rfl (Nat.le_of_ble_eq_true rfl) dX4_readRecord_164 (Nat.zero_le _) (Nat.zero_le _)) (fun H locs hw => ?_)
    obtain ⟨S_167, r_167, h_167, hf⟩ := bd_some hf
    refine r_bv hw (r_runV (rest := []) C hw (m_X5_add l D cA ad base fu 30 kRo_30 h_167) mvX5_add gw3_29 ⟨rfl, rfl, Nat.le_of_ble_eq_true rfl, Nat.le_of_ble_eq_true rfl⟩ dq_30 ln_30 vc_5 rfl hl.1 rfl (Nat.le_of_ble_eq_true rfl) dX4_readRecord_167 (Nat.zero_le _) (Nat.zero_le _)) (fun H locs hw => ?_)
    refine lv_iconst (v := (0 : Int32)) hx hb dX4_readRecord_170 (by decide) ?_
    exact r_iret C hw hr hlocks hf dX4_readRecord_171
  have J_106 : ∀ (x2 : Int32) (x4 : Int32) (x5 : Int32) (x7 : Int32) (x8 : Int32) (t0 : Int32) (S : St) (H : Heap) (locs : List Loc) (ls : Array Slot), fX4_readRecord_106 fu u x2 x4 x5 x7 x8 t0 S = some (S', r) → lv_has ls 9 [(0, .ref (ad 26)), (1, .ref (ad u)), (2, .int x2), (4, .int x4), (5, .int x5), (7, .int x7), (8, .int x8)] → WS D cA ad base s S H locs → W p l e rmX4_readRecord s m args below meth c H locs 0 0 (MQ below (QI D cA ad base S' r) args s 0 0 (aB base)) (F0 m 106 ls [.int t0]) := by
    intro x2 x4 x5 x7 x8 t0 S H locs ls hf hl hw
    refine lv_istore_n (lv' := [(3, .int t0), (0, .ref (ad 26)), (1, .ref (ad u)), (2, .int x2), (4, .int x4), (5, .int x5), (7, .int x7), (8, .int x8)]) hx hb dX4_readRecord_106 rfl hl (by decide) rfl (fun ls hl => ?_)
    refine lv_iload_n hx hb dX4_readRecord_107 rfl (lv_at hl 0 rfl) ?_
    refine lv_if_eq (tgt := 113) hx hb dX4_readRecord_108 (by decide) (fun c_108 => ?_) (fun c_108 => ?_)
    · have hf := if_t hf c_108
      refine lv_aload_n hx hb dX4_readRecord_113 rfl (lv_at hl 1 rfl) ?_
      refine lv_iload hx hb dX4_readRecord_114 (lv_at hl 7 rfl) ?_
      obtain ⟨S_116, e_116, hf⟩ := sI_some hf
      refine r_putI C hw (k := 8) (ty0 := tyX4) dq_26 ln_26 rfl vc_4 inX4 tyX4_ok nmX4 (by decide) rfl rfl gw1_208 rfl rfl dX4_readRecord_116 e_116 (fun H locs hw => ?_)
      refine lv_aload_n hx hb dX4_readRecord_119 rfl (lv_at hl 2 rfl) ?_
      refine lv_iload hx hb dX4_readRecord_120 (lv_at hl 5 rfl) ?_
      refine lv_iconst (v := (2 : Int32)) hx hb dX4_readRecord_122 (by decide) ?_
      refine lv_iadd hx hb dX4_readRecord_123 ?_
      obtain ⟨S_124, r_124, h_124, hf⟩ := bd_some hf
      refine r_bi hw (r_runV (rest := []) C hw (m_X0_two l D cA ad base fu u hu h_124) mvX0_two gw2_189 ⟨rfl, rfl, Nat.le_of_ble_eq_true rfl, Nat.le_of_ble_eq_true rfl⟩ hu.1 hu.2.1 vc_0 rfl hl.1 rfl (Nat.le_of_ble_eq_true rfl) dX4_readRecord_124 (Nat.zero_le _) (Nat.zero_le _)) (fun H locs hw => ?_)
      refine lv_iconst (v := (1 : Int32)) hx hb dX4_readRecord_127 (by decide) ?_
      refine lv_icmp_ne (tgt := 170) hx hb dX4_readRecord_128 (by decide) (fun c_128 => ?_) (fun c_128 => ?_)
      · have hf := if_f hf c_128
        refine lv_iconst (v := (0 : Int32)) hx hb dX4_readRecord_170 (by decide) ?_
        exact r_iret C hw hr hlocks hf dX4_readRecord_171
      · have hf := if_t hf c_128
        refine lv_iload hx hb dX4_readRecord_131 (lv_at hl 6 rfl) ?_
        obtain ⟨S_133, r_133, h_133, hf⟩ := bd_some hf
        refine r_bi hw (r_runSN (rest := []) C hw (m_X11_isKept l D cA ad base fu h_133) msX11_isKept C.2.2.2.2.2.2.2.2.1 ⟨rfl, rfl, Nat.le_of_ble_eq_true rfl, Nat.le_of_ble_eq_true rfl⟩ rfl hl.1 rfl (Nat.le_of_ble_eq_true rfl) dX4_readRecord_133 (Nat.zero_le _) (Nat.zero_le _)) (fun H locs hw => ?_)
        refine lv_if_ne (tgt := 146) hx hb dX4_readRecord_136 (by decide) (fun c_136 => ?_) (fun c_136 => ?_)
        · have hf := if_f hf c_136
          exact J_146 _ _ _ _ _ _ _ _ hf (lv_sub hl [1, 2, 3, 4, 5, 6] rfl) hw
        · have hf := if_t hf c_136
          refine lv_iload hx hb dX4_readRecord_139 (lv_at hl 6 rfl) ?_
          refine lv_bipush (v := (6 : Int32)) hx hb dX4_readRecord_141 (by decide) ?_
          refine lv_icmp_ne (tgt := 170) hx hb dX4_readRecord_143 (by decide) (fun c_143 => ?_) (fun c_143 => ?_)
          · have hf := if_f hf c_143
            refine lv_iconst (v := (0 : Int32)) hx hb dX4_readRecord_170 (by decide) ?_
            exact r_iret C hw hr hlocks hf dX4_readRecord_171
          · have hf := if_t hf c_143
            exact J_146 _ _ _ _ _ _ _ _ hf (lv_sub hl [1, 2, 3, 4, 5, 6] rfl) hw
    · have hf := if_f hf c_108
      refine lv_iload_n hx hb dX4_readRecord_111 rfl (lv_at hl 0 rfl) ?_
      exact r_iret C hw hr hlocks hf dX4_readRecord_112
  show W p l e rmX4_readRecord s m args below meth c s.heap [] 0 0 _ _
  refine lv_aload_n hx hb dX4_readRecord_0 rfl (lv_at hl 0 rfl) ?_
  refine lv_aload_n hx hb dX4_readRecord_1 rfl (lv_at hl 1 rfl) ?_
  obtain ⟨S_2, r_2, h_2, hf⟩ := bd_some hf
  refine r_bi hw (r_runV (rest := []) C hw (m_X4_readName l D cA ad base fu u hu h_2) mvX4_readName gw2_201 ⟨rfl, rfl, Nat.le_of_ble_eq_true rfl, Nat.le_of_ble_eq_true rfl⟩ dq_26 ln_26 vc_4 rfl hl.1 rfl (Nat.le_of_ble_eq_true rfl) dX4_readRecord_2 (Nat.zero_le _) (Nat.zero_le _)) (fun H locs hw => ?_)
  refine lv_istore_n (lv' := [(3, .int r_2), (0, .ref (ad 26)), (1, .ref (ad u)), (2, .int x2)]) hx hb dX4_readRecord_5 rfl hl (by decide) rfl (fun ls hl => ?_)
  refine lv_iload_n hx hb dX4_readRecord_6 rfl (lv_at hl 0 rfl) ?_
  refine lv_if_eq (tgt := 12) hx hb dX4_readRecord_7 (by decide) (fun c_7 => ?_) (fun c_7 => ?_)
  · have hf := if_t hf c_7
    refine lv_aload_n hx hb dX4_readRecord_12 rfl (lv_at hl 1 rfl) ?_
    refine r_getI C hw (k := 9) dq_26 ln_26 rfl vc_4 inX4 (by decide) rfl gw1_209 dX4_readRecord_13 ?_
    refine lv_istore (lv' := [(4, .int (S_2.1 26 9)), (3, .int r_2), (0, .ref (ad 26)), (1, .ref (ad u)), (2, .int x2)]) hx hb dX4_readRecord_16 hl (by decide) rfl (fun ls hl => ?_)
    refine lv_aload_n hx hb dX4_readRecord_18 rfl (lv_at hl 2 rfl) ?_
    refine r_getI C hw (k := 8) dq_26 ln_26 rfl vc_4 inX4 (by decide) rfl gw1_208 dX4_readRecord_19 ?_
    refine lv_istore (lv' := [(5, .int (S_2.1 26 8)), (4, .int (S_2.1 26 9)), (3, .int r_2), (0, .ref (ad 26)), (1, .ref (ad u)), (2, .int x2)]) hx hb dX4_readRecord_22 hl (by decide) rfl (fun ls hl => ?_)
    refine lv_iload hx hb dX4_readRecord_24 (lv_at hl 0 rfl) ?_
    refine lv_bipush (v := (10 : Int32)) hx hb dX4_readRecord_26 (by decide) ?_
    refine lv_iadd hx hb dX4_readRecord_28 ?_
    refine lv_istore (lv' := [(6, .int ((S_2.1 26 8) + (10 : Int32))), (5, .int (S_2.1 26 8)), (4, .int (S_2.1 26 9)), (3, .int r_2), (0, .ref (ad 26)), (1, .ref (ad u)), (2, .int x2)]) hx hb dX4_readRecord_29 hl (by decide) rfl (fun ls hl => ?_)
    refine lv_iload hx hb dX4_readRecord_31 (lv_at hl 0 rfl) ?_
    refine lv_aload_n hx hb dX4_readRecord_33 rfl (lv_at hl 5 rfl) ?_
    obtain ⟨S_34, r_34, h_34, hf⟩ := bd_some hf
    refine r_bi hw (r_runV (rest := [.int ((S_2.1 26 8) + (10 : Int32))]) C hw (m_X0_size l D cA ad base fu u hu h_34) mvX0_size gw2_188 ⟨rfl, rfl, Nat.le_of_ble_eq_true rfl, Nat.le_of_ble_eq_true rfl⟩ hu.1 hu.2.1 vc_0 rfl hl.1 rfl (Nat.le_of_ble_eq_true rfl) dX4_readRecord_34 (Nat.zero_le _) (Nat.zero_le _)) (fun H locs hw => ?_)
    refine lv_icmp_le (tgt := 42) hx hb dX4_readRecord_37 (by decide) (fun c_37 => ?_) (fun c_37 => ?_)
    · have hf := if_t hf c_37
      refine lv_aload_n hx hb dX4_readRecord_42 rfl (lv_at hl 5 rfl) ?_
      refine lv_iload hx hb dX4_readRecord_43 (lv_at hl 1 rfl) ?_
      obtain ⟨S_45, r_45, h_45, hf⟩ := bd_some hf
      refine r_bi hw (r_runV (rest := []) C hw (m_X0_two l D cA ad base fu u hu h_45) mvX0_two gw2_189 ⟨rfl, rfl, Nat.le_of_ble_eq_true rfl, Nat.le_of_ble_eq_true rfl⟩ hu.1 hu.2.1 vc_0 rfl hl.1 rfl (Nat.le_of_ble_eq_true rfl) dX4_readRecord_45 (Nat.zero_le _) (Nat.zero_le _)) (fun H locs hw => ?_)
      refine lv_istore (lv' := [(7, .int r_45), (6, .int ((S_2.1 26 8) + (10 : Int32))), (5, .int (S_2.1 26 8)), (4, .int (S_2.1 26 9)), (3, .int r_2), (0, .ref (ad 26)), (1, .ref (ad u)), (2, .int x2)]) hx hb dX4_readRecord_48 hl (by decide) rfl (fun ls hl => ?_)
      refine lv_iload hx hb dX4_readRecord_50 (lv_at hl 1 rfl) ?_
      refine lv_aload_n hx hb dX4_readRecord_52 rfl (lv_at hl 6 rfl) ?_
      refine lv_iload hx hb dX4_readRecord_53 (lv_at hl 2 rfl) ?_
      refine lv_bipush (v := (8 : Int32)) hx hb dX4_readRecord_55 (by decide) ?_
      refine lv_iadd hx hb dX4_readRecord_57 ?_
      obtain ⟨S_58, r_58, h_58, hf⟩ := bd_some hf
      refine r_bi hw (r_runV (rest := [.int ((S_2.1 26 8) + (10 : Int32))]) C hw (m_X0_two l D cA ad base fu u hu h_58) mvX0_two gw2_189 ⟨rfl, rfl, Nat.le_of_ble_eq_true rfl, Nat.le_of_ble_eq_true rfl⟩ hu.1 hu.2.1 vc_0 rfl hl.1 rfl (Nat.le_of_ble_eq_true rfl) dX4_readRecord_58 (Nat.zero_le _) (Nat.zero_le _)) (fun H locs hw => ?_)
      refine lv_iadd hx hb dX4_readRecord_61 ?_
      refine lv_istore (lv' := [(8, .int (((S_2.1 26 8) + (10 : Int32)) + r_58)), (7, .int r_45), (6, .int ((S_2.1 26 8) + (10 : Int32))), (5, .int (S_2.1 26 8)), (4, .int (S_2.1 26 9)), (3, .int r_2), (0, .ref (ad 26)), (1, .ref (ad u)), (2, .int x2)]) hx hb dX4_readRecord_62 hl (by decide) rfl (fun ls hl => ?_)
      refine lv_iload hx hb dX4_readRecord_64 (lv_at hl 0 rfl) ?_
      refine lv_aload_n hx hb dX4_readRecord_66 rfl (lv_at hl 7 rfl) ?_
      obtain ⟨S_67, r_67, h_67, hf⟩ := bd_some hf
      refine r_bi hw (r_runV (rest := [.int (((S_2.1 26 8) + (10 : Int32)) + r_58)]) C hw (m_X0_size l D cA ad base fu u hu h_67) mvX0_size gw2_188 ⟨rfl, rfl, Nat.le_of_ble_eq_true rfl, Nat.le_of_ble_eq_true rfl⟩ hu.1 hu.2.1 vc_0 rfl hl.1 rfl (Nat.le_of_ble_eq_true rfl) dX4_readRecord_67 (Nat.zero_le _) (Nat.zero_le _)) (fun H locs hw => ?_)
      refine lv_icmp_le (tgt := 75) hx hb dX4_readRecord_70 (by decide) (fun c_70 => ?_) (fun c_70 => ?_)
      · have hf := if_t hf c_70
        refine lv_iload hx hb dX4_readRecord_75 (lv_at hl 1 rfl) ?_
        obtain ⟨S_77, r_77, h_77, hf⟩ := bd_some hf
        refine r_bi hw (r_runSN (rest := []) C hw (m_X11_isNamed l D cA ad base fu h_77) msX11_isNamed C.2.2.2.2.2.2.2.1 ⟨rfl, rfl, Nat.le_of_ble_eq_true rfl, Nat.le_of_ble_eq_true rfl⟩ rfl hl.1 rfl (Nat.le_of_ble_eq_true rfl) dX4_readRecord_77 (Nat.zero_le _) (Nat.zero_le _)) (fun H locs hw => ?_)
        refine lv_if_eq (tgt := 95) hx hb dX4_readRecord_80 (by decide) (fun c_80 => ?_) (fun c_80 => ?_)
        · have hf := if_t hf c_80
          refine lv_aload_n hx hb dX4_readRecord_95 rfl (lv_at hl 6 rfl) ?_
          refine lv_aload_n hx hb dX4_readRecord_96 rfl (lv_at hl 7 rfl) ?_
          refine lv_iload hx hb dX4_readRecord_97 (lv_at hl 1 rfl) ?_
          refine lv_iload hx hb dX4_readRecord_99 (lv_at hl 2 rfl) ?_
          refine lv_iload hx hb dX4_readRecord_101 (lv_at hl 0 rfl) ?_
          obtain ⟨S_103, r_103, h_103, hf⟩ := bd_some hf
          refine r_bi hw (r_runV (rest := []) C hw (m_X4_readData l D cA ad base fu u hu h_103) mvX4_readData gw3_17 ⟨rfl, rfl, Nat.le_of_ble_eq_true rfl, Nat.le_of_ble_eq_true rfl⟩ dq_26 ln_26 vc_4 rfl hl.1 rfl (Nat.le_of_ble_eq_true rfl) dX4_readRecord_103 (Nat.zero_le _) (Nat.zero_le _)) (fun H locs hw => ?_)
          exact J_106 _ _ _ _ _ _ _ _ _ _ hf (lv_sub hl [6, 7, 8, 4, 3, 1, 0] rfl) hw
        · have hf := if_f hf c_80
          refine lv_aload_n hx hb dX4_readRecord_83 rfl (lv_at hl 6 rfl) ?_
          refine lv_aload_n hx hb dX4_readRecord_84 rfl (lv_at hl 7 rfl) ?_
          refine lv_iload hx hb dX4_readRecord_85 (lv_at hl 2 rfl) ?_
          refine lv_iload hx hb dX4_readRecord_87 (lv_at hl 0 rfl) ?_
          obtain ⟨S_89, r_89, h_89, hf⟩ := bd_some hf
          refine r_bi hw (r_runV (rest := []) C hw (m_X4_readDataName l D cA ad base fu u hu h_89) mvX4_readDataName gw3_13 ⟨rfl, rfl, Nat.le_of_ble_eq_true rfl, Nat.le_of_ble_eq_true rfl⟩ dq_26 ln_26 vc_4 rfl hl.1 rfl (Nat.le_of_ble_eq_true rfl) dX4_readRecord_89 (Nat.zero_le _) (Nat.zero_le _)) (fun H locs hw => ?_)
          refine lv_goto (tgt := 106) hx hb dX4_readRecord_92 (by decide) ?_
          exact J_106 _ _ _ _ _ _ _ _ _ _ hf (lv_sub hl [6, 7, 8, 4, 3, 1, 0] rfl) hw
      · have hf := if_f hf c_70
        refine lv_iconst (v := (3 : Int32)) hx hb dX4_readRecord_73 (by decide) ?_
        exact r_iret C hw hr hlocks hf dX4_readRecord_74
    · have hf := if_f hf c_37
      refine lv_iconst (v := (3 : Int32)) hx hb dX4_readRecord_40 (by decide) ?_
      exact r_iret C hw hr hlocks hf dX4_readRecord_41
  · have hf := if_f hf c_7
    refine lv_iload_n hx hb dX4_readRecord_10 rfl (lv_at hl 0 rfl) ?_
    exact r_iret C hw hr hlocks hf dX4_readRecord_11
noncomputable def fX4_read_103 (fu : Nat) (u : Nat) (k_59 : Int32 → Int32 → St → Option (St × Int32)) (x2 : Int32) (x3 : Int32) (S : St) : Option (St × Int32) :=
  k_59 x2 (x3 + (1 : Int32)) S
noncomputable def fX4_read_79 (fu : Nat) (u : Nat) (k_59 : Int32 → Int32 → St → Option (St × Int32)) (n : Nat) : Int32 → Int32 → Int32 → Int32 → St → Option (St × Int32) :=
  Nat.rec (motive := fun _ => Int32 → Int32 → Int32 → Int32 → St → Option (St × Int32)) (fun _ _ _ _ _ => none) (fun _ k_79 x2 x3 x4 x5 S =>
    if x4 ≤ x5 then
      fX4_read_103 fu u k_59 x2 x3 S
    else
      if x2 = 0 then
        bd (fX4_readRecord fu u x3 S) fun S_93 r_93 =>
        k_79 r_93 x3 x4 (x5 + (1 : Int32)) S_93
      else
        fX4_read_103 fu u k_59 x2 x3 S) n
theorem fX4_read_79_s (fu : Nat) (u : Nat) (k_59 : Int32 → Int32 → St → Option (St × Int32)) (n : Nat) (x2 : Int32) (x3 : Int32) (x4 : Int32) (x5 : Int32) (S : St) : fX4_read_79 fu u k_59 (n + 1) x2 x3 x4 x5 S = (
    if x4 ≤ x5 then
      fX4_read_103 fu u k_59 x2 x3 S
    else
      if x2 = 0 then
        bd (fX4_readRecord fu u x3 S) fun S_93 r_93 =>
        (fX4_read_79 fu u k_59 n) r_93 x3 x4 (x5 + (1 : Int32)) S_93
      else
        fX4_read_103 fu u k_59 x2 x3 S) := rfl
noncomputable def fX4_read_59 (fu : Nat) (u : Nat) (n : Nat) : Int32 → Int32 → St → Option (St × Int32) :=
  Nat.rec (motive := fun _ => Int32 → Int32 → St → Option (St × Int32)) (fun _ _ _ => none) (fun _ k_59 x2 x3 S =>
    if (3 : Int32) ≤ x3 then
      if x2 = 0 then
        bd (fX0_size fu u S) fun S_118 r_118 =>
        if r_118 ≤ (S.1 26 8) then
          some (S_118, x2)
        else
          some (S_118, (5 : Int32))
      else
        some (S, x2)
    else
      bd (fX0_two fu u ((6 : Int32) + ((2 : Int32) * x3)) S) fun S_71 r_71 =>
      fX4_read_79 fu u k_59 fu x2 x3 r_71 (0 : Int32) S_71) n
theorem fX4_read_59_s (fu : Nat) (u : Nat) (n : Nat) (x2 : Int32) (x3 : Int32) (S : St) : fX4_read_59 fu u (n + 1) x2 x3 S = (
    if (3 : Int32) ≤ x3 then
      if x2 = 0 then
        bd (fX0_size fu u S) fun S_118 r_118 =>
        if r_118 ≤ (S.1 26 8) then
          some (S_118, x2)
        else
          some (S_118, (5 : Int32))
      else
        some (S, x2)
    else
      bd (fX0_two fu u ((6 : Int32) + ((2 : Int32) * x3)) S) fun S_71 r_71 =>
      fX4_read_79 fu u (fX4_read_59 fu u n) fu x2 x3 r_71 (0 : Int32) S_71) := rfl
noncomputable def fX4_read (fu : Nat) (u : Nat) (S : St) : Option (St × Int32) :=
  bd (fX5_clear fu 30 S) fun S_4 _ =>
  bd (fX0_size fu u S_4) fun S_8 r_8 =>
  if r_8 < (12 : Int32) then
    some (S_8, (1 : Int32))
  else
    bd (fX0_two fu u (4 : Int32) S_8) fun S_18 r_18 =>
    if r_18 = (1 : Int32) then
      bd (fX0_two fu u (0 : Int32) S_18) fun S_30 r_30 =>
      sI 26 3 r_30 S_30 fun S_33 =>
      bd (fX0_two fu u (2 : Int32) S_33) fun S_39 r_39 =>
      sI 26 4 r_39 S_39 fun S_42 =>
      sI 26 8 (12 : Int32) S_42 fun S_48 =>
      bd (fX4_readQuestion fu u S_48) fun S_53 r_53 =>
      fX4_read_59 fu u fu r_53 (0 : Int32) S_53
    else
      some (S_18, (1 : Int32))
theorem mvX4_read : MV yX4_read cX4_read 6 (some .int) RX4 1 := ⟨gw2_183, gw2_181, gw2_182, gw1_8, by decide +kernel⟩
def rmX4_read : Room := { frames := 5, cells := 0, slots := 0, locals := 128 }
set_option maxHeartbeats 4000000 in
set_option maxRecDepth 100000 in
theorem m_X4_read (l : Launch) (D : va_G) (cA : FieldType → ClassId) (ad : Nat → Nat) (base : Nat) (fu : Nat) (u : Nat) (hu : isBytes u) {S S' : St} {r : Int32} (hf : fX4_read fu u S = some (S', r)) : Met l yX4_read (GC yX4_read cX4_read 6 (some .int)) rmX4_read (va_Pc [.ref (ad 26), .ref (ad u)] (wd D cA ad base S)) (QI D cA ad base S' r) 0 0 (aB base) := by
  refine Met.ofW (cc := cX4_read) (maxL := 6) (ret := (some .int)) (by decide) rfl ?_
  intro p e s m args below meth c s₁ B hml hv
  obtain ⟨hargs, hwd⟩ := hv
  have hr := B.returns
  have hlocks := B.notSynchronized
  obtain ⟨C, hw⟩ := CX.of (own := RX4) rfl B hml hwd
  have hx := C.1
  have hb := C.2.1
  have hl := lv_entry ([.ref (ad 26), .ref (ad u)]) (n := 6) (Nat.le_of_ble_eq_true rfl)
  rw [show entryFrame m args 6 = entryFrame m ([.ref (ad 26), .ref (ad u)] : List Value).toArray 6 from by rw [hargs], lg_entry_eq]
  generalize (lg_sl ([.ref (ad 26), .ref (ad u)]) ++ List.replicate (6 - (lg_sl ([.ref (ad 26), .ref (ad u)])).length) Slot.unset).toArray = ls at hl ⊢
  have hl : lv_has ls 6 [(0, .ref (ad 26)), (1, .ref (ad u))] := hl
  have L_59 : ∀ (n_59 : Nat) (x2 : Int32) (x3 : Int32) (S : St) (H : Heap) (locs : List Loc) (ls : Array Slot), fX4_read_59 fu u n_59 x2 x3 S = some (S', r) → lv_has ls 6 [(0, .ref (ad 26)), (1, .ref (ad u)), (2, .int x2), (3, .int x3)] → WS D cA ad base s S H locs → W p l e rmX4_read s m args below meth c H locs 0 0 (MQ below (QI D cA ad base S' r) args s 0 0 (aB base)) (F0 m 59 ls []) := by
    intro n_59
    induction n_59 with
    | zero =>
      intro x2 x3 S H locs ls hf hl hw
      exact (no_none hf).elim
    | succ n_59 ih_59 =>
      have J_103 : ∀ (x2 : Int32) (x3 : Int32) (S : St) (H : Heap) (locs : List Loc) (ls : Array Slot), fX4_read_103 fu u (fX4_read_59 fu u n_59) x2 x3 S = some (S', r) → lv_has ls 6 [(0, .ref (ad 26)), (1, .ref (ad u)), (2, .int x2), (3, .int x3)] → WS D cA ad base s S H locs → W p l e rmX4_read s m args below meth c H locs 0 0 (MQ below (QI D cA ad base S' r) args s 0 0 (aB base)) (F0 m 103 ls []) := by
        intro x2 x3 S H locs ls hf hl hw
        refine lv_iinc (v := (x3 + (1 : Int32))) (lv' := [(3, .int (x3 + (1 : Int32))), (0, .ref (ad 26)), (1, .ref (ad u)), (2, .int x2)]) hx hb dX4_read_103 hl (k := 3) rfl rfl (by decide) rfl (fun ls hl => ?_)
        refine lv_goto (tgt := 59) hx hb dX4_read_106 (by decide) ?_
        exact ih_59 _ _ _ _ _ _ hf (lv_sub hl [1, 2, 3, 0] rfl) hw
      have L_79 : ∀ (n_79 : Nat) (x2 : Int32) (x3 : Int32) (x4 : Int32) (x5 : Int32) (S : St) (H : Heap) (locs : List Loc) (ls : Array Slot), fX4_read_79 fu u (fX4_read_59 fu u n_59) n_79 x2 x3 x4 x5 S = some (S', r) → lv_has ls 6 [(0, .ref (ad 26)), (1, .ref (ad u)), (2, .int x2), (3, .int x3), (4, .int x4), (5, .int x5)] → WS D cA ad base s S H locs → W p l e rmX4_read s m args below meth c H locs 0 0 (MQ below (QI D cA ad base S' r) args s 0 0 (aB base)) (F0 m 79 ls []) := by
        intro n_79
        induction n_79 with
        | zero =>
          intro x2 x3 x4 x5 S H locs ls hf hl hw
          exact (no_none hf).elim
        | succ n_79 ih_79 =>
          intro x2 x3 x4 x5 S H locs ls hf hl hw
          rw [fX4_read_79_s] at hf
          refine lv_iload hx hb dX4_read_79 (lv_at hl 5 rfl) ?_
          refine lv_iload hx hb dX4_read_81 (lv_at hl 4 rfl) ?_
          refine lv_icmp_ge (tgt := 103) hx hb dX4_read_83 (by decide) (fun c_83 => ?_) (fun c_83 => ?_)
          · have hf := if_t hf c_83
            exact J_103 _ _ _ _ _ _ hf (lv_sub hl [0, 1, 2, 3] rfl) hw
          · have hf := if_f hf c_83
            refine lv_iload_n hx hb dX4_read_86 rfl (lv_at hl 2 rfl) ?_
            refine lv_if_ne (tgt := 103) hx hb dX4_read_87 (by decide) (fun c_87 => ?_) (fun c_87 => ?_)
            · have hf := if_f hf c_87
              exact J_103 _ _ _ _ _ _ hf (lv_sub hl [0, 1, 2, 3] rfl) hw
            · have hf := if_t hf c_87
              refine lv_aload_n hx hb dX4_read_90 rfl (lv_at hl 0 rfl) ?_
              refine lv_aload_n hx hb dX4_read_91 rfl (lv_at hl 1 rfl) ?_
              refine lv_iload_n hx hb dX4_read_92 rfl (lv_at hl 3 rfl) ?_
              obtain ⟨S_93, r_93, h_93, hf⟩ := bd_some hf
              refine r_bi hw (r_runV (rest := []) C hw (m_X4_readRecord l D cA ad base fu u hu h_93) mvX4_readRecord gw3_6 ⟨rfl, rfl, Nat.le_of_ble_eq_true rfl, Nat.le_of_ble_eq_true rfl⟩ dq_26 ln_26 vc_4 rfl hl.1 rfl (Nat.le_of_ble_eq_true rfl) dX4_read_93 (Nat.zero_le _) (Nat.zero_le _)) (fun H locs hw => ?_)
              refine lv_istore_n (lv' := [(2, .int r_93), (0, .ref (ad 26)), (1, .ref (ad u)), (3, .int x3), (4, .int x4), (5, .int x5)]) hx hb dX4_read_96 rfl hl (by decide) rfl (fun ls hl => ?_)
              refine lv_iinc (v := (x5 + (1 : Int32))) (lv' := [(5, .int (x5 + (1 : Int32))), (2, .int r_93), (0, .ref (ad 26)), (1, .ref (ad u)), (3, .int x3), (4, .int x4)]) hx hb dX4_read_97 hl (k := 5) rfl rfl (by decide) rfl (fun ls hl => ?_)
              refine lv_goto (tgt := 79) hx hb dX4_read_100 (by decide) ?_
              exact ih_79 _ _ _ _ _ _ _ _ hf (lv_sub hl [2, 3, 1, 4, 5, 0] rfl) hw
      intro x2 x3 S H locs ls hf hl hw
      rw [fX4_read_59_s] at hf
      refine lv_iload_n hx hb dX4_read_59 rfl (lv_at hl 3 rfl) ?_
      refine lv_iconst (v := (3 : Int32)) hx hb dX4_read_60 (by decide) ?_
      refine lv_icmp_ge (tgt := 109) hx hb dX4_read_61 (by decide) (fun c_61 => ?_) (fun c_61 => ?_)
      · have hf := if_t hf c_61
        refine lv_iload_n hx hb dX4_read_109 rfl (lv_at hl 2 rfl) ?_
        refine lv_if_ne (tgt := 126) hx hb dX4_read_110 (by decide) (fun c_110 => ?_) (fun c_110 => ?_)
        · have hf := if_f hf c_110
          refine lv_iload_n hx hb dX4_read_126 rfl (lv_at hl 2 rfl) ?_
          exact r_iret C hw hr hlocks hf dX4_read_127
        · have hf := if_t hf c_110
          refine lv_aload_n hx hb dX4_read_113 rfl (lv_at hl 0 rfl) ?_
          refine r_getI C hw (k := 8) dq_26 ln_26 rfl vc_4 inX4 (by decide) rfl gw1_208 dX4_read_114 ?_
          refine lv_aload_n hx hb dX4_read_117 rfl (lv_at hl 1 rfl) ?_
          obtain ⟨S_118, r_118, h_118, hf⟩ := bd_some hf
          refine r_bi hw (r_runV (rest := [.int (S.1 26 8)]) C hw (m_X0_size l D cA ad base fu u hu h_118) mvX0_size gw2_188 ⟨rfl, rfl, Nat.le_of_ble_eq_true rfl, Nat.le_of_ble_eq_true rfl⟩ hu.1 hu.2.1 vc_0 rfl hl.1 rfl (Nat.le_of_ble_eq_true rfl) dX4_read_118 (Nat.zero_le _) (Nat.zero_le _)) (fun H locs hw => ?_)
          refine lv_icmp_ge (tgt := 126) hx hb dX4_read_121 (by decide) (fun c_121 => ?_) (fun c_121 => ?_)
          · have hf := if_t hf c_121
            refine lv_iload_n hx hb dX4_read_126 rfl (lv_at hl 2 rfl) ?_
            exact r_iret C hw hr hlocks hf dX4_read_127
          · have hf := if_f hf c_121
            refine lv_iconst (v := (5 : Int32)) hx hb dX4_read_124 (by decide) ?_
            exact r_iret C hw hr hlocks hf dX4_read_125
      · have hf := if_f hf c_61
        refine lv_aload_n hx hb dX4_read_64 rfl (lv_at hl 1 rfl) ?_
        refine lv_bipush (v := (6 : Int32)) hx hb dX4_read_65 (by decide) ?_
        refine lv_iconst (v := (2 : Int32)) hx hb dX4_read_67 (by decide) ?_
        refine lv_iload_n hx hb dX4_read_68 rfl (lv_at hl 3 rfl) ?_
        refine lv_imul hx hb dX4_read_69 ?_
        refine lv_iadd hx hb dX4_read_70 ?_
        obtain ⟨S_71, r_71, h_71, hf⟩ := bd_some hf
        refine r_bi hw (r_runV (rest := []) C hw (m_X0_two l D cA ad base fu u hu h_71) mvX0_two gw2_189 ⟨rfl, rfl, Nat.le_of_ble_eq_true rfl, Nat.le_of_ble_eq_true rfl⟩ hu.1 hu.2.1 vc_0 rfl hl.1 rfl (Nat.le_of_ble_eq_true rfl) dX4_read_71 (Nat.zero_le _) (Nat.zero_le _)) (fun H locs hw => ?_)
        refine lv_istore (lv' := [(4, .int r_71), (0, .ref (ad 26)), (1, .ref (ad u)), (2, .int x2), (3, .int x3)]) hx hb dX4_read_74 hl (by decide) rfl (fun ls hl => ?_)
        refine lv_iconst (v := (0 : Int32)) hx hb dX4_read_76 (by decide) ?_
        refine lv_istore (lv' := [(5, .int (0 : Int32)), (4, .int r_71), (0, .ref (ad 26)), (1, .ref (ad u)), (2, .int x2), (3, .int x3)]) hx hb dX4_read_77 hl (by decide) rfl (fun ls hl => ?_)
        exact L_79 fu _ _ _ _ _ _ _ _ hf (lv_sub hl [2, 3, 4, 5, 1, 0] rfl) hw
  show W p l e rmX4_read s m args below meth c s.heap [] 0 0 _ _
  refine lv_aload_n hx hb dX4_read_0 rfl (lv_at hl 0 rfl) ?_
  refine r_getR C hw (k := 2) (r := 30) dq_26 ln_26 rfl vc_4 inX4 (by decide) rfl gw1_202 dX4_read_1 ?_
  obtain ⟨S_4, r_4, h_4, hf⟩ := bd_some hf
  refine r_bv hw (r_runV (rest := []) C hw (m_X5_clear l D cA ad base fu 30 kRo_30 h_4) mvX5_clear gw2_184 ⟨rfl, rfl, Nat.le_of_ble_eq_true rfl, Nat.le_of_ble_eq_true rfl⟩ dq_30 ln_30 vc_5 rfl hl.1 rfl (Nat.le_of_ble_eq_true rfl) dX4_read_4 (Nat.zero_le _) (Nat.zero_le _)) (fun H locs hw => ?_)
  refine lv_aload_n hx hb dX4_read_7 rfl (lv_at hl 1 rfl) ?_
  obtain ⟨S_8, r_8, h_8, hf⟩ := bd_some hf
  refine r_bi hw (r_runV (rest := []) C hw (m_X0_size l D cA ad base fu u hu h_8) mvX0_size gw2_188 ⟨rfl, rfl, Nat.le_of_ble_eq_true rfl, Nat.le_of_ble_eq_true rfl⟩ hu.1 hu.2.1 vc_0 rfl hl.1 rfl (Nat.le_of_ble_eq_true rfl) dX4_read_8 (Nat.zero_le _) (Nat.zero_le _)) (fun H locs hw => ?_)
  refine lv_bipush (v := (12 : Int32)) hx hb dX4_read_11 (by decide) ?_
  refine lv_icmp_lt (tgt := 25) hx hb dX4_read_13 (by decide) (fun c_13 => ?_) (fun c_13 => ?_)
  · have hf := if_t hf c_13
    refine lv_iconst (v := (1 : Int32)) hx hb dX4_read_25 (by decide) ?_
    exact r_iret C hw hr hlocks hf dX4_read_26
  · have hf := if_f hf c_13
    refine lv_aload_n hx hb dX4_read_16 rfl (lv_at hl 1 rfl) ?_
    refine lv_iconst (v := (4 : Int32)) hx hb dX4_read_17 (by decide) ?_
    obtain ⟨S_18, r_18, h_18, hf⟩ := bd_some hf
    refine r_bi hw (r_runV (rest := []) C hw (m_X0_two l D cA ad base fu u hu h_18) mvX0_two gw2_189 ⟨rfl, rfl, Nat.le_of_ble_eq_true rfl, Nat.le_of_ble_eq_true rfl⟩ hu.1 hu.2.1 vc_0 rfl hl.1 rfl (Nat.le_of_ble_eq_true rfl) dX4_read_18 (Nat.zero_le _) (Nat.zero_le _)) (fun H locs hw => ?_)
    refine lv_iconst (v := (1 : Int32)) hx hb dX4_read_21 (by decide) ?_
    refine lv_icmp_eq (tgt := 27) hx hb dX4_read_22 (by decide) (fun c_22 => ?_) (fun c_22 => ?_)
    · have hf := if_t hf c_22
      refine lv_aload_n hx hb dX4_read_27 rfl (lv_at hl 0 rfl) ?_
      refine lv_aload_n hx hb dX4_read_28 rfl (lv_at hl 1 rfl) ?_
      refine lv_iconst (v := (0 : Int32)) hx hb dX4_read_29 (by decide) ?_
      obtain ⟨S_30, r_30, h_30, hf⟩ := bd_some hf
      refine r_bi hw (r_runV (rest := [.ref (ad 26)]) C hw (m_X0_two l D cA ad base fu u hu h_30) mvX0_two gw2_189 ⟨rfl, rfl, Nat.le_of_ble_eq_true rfl, Nat.le_of_ble_eq_true rfl⟩ hu.1 hu.2.1 vc_0 rfl hl.1 rfl (Nat.le_of_ble_eq_true rfl) dX4_read_30 (Nat.zero_le _) (Nat.zero_le _)) (fun H locs hw => ?_)
      obtain ⟨S_33, e_33, hf⟩ := sI_some hf
      refine r_putI C hw (k := 3) (ty0 := tyX4) dq_26 ln_26 rfl vc_4 inX4 tyX4_ok nmX4 (by decide) rfl rfl gw1_203 rfl rfl dX4_read_33 e_33 (fun H locs hw => ?_)
      refine lv_aload_n hx hb dX4_read_36 rfl (lv_at hl 0 rfl) ?_
      refine lv_aload_n hx hb dX4_read_37 rfl (lv_at hl 1 rfl) ?_
      refine lv_iconst (v := (2 : Int32)) hx hb dX4_read_38 (by decide) ?_
      obtain ⟨S_39, r_39, h_39, hf⟩ := bd_some hf
      refine r_bi hw (r_runV (rest := [.ref (ad 26)]) C hw (m_X0_two l D cA ad base fu u hu h_39) mvX0_two gw2_189 ⟨rfl, rfl, Nat.le_of_ble_eq_true rfl, Nat.le_of_ble_eq_true rfl⟩ hu.1 hu.2.1 vc_0 rfl hl.1 rfl (Nat.le_of_ble_eq_true rfl) dX4_read_39 (Nat.zero_le _) (Nat.zero_le _)) (fun H locs hw => ?_)
      obtain ⟨S_42, e_42, hf⟩ := sI_some hf
      refine r_putI C hw (k := 4) (ty0 := tyX4) dq_26 ln_26 rfl vc_4 inX4 tyX4_ok nmX4 (by decide) rfl rfl gw1_204 rfl rfl dX4_read_42 e_42 (fun H locs hw => ?_)
      refine lv_aload_n hx hb dX4_read_45 rfl (lv_at hl 0 rfl) ?_
      refine lv_bipush (v := (12 : Int32)) hx hb dX4_read_46 (by decide) ?_
      obtain ⟨S_48, e_48, hf⟩ := sI_some hf
      refine r_putI C hw (k := 8) (ty0 := tyX4) dq_26 ln_26 rfl vc_4 inX4 tyX4_ok nmX4 (by decide) rfl rfl gw1_208 rfl rfl dX4_read_48 e_48 (fun H locs hw => ?_)
      refine lv_aload_n hx hb dX4_read_51 rfl (lv_at hl 0 rfl) ?_
      refine lv_aload_n hx hb dX4_read_52 rfl (lv_at hl 1 rfl) ?_
      obtain ⟨S_53, r_53, h_53, hf⟩ := bd_some hf
      refine r_bi hw (r_runV (rest := []) C hw (m_X4_readQuestion l D cA ad base fu u hu h_53) mvX4_readQuestion gw2_197 ⟨rfl, rfl, Nat.le_of_ble_eq_true rfl, Nat.le_of_ble_eq_true rfl⟩ dq_26 ln_26 vc_4 rfl hl.1 rfl (Nat.le_of_ble_eq_true rfl) dX4_read_53 (Nat.zero_le _) (Nat.zero_le _)) (fun H locs hw => ?_)
      refine lv_istore_n (lv' := [(2, .int r_53), (0, .ref (ad 26)), (1, .ref (ad u))]) hx hb dX4_read_56 rfl hl (by decide) rfl (fun ls hl => ?_)
      refine lv_iconst (v := (0 : Int32)) hx hb dX4_read_57 (by decide) ?_
      refine lv_istore_n (lv' := [(3, .int (0 : Int32)), (2, .int r_53), (0, .ref (ad 26)), (1, .ref (ad u))]) hx hb dX4_read_58 rfl hl (by decide) rfl (fun ls hl => ?_)
      exact L_59 fu _ _ _ _ _ _ hf (lv_sub hl [2, 3, 1, 0] rfl) hw
    · have hf := if_f hf c_22
      refine lv_iconst (v := (1 : Int32)) hx hb dX4_read_25 (by decide) ?_
      exact r_iret C hw hr hlocks hf dX4_read_26
