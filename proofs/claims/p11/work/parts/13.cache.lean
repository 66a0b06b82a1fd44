noncomputable def fX1_size (fu : Nat) (S : St) : Option (St × Int32) :=
  some (S, (S.1 42 6))
theorem mvX1_size : MV yX1_size cX1_size 1 (some .int) RX1 0 := ⟨gw3_98, gw3_96, gw3_97, gw1_10, by decide +kernel⟩
def rmX1_size : Room := { frames := 0, cells := 0, slots := 0, locals := 0 }
set_option maxHeartbeats 4000000 in
set_option maxRecDepth 100000 in
theorem m_X1_size (l : Launch) (D : va_G) (cA : FieldType → ClassId) (ad : Nat → Nat) (base : Nat) (fu : Nat) {S S' : St} {r : Int32} (hf : fX1_size fu S = some (S', r)) : Met l yX1_size (GC yX1_size cX1_size 1 (some .int)) rmX1_size (va_Pc [.ref (ad 42)] (wd D cA ad base S)) (QI D cA ad base S' r) 0 0 (aB base) := by
  refine Met.ofW (cc := cX1_size) (maxL := 1) (ret := (some .int)) (by decide) rfl ?_
  intro p e s m args below meth c s₁ B hml hv
  obtain ⟨hargs, hwd⟩ := hv
  have hr := B.returns
  have hlocks := B.notSynchronized
  obtain ⟨C, hw⟩ := CX.of (own := RX1) rfl B hml hwd
  have hx := C.1
  have hb := C.2.1
  have hl := lv_entry ([.ref (ad 42)]) (n := 1) (Nat.le_of_ble_eq_true rfl)
  rw [show entryFrame m args 1 = entryFrame m ([.ref (ad 42)] : List Value).toArray 1 from by rw [hargs], lg_entry_eq]
  generalize (lg_sl ([.ref (ad 42)]) ++ List.replicate (1 - (lg_sl ([.ref (ad 42)])).length) Slot.unset).toArray = ls at hl ⊢
  have hl : lv_has ls 1 [(0, .ref (ad 42))] := hl
  show W p l e rmX1_size s m args below meth c s.heap [] 0 0 _ _
  refine lv_aload_n hx hb dX1_size_0 rfl (lv_at hl 0 rfl) ?_
  refine r_getI C hw (k := 6) dq_42 ln_42 rfl vc_1 inX1 (by decide) rfl gw2_5 dX1_size_1 ?_
  exact r_iret C hw hr hlocks hf dX1_size_4
noncomputable def fX1_now (fu : Nat) (S : St) : Option (St × Int32) :=
  some (S, (S.1 42 8))
theorem mvX1_now : MV yX1_now cX1_now 1 (some .int) RX1 0 := ⟨gw3_94, gw3_92, gw3_93, gw1_10, by decide +kernel⟩
def rmX1_now : Room := { frames := 0, cells := 0, slots := 0, locals := 0 }
set_option maxHeartbeats 4000000 in
set_option maxRecDepth 100000 in
theorem m_X1_now (l : Launch) (D : va_G) (cA : FieldType → ClassId) (ad : Nat → Nat) (base : Nat) (fu : Nat) {S S' : St} {r : Int32} (hf : fX1_now fu S = some (S', r)) : Met l yX1_now (GC yX1_now cX1_now 1 (some .int)) rmX1_now (va_Pc [.ref (ad 42)] (wd D cA ad base S)) (QI D cA ad base S' r) 0 0 (aB base) := by
  refine Met.ofW (cc := cX1_now) (maxL := 1) (ret := (some .int)) (by decide) rfl ?_
  intro p e s m args below meth c s₁ B hml hv
  obtain ⟨hargs, hwd⟩ := hv
  have hr := B.returns
  have hlocks := B.notSynchronized
  obtain ⟨C, hw⟩ := CX.of (own := RX1) rfl B hml hwd
  have hx := C.1
  have hb := C.2.1
  have hl := lv_entry ([.ref (ad 42)]) (n := 1) (Nat.le_of_ble_eq_true rfl)
  rw [show entryFrame m args 1 = entryFrame m ([.ref (ad 42)] : List Value).toArray 1 from by rw [hargs], lg_entry_eq]
  generalize (lg_sl ([.ref (ad 42)]) ++ List.replicate (1 - (lg_sl ([.ref (ad 42)])).length) Slot.unset).toArray = ls at hl ⊢
  have hl : lv_has ls 1 [(0, .ref (ad 42))] := hl
  show W p l e rmX1_now s m args below meth c s.heap [] 0 0 _ _
  refine lv_aload_n hx hb dX1_now_0 rfl (lv_at hl 0 rfl) ?_
  refine r_getI C hw (k := 8) dq_42 ln_42 rfl vc_1 inX1 (by decide) rfl gw2_7 dX1_now_1 ?_
  exact r_iret C hw hr hlocks hf dX1_now_4
noncomputable def fX1_goOn (fu : Nat) (x1 : Int32) (S : St) : Option (St × Int32) :=
  sI 42 8 ((S.1 42 8) + x1) S fun S_7 =>
  some (S_7, (S_7.1 42 8))
theorem mvX1_goOn : MV yX1_goOn cX1_goOn 2 (some .int) RX1 1 := ⟨gw5_85, gw5_83, gw5_84, gw1_10, by decide +kernel⟩
def rmX1_goOn : Room := { frames := 0, cells := 0, slots := 0, locals := 0 }
set_option maxHeartbeats 4000000 in
set_option maxRecDepth 100000 in
theorem m_X1_goOn (l : Launch) (D : va_G) (cA : FieldType → ClassId) (ad : Nat → Nat) (base : Nat) (fu : Nat) {S S' : St} {x1 : Int32} {r : Int32} (hf : fX1_goOn fu x1 S = some (S', r)) : Met l yX1_goOn (GC yX1_goOn cX1_goOn 2 (some .int)) rmX1_goOn (va_Pc [.ref (ad 42), .int x1] (wd D cA ad base S)) (QI D cA ad base S' r) 0 0 (aB base) := by
  refine Met.ofW (cc := cX1_goOn) (maxL := 2) (ret := (some .int)) (by decide) rfl ?_
  intro p e s m args below meth c s₁ B hml hv
  obtain ⟨hargs, hwd⟩ := hv
  have hr := B.returns
  have hlocks := B.notSynchronized
  obtain ⟨C, hw⟩ := CX.of (own := RX1) rfl B hml hwd
  have hx := C.1
  have hb := C.2.1
  have hl := lv_entry ([.ref (ad 42), .int x1]) (n := 2) (Nat.le_of_ble_eq_true rfl)
  rw [show entryFrame m args 2 = entryFrame m ([.ref (ad 42), .int x1] : List Value).toArray 2 from by rw [hargs], lg_entry_eq]
  generalize (lg_sl ([.ref (ad 42), .int x1]) ++ List.replicate (2 - (lg_sl ([.ref (ad 42), .int x1])).length) Slot.unset).toArray = ls at hl ⊢
  have hl : lv_has ls 2 [(0, .ref (ad 42)), (1, .int x1)] := hl
  show W p l e rmX1_goOn s m args below meth c s.heap [] 0 0 _ _
  refine lv_aload_n hx hb dX1_goOn_0 rfl (lv_at hl 0 rfl) ?_
  refine lv_dup hx hb dX1_goOn_1 rfl ?_
  refine r_getI C hw (k := 8) dq_42 ln_42 rfl vc_1 inX1 (by decide) rfl gw2_7 dX1_goOn_2 ?_
  refine lv_iload_n hx hb dX1_goOn_5 rfl (lv_at hl 1 rfl) ?_
  refine lv_iadd hx hb dX1_goOn_6 ?_
  obtain ⟨S_7, e_7, hf⟩ := sI_some hf
  refine r_putI C hw (k := 8) (ty0 := tyX1) dq_42 ln_42 rfl vc_1 inX1 tyX1_ok nmX1 (by decide) rfl rfl gw2_7 rfl rfl dX1_goOn_7 e_7 (fun H locs hw => ?_)
  refine lv_aload_n hx hb dX1_goOn_10 rfl (lv_at hl 0 rfl) ?_
  refine r_getI C hw (k := 8) dq_42 ln_42 rfl vc_1 inX1 (by decide) rfl gw2_7 dX1_goOn_11 ?_
  exact r_iret C hw hr hlocks hf dX1_goOn_14
noncomputable def fX1_slotOf_32 (fu : Nat) (k_2 : Int32 → Int32 → Int32 → St → Option (St × Int32)) (x1 : Int32) (x2 : Int32) (x3 : Int32) (S : St) : Option (St × Int32) :=
  k_2 x1 x2 (x3 + (1 : Int32)) S
noncomputable def fX1_slotOf_2 (fu : Nat) (n : Nat) : Int32 → Int32 → Int32 → St → Option (St × Int32) :=
  Nat.rec (motive := fun _ => Int32 → Int32 → Int32 → St → Option (St × Int32)) (fun _ _ _ _ => none) (fun _ k_2 x1 x2 x3 S =>
    if (S.1 42 6) ≤ x3 then
      some (S, (-1 : Int32))
    else
      gd (ck x3 100) <|
      if (S.1 43 (x3).toNatClampNeg) = x1 then
        gd (ck x3 100) <|
        if (S.1 44 (x3).toNatClampNeg) = x2 then
          some (S, x3)
        else
          fX1_slotOf_32 fu k_2 x1 x2 x3 S
      else
        fX1_slotOf_32 fu k_2 x1 x2 x3 S) n
theorem fX1_slotOf_2_s (fu : Nat) (n : Nat) (x1 : Int32) (x2 : Int32) (x3 : Int32) (S : St) : fX1_slotOf_2 fu (n + 1) x1 x2 x3 S = (
    if (S.1 42 6) ≤ x3 then
      some (S, (-1 : Int32))
    else
      gd (ck x3 100) <|
      if (S.1 43 (x3).toNatClampNeg) = x1 then
        gd (ck x3 100) <|
        if (S.1 44 (x3).toNatClampNeg) = x2 then
          some (S, x3)
        else
          fX1_slotOf_32 fu (fX1_slotOf_2 fu n) x1 x2 x3 S
      else
        fX1_slotOf_32 fu (fX1_slotOf_2 fu n) x1 x2 x3 S) := rfl
noncomputable def fX1_slotOf (fu : Nat) (x1 : Int32) (x2 : Int32) (S : St) : Option (St × Int32) :=
  fX1_slotOf_2 fu fu x1 x2 (0 : Int32) S
theorem mvX1_slotOf : MV yX1_slotOf cX1_slotOf 4 (some .int) RX1 2 := ⟨gw5_155, gw5_154, gs_25, gw1_10, by decide +kernel⟩
def rmX1_slotOf : Room := { frames := 0, cells := 0, slots := 0, locals := 0 }
set_option maxHeartbeats 4000000 in
set_option maxRecDepth 100000 in
theorem m_X1_slotOf (l : Launch) (D : va_G) (cA : FieldType → ClassId) (ad : Nat → Nat) (base : Nat) (fu : Nat) {S S' : St} {x1 : Int32} {x2 : Int32} {r : Int32} (hf : fX1_slotOf fu x1 x2 S = some (S', r)) : Met l yX1_slotOf (GC yX1_slotOf cX1_slotOf 4 (some .int)) rmX1_slotOf (va_Pc [.ref (ad 42), .int x1, .int x2] (wd D cA ad base S)) (QI D cA ad base S' r) 0 0 (aB base) := by
  refine Met.ofW (cc := cX1_slotOf) (maxL := 4) (ret := (some .int)) (by decide) rfl ?_
  intro p e s m args below meth c s₁ B hml hv
  obtain ⟨hargs, hwd⟩ := hv
  have hr := B.returns
  have hlocks := B.notSynchronized
  obtain ⟨C, hw⟩ := CX.of (own := RX1) rfl B hml hwd
  have hx := C.1
  have hb := C.2.1
  have hl := lv_entry ([.ref (ad 42), .int x1, .int x2]) (n := 4) (Nat.le_of_ble_eq_true rfl)
  rw [show entryFrame m args 4 = entryFrame m ([.ref (ad 42), .int x1, .int x2] : List Value).toArray 4 from by rw [hargs], lg_entry_eq]
  generalize (lg_sl ([.ref (ad 42), .int x1, .int x2]) ++ List.replicate (4 - (lg_sl ([.ref (ad 42), .int x1, .int x2])).length) Slot.unset).toArray = ls at hl ⊢
  have hl : lv_has ls 4 [(0, .ref (ad 42)), (1, .int x1), (2, .int x2)] := hl
  have L_2 : ∀ (n_2 : Nat) (x1 : Int32) (x2 : Int32) (x3 : Int32) (S : St) (H : Heap) (locs : List Loc) (ls : Array Slot), fX1_slotOf_2 fu n_2 x1 x2 x3 S = some (S', r) → lv_has ls 4 [(0, .ref (ad 42)), (1, .int x1), (2, .int x2), (3, .int x3)] → WS D cA ad base s S H locs → W p l e rmX1_slotOf s m args below meth c H locs 0 0 (MQ below (QI D cA ad base S' r) args s 0 0 (aB base)) (F0 m 2 ls []) := by
    intro n_2
    induction n_2 with
    | zero =>
      intro x1 x2 x3 S H locs ls hf hl hw
      exact (no_none hf).elim
    | succ n_2 ih_2 =>
      have J_32 : ∀ (x1 : Int32) (x2 : Int32) (x3 : Int32) (S : St) (H : Heap) (locs : List Loc) (ls : Array Slot), fX1_slotOf_32 fu (fX1_slotOf_2 fu n_2) x1 x2 x3 S = some (S', r) → lv_has ls 4 [(0, .ref (ad 42)), (1, .int x1), (2, .int x2), (3, .int x3)] → WS D cA ad base s S H locs → W p l e rmX1_slotOf s m args below meth c H locs 0 0 (MQ below (QI D cA ad base S' r) args s 0 0 (aB base)) (F0 m 32 ls []) := by
        intro x1 x2 x3 S H locs ls hf hl hw
        refine lv_iinc (v := (x3 + (1 : Int32))) (lv' := [(3, .int (x3 + (1 : Int32))), (0, .ref (ad 42)), (1, .int x1), (2, .int x2)]) hx hb dX1_slotOf_32 hl (k := 3) rfl rfl (by decide) rfl (fun ls hl => ?_)
        refine lv_goto (tgt := 2) hx hb dX1_slotOf_35 (by decide) ?_
        exact ih_2 _ _ _ _ _ _ _ hf (lv_sub hl [1, 2, 3, 0] rfl) hw
      intro x1 x2 x3 S H locs ls hf hl hw
      rw [fX1_slotOf_2_s] at hf
      refine lv_iload_n hx hb dX1_slotOf_2 rfl (lv_at hl 3 rfl) ?_
      refine lv_aload_n hx hb dX1_slotOf_3 rfl (lv_at hl 0 rfl) ?_
      refine r_getI C hw (k := 6) dq_42 ln_42 rfl vc_1 inX1 (by decide) rfl gw2_5 dX1_slotOf_4 ?_
      refine lv_icmp_ge (tgt := 38) hx hb dX1_slotOf_7 (by decide) (fun c_7 => ?_) (fun c_7 => ?_)
      · have hf := if_t hf c_7
        refine lv_iconst (v := (-1 : Int32)) hx hb dX1_slotOf_38 (by decide) ?_
        exact r_iret C hw hr hlocks hf dX1_slotOf_39
      · have hf := if_f hf c_7
        refine lv_aload_n hx hb dX1_slotOf_10 rfl (lv_at hl 0 rfl) ?_
        refine r_getR C hw (k := 0) (r := 43) dq_42 ln_42 rfl vc_1 inX1 (by decide) rfl gw1_239 dX1_slotOf_11 ?_
        refine lv_iload_n hx hb dX1_slotOf_14 rfl (lv_at hl 3 rfl) ?_
        obtain ⟨z_15, hf⟩ := gd_some hf
        refine r_iald C hw (x := 43) dq_43 ln_43 z_15 dX1_slotOf_15 ?_
        refine lv_iload_n hx hb dX1_slotOf_16 rfl (lv_at hl 1 rfl) ?_
        refine lv_icmp_ne (tgt := 32) hx hb dX1_slotOf_17 (by decide) (fun c_17 => ?_) (fun c_17 => ?_)
        · have hf := if_f hf c_17
          exact J_32 _ _ _ _ _ _ _ hf (lv_sub hl [0, 1, 2, 3] rfl) hw
        · have hf := if_t hf c_17
          refine lv_aload_n hx hb dX1_slotOf_20 rfl (lv_at hl 0 rfl) ?_
          refine r_getR C hw (k := 1) (r := 44) dq_42 ln_42 rfl vc_1 inX1 (by decide) rfl gw2_0 dX1_slotOf_21 ?_
          refine lv_iload_n hx hb dX1_slotOf_24 rfl (lv_at hl 3 rfl) ?_
          obtain ⟨z_25, hf⟩ := gd_some hf
          refine r_iald C hw (x := 44) dq_44 ln_44 z_25 dX1_slotOf_25 ?_
          refine lv_iload_n hx hb dX1_slotOf_26 rfl (lv_at hl 2 rfl) ?_
          refine lv_icmp_ne (tgt := 32) hx hb dX1_slotOf_27 (by decide) (fun c_27 => ?_) (fun c_27 => ?_)
          · have hf := if_f hf c_27
            exact J_32 _ _ _ _ _ _ _ hf (lv_sub hl [0, 1, 2, 3] rfl) hw
          · have hf := if_t hf c_27
            refine lv_iload_n hx hb dX1_slotOf_30 rfl (lv_at hl 3 rfl) ?_
            exact r_iret C hw hr hlocks hf dX1_slotOf_31
  show W p l e rmX1_slotOf s m args below meth c s.heap [] 0 0 _ _
  refine lv_iconst (v := (0 : Int32)) hx hb dX1_slotOf_0 (by decide) ?_
  refine lv_istore_n (lv' := [(3, .int (0 : Int32)), (0, .ref (ad 42)), (1, .int x1), (2, .int x2)]) hx hb dX1_slotOf_1 rfl hl (by decide) rfl (fun ls hl => ?_)
  exact L_2 fu _ _ _ _ _ _ _ hf (lv_sub hl [1, 2, 3, 0] rfl) hw
noncomputable def fX1_held (fu : Nat) (x1 : Int32) (x2 : Int32) (S : St) : Option (St × Int32) :=
  bd (fX1_slotOf fu x1 x2 S) fun S_3 r_3 =>
  if r_3 = (-1 : Int32) then
    some (S_3, (-1 : Int32))
  else
    gd (ck r_3 100) <|
    if 0 ≤ (lg_cmp ((S_3.1 42 8)).toInt64 (S_3.2 45 (r_3).toNatClampNeg)) then
      some (S_3, (-1 : Int32))
    else
      gd (ck r_3 100) <|
      some (S_3, (S_3.1 47 (r_3).toNatClampNeg))
theorem mvX1_held : MV yX1_held cX1_held 4 (some .int) RX1 2 := ⟨gw5_192, gw5_190, gw5_191, gw1_10, by decide +kernel⟩
def rmX1_held : Room := { frames := 1, cells := 0, slots := 0, locals := 23 }
set_option maxHeartbeats 4000000 in
set_option maxRecDepth 100000 in
theorem m_X1_held (l : Launch) (D : va_G) (cA : FieldType → ClassId) (ad : Nat → Nat) (base : Nat) (fu : Nat) {S S' : St} {x1 : Int32} {x2 : Int32} {r : Int32} (hf : fX1_held fu x1 x2 S = some (S', r)) : Met l yX1_held (GC yX1_held cX1_held 4 (some .int)) rmX1_held (va_Pc [.ref (ad 42), .int x1, .int x2] (wd D cA ad base S)) (QI D cA ad base S' r) 0 0 (aB base) := by
  refine Met.ofW (cc := cX1_held) (maxL := 4) (ret := (some .int)) (by decide) rfl ?_
  intro p e s m args below meth c s₁ B hml hv
  obtain ⟨hargs, hwd⟩ := hv
  have hr := B.returns
  have hlocks := B.notSynchronized
  obtain ⟨C, hw⟩ := CX.of (own := RX1) rfl B hml hwd
  have hx := C.1
  have hb := C.2.1
  have hl := lv_entry ([.ref (ad 42), .int x1, .int x2]) (n := 4) (Nat.le_of_ble_eq_true rfl)
  rw [show entryFrame m args 4 = entryFrame m ([.ref (ad 42), .int x1, .int x2] : List Value).toArray 4 from by rw [hargs], lg_entry_eq]
  generalize (lg_sl ([.ref (ad 42), .int x1, .int x2]) ++ List.replicate (4 - (lg_sl ([.ref (ad 42), .int x1, .int x2])).length) Slot.unset).toArray = ls at hl ⊢
  have hl : lv_has ls 4 [(0, .ref (ad 42)), (1, .int x1), (2, .int x2)] := hl
  show W p l e rmX1_held s m args below meth c s.heap [] 0 0 _ _
  refine lv_aload_n hx hb dX1_held_0 rfl (lv_at hl 0 rfl) ?_
  refine lv_iload_n hx hb dX1_held_1 rfl (lv_at hl 1 rfl) ?_
  refine lv_iload_n hx hb dX1_held_2 rfl (lv_at hl 2 rfl) ?_
  obtain ⟨S_3, r_3, h_3, hf⟩ := bd_some hf
  refine r_bi hw (r_runV (rest := []) C hw (m_X1_slotOf l D cA ad base fu h_3) mvX1_slotOf gw5_152 ⟨rfl, rfl, Nat.le_of_ble_eq_true rfl, Nat.le_of_ble_eq_true rfl⟩ dq_42 ln_42 vc_1 rfl hl.1 rfl (Nat.le_of_ble_eq_true rfl) dX1_held_3 (Nat.zero_le _) (Nat.zero_le _)) (fun H locs hw => ?_)
  refine lv_istore_n (lv' := [(3, .int r_3), (0, .ref (ad 42)), (1, .int x1), (2, .int x2)]) hx hb dX1_held_6 rfl hl (by decide) rfl (fun ls hl => ?_)
  refine lv_iload_n hx hb dX1_held_7 rfl (lv_at hl 0 rfl) ?_
  refine lv_iconst (v := (-1 : Int32)) hx hb dX1_held_8 (by decide) ?_
  refine lv_icmp_eq (tgt := 36) hx hb dX1_held_9 (by decide) (fun c_9 => ?_) (fun c_9 => ?_)
  · have hf := if_t hf c_9
    refine lv_iconst (v := (-1 : Int32)) hx hb dX1_held_36 (by decide) ?_
    exact r_iret C hw hr hlocks hf dX1_held_37
  · have hf := if_f hf c_9
    refine lv_aload_n hx hb dX1_held_12 rfl (lv_at hl 1 rfl) ?_
    refine r_getI C hw (k := 8) dq_42 ln_42 rfl vc_1 inX1 (by decide) rfl gw2_7 dX1_held_13 ?_
    refine lv_i2l hx hb dX1_held_16 rfl ?_
    refine lv_aload_n hx hb dX1_held_17 rfl (lv_at hl 1 rfl) ?_
    refine r_getR C hw (k := 2) (r := 45) dq_42 ln_42 rfl vc_1 inX1 (by decide) rfl gw2_1 dX1_held_18 ?_
    refine lv_iload_n hx hb dX1_held_21 rfl (lv_at hl 0 rfl) ?_
    obtain ⟨z_22, hf⟩ := gd_some hf
    refine r_lald C hw (x := 45) dq_45 ln_45 z_22 dX1_held_22 ?_
    refine W.lcmp hx hb dX1_held_23 ?_
    refine lv_if_ge (tgt := 36) hx hb dX1_held_24 (by decide) (fun c_24 => ?_) (fun c_24 => ?_)
    · have hf := if_t hf c_24
      refine lv_iconst (v := (-1 : Int32)) hx hb dX1_held_36 (by decide) ?_
      exact r_iret C hw hr hlocks hf dX1_held_37
    · have hf := if_f hf c_24
      refine lv_aload_n hx hb dX1_held_27 rfl (lv_at hl 1 rfl) ?_
      refine r_getR C hw (k := 4) (r := 47) dq_42 ln_42 rfl vc_1 inX1 (by decide) rfl gw2_3 dX1_held_28 ?_
      refine lv_iload_n hx hb dX1_held_31 rfl (lv_at hl 0 rfl) ?_
      obtain ⟨z_32, hf⟩ := gd_some hf
      refine r_iald C hw (x := 47) dq_47 ln_47 z_32 dX1_held_32 ?_
      refine lv_goto (tgt := 37) hx hb dX1_held_33 (by decide) ?_
      exact r_iret C hw hr hlocks hf dX1_held_37
noncomputable def fX1_setOf (fu : Nat) (x1 : Int32) (x2 : Int32) (S : St) : Option (St × Int32) :=
  bd (fX1_slotOf fu x1 x2 S) fun S_3 r_3 =>
  if r_3 = (-1 : Int32) then
    some (S_3, (-1 : Int32))
  else
    gd (ck r_3 100) <|
    if 0 ≤ (lg_cmp ((S_3.1 42 8)).toInt64 (S_3.2 45 (r_3).toNatClampNeg)) then
      some (S_3, (-1 : Int32))
    else
      gd (ck r_3 100) <|
      if (S_3.1 47 (r_3).toNatClampNeg) ≤ 0 then
        some (S_3, (-1 : Int32))
      else
        some (S_3, r_3)
theorem mvX1_setOf : MV yX1_setOf cX1_setOf 4 (some .int) RX1 2 := ⟨gw5_151, gw5_149, gw5_150, gw1_10, by decide +kernel⟩
def rmX1_setOf : Room := { frames := 1, cells := 0, slots := 0, locals := 23 }
set_option maxHeartbeats 4000000 in
set_option maxRecDepth 100000 in
theorem m_X1_setOf (l : Launch) (D : va_G) (cA : FieldType → ClassId) (ad : Nat → Nat) (base : Nat) (fu : Nat) {S S' : St} {x1 : Int32} {x2 : Int32} {r : Int32} (hf : fX1_setOf fu x1 x2 S = some (S', r)) : Met l yX1_setOf (GC yX1_setOf cX1_setOf 4 (some .int)) rmX1_setOf (va_Pc [.ref (ad 42), .int x1, .int x2] (wd D cA ad base S)) (QI D cA ad base S' r) 0 0 (aB base) := by
  refine Met.ofW (cc := cX1_setOf) (maxL := 4) (ret := (some .int)) (by decide) rfl ?_
  intro p e s m args below meth c s₁ B hml hv
  obtain ⟨hargs, hwd⟩ := hv
  have hr := B.returns
  have hlocks := B.notSynchronized
  obtain ⟨C, hw⟩ := CX.of (own := RX1) rfl B hml hwd
  have hx := C.1
  have hb := C.2.1
  have hl := lv_entry ([.ref (ad 42), .int x1, .int x2]) (n := 4) (Nat.le_of_ble_eq_true rfl)
  rw [show entryFrame m args 4 = entryFrame m ([.ref (ad 42), .int x1, .int x2] : List Value).toArray 4 from by rw [hargs], lg_entry_eq]
  generalize (lg_sl ([.ref (ad 42), .int x1, .int x2]) ++ List.replicate (4 - (lg_sl ([.ref (ad 42), .int x1, .int x2])).length) Slot.unset).toArray = ls at hl ⊢
  have hl : lv_has ls 4 [(0, .ref (ad 42)), (1, .int x1), (2, .int x2)] := hl
  show W p l e rmX1_setOf s m args below meth c s.heap [] 0 0 _ _
  refine lv_aload_n hx hb dX1_setOf_0 rfl (lv_at hl 0 rfl) ?_
  refine lv_iload_n hx hb dX1_setOf_1 rfl (lv_at hl 1 rfl) ?_
  refine lv_iload_n hx hb dX1_setOf_2 rfl (lv_at hl 2 rfl) ?_
  obtain ⟨S_3, r_3, h_3, hf⟩ := bd_some hf
  refine r_bi hw (r_runV (rest := []) C hw (m_X1_slotOf l D cA ad base fu h_3) mvX1_slotOf gw5_152 ⟨rfl, rfl, Nat.le_of_ble_eq_true rfl, Nat.le_of_ble_eq_true rfl⟩ dq_42 ln_42 vc_1 rfl hl.1 rfl (Nat.le_of_ble_eq_true rfl) dX1_setOf_3 (Nat.zero_le _) (Nat.zero_le _)) (fun H locs hw => ?_)
  refine lv_istore_n (lv' := [(3, .int r_3), (0, .ref (ad 42)), (1, .int x1), (2, .int x2)]) hx hb dX1_setOf_6 rfl hl (by decide) rfl (fun ls hl => ?_)
  refine lv_iload_n hx hb dX1_setOf_7 rfl (lv_at hl 0 rfl) ?_
  refine lv_iconst (v := (-1 : Int32)) hx hb dX1_setOf_8 (by decide) ?_
  refine lv_icmp_eq (tgt := 40) hx hb dX1_setOf_9 (by decide) (fun c_9 => ?_) (fun c_9 => ?_)
  · have hf := if_t hf c_9
    refine lv_iconst (v := (-1 : Int32)) hx hb dX1_setOf_40 (by decide) ?_
    exact r_iret C hw hr hlocks hf dX1_setOf_41
  · have hf := if_f hf c_9
    refine lv_aload_n hx hb dX1_setOf_12 rfl (lv_at hl 1 rfl) ?_
    refine r_getI C hw (k := 8) dq_42 ln_42 rfl vc_1 inX1 (by decide) rfl gw2_7 dX1_setOf_13 ?_
    refine lv_i2l hx hb dX1_setOf_16 rfl ?_
    refine lv_aload_n hx hb dX1_setOf_17 rfl (lv_at hl 1 rfl) ?_
    refine r_getR C hw (k := 2) (r := 45) dq_42 ln_42 rfl vc_1 inX1 (by decide) rfl gw2_1 dX1_setOf_18 ?_
    refine lv_iload_n hx hb dX1_setOf_21 rfl (lv_at hl 0 rfl) ?_
    obtain ⟨z_22, hf⟩ := gd_some hf
    refine r_lald C hw (x := 45) dq_45 ln_45 z_22 dX1_setOf_22 ?_
    refine W.lcmp hx hb dX1_setOf_23 ?_
    refine lv_if_ge (tgt := 40) hx hb dX1_setOf_24 (by decide) (fun c_24 => ?_) (fun c_24 => ?_)
    · have hf := if_t hf c_24
      refine lv_iconst (v := (-1 : Int32)) hx hb dX1_setOf_40 (by decide) ?_
      exact r_iret C hw hr hlocks hf dX1_setOf_41
    · have hf := if_f hf c_24
      refine lv_aload_n hx hb dX1_setOf_27 rfl (lv_at hl 1 rfl) ?_
      refine r_getR C hw (k := 4) (r := 47) dq_42 ln_42 rfl vc_1 inX1 (by decide) rfl gw2_3 dX1_setOf_28 ?_
      refine lv_iload_n hx hb dX1_setOf_31 rfl (lv_at hl 0 rfl) ?_
      obtain ⟨z_32, hf⟩ := gd_some hf
      refine r_iald C hw (x := 47) dq_47 ln_47 z_32 dX1_setOf_32 ?_
      refine lv_if_le (tgt := 40) hx hb dX1_setOf_33 (by decide) (fun c_33 => ?_) (fun c_33 => ?_)
      · have hf := if_t hf c_33
        refine lv_iconst (v := (-1 : Int32)) hx hb dX1_setOf_40 (by decide) ?_
        exact r_iret C hw hr hlocks hf dX1_setOf_41
      · have hf := if_f hf c_33
        refine lv_iload_n hx hb dX1_setOf_36 rfl (lv_at hl 0 rfl) ?_
        refine lv_goto (tgt := 41) hx hb dX1_setOf_37 (by decide) ?_
        exact r_iret C hw hr hlocks hf dX1_setOf_41
noncomputable def fX1_sizeOf (fu : Nat) (x1 : Int32) (S : St) : Option (St × Int32) :=
  if x1 < 0 then
    some (S, (0 : Int32))
  else
    if (S.1 42 6) ≤ x1 then
      some (S, (0 : Int32))
    else
      gd (ck x1 100) <|
      some (S, (S.1 47 (x1).toNatClampNeg))
theorem mvX1_sizeOf : MV yX1_sizeOf cX1_sizeOf 2 (some .int) RX1 1 := ⟨gw5_171, gw5_169, gw5_170, gw1_10, by decide +kernel⟩
def rmX1_sizeOf : Room := { frames := 0, cells := 0, slots := 0, locals := 0 }
set_option maxHeartbeats 4000000 in
set_option maxRecDepth 100000 in
theorem m_X1_sizeOf (l : Launch) (D : va_G) (cA : FieldType → ClassId) (ad : Nat → Nat) (base : Nat) (fu : Nat) {S S' : St} {x1 : Int32} {r : Int32} (hf : fX1_sizeOf fu x1 S = some (S', r)) : Met l yX1_sizeOf (GC yX1_sizeOf cX1_sizeOf 2 (some .int)) rmX1_sizeOf (va_Pc [.ref (ad 42), .int x1] (wd D cA ad base S)) (QI D cA ad base S' r) 0 0 (aB base) := by
  refine Met.ofW (cc := cX1_sizeOf) (maxL := 2) (ret := (some .int)) (by decide) rfl ?_
  intro p e s m args below meth c s₁ B hml hv
  obtain ⟨hargs, hwd⟩ := hv
  have hr := B.returns
  have hlocks := B.notSynchronized
  obtain ⟨C, hw⟩ := CX.of (own := RX1) rfl B hml hwd
  have hx := C.1
  have hb := C.2.1
  have hl := lv_entry ([.ref (ad 42), .int x1]) (n := 2) (Nat.le_of_ble_eq_true rfl)
  rw [show entryFrame m args 2 = entryFrame m ([.ref (ad 42), .int x1] : List Value).toArray 2 from by rw [hargs], lg_entry_eq]
  generalize (lg_sl ([.ref (ad 42), .int x1]) ++ List.replicate (2 - (lg_sl ([.ref (ad 42), .int x1])).length) Slot.unset).toArray = ls at hl ⊢
  have hl : lv_has ls 2 [(0, .ref (ad 42)), (1, .int x1)] := hl
  show W p l e rmX1_sizeOf s m args below meth c s.heap [] 0 0 _ _
  refine lv_iload_n hx hb dX1_sizeOf_0 rfl (lv_at hl 1 rfl) ?_
  refine lv_if_lt (tgt := 21) hx hb dX1_sizeOf_1 (by decide) (fun c_1 => ?_) (fun c_1 => ?_)
  · have hf := if_t hf c_1
    refine lv_iconst (v := (0 : Int32)) hx hb dX1_sizeOf_21 (by decide) ?_
    exact r_iret C hw hr hlocks hf dX1_sizeOf_22
  · have hf := if_f hf c_1
    refine lv_iload_n hx hb dX1_sizeOf_4 rfl (lv_at hl 1 rfl) ?_
    refine lv_aload_n hx hb dX1_sizeOf_5 rfl (lv_at hl 0 rfl) ?_
    refine r_getI C hw (k := 6) dq_42 ln_42 rfl vc_1 inX1 (by decide) rfl gw2_5 dX1_sizeOf_6 ?_
    refine lv_icmp_ge (tgt := 21) hx hb dX1_sizeOf_9 (by decide) (fun c_9 => ?_) (fun c_9 => ?_)
    · have hf := if_t hf c_9
      refine lv_iconst (v := (0 : Int32)) hx hb dX1_sizeOf_21 (by decide) ?_
      exact r_iret C hw hr hlocks hf dX1_sizeOf_22
    · have hf := if_f hf c_9
      refine lv_aload_n hx hb dX1_sizeOf_12 rfl (lv_at hl 0 rfl) ?_
      refine r_getR C hw (k := 4) (r := 47) dq_42 ln_42 rfl vc_1 inX1 (by decide) rfl gw2_3 dX1_sizeOf_13 ?_
      refine lv_iload_n hx hb dX1_sizeOf_16 rfl (lv_at hl 1 rfl) ?_
      obtain ⟨z_17, hf⟩ := gd_some hf
      refine r_iald C hw (x := 47) dq_47 ln_47 z_17 dX1_sizeOf_17 ?_
      refine lv_goto (tgt := 22) hx hb dX1_sizeOf_18 (by decide) ?_
      exact r_iret C hw hr hlocks hf dX1_sizeOf_22
noncomputable def fX1_valueOf (fu : Nat) (x1 : Int32) (x2 : Int32) (S : St) : Option (St × Int32) :=
  if x2 < 0 then
    some (S, (0 : Int32))
  else
    bd (fX1_sizeOf fu x1 S) fun S_7 r_7 =>
    if r_7 ≤ x2 then
      some (S_7, (0 : Int32))
    else
      gd (ck ((x1 * (10 : Int32)) + x2) 1000) <|
      some (S_7, (S_7.1 48 (((x1 * (10 : Int32)) + x2)).toNatClampNeg))
theorem mvX1_valueOf : MV yX1_valueOf cX1_valueOf 3 (some .int) RX1 2 := ⟨gw5_175, gw5_173, gw5_174, gw1_10, by decide +kernel⟩
def rmX1_valueOf : Room := { frames := 1, cells := 0, slots := 0, locals := 21 }
set_option maxHeartbeats 4000000 in
set_option maxRecDepth 100000 in
theorem m_X1_valueOf (l : Launch) (D : va_G) (cA : FieldType → ClassId) (ad : Nat → Nat) (base : Nat) (fu : Nat) {S S' : St} {x1 : Int32} {x2 : Int32} {r : Int32} (hf : fX1_valueOf fu x1 x2 S = some (S', r)) : Met l yX1_valueOf (GC yX1_valueOf cX1_valueOf 3 (some .int)) rmX1_valueOf (va_Pc [.ref (ad 42), .int x1, .int x2] (wd D cA ad base S)) (QI D cA ad base S' r) 0 0 (aB base) := by
  refine Met.ofW (cc := cX1_valueOf) (maxL := 3) (ret := (some .int)) (by decide) rfl ?_
  intro p e s m args below meth c s₁ B hml hv
  obtain ⟨hargs, hwd⟩ := hv
  have hr := B.returns
  have hlocks := B.notSynchronized
  obtain ⟨C, hw⟩ := CX.of (own := RX1) rfl B hml hwd
  have hx := C.1
  have hb := C.2.1
  have hl := lv_entry ([.ref (ad 42), .int x1, .int x2]) (n := 3) (Nat.le_of_ble_eq_true rfl)
  rw [show entryFrame m args 3 = entryFrame m ([.ref (ad 42), .int x1, .int x2] : List Value).toArray 3 from by rw [hargs], lg_entry_eq]
  generalize (lg_sl ([.ref (ad 42), .int x1, .int x2]) ++ List.replicate (3 - (lg_sl ([.ref (ad 42), .int x1, .int x2])).length) Slot.unset).toArray = ls at hl ⊢
  have hl : lv_has ls 3 [(0, .ref (ad 42)), (1, .int x1), (2, .int x2)] := hl
  show W p l e rmX1_valueOf s m args below meth c s.heap [] 0 0 _ _
  refine lv_iload_n hx hb dX1_valueOf_0 rfl (lv_at hl 2 rfl) ?_
  refine lv_if_lt (tgt := 27) hx hb dX1_valueOf_1 (by decide) (fun c_1 => ?_) (fun c_1 => ?_)
  · have hf := if_t hf c_1
    refine lv_iconst (v := (0 : Int32)) hx hb dX1_valueOf_27 (by decide) ?_
    exact r_iret C hw hr hlocks hf dX1_valueOf_28
  · have hf := if_f hf c_1
    refine lv_iload_n hx hb dX1_valueOf_4 rfl (lv_at hl 2 rfl) ?_
    refine lv_aload_n hx hb dX1_valueOf_5 rfl (lv_at hl 0 rfl) ?_
    refine lv_iload_n hx hb dX1_valueOf_6 rfl (lv_at hl 1 rfl) ?_
    obtain ⟨S_7, r_7, h_7, hf⟩ := bd_some hf
    refine r_bi hw (r_runV (rest := [.int x2]) C hw (m_X1_sizeOf l D cA ad base fu h_7) mvX1_sizeOf gw5_176 ⟨rfl, rfl, Nat.le_of_ble_eq_true rfl, Nat.le_of_ble_eq_true rfl⟩ dq_42 ln_42 vc_1 rfl hl.1 rfl (Nat.le_of_ble_eq_true rfl) dX1_valueOf_7 (Nat.zero_le _) (Nat.zero_le _)) (fun H locs hw => ?_)
    refine lv_icmp_ge (tgt := 27) hx hb dX1_valueOf_10 (by decide) (fun c_10 => ?_) (fun c_10 => ?_)
    · have hf := if_t hf c_10
      refine lv_iconst (v := (0 : Int32)) hx hb dX1_valueOf_27 (by decide) ?_
      exact r_iret C hw hr hlocks hf dX1_valueOf_28
    · have hf := if_f hf c_10
      refine lv_aload_n hx hb dX1_valueOf_13 rfl (lv_at hl 0 rfl) ?_
      refine r_getR C hw (k := 5) (r := 48) dq_42 ln_42 rfl vc_1 inX1 (by decide) rfl gw2_4 dX1_valueOf_14 ?_
      refine lv_iload_n hx hb dX1_valueOf_17 rfl (lv_at hl 1 rfl) ?_
      refine lv_bipush (v := (10 : Int32)) hx hb dX1_valueOf_18 (by decide) ?_
      refine lv_imul hx hb dX1_valueOf_20 ?_
      refine lv_iload_n hx hb dX1_valueOf_21 rfl (lv_at hl 2 rfl) ?_
      refine lv_iadd hx hb dX1_valueOf_22 ?_
      obtain ⟨z_23, hf⟩ := gd_some hf
      refine r_iald C hw (x := 48) dq_48 ln_48 z_23 dX1_valueOf_23 ?_
      refine lv_goto (tgt := 28) hx hb dX1_valueOf_24 (by decide) ?_
      exact r_iret C hw hr hlocks hf dX1_valueOf_28
noncomputable def fX1_firstToEnd_83 (fu : Nat) (k_4 : Int32 → Int32 → St → Option (St × Int32)) (x1 : Int32) (x2 : Int32) (S : St) : Option (St × Int32) :=
  k_4 x1 (x2 + (1 : Int32)) S
noncomputable def fX1_firstToEnd_81 (fu : Nat) (k_4 : Int32 → Int32 → St → Option (St × Int32)) (x2 : Int32) (S : St) : Option (St × Int32) :=
  fX1_firstToEnd_83 fu k_4 x2 x2 S
noncomputable def fX1_firstToEnd_70 (fu : Nat) (k_4 : Int32 → Int32 → St → Option (St × Int32)) (x1 : Int32) (x2 : Int32) (x3 : Int32) (t0 : Int32) (S : St) : Option (St × Int32) :=
  if x3 = 0 then
    if t0 = 0 then
      fX1_firstToEnd_83 fu k_4 x1 x2 S
    else
      fX1_firstToEnd_81 fu k_4 x2 S
  else
    fX1_firstToEnd_81 fu k_4 x2 S
noncomputable def fX1_firstToEnd_69 (fu : Nat) (k_4 : Int32 → Int32 → St → Option (St × Int32)) (x1 : Int32) (x2 : Int32) (x3 : Int32) (S : St) : Option (St × Int32) :=
  fX1_firstToEnd_70 fu k_4 x1 x2 x3 (0 : Int32) S
noncomputable def fX1_firstToEnd_33 (fu : Nat) (k_4 : Int32 → Int32 → St → Option (St × Int32)) (x1 : Int32) (x2 : Int32) (t0 : Int32) (S : St) : Option (St × Int32) :=
  gd (ck x2 100) <|
  gd (ck x1 100) <|
  if (lg_cmp (S.2 45 (x2).toNatClampNeg) (S.2 45 (x1).toNatClampNeg)) = 0 then
    gd (ck x2 100) <|
    gd (ck x1 100) <|
    if (S.1 46 (x1).toNatClampNeg) ≤ (S.1 46 (x2).toNatClampNeg) then
      fX1_firstToEnd_69 fu k_4 x1 x2 t0 S
    else
      fX1_firstToEnd_70 fu k_4 x1 x2 t0 (1 : Int32) S
  else
    fX1_firstToEnd_69 fu k_4 x1 x2 t0 S
noncomputable def fX1_firstToEnd_4 (fu : Nat) (n : Nat) : Int32 → Int32 → St → Option (St × Int32) :=
  Nat.rec (motive := fun _ => Int32 → Int32 → St → Option (St × Int32)) (fun _ _ _ => none) (fun _ k_4 x1 x2 S =>
    if (S.1 42 6) ≤ x2 then
      some (S, x1)
    else
      gd (ck x2 100) <|
      gd (ck x1 100) <|
      if 0 ≤ (lg_cmp (S.2 45 (x2).toNatClampNeg) (S.2 45 (x1).toNatClampNeg)) then
        fX1_firstToEnd_33 fu k_4 x1 x2 (0 : Int32) S
      else
        fX1_firstToEnd_33 fu k_4 x1 x2 (1 : Int32) S) n
theorem fX1_firstToEnd_4_s (fu : Nat) (n : Nat) (x1 : Int32) (x2 : Int32) (S : St) : fX1_firstToEnd_4 fu (n + 1) x1 x2 S = (
    if (S.1 42 6) ≤ x2 then
      some (S, x1)
    else
      gd (ck x2 100) <|
      gd (ck x1 100) <|
      if 0 ≤ (lg_cmp (S.2 45 (x2).toNatClampNeg) (S.2 45 (x1).toNatClampNeg)) then
        fX1_firstToEnd_33 fu (fX1_firstToEnd_4 fu n) x1 x2 (0 : Int32) S
      else
        fX1_firstToEnd_33 fu (fX1_firstToEnd_4 fu n) x1 x2 (1 : Int32) S) := rfl
noncomputable def fX1_firstToEnd (fu : Nat) (S : St) : Option (St × Int32) :=
  fX1_firstToEnd_4 fu fu (0 : Int32) (1 : Int32) S
theorem mvX1_firstToEnd : MV yX1_firstToEnd cX1_firstToEnd 5 (some .int) RX1 0 := ⟨gw6_78, gw6_77, gs_37, gw1_10, by decide +kernel⟩
def rmX1_firstToEnd : Room := { frames := 0, cells := 0, slots := 0, locals := 0 }
set_option maxHeartbeats 4000000 in
set_option maxRecDepth 100000 in
theorem m_X1_firstToEnd (l : Launch) (D : va_G) (cA : FieldType → ClassId) (ad : Nat → Nat) (base : Nat) (fu : Nat) {S S' : St} {r : Int32} (hf : fX1_firstToEnd fu S = some (S', r)) : Met l yX1_firstToEnd (GC yX1_firstToEnd cX1_firstToEnd 5 (some .int)) rmX1_firstToEnd (va_Pc [.ref (ad 42)] (wd D cA ad base S)) (QI D cA ad base S' r) 0 0 (aB base) := by
  refine Met.ofW (cc := cX1_firstToEnd) (maxL := 5) (ret := (some .int)) (by decide) rfl ?_
  intro p e s m args below meth c s₁ B hml hv
  obtain ⟨hargs, hwd⟩ := hv
  have hr := B.returns
  have hlocks := B.notSynchronized
  obtain ⟨C, hw⟩ := CX.of (own := RX1) rfl B hml hwd
  have hx := C.1
  have hb := C.2.1
  have hl := lv_entry ([.ref (ad 42)]) (n := 5) (Nat.le_of_ble_eq_true rfl)
  rw [show entryFrame m args 5 = entryFrame m ([.ref (ad 42)] : List Value).toArray 5 from by rw [hargs], lg_entry_eq]
  generalize (lg_sl ([.ref (ad 42)]) ++ List.replicate (5 - (lg_sl ([.ref (ad 42)])).length) Slot.unset).toArray = ls at hl ⊢
  have hl : lv_has ls 5 [(0, .ref (ad 42))] := hl
  have L_4 : ∀ (n_4 : Nat) (x1 : Int32) (x2 : Int32) (S : St) (H : Heap) (locs : List Loc) (ls : Array Slot), fX1_firstToEnd_4 fu n_4 x1 x2 S = some (S', r) → lv_has ls 5 [(0, .ref (ad 42)), (1, .int x1), (2, .int x2)] → WS D cA ad base s S H locs → W p l e rmX1_firstToEnd s m args below meth c H locs 0 0 (MQ below (QI D cA ad base S' r) args s 0 0 (aB base)) (F0 m 4 ls []) := by
    intro n_4
    induction n_4 with
    | zero =>
      intro x1 x2 S H locs ls hf hl hw
      exact (no_none hf).elim
    | succ n_4 ih_4 =>
      have J_83 : ∀ (x1 : Int32) (x2 : Int32) (S : St) (H : Heap) (locs : List Loc) (ls : Array Slot), fX1_firstToEnd_83 fu (fX1_firstToEnd_4 fu n_4) x1 x2 S = some (S', r) → lv_has ls 5 [(0, .ref (ad 42)), (1, .int x1), (2, .int x2)] → WS D cA ad base s S H locs → W p l e rmX1_firstToEnd s m args below meth c H locs 0 0 (MQ below (QI D cA ad base S' r) args s 0 0 (aB base)) (F0 m 83 ls []) := by
        intro x1 x2 S H locs ls hf hl hw
        refine lv_iinc (v := (x2 + (1 : Int32))) (lv' := [(2, .int (x2 + (1 : Int32))), (0, .ref (ad 42)), (1, .int x1)]) hx hb dX1_firstToEnd_83 hl (k := 2) rfl rfl (by decide) rfl (fun ls hl => ?_)
        refine lv_goto (tgt := 4) hx hb dX1_firstToEnd_86 (by decide) ?_
        exact ih_4 _ _ _ _ _ _ hf (lv_sub hl [1, 2, 0] rfl) hw
      have J_81 : ∀ (x2 : Int32) (S : St) (H : Heap) (locs : List Loc) (ls : Array Slot), fX1_firstToEnd_81 fu (fX1_firstToEnd_4 fu n_4) x2 S = some (S', r) → lv_has ls 5 [(0, .ref (ad 42)), (2, .int x2)] → WS D cA ad base s S H locs → W p l e rmX1_firstToEnd s m args below meth c H locs 0 0 (MQ below (QI D cA ad base S' r) args s 0 0 (aB base)) (F0 m 81 ls []) := by
        intro x2 S H locs ls hf hl hw
        refine lv_iload_n hx hb dX1_firstToEnd_81 rfl (lv_at hl 1 rfl) ?_
        refine lv_istore_n (lv' := [(1, .int x2), (0, .ref (ad 42)), (2, .int x2)]) hx hb dX1_firstToEnd_82 rfl hl (by decide) rfl (fun ls hl => ?_)
        exact J_83 _ _ _ _ _ _ hf (lv_sub hl [1, 0, 2] rfl) hw
      have J_70 : ∀ (x1 : Int32) (x2 : Int32) (x3 : Int32) (t0 : Int32) (S : St) (H : Heap) (locs : List Loc) (ls : Array Slot), fX1_firstToEnd_70 fu (fX1_firstToEnd_4 fu n_4) x1 x2 x3 t0 S = some (S', r) → lv_has ls 5 [(0, .ref (ad 42)), (1, .int x1), (2, .int x2), (3, .int x3)] → WS D cA ad base s S H locs → W p l e rmX1_firstToEnd s m args below meth c H locs 0 0 (MQ below (QI D cA ad base S' r) args s 0 0 (aB base)) (F0 m 70 ls [.int t0]) := by
        intro x1 x2 x3 t0 S H locs ls hf hl hw
        refine lv_istore (lv' := [(4, .int t0), (0, .ref (ad 42)), (1, .int x1), (2, .int x2), (3, .int x3)]) hx hb dX1_firstToEnd_70 hl (by decide) rfl (fun ls hl => ?_)
        refine lv_iload_n hx hb dX1_firstToEnd_72 rfl (lv_at hl 4 rfl) ?_
        refine lv_if_ne (tgt := 81) hx hb dX1_firstToEnd_73 (by decide) (fun c_73 => ?_) (fun c_73 => ?_)
        · have hf := if_f hf c_73
          exact J_81 _ _ _ _ _ hf (lv_sub hl [1, 3] rfl) hw
        · have hf := if_t hf c_73
          refine lv_iload hx hb dX1_firstToEnd_76 (lv_at hl 0 rfl) ?_
          refine lv_if_eq (tgt := 83) hx hb dX1_firstToEnd_78 (by decide) (fun c_78 => ?_) (fun c_78 => ?_)
          · have hf := if_t hf c_78
            exact J_83 _ _ _ _ _ _ hf (lv_sub hl [1, 2, 3] rfl) hw
          · have hf := if_f hf c_78
            exact J_81 _ _ _ _ _ hf (lv_sub hl [1, 3] rfl) hw
      have J_69 : ∀ (x1 : Int32) (x2 : Int32) (x3 : Int32) (S : St) (H : Heap) (locs : List Loc) (ls : Array Slot), fX1_firstToEnd_69 fu (fX1_firstToEnd_4 fu n_4) x1 x2 x3 S = some (S', r) → lv_has ls 5 [(0, .ref (ad 42)), (1, .int x1), (2, .int x2), (3, .int x3)] → WS D cA ad base s S H locs → W p l e rmX1_firstToEnd s m args below meth c H locs 0 0 (MQ below (QI D cA ad base S' r) args s 0 0 (aB base)) (F0 m 69 ls []) := by
        intro x1 x2 x3 S H locs ls hf hl hw
        refine lv_iconst (v := (0 : Int32)) hx hb dX1_firstToEnd_69 (by decide) ?_
        exact J_70 _ _ _ _ _ _ _ _ hf (lv_sub hl [0, 1, 2, 3] rfl) hw
      have J_33 : ∀ (x1 : Int32) (x2 : Int32) (t0 : Int32) (S : St) (H : Heap) (locs : List Loc) (ls : Array Slot), fX1_firstToEnd_33 fu (fX1_firstToEnd_4 fu n_4) x1 x2 t0 S = some (S', r) → lv_has ls 5 [(0, .ref (ad 42)), (1, .int x1), (2, .int x2)] → WS D cA ad base s S H locs → W p l e rmX1_firstToEnd s m args below meth c H locs 0 0 (MQ below (QI D cA ad base S' r) args s 0 0 (aB base)) (F0 m 33 ls [.int t0]) := by
        intro x1 x2 t0 S H locs ls hf hl hw
        refine lv_istore_n (lv' := [(3, .int t0), (0, .ref (ad 42)), (1, .int x1), (2, .int x2)]) hx hb dX1_firstToEnd_33 rfl hl (by decide) rfl (fun ls hl => ?_)
        refine lv_aload_n hx hb dX1_firstToEnd_34 rfl (lv_at hl 1 rfl) ?_
        refine r_getR C hw (k := 2) (r := 45) dq_42 ln_42 rfl vc_1 inX1 (by decide) rfl gw2_1 dX1_firstToEnd_35 ?_
        refine lv_iload_n hx hb dX1_firstToEnd_38 rfl (lv_at hl 3 rfl) ?_
        obtain ⟨z_39, hf⟩ := gd_some hf
        refine r_lald C hw (x := 45) dq_45 ln_45 z_39 dX1_firstToEnd_39 ?_
        refine lv_aload_n hx hb dX1_firstToEnd_40 rfl (lv_at hl 1 rfl) ?_
        refine r_getR C hw (k := 2) (r := 45) dq_42 ln_42 rfl vc_1 inX1 (by decide) rfl gw2_1 dX1_firstToEnd_41 ?_
        refine lv_iload_n hx hb dX1_firstToEnd_44 rfl (lv_at hl 2 rfl) ?_
        obtain ⟨z_45, hf⟩ := gd_some hf
        refine r_lald C hw (x := 45) dq_45 ln_45 z_45 dX1_firstToEnd_45 ?_
        refine W.lcmp hx hb dX1_firstToEnd_46 ?_
        refine lv_if_ne (tgt := 69) hx hb dX1_firstToEnd_47 (by decide) (fun c_47 => ?_) (fun c_47 => ?_)
        · have hf := if_f hf c_47
          exact J_69 _ _ _ _ _ _ _ hf (lv_sub hl [1, 2, 3, 0] rfl) hw
        · have hf := if_t hf c_47
          refine lv_aload_n hx hb dX1_firstToEnd_50 rfl (lv_at hl 1 rfl) ?_
          refine r_getR C hw (k := 3) (r := 46) dq_42 ln_42 rfl vc_1 inX1 (by decide) rfl gw2_2 dX1_firstToEnd_51 ?_
          refine lv_iload_n hx hb dX1_firstToEnd_54 rfl (lv_at hl 3 rfl) ?_
          obtain ⟨z_55, hf⟩ := gd_some hf
          refine r_iald C hw (x := 46) dq_46 ln_46 z_55 dX1_firstToEnd_55 ?_
          refine lv_aload_n hx hb dX1_firstToEnd_56 rfl (lv_at hl 1 rfl) ?_
          refine r_getR C hw (k := 3) (r := 46) dq_42 ln_42 rfl vc_1 inX1 (by decide) rfl gw2_2 dX1_firstToEnd_57 ?_
          refine lv_iload_n hx hb dX1_firstToEnd_60 rfl (lv_at hl 2 rfl) ?_
          obtain ⟨z_61, hf⟩ := gd_some hf
          refine r_iald C hw (x := 46) dq_46 ln_46 z_61 dX1_firstToEnd_61 ?_
          refine lv_icmp_ge (tgt := 69) hx hb dX1_firstToEnd_62 (by decide) (fun c_62 => ?_) (fun c_62 => ?_)
          · have hf := if_t hf c_62
            exact J_69 _ _ _ _ _ _ _ hf (lv_sub hl [1, 2, 3, 0] rfl) hw
          · have hf := if_f hf c_62
            refine lv_iconst (v := (1 : Int32)) hx hb dX1_firstToEnd_65 (by decide) ?_
            refine lv_goto (tgt := 70) hx hb dX1_firstToEnd_66 (by decide) ?_
            exact J_70 _ _ _ _ _ _ _ _ hf (lv_sub hl [1, 2, 3, 0] rfl) hw
      intro x1 x2 S H locs ls hf hl hw
      rw [fX1_firstToEnd_4_s] at hf
      refine lv_iload_n hx hb dX1_firstToEnd_4 rfl (lv_at hl 2 rfl) ?_
      refine lv_aload_n hx hb dX1_firstToEnd_5 rfl (lv_at hl 0 rfl) ?_
      refine r_getI C hw (k := 6) dq_42 ln_42 rfl vc_1 inX1 (by decide) rfl gw2_5 dX1_firstToEnd_6 ?_
      refine lv_icmp_ge (tgt := 89) hx hb dX1_firstToEnd_9 (by decide) (fun c_9 => ?_) (fun c_9 => ?_)
      · have hf := if_t hf c_9
        refine lv_iload_n hx hb dX1_firstToEnd_89 rfl (lv_at hl 1 rfl) ?_
        exact r_iret C hw hr hlocks hf dX1_firstToEnd_90
      · have hf := if_f hf c_9
        refine lv_aload_n hx hb dX1_firstToEnd_12 rfl (lv_at hl 0 rfl) ?_
        refine r_getR C hw (k := 2) (r := 45) dq_42 ln_42 rfl vc_1 inX1 (by decide) rfl gw2_1 dX1_firstToEnd_13 ?_
        refine lv_iload_n hx hb dX1_firstToEnd_16 rfl (lv_at hl 2 rfl) ?_
        obtain ⟨z_17, hf⟩ := gd_some hf
        refine r_lald C hw (x := 45) dq_45 ln_45 z_17 dX1_firstToEnd_17 ?_
        refine lv_aload_n hx hb dX1_firstToEnd_18 rfl (lv_at hl 0 rfl) ?_
        refine r_getR C hw (k := 2) (r := 45) dq_42 ln_42 rfl vc_1 inX1 (by decide) rfl gw2_1 dX1_firstToEnd_19 ?_
        refine lv_iload_n hx hb dX1_firstToEnd_22 rfl (lv_at hl 1 rfl) ?_
        obtain ⟨z_23, hf⟩ := gd_some hf
        refine r_lald C hw (x := 45) dq_45 ln_45 z_23 dX1_firstToEnd_23 ?_
        refine W.lcmp hx hb dX1_firstToEnd_24 ?_
        refine lv_if_ge (tgt := 32) hx hb dX1_firstToEnd_25 (by decide) (fun c_25 => ?_) (fun c_25 => ?_)
        · have hf := if_t hf c_25
          refine lv_iconst (v := (0 : Int32)) hx hb dX1_firstToEnd_32 (by decide) ?_
          exact J_33 _ _ _ _ _ _ _ hf (lv_sub hl [0, 1, 2] rfl) hw
        · have hf := if_f hf c_25
          refine lv_iconst (v := (1 : Int32)) hx hb dX1_firstToEnd_28 (by decide) ?_
          refine lv_goto (tgt := 33) hx hb dX1_firstToEnd_29 (by decide) ?_
          exact J_33 _ _ _ _ _ _ _ hf (lv_sub hl [0, 1, 2] rfl) hw
  show W p l e rmX1_firstToEnd s m args below meth c s.heap [] 0 0 _ _
  refine lv_iconst (v := (0 : Int32)) hx hb dX1_firstToEnd_0 (by decide) ?_
  refine lv_istore_n (lv' := [(1, .int (0 : Int32)), (0, .ref (ad 42))]) hx hb dX1_firstToEnd_1 rfl hl (by decide) rfl (fun ls hl => ?_)
  refine lv_iconst (v := (1 : Int32)) hx hb dX1_firstToEnd_2 (by decide) ?_
  refine lv_istore_n (lv' := [(2, .int (1 : Int32)), (1, .int (0 : Int32)), (0, .ref (ad 42))]) hx hb dX1_firstToEnd_3 rfl hl (by decide) rfl (fun ls hl => ?_)
  exact L_4 fu _ _ _ _ _ _ hf (lv_sub hl [2, 1, 0] rfl) hw
noncomputable def fX1_put_114 (fu : Nat) (n : Nat) : Int32 → Int32 → Int32 → St → Option (St × Int32) :=
  Nat.rec (motive := fun _ => Int32 → Int32 → Int32 → St → Option (St × Int32)) (fun _ _ _ _ => none) (fun _ k_114 x4 x7 x8 S =>
    if x4 ≤ x8 then
      some (S, (0 : Int32))
    else
      if (10 : Int32) ≤ x8 then
        some (S, (0 : Int32))
      else
        if (Int32.ofNat 10) ≤ x8 then
          some (S, (0 : Int32))
        else
          gd (ck x8 10) <|
          gd (ck ((x7 * (10 : Int32)) + x8) 1000) <|
          sI 48 (((x7 * (10 : Int32)) + x8)).toNatClampNeg (S.1 61 (x8).toNatClampNeg) S fun S_151 =>
          gd (ck x7 100) <|
          sI 47 (x7).toNatClampNeg (x8 + (1 : Int32)) S_151 fun S_162 =>
          k_114 x4 x7 (x8 + (1 : Int32)) S_162) n
theorem fX1_put_114_s (fu : Nat) (n : Nat) (x4 : Int32) (x7 : Int32) (x8 : Int32) (S : St) : fX1_put_114 fu (n + 1) x4 x7 x8 S = (
    if x4 ≤ x8 then
      some (S, (0 : Int32))
    else
      if (10 : Int32) ≤ x8 then
        some (S, (0 : Int32))
      else
        if (Int32.ofNat 10) ≤ x8 then
          some (S, (0 : Int32))
        else
          gd (ck x8 10) <|
          gd (ck ((x7 * (10 : Int32)) + x8) 1000) <|
          sI 48 (((x7 * (10 : Int32)) + x8)).toNatClampNeg (S.1 61 (x8).toNatClampNeg) S fun S_151 =>
          gd (ck x7 100) <|
          sI 47 (x7).toNatClampNeg (x8 + (1 : Int32)) S_151 fun S_162 =>
          (fX1_put_114 fu n) x4 x7 (x8 + (1 : Int32)) S_162) := rfl
noncomputable def fX1_put_51 (fu : Nat) (x1 : Int32) (x2 : Int32) (x4 : Int32) (x5 : Int64) (x7 : Int32) (S : St) : Option (St × Int32) :=
  gd (ck x7 100) <|
  sI 43 (x7).toNatClampNeg x1 S fun S_58 =>
  gd (ck x7 100) <|
  sI 44 (x7).toNatClampNeg x2 S_58 fun S_66 =>
  gd (ck x7 100) <|
  sJ 45 (x7).toNatClampNeg (((S_66.1 42 8)).toInt64 + x5) S_66 fun S_81 =>
  gd (ck x7 100) <|
  sI 46 (x7).toNatClampNeg (S_81.1 42 7) S_81 fun S_92 =>
  sI 42 7 ((S_92.1 42 7) + (1 : Int32)) S_92 fun S_100 =>
  gd (ck x7 100) <|
  sI 47 (x7).toNatClampNeg (0 : Int32) S_100 fun S_110 =>
  fX1_put_114 fu fu x4 x7 (0 : Int32) S_110
noncomputable def fX1_put_39 (fu : Nat) (x1 : Int32) (x2 : Int32) (x4 : Int32) (x5 : Int64) (x7 : Int32) (S : St) : Option (St × Int32) :=
  if x7 = (-1 : Int32) then
    bd (fX1_firstToEnd fu S) fun S_46 r_46 =>
    fX1_put_51 fu x1 x2 x4 x5 r_46 S_46
  else
    fX1_put_51 fu x1 x2 x4 x5 x7 S
noncomputable def fX1_put (fu : Nat) (x1 : Int32) (x2 : Int32) (x4 : Int32) (x5 : Int64) (S : St) : Option (St × Int32) :=
  bd (fX1_slotOf fu x1 x2 S) fun S_3 r_3 =>
  if r_3 = (-1 : Int32) then
    if (100 : Int32) ≤ (S_3.1 42 6) then
      fX1_put_39 fu x1 x2 x4 x5 r_3 S_3
    else
      sI 42 6 ((S_3.1 42 6) + (1 : Int32)) S_3 fun S_36 =>
      fX1_put_39 fu x1 x2 x4 x5 (S_3.1 42 6) S_36
  else
    fX1_put_39 fu x1 x2 x4 x5 r_3 S_3
theorem mvX1_put : MV yX1_put cX1_put 9 none RX1 5 := ⟨gw6_74, gw6_72, gw6_73, gw1_10, by decide +kernel⟩
def rmX1_put : Room := { frames := 1, cells := 0, slots := 0, locals := 24 }
set_option maxHeartbeats 4000000 in
set_option maxRecDepth 100000 in
theorem m_X1_put (l : Launch) (D : va_G) (cA : FieldType → ClassId) (ad : Nat → Nat) (base : Nat) (fu : Nat) {S S' : St} {x1 : Int32} {x2 : Int32} {x4 : Int32} {x5 : Int64} {r : Int32} (hf : fX1_put fu x1 x2 x4 x5 S = some (S', r)) : Met l yX1_put (GC yX1_put cX1_put 9 none) rmX1_put (va_Pc [.ref (ad 42), .int x1, .int x2, .ref (ad 61), .int x4, .long x5] (wd D cA ad base S)) (QV D cA ad base S') 0 0 (aB base) := by
  refine Met.ofW (cc := cX1_put) (maxL := 9) (ret := none) (by decide) rfl ?_
  intro p e s m args below meth c s₁ B hml hv
  obtain ⟨hargs, hwd⟩ := hv
  have hr := B.returns
  have hlocks := B.notSynchronized
  obtain ⟨C, hw⟩ := CX.of (own := RX1) rfl B hml hwd
  have hx := C.1
  have hb := C.2.1
  have hl := lv_entry ([.ref (ad 42), .int x1, .int x2, .ref (ad 61), .int x4, .long x5]) (n := 9) (Nat.le_of_ble_eq_true rfl)
  rw [show entryFrame m args 9 = entryFrame m ([.ref (ad 42), .int x1, .int x2, .ref (ad 61), .int x4, .long x5] : List Value).toArray 9 from by rw [hargs], lg_entry_eq]
  generalize (lg_sl ([.ref (ad 42), .int x1, .int x2, .ref (ad 61), .int x4, .long x5]) ++ List.replicate (9 - (lg_sl ([.ref (ad 42), .int x1, .int x2, .ref (ad 61), .int x4, .long x5])).length) Slot.unset).toArray = ls at hl ⊢
  have hl : lv_has ls 9 [(0, .ref (ad 42)), (1, .int x1), (2, .int x2), (3, .ref (ad 61)), (4, .int x4), (5, .long x5)] := hl
  have L_114 : ∀ (n_114 : Nat) (x4 : Int32) (x7 : Int32) (x8 : Int32) (S : St) (H : Heap) (locs : List Loc) (ls : Array Slot), fX1_put_114 fu n_114 x4 x7 x8 S = some (S', r) → lv_has ls 9 [(0, .ref (ad 42)), (3, .ref (ad 61)), (4, .int x4), (7, .int x7), (8, .int x8)] → WS D cA ad base s S H locs → W p l e rmX1_put s m args below meth c H locs 0 0 (MQ below (QV D cA ad base S') args s 0 0 (aB base)) (F0 m 114 ls []) := by
    intro n_114
    induction n_114 with
    | zero =>
      intro x4 x7 x8 S H locs ls hf hl hw
      exact (no_none hf).elim
    | succ n_114 ih_114 =>
      intro x4 x7 x8 S H locs ls hf hl hw
      rw [fX1_put_114_s] at hf
      refine lv_iload hx hb dX1_put_114 (lv_at hl 4 rfl) ?_
      refine lv_iload hx hb dX1_put_116 (lv_at hl 2 rfl) ?_
      refine lv_icmp_ge (tgt := 169) hx hb dX1_put_118 (by decide) (fun c_118 => ?_) (fun c_118 => ?_)
      · have hf := if_t hf c_118
        exact r_vret C hw hr hlocks hf dX1_put_169
      · have hf := if_f hf c_118
        refine lv_iload hx hb dX1_put_121 (lv_at hl 4 rfl) ?_
        refine lv_bipush (v := (10 : Int32)) hx hb dX1_put_123 (by decide) ?_
        refine lv_icmp_ge (tgt := 169) hx hb dX1_put_125 (by decide) (fun c_125 => ?_) (fun c_125 => ?_)
        · have hf := if_t hf c_125
          exact r_vret C hw hr hlocks hf dX1_put_169
        · have hf := if_f hf c_125
          refine lv_iload hx hb dX1_put_128 (lv_at hl 4 rfl) ?_
          refine lv_aload_n hx hb dX1_put_130 rfl (lv_at hl 1 rfl) ?_
          refine r_alen C hw (x := 61) dq_61 ln_61 dX1_put_131 ?_
          refine lv_icmp_ge (tgt := 169) hx hb dX1_put_132 (by decide) (fun c_132 => ?_) (fun c_132 => ?_)
          · have hf := if_t hf c_132
            exact r_vret C hw hr hlocks hf dX1_put_169
          · have hf := if_f hf c_132
            refine lv_aload_n hx hb dX1_put_135 rfl (lv_at hl 0 rfl) ?_
            refine r_getR C hw (k := 5) (r := 48) dq_42 ln_42 rfl vc_1 inX1 (by decide) rfl gw2_4 dX1_put_136 ?_
            refine lv_iload hx hb dX1_put_139 (lv_at hl 3 rfl) ?_
            refine lv_bipush (v := (10 : Int32)) hx hb dX1_put_141 (by decide) ?_
            refine lv_imul hx hb dX1_put_143 ?_
            refine lv_iload hx hb dX1_put_144 (lv_at hl 4 rfl) ?_
            refine lv_iadd hx hb dX1_put_146 ?_
            refine lv_aload_n hx hb dX1_put_147 rfl (lv_at hl 1 rfl) ?_
            refine lv_iload hx hb dX1_put_148 (lv_at hl 4 rfl) ?_
            obtain ⟨z_150, hf⟩ := gd_some hf
            refine r_iald C hw (x := 61) dq_61 ln_61 z_150 dX1_put_150 ?_
            obtain ⟨z_151, hf⟩ := gd_some hf
            obtain ⟨S_151, e_151, hf⟩ := sI_some hf
            refine r_iast C hw (x := 48) dq_48 ln_48 z_151 dX1_put_151 e_151 (fun H locs hw => ?_)
            refine lv_aload_n hx hb dX1_put_152 rfl (lv_at hl 0 rfl) ?_
            refine r_getR C hw (k := 4) (r := 47) dq_42 ln_42 rfl vc_1 inX1 (by decide) rfl gw2_3 dX1_put_153 ?_
            refine lv_iload hx hb dX1_put_156 (lv_at hl 3 rfl) ?_
            refine lv_iload hx hb dX1_put_158 (lv_at hl 4 rfl) ?_
            refine lv_iconst (v := (1 : Int32)) hx hb dX1_put_160 (by decide) ?_
            refine lv_iadd hx hb dX1_put_161 ?_
            obtain ⟨z_162, hf⟩ := gd_some hf
            obtain ⟨S_162, e_162, hf⟩ := sI_some hf
            refine r_iast C hw (x := 47) dq_47 ln_47 z_162 dX1_put_162 e_162 (fun H locs hw => ?_)
            refine lv_iinc (v := (x8 + (1 : Int32))) (lv' := [(8, .int (x8 + (1 : Int32))), (0, .ref (ad 42)), (3, .ref (ad 61)), (4, .int x4), (7, .int x7)]) hx hb dX1_put_163 hl (k := 4) rfl rfl (by decide) rfl (fun ls hl => ?_)
            refine lv_goto (tgt := 114) hx hb dX1_put_166 (by decide) ?_
            exact ih_114 _ _ _ _ _ _ _ hf (lv_sub hl [1, 2, 3, 4, 0] rfl) hw
  have J_51 : ∀ (x1 : Int32) (x2 : Int32) (x4 : Int32) (x5 : Int64) (x7 : Int32) (S : St) (H : Heap) (locs : List Loc) (ls : Array Slot), fX1_put_51 fu x1 x2 x4 x5 x7 S = some (S', r) → lv_has ls 9 [(0, .ref (ad 42)), (1, .int x1), (2, .int x2), (3, .ref (ad 61)), (4, .int x4), (5, .long x5), (7, .int x7)] → WS D cA ad base s S H locs → W p l e rmX1_put s m args below meth c H locs 0 0 (MQ below (QV D cA ad base S') args s 0 0 (aB base)) (F0 m 51 ls []) := by
    intro x1 x2 x4 x5 x7 S H locs ls hf hl hw
    refine lv_aload_n hx hb dX1_put_51 rfl (lv_at hl 0 rfl) ?_
    refine r_getR C hw (k := 0) (r := 43) dq_42 ln_42 rfl vc_1 inX1 (by decide) rfl gw1_239 dX1_put_52 ?_
    refine lv_iload hx hb dX1_put_55 (lv_at hl 6 rfl) ?_
    refine lv_iload_n hx hb dX1_put_57 rfl (lv_at hl 1 rfl) ?_
    obtain ⟨z_58, hf⟩ := gd_some hf
    obtain ⟨S_58, e_58, hf⟩ := sI_some hf
    refine r_iast C hw (x := 43) dq_43 ln_43 z_58 dX1_put_58 e_58 (fun H locs hw => ?_)
    refine lv_aload_n hx hb dX1_put_59 rfl (lv_at hl 0 rfl) ?_
    refine r_getR C hw (k := 1) (r := 44) dq_42 ln_42 rfl vc_1 inX1 (by decide) rfl gw2_0 dX1_put_60 ?_
    refine lv_iload hx hb dX1_put_63 (lv_at hl 6 rfl) ?_
    refine lv_iload_n hx hb dX1_put_65 rfl (lv_at hl 2 rfl) ?_
    obtain ⟨z_66, hf⟩ := gd_some hf
    obtain ⟨S_66, e_66, hf⟩ := sI_some hf
    refine r_iast C hw (x := 44) dq_44 ln_44 z_66 dX1_put_66 e_66 (fun H locs hw => ?_)
    refine lv_aload_n hx hb dX1_put_67 rfl (lv_at hl 0 rfl) ?_
    refine r_getR C hw (k := 2) (r := 45) dq_42 ln_42 rfl vc_1 inX1 (by decide) rfl gw2_1 dX1_put_68 ?_
    refine lv_iload hx hb dX1_put_71 (lv_at hl 6 rfl) ?_
    refine lv_aload_n hx hb dX1_put_73 rfl (lv_at hl 0 rfl) ?_
    refine r_getI C hw (k := 8) dq_42 ln_42 rfl vc_1 inX1 (by decide) rfl gw2_7 dX1_put_74 ?_
    refine lv_i2l hx hb dX1_put_77 rfl ?_
    refine lv_lload hx hb dX1_put_78 (lv_at hl 5 rfl) ?_
    refine lv_ladd hx hb dX1_put_80 ?_
    obtain ⟨z_81, hf⟩ := gd_some hf
    obtain ⟨S_81, e_81, hf⟩ := sJ_some hf
    refine r_last C hw (x := 45) dq_45 ln_45 z_81 dX1_put_81 e_81 (fun H locs hw => ?_)
    refine lv_aload_n hx hb dX1_put_82 rfl (lv_at hl 0 rfl) ?_
    refine r_getR C hw (k := 3) (r := 46) dq_42 ln_42 rfl vc_1 inX1 (by decide) rfl gw2_2 dX1_put_83 ?_
    refine lv_iload hx hb dX1_put_86 (lv_at hl 6 rfl) ?_
    refine lv_aload_n hx hb dX1_put_88 rfl (lv_at hl 0 rfl) ?_
    refine r_getI C hw (k := 7) dq_42 ln_42 rfl vc_1 inX1 (by decide) rfl gw2_6 dX1_put_89 ?_
    obtain ⟨z_92, hf⟩ := gd_some hf
    obtain ⟨S_92, e_92, hf⟩ := sI_some hf
    refine r_iast C hw (x := 46) dq_46 ln_46 z_92 dX1_put_92 e_92 (fun H locs hw => ?_)
    refine lv_aload_n hx hb dX1_put_93 rfl (lv_at hl 0 rfl) ?_
    refine lv_dup hx hb dX1_put_94 rfl ?_
    refine r_getI C hw (k := 7) dq_42 ln_42 rfl vc_1 inX1 (by decide) rfl gw2_6 dX1_put_95 ?_
    refine lv_iconst (v := (1 : Int32)) hx hb dX1_put_98 (by decide) ?_
    refine lv_iadd hx hb dX1_put_99 ?_
    obtain ⟨S_100, e_100, hf⟩ := sI_some hf
    refine r_putI C hw (k := 7) (ty0 := tyX1) dq_42 ln_42 rfl vc_1 inX1 tyX1_ok nmX1 (by decide) rfl rfl gw2_6 rfl rfl dX1_put_100 e_100 (fun H locs hw => ?_)
    refine lv_aload_n hx hb dX1_put_103 rfl (lv_at hl 0 rfl) ?_
    refine r_getR C hw (k := 4) (r := 47) dq_42 ln_42 rfl vc_1 inX1 (by decide) rfl gw2_3 dX1_put_104 ?_
    refine lv_iload hx hb dX1_put_107 (lv_at hl 6 rfl) ?_
    refine lv_iconst (v := (0 : Int32)) hx hb dX1_put_109 (by decide) ?_
    obtain ⟨z_110, hf⟩ := gd_some hf
    obtain ⟨S_110, e_110, hf⟩ := sI_some hf
    refine r_iast C hw (x := 47) dq_47 ln_47 z_110 dX1_put_110 e_110 (fun H locs hw => ?_)
    refine lv_iconst (v := (0 : Int32)) hx hb dX1_put_111 (by decide) ?_
    refine lv_istore (lv' := [(8, .int (0 : Int32)), (0, .ref (ad 42)), (1, .int x1), (2, .int x2), (3, .ref (ad 61)), (4, .int x4), (5, .long x5), (7, .int x7)]) hx hb dX1_put_112 hl (by decide) rfl (fun ls hl => ?_)
    exact L_114 fu _ _ _ _ _ _ _ hf (lv_sub hl [1, 4, 5, 7, 0] rfl) hw
  have J_39 : ∀ (x1 : Int32) (x2 : Int32) (x4 : Int32) (x5 : Int64) (x7 : Int32) (S : St) (H : Heap) (locs : List Loc) (ls : Array Slot), fX1_put_39 fu x1 x2 x4 x5 x7 S = some (S', r) → lv_has ls 9 [(0, .ref (ad 42)), (1, .int x1), (2, .int x2), (3, .ref (ad 61)), (4, .int x4), (5, .long x5), (7, .int x7)] → WS D cA ad base s S H locs → W p l e rmX1_put s m args below meth c H locs 0 0 (MQ below (QV D cA ad base S') args s 0 0 (aB base)) (F0 m 39 ls []) := by
    intro x1 x2 x4 x5 x7 S H locs ls hf hl hw
    refine lv_iload hx hb dX1_put_39 (lv_at hl 6 rfl) ?_
    refine lv_iconst (v := (-1 : Int32)) hx hb dX1_put_41 (by decide) ?_
    refine lv_icmp_ne (tgt := 51) hx hb dX1_put_42 (by decide) (fun c_42 => ?_) (fun c_42 => ?_)
    · have hf := if_f hf c_42
      exact J_51 _ _ _ _ _ _ _ _ _ hf (lv_sub hl [0, 1, 2, 3, 4, 5, 6] rfl) hw
    · have hf := if_t hf c_42
      refine lv_aload_n hx hb dX1_put_45 rfl (lv_at hl 0 rfl) ?_
      obtain ⟨S_46, r_46, h_46, hf⟩ := bd_some hf
      refine r_bi hw (r_runV (rest := []) C hw (m_X1_firstToEnd l D cA ad base fu h_46) mvX1_firstToEnd gw6_75 ⟨rfl, rfl, Nat.le_of_ble_eq_true rfl, Nat.le_of_ble_eq_true rfl⟩ dq_42 ln_42 vc_1 rfl hl.1 rfl (Nat.le_of_ble_eq_true rfl) dX1_put_46 (Nat.zero_le _) (Nat.zero_le _)) (fun H locs hw => ?_)
      refine lv_istore (lv' := [(7, .int r_46), (0, .ref (ad 42)), (1, .int x1), (2, .int x2), (3, .ref (ad 61)), (4, .int x4), (5, .long x5)]) hx hb dX1_put_49 hl (by decide) rfl (fun ls hl => ?_)
      exact J_51 _ _ _ _ _ _ _ _ _ hf (lv_sub hl [1, 2, 3, 4, 5, 6, 0] rfl) hw
  show W p l e rmX1_put s m args below meth c s.heap [] 0 0 _ _
  refine lv_aload_n hx hb dX1_put_0 rfl (lv_at hl 0 rfl) ?_
  refine lv_iload_n hx hb dX1_put_1 rfl (lv_at hl 1 rfl) ?_
  refine lv_iload_n hx hb dX1_put_2 rfl (lv_at hl 2 rfl) ?_
  obtain ⟨S_3, r_3, h_3, hf⟩ := bd_some hf
  refine r_bi hw (r_runV (rest := []) C hw (m_X1_slotOf l D cA ad base fu h_3) mvX1_slotOf gw5_152 ⟨rfl, rfl, Nat.le_of_ble_eq_true rfl, Nat.le_of_ble_eq_true rfl⟩ dq_42 ln_42 vc_1 rfl hl.1 rfl (Nat.le_of_ble_eq_true rfl) dX1_put_3 (Nat.zero_le _) (Nat.zero_le _)) (fun H locs hw => ?_)
  refine lv_istore (lv' := [(7, .int r_3), (0, .ref (ad 42)), (1, .int x1), (2, .int x2), (3, .ref (ad 61)), (4, .int x4), (5, .long x5)]) hx hb dX1_put_6 hl (by decide) rfl (fun ls hl => ?_)
  refine lv_iload hx hb dX1_put_8 (lv_at hl 0 rfl) ?_
  refine lv_iconst (v := (-1 : Int32)) hx hb dX1_put_10 (by decide) ?_
  refine lv_icmp_ne (tgt := 39) hx hb dX1_put_11 (by decide) (fun c_11 => ?_) (fun c_11 => ?_)
  · have hf := if_f hf c_11
    exact J_39 _ _ _ _ _ _ _ _ _ hf (lv_sub hl [1, 2, 3, 4, 5, 6, 0] rfl) hw
  · have hf := if_t hf c_11
    refine lv_aload_n hx hb dX1_put_14 rfl (lv_at hl 1 rfl) ?_
    refine r_getI C hw (k := 6) dq_42 ln_42 rfl vc_1 inX1 (by decide) rfl gw2_5 dX1_put_15 ?_
    refine lv_bipush (v := (100 : Int32)) hx hb dX1_put_18 (by decide) ?_
    refine lv_icmp_ge (tgt := 39) hx hb dX1_put_20 (by decide) (fun c_20 => ?_) (fun c_20 => ?_)
    · have hf := if_t hf c_20
      exact J_39 _ _ _ _ _ _ _ _ _ hf (lv_sub hl [1, 2, 3, 4, 5, 6, 0] rfl) hw
    · have hf := if_f hf c_20
      refine lv_aload_n hx hb dX1_put_23 rfl (lv_at hl 1 rfl) ?_
      refine r_getI C hw (k := 6) dq_42 ln_42 rfl vc_1 inX1 (by decide) rfl gw2_5 dX1_put_24 ?_
      refine lv_istore (lv' := [(7, .int (S_3.1 42 6)), (0, .ref (ad 42)), (1, .int x1), (2, .int x2), (3, .ref (ad 61)), (4, .int x4), (5, .long x5)]) hx hb dX1_put_27 hl (by decide) rfl (fun ls hl => ?_)
      refine lv_aload_n hx hb dX1_put_29 rfl (lv_at hl 1 rfl) ?_
      refine lv_dup hx hb dX1_put_30 rfl ?_
      refine r_getI C hw (k := 6) dq_42 ln_42 rfl vc_1 inX1 (by decide) rfl gw2_5 dX1_put_31 ?_
      refine lv_iconst (v := (1 : Int32)) hx hb dX1_put_34 (by decide) ?_
      refine lv_iadd hx hb dX1_put_35 ?_
      obtain ⟨S_36, e_36, hf⟩ := sI_some hf
      refine r_putI C hw (k := 6) (ty0 := tyX1) dq_42 ln_42 rfl vc_1 inX1 tyX1_ok nmX1 (by decide) rfl rfl gw2_5 rfl rfl dX1_put_36 e_36 (fun H locs hw => ?_)
      exact J_39 _ _ _ _ _ _ _ _ _ hf (lv_sub hl [1, 2, 3, 4, 5, 6, 0] rfl) hw
noncomputable def fX2_depth (fu : Nat) (S : St) : Option (St × Int32) :=
  some (S, (S.1 50 8))
theorem mvX2_depth : MV yX2_depth cX2_depth 1 (some .int) RX2 0 := ⟨gw5_167, gw5_165, gw5_166, gw1_12, by decide +kernel⟩
def rmX2_depth : Room := { frames := 0, cells := 0, slots := 0, locals := 0 }
set_option maxHeartbeats 4000000 in
set_option maxRecDepth 100000 in
theorem m_X2_depth (l : Launch) (D : va_G) (cA : FieldType → ClassId) (ad : Nat → Nat) (base : Nat) (fu : Nat) {S S' : St} {r : Int32} (hf : fX2_depth fu S = some (S', r)) : Met l yX2_depth (GC yX2_depth cX2_depth 1 (some .int)) rmX2_depth (va_Pc [.ref (ad 50)] (wd D cA ad base S)) (QI D cA ad base S' r) 0 0 (aB base) := by
  refine Met.ofW (cc := cX2_depth) (maxL := 1) (ret := (some .int)) (by decide) rfl ?_
  intro p e s m args below meth c s₁ B hml hv
  obtain ⟨hargs, hwd⟩ := hv
  have hr := B.returns
  have hlocks := B.notSynchronized
  obtain ⟨C, hw⟩ := CX.of (own := RX2) rfl B hml hwd
  have hx := C.1
  have hb := C.2.1
  have hl := lv_entry ([.ref (ad 50)]) (n := 1) (Nat.le_of_ble_eq_true rfl)
  rw [show entryFrame m args 1 = entryFrame m ([.ref (ad 50)] : List Value).toArray 1 from by rw [hargs], lg_entry_eq]
  generalize (lg_sl ([.ref (ad 50)]) ++ List.replicate (1 - (lg_sl ([.ref (ad 50)])).length) Slot.unset).toArray = ls at hl ⊢
  have hl : lv_has ls 1 [(0, .ref (ad 50))] := hl
  show W p l e rmX2_depth s m args below meth c s.heap [] 0 0 _ _
  refine lv_aload_n hx hb dX2_depth_0 rfl (lv_at hl 0 rfl) ?_
  refine r_getI C hw (k := 8) dq_50 ln_50 rfl vc_2 inX2 (by decide) rfl gw2_47 dX2_depth_1 ?_
  exact r_iret C hw hr hlocks hf dX2_depth_4
noncomputable def fX2_topName (fu : Nat) (S : St) : Option (St × Int32) :=
  gd (ck (S.1 50 9) 4) <|
  some (S, (S.1 51 ((S.1 50 9)).toNatClampNeg))
theorem mvX2_topName : MV yX2_topName cX2_topName 1 (some .int) RX2 0 := ⟨gw5_143, gw5_141, gw5_142, gw1_12, by decide +kernel⟩
def rmX2_topName : Room := { frames := 0, cells := 0, slots := 0, locals := 0 }
set_option maxHeartbeats 4000000 in
set_option maxRecDepth 100000 in
theorem m_X2_topName (l : Launch) (D : va_G) (cA : FieldType → ClassId) (ad : Nat → Nat) (base : Nat) (fu : Nat) {S S' : St} {r : Int32} (hf : fX2_topName fu S = some (S', r)) : Met l yX2_topName (GC yX2_topName cX2_topName 1 (some .int)) rmX2_topName (va_Pc [.ref (ad 50)] (wd D cA ad base S)) (QI D cA ad base S' r) 0 0 (aB base) := by
  refine Met.ofW (cc := cX2_topName) (maxL := 1) (ret := (some .int)) (by decide) rfl ?_
  intro p e s m args below meth c s₁ B hml hv
  obtain ⟨hargs, hwd⟩ := hv
  have hr := B.returns
  have hlocks := B.notSynchronized
  obtain ⟨C, hw⟩ := CX.of (own := RX2) rfl B hml hwd
  have hx := C.1
  have hb := C.2.1
  have hl := lv_entry ([.ref (ad 50)]) (n := 1) (Nat.le_of_ble_eq_true rfl)
  rw [show entryFrame m args 1 = entryFrame m ([.ref (ad 50)] : List Value).toArray 1 from by rw [hargs], lg_entry_eq]
  generalize (lg_sl ([.ref (ad 50)]) ++ List.replicate (1 - (lg_sl ([.ref (ad 50)])).length) Slot.unset).toArray = ls at hl ⊢
  have hl : lv_has ls 1 [(0, .ref (ad 50))] := hl
  show W p l e rmX2_topName s m args below meth c s.heap [] 0 0 _ _
  refine lv_aload_n hx hb dX2_topName_0 rfl (lv_at hl 0 rfl) ?_
  refine r_getR C hw (k := 0) (r := 51) dq_50 ln_50 rfl vc_2 inX2 (by decide) rfl gw2_39 dX2_topName_1 ?_
  refine lv_aload_n hx hb dX2_topName_4 rfl (lv_at hl 0 rfl) ?_
  refine r_getI C hw (k := 9) dq_50 ln_50 rfl vc_2 inX2 (by decide) rfl gw2_48 dX2_topName_5 ?_
  obtain ⟨z_8, hf⟩ := gd_some hf
  refine r_iald C hw (x := 51) dq_51 ln_51 z_8 dX2_topName_8 ?_
  exact r_iret C hw hr hlocks hf dX2_topName_9
noncomputable def fX2_topType (fu : Nat) (S : St) : Option (St × Int32) :=
  gd (ck (S.1 50 9) 4) <|
  some (S, (S.1 52 ((S.1 50 9)).toNatClampNeg))
theorem mvX2_topType : MV yX2_topType cX2_topType 1 (some .int) RX2 0 := ⟨gw5_147, gw5_145, gw5_146, gw1_12, by decide +kernel⟩
def rmX2_topType : Room := { frames := 0, cells := 0, slots := 0, locals := 0 }
set_option maxHeartbeats 4000000 in
set_option maxRecDepth 100000 in
theorem m_X2_topType (l : Launch) (D : va_G) (cA : FieldType → ClassId) (ad : Nat → Nat) (base : Nat) (fu : Nat) {S S' : St} {r : Int32} (hf : fX2_topType fu S = some (S', r)) : Met l yX2_topType (GC yX2_topType cX2_topType 1 (some .int)) rmX2_topType (va_Pc [.ref (ad 50)] (wd D cA ad base S)) (QI D cA ad base S' r) 0 0 (aB base) := by
  refine Met.ofW (cc := cX2_topType) (maxL := 1) (ret := (some .int)) (by decide) rfl ?_
  intro p e s m args below meth c s₁ B hml hv
  obtain ⟨hargs, hwd⟩ := hv
  have hr := B.returns
  have hlocks := B.notSynchronized
  obtain ⟨C, hw⟩ := CX.of (own := RX2) rfl B hml hwd
  have hx := C.1
  have hb := C.2.1
  have hl := lv_entry ([.ref (ad 50)]) (n := 1) (Nat.le_of_ble_eq_true rfl)
  rw [show entryFrame m args 1 = entryFrame m ([.ref (ad 50)] : List Value).toArray 1 from by rw [hargs], lg_entry_eq]
  generalize (lg_sl ([.ref (ad 50)]) ++ List.replicate (1 - (lg_sl ([.ref (ad 50)])).length) Slot.unset).toArray = ls at hl ⊢
  have hl : lv_has ls 1 [(0, .ref (ad 50))] := hl
  show W p l e rmX2_topType s m args below meth c s.heap [] 0 0 _ _
  refine lv_aload_n hx hb dX2_topType_0 rfl (lv_at hl 0 rfl) ?_
  refine r_getR C hw (k := 1) (r := 52) dq_50 ln_50 rfl vc_2 inX2 (by decide) rfl gw2_40 dX2_topType_1 ?_
  refine lv_aload_n hx hb dX2_topType_4 rfl (lv_at hl 0 rfl) ?_
  refine r_getI C hw (k := 9) dq_50 ln_50 rfl vc_2 inX2 (by decide) rfl gw2_48 dX2_topType_5 ?_
  obtain ⟨z_8, hf⟩ := gd_some hf
  refine r_iald C hw (x := 52) dq_52 ln_52 z_8 dX2_topType_8 ?_
  exact r_iret C hw hr hlocks hf dX2_topType_9
noncomputable def fX2_topChains (fu : Nat) (S : St) : Option (St × Int32) :=
  gd (ck (S.1 50 9) 4) <|
  some (S, (S.1 53 ((S.1 50 9)).toNatClampNeg))
theorem mvX2_topChains : MV yX2_topChains cX2_topChains 1 (some .int) RX2 0 := ⟨gw5_184, gw5_182, gw5_183, gw1_12, by decide +kernel⟩
def rmX2_topChains : Room := { frames := 0, cells := 0, slots := 0, locals := 0 }
set_option maxHeartbeats 4000000 in
set_option maxRecDepth 100000 in
theorem m_X2_topChains (l : Launch) (D : va_G) (cA : FieldType → ClassId) (ad : Nat → Nat) (base : Nat) (fu : Nat) {S S' : St} {r : Int32} (hf : fX2_topChains fu S = some (S', r)) : Met l yX2_topChains (GC yX2_topChains cX2_topChains 1 (some .int)) rmX2_topChains (va_Pc [.ref (ad 50)] (wd D cA ad base S)) (QI D cA ad base S' r) 0 0 (aB base) := by
  refine Met.ofW (cc := cX2_topChains) (maxL := 1) (ret := (some .int)) (by decide) rfl ?_
  intro p e s m args below meth c s₁ B hml hv
  obtain ⟨hargs, hwd⟩ := hv
  have hr := B.returns
  have hlocks := B.notSynchronized
  obtain ⟨C, hw⟩ := CX.of (own := RX2) rfl B hml hwd
  have hx := C.1
  have hb := C.2.1
  have hl := lv_entry ([.ref (ad 50)]) (n := 1) (Nat.le_of_ble_eq_true rfl)
  rw [show entryFrame m args 1 = entryFrame m ([.ref (ad 50)] : List Value).toArray 1 from by rw [hargs], lg_entry_eq]
  generalize (lg_sl ([.ref (ad 50)]) ++ List.replicate (1 - (lg_sl ([.ref (ad 50)])).length) Slot.unset).toArray = ls at hl ⊢
  have hl : lv_has ls 1 [(0, .ref (ad 50))] := hl
  show W p l e rmX2_topChains s m args below meth c s.heap [] 0 0 _ _
  refine lv_aload_n hx hb dX2_topChains_0 rfl (lv_at hl 0 rfl) ?_
  refine r_getR C hw (k := 2) (r := 53) dq_50 ln_50 rfl vc_2 inX2 (by decide) rfl gw2_41 dX2_topChains_1 ?_
  refine lv_aload_n hx hb dX2_topChains_4 rfl (lv_at hl 0 rfl) ?_
  refine r_getI C hw (k := 9) dq_50 ln_50 rfl vc_2 inX2 (by decide) rfl gw2_48 dX2_topChains_5 ?_
  obtain ⟨z_8, hf⟩ := gd_some hf
  refine r_iald C hw (x := 53) dq_53 ln_53 z_8 dX2_topChains_8 ?_
  exact r_iret C hw hr hlocks hf dX2_topChains_9
noncomputable def fX2_topPlace (fu : Nat) (S : St) : Option (St × Int32) :=
  gd (ck (S.1 50 9) 4) <|
  some (S, (S.1 54 ((S.1 50 9)).toNatClampNeg))
theorem mvX2_topPlace : MV yX2_topPlace cX2_topPlace 1 (some .int) RX2 0 := ⟨gw6_103, gw6_101, gw6_102, gw1_12, by decide +kernel⟩
def rmX2_topPlace : Room := { frames := 0, cells := 0, slots := 0, locals := 0 }
set_option maxHeartbeats 4000000 in
set_option maxRecDepth 100000 in
theorem m_X2_topPlace (l : Launch) (D : va_G) (cA : FieldType → ClassId) (ad : Nat → Nat) (base : Nat) (fu : Nat) {S S' : St} {r : Int32} (hf : fX2_topPlace fu S = some (S', r)) : Met l yX2_topPlace (GC yX2_topPlace cX2_topPlace 1 (some .int)) rmX2_topPlace (va_Pc [.ref (ad 50)] (wd D cA ad base S)) (QI D cA ad base S' r) 0 0 (aB base) := by
  refine Met.ofW (cc := cX2_topPlace) (maxL := 1) (ret := (some .int)) (by decide) rfl ?_
  intro p e s m args below meth c s₁ B hml hv
  obtain ⟨hargs, hwd⟩ := hv
  have hr := B.returns
  have hlocks := B.notSynchronized
  obtain ⟨C, hw⟩ := CX.of (own := RX2) rfl B hml hwd
  have hx := C.1
  have hb := C.2.1
  have hl := lv_entry ([.ref (ad 50)]) (n := 1) (Nat.le_of_ble_eq_true rfl)
  rw [show entryFrame m args 1 = entryFrame m ([.ref (ad 50)] : List Value).toArray 1 from by rw [hargs], lg_entry_eq]
  generalize (lg_sl ([.ref (ad 50)]) ++ List.replicate (1 - (lg_sl ([.ref (ad 50)])).length) Slot.unset).toArray = ls at hl ⊢
  have hl : lv_has ls 1 [(0, .ref (ad 50))] := hl
  show W p l e rmX2_topPlace s m args below meth c s.heap [] 0 0 _ _
  refine lv_aload_n hx hb dX2_topPlace_0 rfl (lv_at hl 0 rfl) ?_
  refine r_getR C hw (k := 3) (r := 54) dq_50 ln_50 rfl vc_2 inX2 (by decide) rfl gw2_42 dX2_topPlace_1 ?_
  refine lv_aload_n hx hb dX2_topPlace_4 rfl (lv_at hl 0 rfl) ?_
  refine r_getI C hw (k := 9) dq_50 ln_50 rfl vc_2 inX2 (by decide) rfl gw2_48 dX2_topPlace_5 ?_
  obtain ⟨z_8, hf⟩ := gd_some hf
  refine r_iald C hw (x := 54) dq_54 ln_54 z_8 dX2_topPlace_8 ?_
  exact r_iret C hw hr hlocks hf dX2_topPlace_9
noncomputable def fX2_firstName (fu : Nat) (S : St) : Option (St × Int32) :=
  gd (ck (0 : Int32) 4) <|
  some (S, (S.1 51 ((0 : Int32)).toNatClampNeg))
theorem mvX2_firstName : MV yX2_firstName cX2_firstName 1 (some .int) RX2 0 := ⟨gw6_161, gw6_159, gw6_160, gw1_12, by decide +kernel⟩
def rmX2_firstName : Room := { frames := 0, cells := 0, slots := 0, locals := 0 }
set_option maxHeartbeats 4000000 in
set_option maxRecDepth 100000 in
theorem m_X2_firstName (l : Launch) (D : va_G) (cA : FieldType → ClassId) (ad : Nat → Nat) (base : Nat) (fu : Nat) {S S' : St} {r : Int32} (hf : fX2_firstName fu S = some (S', r)) : Met l yX2_firstName (GC yX2_firstName cX2_firstName 1 (some .int)) rmX2_firstName (va_Pc [.ref (ad 50)] (wd D cA ad base S)) (QI D cA ad base S' r) 0 0 (aB base) := by
  refine Met.ofW (cc := cX2_firstName) (maxL := 1) (ret := (some .int)) (by decide) rfl ?_
  intro p e s m args below meth c s₁ B hml hv
  obtain ⟨hargs, hwd⟩ := hv
  have hr := B.returns
  have hlocks := B.notSynchronized
  obtain ⟨C, hw⟩ := CX.of (own := RX2) rfl B hml hwd
  have hx := C.1
  have hb := C.2.1
  have hl := lv_entry ([.ref (ad 50)]) (n := 1) (Nat.le_of_ble_eq_true rfl)
  rw [show entryFrame m args 1 = entryFrame m ([.ref (ad 50)] : List Value).toArray 1 from by rw [hargs], lg_entry_eq]
  generalize (lg_sl ([.ref (ad 50)]) ++ List.replicate (1 - (lg_sl ([.ref (ad 50)])).length) Slot.unset).toArray = ls at hl ⊢
  have hl : lv_has ls 1 [(0, .ref (ad 50))] := hl
  show W p l e rmX2_firstName s m args below meth c s.heap [] 0 0 _ _
  refine lv_aload_n hx hb dX2_firstName_0 rfl (lv_at hl 0 rfl) ?_
  refine r_getR C hw (k := 0) (r := 51) dq_50 ln_50 rfl vc_2 inX2 (by decide) rfl gw2_39 dX2_firstName_1 ?_
  refine lv_iconst (v := (0 : Int32)) hx hb dX2_firstName_4 (by decide) ?_
  obtain ⟨z_5, hf⟩ := gd_some hf
  refine r_iald C hw (x := 51) dq_51 ln_51 z_5 dX2_firstName_5 ?_
  exact r_iret C hw hr hlocks hf dX2_firstName_6
noncomputable def fX2_firstChains (fu : Nat) (S : St) : Option (St × Int32) :=
  gd (ck (0 : Int32) 4) <|
  some (S, (S.1 53 ((0 : Int32)).toNatClampNeg))
theorem mvX2_firstChains : MV yX2_firstChains cX2_firstChains 1 (some .int) RX2 0 := ⟨gw6_153, gw6_151, gw6_152, gw1_12, by decide +kernel⟩
def rmX2_firstChains : Room := { frames := 0, cells := 0, slots := 0, locals := 0 }
set_option maxHeartbeats 4000000 in
set_option maxRecDepth 100000 in
theorem m_X2_firstChains (l : Launch) (D : va_G) (cA : FieldType → ClassId) (ad : Nat → Nat) (base : Nat) (fu : Nat) {S S' : St} {r : Int32} (hf : fX2_firstChains fu S = some (S', r)) : Met l yX2_firstChains (GC yX2_firstChains cX2_firstChains 1 (some .int)) rmX2_firstChains (va_Pc [.ref (ad 50)] (wd D cA ad base S)) (QI D cA ad base S' r) 0 0 (aB base) := by
  refine Met.ofW (cc := cX2_firstChains) (maxL := 1) (ret := (some .int)) (by decide) rfl ?_
  intro p e s m args below meth c s₁ B hml hv
  obtain ⟨hargs, hwd⟩ := hv
  have hr := B.returns
  have hlocks := B.notSynchronized
  obtain ⟨C, hw⟩ := CX.of (own := RX2) rfl B hml hwd
  have hx := C.1
  have hb := C.2.1
  have hl := lv_entry ([.ref (ad 50)]) (n := 1) (Nat.le_of_ble_eq_true rfl)
  rw [show entryFrame m args 1 = entryFrame m ([.ref (ad 50)] : List Value).toArray 1 from by rw [hargs], lg_entry_eq]
  generalize (lg_sl ([.ref (ad 50)]) ++ List.replicate (1 - (lg_sl ([.ref (ad 50)])).length) Slot.unset).toArray = ls at hl ⊢
  have hl : lv_has ls 1 [(0, .ref (ad 50))] := hl
  show W p l e rmX2_firstChains s m args below meth c s.heap [] 0 0 _ _
  refine lv_aload_n hx hb dX2_firstChains_0 rfl (lv_at hl 0 rfl) ?_
  refine r_getR C hw (k := 2) (r := 53) dq_50 ln_50 rfl vc_2 inX2 (by decide) rfl gw2_41 dX2_firstChains_1 ?_
  refine lv_iconst (v := (0 : Int32)) hx hb dX2_firstChains_4 (by decide) ?_
  obtain ⟨z_5, hf⟩ := gd_some hf
  refine r_iald C hw (x := 53) dq_53 ln_53 z_5 dX2_firstChains_5 ?_
  exact r_iret C hw hr hlocks hf dX2_firstChains_6
noncomputable def fX2_clear (fu : Nat) (S : St) : Option (St × Int32) :=
  sI 50 8 (0 : Int32) S fun S_2 =>
  sI 50 9 (0 : Int32) S_2 fun S_7 =>
  some (S_7, (0 : Int32))
theorem mvX2_clear : MV yX2_clear cX2_clear 1 none RX2 0 := ⟨gw5_122, gw5_120, gw5_121, gw1_12, by decide +kernel⟩
def rmX2_clear : Room := { frames := 0, cells := 0, slots := 0, locals := 0 }
set_option maxHeartbeats 4000000 in
set_option maxRecDepth 100000 in
theorem m_X2_clear (l : Launch) (D : va_G) (cA : FieldType → ClassId) (ad : Nat → Nat) (base : Nat) (fu : Nat) {S S' : St} {r : Int32} (hf : fX2_clear fu S = some (S', r)) : Met l yX2_clear (GC yX2_clear cX2_clear 1 none) rmX2_clear (va_Pc [.ref (ad 50)] (wd D cA ad base S)) (QV D cA ad base S') 0 0 (aB base) := by
  refine Met.ofW (cc := cX2_clear) (maxL := 1) (ret := none) (by decide) rfl ?_
  intro p e s m args below meth c s₁ B hml hv
  obtain ⟨hargs, hwd⟩ := hv
  have hr := B.returns
  have hlocks := B.notSynchronized
  obtain ⟨C, hw⟩ := CX.of (own := RX2) rfl B hml hwd
  have hx := C.1
  have hb := C.2.1
  have hl := lv_entry ([.ref (ad 50)]) (n := 1) (Nat.le_of_ble_eq_true rfl)
  rw [show entryFrame m args 1 = entryFrame m ([.ref (ad 50)] : List Value).toArray 1 from by rw [hargs], lg_entry_eq]
  generalize (lg_sl ([.ref (ad 50)]) ++ List.replicate (1 - (lg_sl ([.ref (ad 50)])).length) Slot.unset).toArray = ls at hl ⊢
  have hl : lv_has ls 1 [(0, .ref (ad 50))] := hl
  show W p l e rmX2_clear s m args below meth c s.heap [] 0 0 _ _
  refine lv_aload_n hx hb dX2_clear_0 rfl (lv_at hl 0 rfl) ?_
  refine lv_iconst (v := (0 : Int32)) hx hb dX2_clear_1 (by decide) ?_
  obtain ⟨S_2, e_2, hf⟩ := sI_some hf
  refine r_putI C hw (k := 8) (ty0 := tyX2) dq_50 ln_50 rfl vc_2 inX2 tyX2_ok nmX2 (by decide) rfl rfl gw2_47 rfl rfl dX2_clear_2 e_2 (fun H locs hw => ?_)
  refine lv_aload_n hx hb dX2_clear_5 rfl (lv_at hl 0 rfl) ?_
  refine lv_iconst (v := (0 : Int32)) hx hb dX2_clear_6 (by decide) ?_
  obtain ⟨S_7, e_7, hf⟩ := sI_some hf
  refine r_putI C hw (k := 9) (ty0 := tyX2) dq_50 ln_50 rfl vc_2 inX2 tyX2_ok nmX2 (by decide) rfl rfl gw2_48 rfl rfl dX2_clear_7 e_7 (fun H locs hw => ?_)
  exact r_vret C hw hr hlocks hf dX2_clear_10
noncomputable def fX2_forget (fu : Nat) (S : St) : Option (St × Int32) :=
  gd (ck (S.1 50 9) 4) <|
  sI 56 ((S.1 50 9)).toNatClampNeg (0 : Int32) S fun S_9 =>
  gd (ck (S_9.1 50 9) 4) <|
  sI 58 ((S_9.1 50 9)).toNatClampNeg (0 : Int32) S_9 fun S_19 =>
  some (S_19, (0 : Int32))
theorem mvX2_forget : MV yX2_forget cX2_forget 1 none RX2 0 := ⟨gw5_130, gw5_129, gs_23, gw1_12, by decide +kernel⟩
def rmX2_forget : Room := { frames := 0, cells := 0, slots := 0, locals := 0 }
set_option maxHeartbeats 4000000 in
set_option maxRecDepth 100000 in
theorem m_X2_forget (l : Launch) (D : va_G) (cA : FieldType → ClassId) (ad : Nat → Nat) (base : Nat) (fu : Nat) {S S' : St} {r : Int32} (hf : fX2_forget fu S = some (S', r)) : Met l yX2_forget (GC yX2_forget cX2_forget 1 none) rmX2_forget (va_Pc [.ref (ad 50)] (wd D cA ad base S)) (QV D cA ad base S') 0 0 (aB base) := by
  refine Met.ofW (cc := cX2_forget) (maxL := 1) (ret := none) (by decide) rfl ?_
  intro p e s m args below meth c s₁ B hml hv
  obtain ⟨hargs, hwd⟩ := hv
  have hr := B.returns
  have hlocks := B.notSynchronized
  obtain ⟨C, hw⟩ := CX.of (own := RX2) rfl B hml hwd
  have hx := C.1
  have hb := C.2.1
  have hl := lv_entry ([.ref (ad 50)]) (n := 1) (Nat.le_of_ble_eq_true rfl)
  rw [show entryFrame m args 1 = entryFrame m ([.ref (ad 50)] : List Value).toArray 1 from by rw [hargs], lg_entry_eq]
  generalize (lg_sl ([.ref (ad 50)]) ++ List.replicate (1 - (lg_sl ([.ref (ad 50)])).length) Slot.unset).toArray = ls at hl ⊢
  have hl : lv_has ls 1 [(0, .ref (ad 50))] := hl
  show W p l e rmX2_forget s m args below meth c s.heap [] 0 0 _ _
  refine lv_aload_n hx hb dX2_forget_0 rfl (lv_at hl 0 rfl) ?_
  refine r_getR C hw (k := 5) (r := 56) dq_50 ln_50 rfl vc_2 inX2 (by decide) rfl gw2_44 dX2_forget_1 ?_
  refine lv_aload_n hx hb dX2_forget_4 rfl (lv_at hl 0 rfl) ?_
  refine r_getI C hw (k := 9) dq_50 ln_50 rfl vc_2 inX2 (by decide) rfl gw2_48 dX2_forget_5 ?_
  refine lv_iconst (v := (0 : Int32)) hx hb dX2_forget_8 (by decide) ?_
  obtain ⟨z_9, hf⟩ := gd_some hf
  obtain ⟨S_9, e_9, hf⟩ := sI_some hf
  refine r_iast C hw (x := 56) dq_56 ln_56 z_9 dX2_forget_9 e_9 (fun H locs hw => ?_)
  refine lv_aload_n hx hb dX2_forget_10 rfl (lv_at hl 0 rfl) ?_
  refine r_getR C hw (k := 7) (r := 58) dq_50 ln_50 rfl vc_2 inX2 (by decide) rfl gw2_46 dX2_forget_11 ?_
  refine lv_aload_n hx hb dX2_forget_14 rfl (lv_at hl 0 rfl) ?_
  refine r_getI C hw (k := 9) dq_50 ln_50 rfl vc_2 inX2 (by decide) rfl gw2_48 dX2_forget_15 ?_
  refine lv_iconst (v := (0 : Int32)) hx hb dX2_forget_18 (by decide) ?_
  obtain ⟨z_19, hf⟩ := gd_some hf
  obtain ⟨S_19, e_19, hf⟩ := sI_some hf
  refine r_iast C hw (x := 58) dq_58 ln_58 z_19 dX2_forget_19 e_19 (fun H locs hw => ?_)
  exact r_vret C hw hr hlocks hf dX2_forget_20
noncomputable def fX2_push (fu : Nat) (x1 : Int32) (x2 : Int32) (S : St) : Option (St × Int32) :=
  if (S.1 50 8) < (4 : Int32) then
    sI 50 9 (S.1 50 8) S fun S_15 =>
    sI 50 8 ((S_15.1 50 8) + (1 : Int32)) S_15 fun S_25 =>
    gd (ck (S_25.1 50 9) 4) <|
    sI 51 ((S_25.1 50 9)).toNatClampNeg x1 S_25 fun S_37 =>
    gd (ck (S_37.1 50 9) 4) <|
    sI 52 ((S_37.1 50 9)).toNatClampNeg x2 S_37 fun S_47 =>
    gd (ck (S_47.1 50 9) 4) <|
    sI 53 ((S_47.1 50 9)).toNatClampNeg (0 : Int32) S_47 fun S_57 =>
    gd (ck (S_57.1 50 9) 4) <|
    sI 54 ((S_57.1 50 9)).toNatClampNeg (-1 : Int32) S_57 fun S_67 =>
    bd (fX2_forget fu S_67) fun S_69 _ =>
    some (S_69, (1 : Int32))
  else
    some (S, (0 : Int32))
theorem mvX2_push : MV yX2_push cX2_push 3 (some .boolean) RX2 2 := ⟨gw5_126, gw5_124, gw5_125, gw1_12, by decide +kernel⟩
def rmX2_push : Room := { frames := 1, cells := 0, slots := 0, locals := 20 }
set_option maxHeartbeats 4000000 in
set_option maxRecDepth 100000 in
theorem m_X2_push (l : Launch) (D : va_G) (cA : FieldType → ClassId) (ad : Nat → Nat) (base : Nat) (fu : Nat) {S S' : St} {x1 : Int32} {x2 : Int32} {r : Int32} (hf : fX2_push fu x1 x2 S = some (S', r)) : Met l yX2_push (GC yX2_push cX2_push 3 (some .boolean)) rmX2_push (va_Pc [.ref (ad 50), .int x1, .int x2] (wd D cA ad base S)) (QI D cA ad base S' r) 0 0 (aB base) := by
  refine Met.ofW (cc := cX2_push) (maxL := 3) (ret := (some .boolean)) (by decide) rfl ?_
  intro p e s m args below meth c s₁ B hml hv
  obtain ⟨hargs, hwd⟩ := hv
  have hr := B.returns
  have hlocks := B.notSynchronized
  obtain ⟨C, hw⟩ := CX.of (own := RX2) rfl B hml hwd
  have hx := C.1
  have hb := C.2.1
  have hl := lv_entry ([.ref (ad 50), .int x1, .int x2]) (n := 3) (Nat.le_of_ble_eq_true rfl)
  rw [show entryFrame m args 3 = entryFrame m ([.ref (ad 50), .int x1, .int x2] : List Value).toArray 3 from by rw [hargs], lg_entry_eq]
  generalize (lg_sl ([.ref (ad 50), .int x1, .int x2]) ++ List.replicate (3 - (lg_sl ([.ref (ad 50), .int x1, .int x2])).length) Slot.unset).toArray = ls at hl ⊢
  have hl : lv_has ls 3 [(0, .ref (ad 50)), (1, .int x1), (2, .int x2)] := hl
  show W p l e rmX2_push s m args below meth c s.heap [] 0 0 _ _
  refine lv_aload_n hx hb dX2_push_0 rfl (lv_at hl 0 rfl) ?_
  refine r_getI C hw (k := 8) dq_50 ln_50 rfl vc_2 inX2 (by decide) rfl gw2_47 dX2_push_1 ?_
  refine lv_iconst (v := (4 : Int32)) hx hb dX2_push_4 (by decide) ?_
  refine lv_icmp_lt (tgt := 10) hx hb dX2_push_5 (by decide) (fun c_5 => ?_) (fun c_5 => ?_)
  · have hf := if_t hf c_5
    refine lv_aload_n hx hb dX2_push_10 rfl (lv_at hl 0 rfl) ?_
    refine lv_aload_n hx hb dX2_push_11 rfl (lv_at hl 0 rfl) ?_
    refine r_getI C hw (k := 8) dq_50 ln_50 rfl vc_2 inX2 (by decide) rfl gw2_47 dX2_push_12 ?_
    obtain ⟨S_15, e_15, hf⟩ := sI_some hf
    refine r_putI C hw (k := 9) (ty0 := tyX2) dq_50 ln_50 rfl vc_2 inX2 tyX2_ok nmX2 (by decide) rfl rfl gw2_48 rfl rfl dX2_push_15 e_15 (fun H locs hw => ?_)
    refine lv_aload_n hx hb dX2_push_18 rfl (lv_at hl 0 rfl) ?_
    refine lv_dup hx hb dX2_push_19 rfl ?_
    refine r_getI C hw (k := 8) dq_50 ln_50 rfl vc_2 inX2 (by decide) rfl gw2_47 dX2_push_20 ?_
    refine lv_iconst (v := (1 : Int32)) hx hb dX2_push_23 (by decide) ?_
    refine lv_iadd hx hb dX2_push_24 ?_
    obtain ⟨S_25, e_25, hf⟩ := sI_some hf
    refine r_putI C hw (k := 8) (ty0 := tyX2) dq_50 ln_50 rfl vc_2 inX2 tyX2_ok nmX2 (by decide) rfl rfl gw2_47 rfl rfl dX2_push_25 e_25 (fun H locs hw => ?_)
    refine lv_aload_n hx hb dX2_push_28 rfl (lv_at hl 0 rfl) ?_
    refine r_getR C hw (k := 0) (r := 51) dq_50 ln_50 rfl vc_2 inX2 (by decide) rfl gw2_39 dX2_push_29 ?_
    refine lv_aload_n hx hb dX2_push_32 rfl (lv_at hl 0 rfl) ?_
    refine r_getI C hw (k := 9) dq_50 ln_50 rfl vc_2 inX2 (by decide) rfl gw2_48 dX2_push_33 ?_
    refine lv_iload_n hx hb dX2_push_36 rfl (lv_at hl 1 rfl) ?_
    obtain ⟨z_37, hf⟩ := gd_some hf
    obtain ⟨S_37, e_37, hf⟩ := sI_some hf
    refine r_iast C hw (x := 51) dq_51 ln_51 z_37 dX2_push_37 e_37 (fun H locs hw => ?_)
    refine lv_aload_n hx hb dX2_push_38 rfl (lv_at hl 0 rfl) ?_
    refine r_getR C hw (k := 1) (r := 52) dq_50 ln_50 rfl vc_2 inX2 (by decide) rfl gw2_40 dX2_push_39 ?_
    refine lv_aload_n hx hb dX2_push_42 rfl (lv_at hl 0 rfl) ?_
    refine r_getI C hw (k := 9) dq_50 ln_50 rfl vc_2 inX2 (by decide) rfl gw2_48 dX2_push_43 ?_
    refine lv_iload_n hx hb dX2_push_46 rfl (lv_at hl 2 rfl) ?_
    obtain ⟨z_47, hf⟩ := gd_some hf
    obtain ⟨S_47, e_47, hf⟩ := sI_some hf
    refine r_iast C hw (x := 52) dq_52 ln_52 z_47 dX2_push_47 e_47 (fun H locs hw => ?_)
    refine lv_aload_n hx hb dX2_push_48 rfl (lv_at hl 0 rfl) ?_
    refine r_getR C hw (k := 2) (r := 53) dq_50 ln_50 rfl vc_2 inX2 (by decide) rfl gw2_41 dX2_push_49 ?_
    refine lv_aload_n hx hb dX2_push_52 rfl (lv_at hl 0 rfl) ?_
    refine r_getI C hw (k := 9) dq_50 ln_50 rfl vc_2 inX2 (by decide) rfl gw2_48 dX2_push_53 ?_
    refine lv_iconst (v := (0 : Int32)) hx hb dX2_push_56 (by decide) ?_
    obtain ⟨z_57, hf⟩ := gd_some hf
    obtain ⟨S_57, e_57, hf⟩ := sI_some hf
    refine r_iast C hw (x := 53) dq_53 ln_53 z_57 dX2_push_57 e_57 (fun H locs hw => ?_)
    refine lv_aload_n hx hb dX2_push_58 rfl (lv_at hl 0 rfl) ?_
    refine r_getR C hw (k := 3) (r := 54) dq_50 ln_50 rfl vc_2 inX2 (by decide) rfl gw2_42 dX2_push_59 ?_
    refine lv_aload_n hx hb dX2_push_62 rfl (lv_at hl 0 rfl) ?_
    refine r_getI C hw (k := 9) dq_50 ln_50 rfl vc_2 inX2 (by decide) rfl gw2_48 dX2_push_63 ?_
    refine lv_iconst (v := (-1 : Int32)) hx hb dX2_push_66 (by decide) ?_
    obtain ⟨z_67, hf⟩ := gd_some hf
    obtain ⟨S_67, e_67, hf⟩ := sI_some hf
    refine r_iast C hw (x := 54) dq_54 ln_54 z_67 dX2_push_67 e_67 (fun H locs hw => ?_)
    refine lv_aload_n hx hb dX2_push_68 rfl (lv_at hl 0 rfl) ?_
    obtain ⟨S_69, r_69, h_69, hf⟩ := bd_some hf
    refine r_bv hw (r_runV (rest := []) C hw (m_X2_forget l D cA ad base fu h_69) mvX2_forget gw5_127 ⟨rfl, rfl, Nat.le_of_ble_eq_true rfl, Nat.le_of_ble_eq_true rfl⟩ dq_50 ln_50 vc_2 rfl hl.1 rfl (Nat.le_of_ble_eq_true rfl) dX2_push_69 (Nat.zero_le _) (Nat.zero_le _)) (fun H locs hw => ?_)
    refine lv_iconst (v := (1 : Int32)) hx hb dX2_push_72 (by decide) ?_
    exact r_zret C hw hr hlocks rfl hf dX2_push_73
  · have hf := if_f hf c_5
    refine lv_iconst (v := (0 : Int32)) hx hb dX2_push_8 (by decide) ?_
    exact r_zret C hw hr hlocks rfl hf dX2_push_9
noncomputable def fX2_pop_39 (fu : Nat) (t0 : Int32) (S : St) : Option (St × Int32) :=
  sI 50 9 t0 S fun S_39 =>
  some (S_39, (0 : Int32))
noncomputable def fX2_pop_18 (fu : Nat) (t0 : Int32) (S : St) : Option (St × Int32) :=
  sI 50 8 t0 S fun S_18 =>
  if (S_18.1 50 8) ≤ 0 then
    fX2_pop_39 fu (0 : Int32) S_18
  else
    fX2_pop_39 fu ((S_18.1 50 8) - (1 : Int32)) S_18
noncomputable def fX2_pop (fu : Nat) (S : St) : Option (St × Int32) :=
  if (S.1 50 8) ≤ 0 then
    fX2_pop_18 fu (0 : Int32) S
  else
    fX2_pop_18 fu ((S.1 50 8) - (1 : Int32)) S
theorem mvX2_pop : MV yX2_pop cX2_pop 1 none RX2 0 := ⟨gw5_163, gw5_161, gw5_162, gw1_12, by decide +kernel⟩
def rmX2_pop : Room := { frames := 0, cells := 0, slots := 0, locals := 0 }
set_option maxHeartbeats 4000000 in
set_option maxRecDepth 100000 in
theorem m_X2_pop (l : Launch) (D : va_G) (cA : FieldType → ClassId) (ad : Nat → Nat) (base : Nat) (fu : Nat) {S S' : St} {r : Int32} (hf : fX2_pop fu S = some (S', r)) : Met l yX2_pop (GC yX2_pop cX2_pop 1 none) rmX2_pop (va_Pc [.ref (ad 50)] (wd D cA ad base S)) (QV D cA ad base S') 0 0 (aB base) := by
  refine Met.ofW (cc := cX2_pop) (maxL := 1) (ret := none) (by decide) rfl ?_
  intro p e s m args below meth c s₁ B hml hv
  obtain ⟨hargs, hwd⟩ := hv
  have hr := B.returns
  have hlocks := B.notSynchronized
  obtain ⟨C, hw⟩ := CX.of (own := RX2) rfl B hml hwd
  have hx := C.1
  have hb := C.2.1
  have hl := lv_entry ([.ref (ad 50)]) (n := 1) (Nat.le_of_ble_eq_true rfl)
  rw [show entryFrame m args 1 = entryFrame m ([.ref (ad 50)] : List Value).toArray 1 from by rw [hargs], lg_entry_eq]
  generalize (lg_sl ([.ref (ad 50)]) ++ List.replicate (1 - (lg_sl ([.ref (ad 50)])).length) Slot.unset).toArray = ls at hl ⊢
  have hl : lv_has ls 1 [(0, .ref (ad 50))] := hl
  have J_39 : ∀ (t0 : Int32) (S : St) (H : Heap) (locs : List Loc) (ls : Array Slot), fX2_pop_39 fu t0 S = some (S', r) → lv_has ls 1 [] → WS D cA ad base s S H locs → W p l e rmX2_pop s m args below meth c H locs 0 0 (MQ below (QV D cA ad base S') args s 0 0 (aB base)) (F0 m 39 ls [.int t0, .ref (ad 50)]) := by
    intro t0 S H locs ls hf hl hw
    obtain ⟨S_39, e_39, hf⟩ := sI_some hf
    refine r_putI C hw (k := 9) (ty0 := tyX2) dq_50 ln_50 rfl vc_2 inX2 tyX2_ok nmX2 (by decide) rfl rfl gw2_48 rfl rfl dX2_pop_39 e_39 (fun H locs hw => ?_)
    exact r_vret C hw hr hlocks hf dX2_pop_42
  have J_18 : ∀ (t0 : Int32) (S : St) (H : Heap) (locs : List Loc) (ls : Array Slot), fX2_pop_18 fu t0 S = some (S', r) → lv_has ls 1 [(0, .ref (ad 50))] → WS D cA ad base s S H locs → W p l e rmX2_pop s m args below meth c H locs 0 0 (MQ below (QV D cA ad base S') args s 0 0 (aB base)) (F0 m 18 ls [.int t0, .ref (ad 50)]) := by
    intro t0 S H locs ls hf hl hw
    obtain ⟨S_18, e_18, hf⟩ := sI_some hf
    refine r_putI C hw (k := 8) (ty0 := tyX2) dq_50 ln_50 rfl vc_2 inX2 tyX2_ok nmX2 (by decide) rfl rfl gw2_47 rfl rfl dX2_pop_18 e_18 (fun H locs hw => ?_)
    refine lv_aload_n hx hb dX2_pop_21 rfl (lv_at hl 0 rfl) ?_
    refine lv_aload_n hx hb dX2_pop_22 rfl (lv_at hl 0 rfl) ?_
    refine r_getI C hw (k := 8) dq_50 ln_50 rfl vc_2 inX2 (by decide) rfl gw2_47 dX2_pop_23 ?_
    refine lv_if_le (tgt := 38) hx hb dX2_pop_26 (by decide) (fun c_26 => ?_) (fun c_26 => ?_)
    · have hf := if_t hf c_26
      refine lv_iconst (v := (0 : Int32)) hx hb dX2_pop_38 (by decide) ?_
      exact J_39 _ _ _ _ _ hf (lv_sub hl [] rfl) hw
    · have hf := if_f hf c_26
      refine lv_aload_n hx hb dX2_pop_29 rfl (lv_at hl 0 rfl) ?_
      refine r_getI C hw (k := 8) dq_50 ln_50 rfl vc_2 inX2 (by decide) rfl gw2_47 dX2_pop_30 ?_
      refine lv_iconst (v := (1 : Int32)) hx hb dX2_pop_33 (by decide) ?_
      refine lv_isub hx hb dX2_pop_34 ?_
      refine lv_goto (tgt := 39) hx hb dX2_pop_35 (by decide) ?_
      exact J_39 _ _ _ _ _ hf (lv_sub hl [] rfl) hw
  show W p l e rmX2_pop s m args below meth c s.heap [] 0 0 _ _
  refine lv_aload_n hx hb dX2_pop_0 rfl (lv_at hl 0 rfl) ?_
  refine lv_aload_n hx hb dX2_pop_1 rfl (lv_at hl 0 rfl) ?_
  refine r_getI C hw (k := 8) dq_50 ln_50 rfl vc_2 inX2 (by decide) rfl gw2_47 dX2_pop_2 ?_
  refine lv_if_le (tgt := 17) hx hb dX2_pop_5 (by decide) (fun c_5 => ?_) (fun c_5 => ?_)
  · have hf := if_t hf c_5
    refine lv_iconst (v := (0 : Int32)) hx hb dX2_pop_17 (by decide) ?_
    exact J_18 _ _ _ _ _ hf (lv_sub hl [0] rfl) hw
  · have hf := if_f hf c_5
    refine lv_aload_n hx hb dX2_pop_8 rfl (lv_at hl 0 rfl) ?_
    refine r_getI C hw (k := 8) dq_50 ln_50 rfl vc_2 inX2 (by decide) rfl gw2_47 dX2_pop_9 ?_
    refine lv_iconst (v := (1 : Int32)) hx hb dX2_pop_12 (by decide) ?_
    refine lv_isub hx hb dX2_pop_13 ?_
    refine lv_goto (tgt := 18) hx hb dX2_pop_14 (by decide) ?_
    exact J_18 _ _ _ _ _ hf (lv_sub hl [0] rfl) hw
noncomputable def fX2_follow (fu : Nat) (x1 : Int32) (S : St) : Option (St × Int32) :=
  gd (ck (S.1 50 9) 4) <|
  sI 51 ((S.1 50 9)).toNatClampNeg x1 S fun S_9 =>
  gd (ck (S_9.1 50 9) 4) <|
  gd (ck (S_9.1 50 9) 4) <|
  sI 53 ((S_9.1 50 9)).toNatClampNeg ((S_9.1 53 ((S_9.1 50 9)).toNatClampNeg) + (1 : Int32)) S_9 fun S_22 =>
  bd (fX2_forget fu S_22) fun S_24 _ =>
  some (S_24, (0 : Int32))
theorem mvX2_follow : MV yX2_follow cX2_follow 2 none RX2 1 := ⟨gw5_188, gw5_186, gw5_187, gw1_12, by decide +kernel⟩
def rmX2_follow : Room := { frames := 1, cells := 0, slots := 0, locals := 20 }
set_option maxHeartbeats 4000000 in
set_option maxRecDepth 100000 in
theorem m_X2_follow (l : Launch) (D : va_G) (cA : FieldType → ClassId) (ad : Nat → Nat) (base : Nat) (fu : Nat) {S S' : St} {x1 : Int32} {r : Int32} (hf : fX2_follow fu x1 S = some (S', r)) : Met l yX2_follow (GC yX2_follow cX2_follow 2 none) rmX2_follow (va_Pc [.ref (ad 50), .int x1] (wd D cA ad base S)) (QV D cA ad base S') 0 0 (aB base) := by
  refine Met.ofW (cc := cX2_follow) (maxL := 2) (ret := none) (by decide) rfl ?_
  intro p e s m args below meth c s₁ B hml hv
  obtain ⟨hargs, hwd⟩ := hv
  have hr := B.returns
  have hlocks := B.notSynchronized
  obtain ⟨C, hw⟩ := CX.of (own := RX2) rfl B hml hwd
  have hx := C.1
  have hb := C.2.1
  have hl := lv_entry ([.ref (ad 50), .int x1]) (n := 2) (Nat.le_of_ble_eq_true rfl)
  rw [show entryFrame m args 2 = entryFrame m ([.ref (ad 50), .int x1] : List Value).toArray 2 from by rw [hargs], lg_entry_eq]
  generalize (lg_sl ([.ref (ad 50), .int x1]) ++ List.replicate (2 - (lg_sl ([.ref (ad 50), .int x1])).length) Slot.unset).toArray = ls at hl ⊢
  have hl : lv_has ls 2 [(0, .ref (ad 50)), (1, .int x1)] := hl
  show W p l e rmX2_follow s m args below meth c s.heap [] 0 0 _ _
  refine lv_aload_n hx hb dX2_follow_0 rfl (lv_at hl 0 rfl) ?_
  refine r_getR C hw (k := 0) (r := 51) dq_50 ln_50 rfl vc_2 inX2 (by decide) rfl gw2_39 dX2_follow_1 ?_
  refine lv_aload_n hx hb dX2_follow_4 rfl (lv_at hl 0 rfl) ?_
  refine r_getI C hw (k := 9) dq_50 ln_50 rfl vc_2 inX2 (by decide) rfl gw2_48 dX2_follow_5 ?_
  refine lv_iload_n hx hb dX2_follow_8 rfl (lv_at hl 1 rfl) ?_
  obtain ⟨z_9, hf⟩ := gd_some hf
  obtain ⟨S_9, e_9, hf⟩ := sI_some hf
  refine r_iast C hw (x := 51) dq_51 ln_51 z_9 dX2_follow_9 e_9 (fun H locs hw => ?_)
  refine lv_aload_n hx hb dX2_follow_10 rfl (lv_at hl 0 rfl) ?_
  refine r_getR C hw (k := 2) (r := 53) dq_50 ln_50 rfl vc_2 inX2 (by decide) rfl gw2_41 dX2_follow_11 ?_
  refine lv_aload_n hx hb dX2_follow_14 rfl (lv_at hl 0 rfl) ?_
  refine r_getI C hw (k := 9) dq_50 ln_50 rfl vc_2 inX2 (by decide) rfl gw2_48 dX2_follow_15 ?_
  refine lv_dup2_11 hx hb dX2_follow_18 rfl rfl ?_
  obtain ⟨z_19, hf⟩ := gd_some hf
  refine r_iald C hw (x := 53) dq_53 ln_53 z_19 dX2_follow_19 ?_
  refine lv_iconst (v := (1 : Int32)) hx hb dX2_follow_20 (by decide) ?_
  refine lv_iadd hx hb dX2_follow_21 ?_
  obtain ⟨z_22, hf⟩ := gd_some hf
  obtain ⟨S_22, e_22, hf⟩ := sI_some hf
  refine r_iast C hw (x := 53) dq_53 ln_53 z_22 dX2_follow_22 e_22 (fun H locs hw => ?_)
  refine lv_aload_n hx hb dX2_follow_23 rfl (lv_at hl 0 rfl) ?_
  obtain ⟨S_24, r_24, h_24, hf⟩ := bd_some hf
  refine r_bv hw (r_runV (rest := []) C hw (m_X2_forget l D cA ad base fu h_24) mvX2_forget gw5_127 ⟨rfl, rfl, Nat.le_of_ble_eq_true rfl, Nat.le_of_ble_eq_true rfl⟩ dq_50 ln_50 vc_2 rfl hl.1 rfl (Nat.le_of_ble_eq_true rfl) dX2_follow_24 (Nat.zero_le _) (Nat.zero_le _)) (fun H locs hw => ?_)
  exact r_vret C hw hr hlocks hf dX2_follow_27
noncomputable def fX2_lead (fu : Nat) (x1 : Int32) (S : St) : Option (St × Int32) :=
  gd (ck (S.1 50 9) 4) <|
  if (S.1 54 ((S.1 50 9)).toNatClampNeg) = x1 then
    some (S, (0 : Int32))
  else
    gd (ck (S.1 50 9) 4) <|
    sI 54 ((S.1 50 9)).toNatClampNeg x1 S fun S_22 =>
    bd (fX2_forget fu S_22) fun S_24 _ =>
    some (S_24, (0 : Int32))
theorem mvX2_lead : MV yX2_lead cX2_lead 2 none RX2 1 := ⟨gw5_205, gw5_203, gw5_204, gw1_12, by decide +kernel⟩
def rmX2_lead : Room := { frames := 1, cells := 0, slots := 0, locals := 20 }
set_option maxHeartbeats 4000000 in
set_option maxRecDepth 100000 in
theorem m_X2_lead (l : Launch) (D : va_G) (cA : FieldType → ClassId) (ad : Nat → Nat) (base : Nat) (fu : Nat) {S S' : St} {x1 : Int32} {r : Int32} (hf : fX2_lead fu x1 S = some (S', r)) : Met l yX2_lead (GC yX2_lead cX2_lead 2 none) rmX2_lead (va_Pc [.ref (ad 50), .int x1] (wd D cA ad base S)) (QV D cA ad base S') 0 0 (aB base) := by
  refine Met.ofW (cc := cX2_lead) (maxL := 2) (ret := none) (by decide) rfl ?_
  intro p e s m args below meth c s₁ B hml hv
  obtain ⟨hargs, hwd⟩ := hv
  have hr := B.returns
  have hlocks := B.notSynchronized
  obtain ⟨C, hw⟩ := CX.of (own := RX2) rfl B hml hwd
  have hx := C.1
  have hb := C.2.1
  have hl := lv_entry ([.ref (ad 50), .int x1]) (n := 2) (Nat.le_of_ble_eq_true rfl)
  rw [show entryFrame m args 2 = entryFrame m ([.ref (ad 50), .int x1] : List Value).toArray 2 from by rw [hargs], lg_entry_eq]
  generalize (lg_sl ([.ref (ad 50), .int x1]) ++ List.replicate (2 - (lg_sl ([.ref (ad 50), .int x1])).length) Slot.unset).toArray = ls at hl ⊢
  have hl : lv_has ls 2 [(0, .ref (ad 50)), (1, .int x1)] := hl
  show W p l e rmX2_lead s m args below meth c s.heap [] 0 0 _ _
  refine lv_aload_n hx hb dX2_lead_0 rfl (lv_at hl 0 rfl) ?_
  refine r_getR C hw (k := 3) (r := 54) dq_50 ln_50 rfl vc_2 inX2 (by decide) rfl gw2_42 dX2_lead_1 ?_
  refine lv_aload_n hx hb dX2_lead_4 rfl (lv_at hl 0 rfl) ?_
  refine r_getI C hw (k := 9) dq_50 ln_50 rfl vc_2 inX2 (by decide) rfl gw2_48 dX2_lead_5 ?_
  obtain ⟨z_8, hf⟩ := gd_some hf
  refine r_iald C hw (x := 54) dq_54 ln_54 z_8 dX2_lead_8 ?_
  refine lv_iload_n hx hb dX2_lead_9 rfl (lv_at hl 1 rfl) ?_
  refine lv_icmp_eq (tgt := 27) hx hb dX2_lead_10 (by decide) (fun c_10 => ?_) (fun c_10 => ?_)
  · have hf := if_t hf c_10
    exact r_vret C hw hr hlocks hf dX2_lead_27
  · have hf := if_f hf c_10
    refine lv_aload_n hx hb dX2_lead_13 rfl (lv_at hl 0 rfl) ?_
    refine r_getR C hw (k := 3) (r := 54) dq_50 ln_50 rfl vc_2 inX2 (by decide) rfl gw2_42 dX2_lead_14 ?_
    refine lv_aload_n hx hb dX2_lead_17 rfl (lv_at hl 0 rfl) ?_
    refine r_getI C hw (k := 9) dq_50 ln_50 rfl vc_2 inX2 (by decide) rfl gw2_48 dX2_lead_18 ?_
    refine lv_iload_n hx hb dX2_lead_21 rfl (lv_at hl 1 rfl) ?_
    obtain ⟨z_22, hf⟩ := gd_some hf
    obtain ⟨S_22, e_22, hf⟩ := sI_some hf
    refine r_iast C hw (x := 54) dq_54 ln_54 z_22 dX2_lead_22 e_22 (fun H locs hw => ?_)
    refine lv_aload_n hx hb dX2_lead_23 rfl (lv_at hl 0 rfl) ?_
    obtain ⟨S_24, r_24, h_24, hf⟩ := bd_some hf
    refine r_bv hw (r_runV (rest := []) C hw (m_X2_forget l D cA ad base fu h_24) mvX2_forget gw5_127 ⟨rfl, rfl, Nat.le_of_ble_eq_true rfl, Nat.le_of_ble_eq_true rfl⟩ dq_50 ln_50 vc_2 rfl hl.1 rfl (Nat.le_of_ble_eq_true rfl) dX2_lead_24 (Nat.zero_le _) (Nat.zero_le _)) (fun H locs hw => ?_)
    exact r_vret C hw hr hlocks hf dX2_lead_27
noncomputable def fX2_hasTried_2 (fu : Nat) (n : Nat) : Int32 → Int32 → St → Option (St × Int32) :=
  Nat.rec (motive := fun _ => Int32 → Int32 → St → Option (St × Int32)) (fun _ _ _ => none) (fun _ k_2 x1 x2 S =>
    gd (ck (S.1 50 9) 4) <|
    if (S.1 56 ((S.1 50 9)).toNatClampNeg) ≤ x2 then
      some (S, (0 : Int32))
    else
      gd (ck (((S.1 50 9) * (40 : Int32)) + x2) 160) <|
      if (S.1 55 ((((S.1 50 9) * (40 : Int32)) + x2)).toNatClampNeg) = x1 then
        some (S, (1 : Int32))
      else
        k_2 x1 (x2 + (1 : Int32)) S) n
theorem fX2_hasTried_2_s (fu : Nat) (n : Nat) (x1 : Int32) (x2 : Int32) (S : St) : fX2_hasTried_2 fu (n + 1) x1 x2 S = (
    gd (ck (S.1 50 9) 4) <|
    if (S.1 56 ((S.1 50 9)).toNatClampNeg) ≤ x2 then
      some (S, (0 : Int32))
    else
      gd (ck (((S.1 50 9) * (40 : Int32)) + x2) 160) <|
      if (S.1 55 ((((S.1 50 9) * (40 : Int32)) + x2)).toNatClampNeg) = x1 then
        some (S, (1 : Int32))
      else
        (fX2_hasTried_2 fu n) x1 (x2 + (1 : Int32)) S) := rfl
noncomputable def fX2_hasTried (fu : Nat) (x1 : Int32) (S : St) : Option (St × Int32) :=
  fX2_hasTried_2 fu fu x1 (0 : Int32) S
theorem mvX2_hasTried : MV yX2_hasTried cX2_hasTried 3 (some .boolean) RX2 1 := ⟨gw5_213, gw5_211, gw5_212, gw1_12, by decide +kernel⟩
def rmX2_hasTried : Room := { frames := 0, cells := 0, slots := 0, locals := 0 }
set_option maxHeartbeats 4000000 in
set_option maxRecDepth 100000 in
theorem m_X2_hasTried (l : Launch) (D : va_G) (cA : FieldType → ClassId) (ad : Nat → Nat) (base : Nat) (fu : Nat) {S S' : St} {x1 : Int32} {r : Int32} (hf : fX2_hasTried fu x1 S = some (S', r)) : Met l yX2_hasTried (GC yX2_hasTried cX2_hasTried 3 (some .boolean)) rmX2_hasTried (va_Pc [.ref (ad 50), .int x1] (wd D cA ad base S)) (QI D cA ad base S' r) 0 0 (aB base) := by
  refine Met.ofW (cc := cX2_hasTried) (maxL := 3) (ret := (some .boolean)) (by decide) rfl ?_
  intro p e s m args below meth c s₁ B hml hv
  obtain ⟨hargs, hwd⟩ := hv
  have hr := B.returns
  have hlocks := B.notSynchronized
  obtain ⟨C, hw⟩ := CX.of (own := RX2) rfl B hml hwd
  have hx := C.1
  have hb := C.2.1
  have hl := lv_entry ([.ref (ad 50), .int x1]) (n := 3) (Nat.le_of_ble_eq_true rfl)
  rw [show entryFrame m args 3 = entryFrame m ([.ref (ad 50), .int x1] : List Value).toArray 3 from by rw [hargs], lg_entry_eq]
  generalize (lg_sl ([.ref (ad 50), .int x1]) ++ List.replicate (3 - (lg_sl ([.ref (ad 50), .int x1])).length) Slot.unset).toArray = ls at hl ⊢
  have hl : lv_has ls 3 [(0, .ref (ad 50)), (1, .int x1)] := hl
  have L_2 : ∀ (n_2 : Nat) (x1 : Int32) (x2 : Int32) (S : St) (H : Heap) (locs : List Loc) (ls : Array Slot), fX2_hasTried_2 fu n_2 x1 x2 S = some (S', r) → lv_has ls 3 [(0, .ref (ad 50)), (1, .int x1), (2, .int x2)] → WS D cA ad base s S H locs → W p l e rmX2_hasTried s m args below meth c H locs 0 0 (MQ below (QI D cA ad base S' r) args s 0 0 (aB base)) (F0 m 2 ls []) := by
    intro n_2
    induction n_2 with
    | zero =>
      intro x1 x2 S H locs ls hf hl hw
      exact (no_none hf).elim
    | succ n_2 ih_2 =>
      intro x1 x2 S H locs ls hf hl hw
      rw [fX2_hasTried_2_s] at hf
      refine lv_iload_n hx hb dX2_hasTried_2 rfl (lv_at hl 2 rfl) ?_
      refine lv_aload_n hx hb dX2_hasTried_3 rfl (lv_at hl 0 rfl) ?_
      refine r_getR C hw (k := 5) (r := 56) dq_50 ln_50 rfl vc_2 inX2 (by decide) rfl gw2_44 dX2_hasTried_4 ?_
      refine lv_aload_n hx hb dX2_hasTried_7 rfl (lv_at hl 0 rfl) ?_
      refine r_getI C hw (k := 9) dq_50 ln_50 rfl vc_2 inX2 (by decide) rfl gw2_48 dX2_hasTried_8 ?_
      obtain ⟨z_11, hf⟩ := gd_some hf
      refine r_iald C hw (x := 56) dq_56 ln_56 z_11 dX2_hasTried_11 ?_
      refine lv_icmp_ge (tgt := 41) hx hb dX2_hasTried_12 (by decide) (fun c_12 => ?_) (fun c_12 => ?_)
      · have hf := if_t hf c_12
        refine lv_iconst (v := (0 : Int32)) hx hb dX2_hasTried_41 (by decide) ?_
        exact r_zret C hw hr hlocks rfl hf dX2_hasTried_42
      · have hf := if_f hf c_12
        refine lv_aload_n hx hb dX2_hasTried_15 rfl (lv_at hl 0 rfl) ?_
        refine r_getR C hw (k := 4) (r := 55) dq_50 ln_50 rfl vc_2 inX2 (by decide) rfl gw2_43 dX2_hasTried_16 ?_
        refine lv_aload_n hx hb dX2_hasTried_19 rfl (lv_at hl 0 rfl) ?_
        refine r_getI C hw (k := 9) dq_50 ln_50 rfl vc_2 inX2 (by decide) rfl gw2_48 dX2_hasTried_20 ?_
        refine lv_bipush (v := (40 : Int32)) hx hb dX2_hasTried_23 (by decide) ?_
        refine lv_imul hx hb dX2_hasTried_25 ?_
        refine lv_iload_n hx hb dX2_hasTried_26 rfl (lv_at hl 2 rfl) ?_
        refine lv_iadd hx hb dX2_hasTried_27 ?_
        obtain ⟨z_28, hf⟩ := gd_some hf
        refine r_iald C hw (x := 55) dq_55 ln_55 z_28 dX2_hasTried_28 ?_
        refine lv_iload_n hx hb dX2_hasTried_29 rfl (lv_at hl 1 rfl) ?_
        refine lv_icmp_ne (tgt := 35) hx hb dX2_hasTried_30 (by decide) (fun c_30 => ?_) (fun c_30 => ?_)
        · have hf := if_f hf c_30
          refine lv_iinc (v := (x2 + (1 : Int32))) (lv' := [(2, .int (x2 + (1 : Int32))), (0, .ref (ad 50)), (1, .int x1)]) hx hb dX2_hasTried_35 hl (k := 2) rfl rfl (by decide) rfl (fun ls hl => ?_)
          refine lv_goto (tgt := 2) hx hb dX2_hasTried_38 (by decide) ?_
          exact ih_2 _ _ _ _ _ _ hf (lv_sub hl [1, 2, 0] rfl) hw
        · have hf := if_t hf c_30
          refine lv_iconst (v := (1 : Int32)) hx hb dX2_hasTried_33 (by decide) ?_
          exact r_zret C hw hr hlocks rfl hf dX2_hasTried_34
  show W p l e rmX2_hasTried s m args below meth c s.heap [] 0 0 _ _
  refine lv_iconst (v := (0 : Int32)) hx hb dX2_hasTried_0 (by decide) ?_
  refine lv_istore_n (lv' := [(2, .int (0 : Int32)), (0, .ref (ad 50)), (1, .int x1)]) hx hb dX2_hasTried_1 rfl hl (by decide) rfl (fun ls hl => ?_)
  exact L_2 fu _ _ _ _ _ _ hf (lv_sub hl [1, 2, 0] rfl) hw
noncomputable def fX2_addTried (fu : Nat) (x1 : Int32) (S : St) : Option (St × Int32) :=
  gd (ck (S.1 50 9) 4) <|
  if (40 : Int32) ≤ (S.1 56 ((S.1 50 9)).toNatClampNeg) then
    some (S, (0 : Int32))
  else
    gd (ck (S.1 50 9) 4) <|
    gd (ck (((S.1 50 9) * (40 : Int32)) + (S.1 56 ((S.1 50 9)).toNatClampNeg)) 160) <|
    sI 55 ((((S.1 50 9) * (40 : Int32)) + (S.1 56 ((S.1 50 9)).toNatClampNeg))).toNatClampNeg x1 S fun S_36 =>
    gd (ck (S_36.1 50 9) 4) <|
    gd (ck (S_36.1 50 9) 4) <|
    sI 56 ((S_36.1 50 9)).toNatClampNeg ((S_36.1 56 ((S_36.1 50 9)).toNatClampNeg) + (1 : Int32)) S_36 fun S_49 =>
    some (S_49, (0 : Int32))
theorem mvX2_addTried : MV yX2_addTried cX2_addTried 2 none RX2 1 := ⟨gw5_221, gw5_219, gw5_220, gw1_12, by decide +kernel⟩
def rmX2_addTried : Room := { frames := 0, cells := 0, slots := 0, locals := 0 }
set_option maxHeartbeats 4000000 in
set_option maxRecDepth 100000 in
theorem m_X2_addTried (l : Launch) (D : va_G) (cA : FieldType → ClassId) (ad : Nat → Nat) (base : Nat) (fu : Nat) {S S' : St} {x1 : Int32} {r : Int32} (hf : fX2_addTried fu x1 S = some (S', r)) : Met l yX2_addTried (GC yX2_addTried cX2_addTried 2 none) rmX2_addTried (va_Pc [.ref (ad 50), .int x1] (wd D cA ad base S)) (QV D cA ad base S') 0 0 (aB base) := by
  refine Met.ofW (cc := cX2_addTried) (maxL := 2) (ret := none) (by decide) rfl ?_
  intro p e s m args below meth c s₁ B hml hv
  obtain ⟨hargs, hwd⟩ := hv
  have hr := B.returns
  have hlocks := B.notSynchronized
  obtain ⟨C, hw⟩ := CX.of (own := RX2) rfl B hml hwd
  have hx := C.1
  have hb := C.2.1
  have hl := lv_entry ([.ref (ad 50), .int x1]) (n := 2) (Nat.le_of_ble_eq_true rfl)
  rw [show entryFrame m args 2 = entryFrame m ([.ref (ad 50), .int x1] : List Value).toArray 2 from by rw [hargs], lg_entry_eq]
  generalize (lg_sl ([.ref (ad 50), .int x1]) ++ List.replicate (2 - (lg_sl ([.ref (ad 50), .int x1])).length) Slot.unset).toArray = ls at hl ⊢
  have hl : lv_has ls 2 [(0, .ref (ad 50)), (1, .int x1)] := hl
  show W p l e rmX2_addTried s m args below meth c s.heap [] 0 0 _ _
  refine lv_aload_n hx hb dX2_addTried_0 rfl (lv_at hl 0 rfl) ?_
  refine r_getR C hw (k := 5) (r := 56) dq_50 ln_50 rfl vc_2 inX2 (by decide) rfl gw2_44 dX2_addTried_1 ?_
  refine lv_aload_n hx hb dX2_addTried_4 rfl (lv_at hl 0 rfl) ?_
  refine r_getI C hw (k := 9) dq_50 ln_50 rfl vc_2 inX2 (by decide) rfl gw2_48 dX2_addTried_5 ?_
  obtain ⟨z_8, hf⟩ := gd_some hf
  refine r_iald C hw (x := 56) dq_56 ln_56 z_8 dX2_addTried_8 ?_
  refine lv_bipush (v := (40 : Int32)) hx hb dX2_addTried_9 (by decide) ?_
  refine lv_icmp_ge (tgt := 50) hx hb dX2_addTried_11 (by decide) (fun c_11 => ?_) (fun c_11 => ?_)
  · have hf := if_t hf c_11
    exact r_vret C hw hr hlocks hf dX2_addTried_50
  · have hf := if_f hf c_11
    refine lv_aload_n hx hb dX2_addTried_14 rfl (lv_at hl 0 rfl) ?_
    refine r_getR C hw (k := 4) (r := 55) dq_50 ln_50 rfl vc_2 inX2 (by decide) rfl gw2_43 dX2_addTried_15 ?_
    refine lv_aload_n hx hb dX2_addTried_18 rfl (lv_at hl 0 rfl) ?_
    refine r_getI C hw (k := 9) dq_50 ln_50 rfl vc_2 inX2 (by decide) rfl gw2_48 dX2_addTried_19 ?_
    refine lv_bipush (v := (40 : Int32)) hx hb dX2_addTried_22 (by decide) ?_
    refine lv_imul hx hb dX2_addTried_24 ?_
    refine lv_aload_n hx hb dX2_addTried_25 rfl (lv_at hl 0 rfl) ?_
    refine r_getR C hw (k := 5) (r := 56) dq_50 ln_50 rfl vc_2 inX2 (by decide) rfl gw2_44 dX2_addTried_26 ?_
    refine lv_aload_n hx hb dX2_addTried_29 rfl (lv_at hl 0 rfl) ?_
    refine r_getI C hw (k := 9) dq_50 ln_50 rfl vc_2 inX2 (by decide) rfl gw2_48 dX2_addTried_30 ?_
    obtain ⟨z_33, hf⟩ := gd_some hf
    refine r_iald C hw (x := 56) dq_56 ln_56 z_33 dX2_addTried_33 ?_
    refine lv_iadd hx hb dX2_addTried_34 ?_
    refine lv_iload_n hx hb dX2_addTried_35 rfl (lv_at hl 1 rfl) ?_
    obtain ⟨z_36, hf⟩ := gd_some hf
    obtain ⟨S_36, e_36, hf⟩ := sI_some hf
    refine r_iast C hw (x := 55) dq_55 ln_55 z_36 dX2_addTried_36 e_36 (fun H locs hw => ?_)
    refine lv_aload_n hx hb dX2_addTried_37 rfl (lv_at hl 0 rfl) ?_
    refine r_getR C hw (k := 5) (r := 56) dq_50 ln_50 rfl vc_2 inX2 (by decide) rfl gw2_44 dX2_addTried_38 ?_
    refine lv_aload_n hx hb dX2_addTried_41 rfl (lv_at hl 0 rfl) ?_
    refine r_getI C hw (k := 9) dq_50 ln_50 rfl vc_2 inX2 (by decide) rfl gw2_48 dX2_addTried_42 ?_
    refine lv_dup2_11 hx hb dX2_addTried_45 rfl rfl ?_
    obtain ⟨z_46, hf⟩ := gd_some hf
    refine r_iald C hw (x := 56) dq_56 ln_56 z_46 dX2_addTried_46 ?_
    refine lv_iconst (v := (1 : Int32)) hx hb dX2_addTried_47 (by decide) ?_
    refine lv_iadd hx hb dX2_addTried_48 ?_
    obtain ⟨z_49, hf⟩ := gd_some hf
    obtain ⟨S_49, e_49, hf⟩ := sI_some hf
    refine r_iast C hw (x := 56) dq_56 ln_56 z_49 dX2_addTried_49 e_49 (fun H locs hw => ?_)
    exact r_vret C hw hr hlocks hf dX2_addTried_50
noncomputable def fX2_hasSentFor_2 (fu : Nat) (n : Nat) : Int32 → Int32 → St → Option (St × Int32) :=
  Nat.rec (motive := fun _ => Int32 → Int32 → St → Option (St × Int32)) (fun _ _ _ => none) (fun _ k_2 x1 x2 S =>
    gd (ck (S.1 50 9) 4) <|
    if (S.1 58 ((S.1 50 9)).toNatClampNeg) ≤ x2 then
      some (S, (0 : Int32))
    else
      gd (ck (((S.1 50 9) * (300 : Int32)) + x2) 1200) <|
      if (S.1 57 ((((S.1 50 9) * (300 : Int32)) + x2)).toNatClampNeg) = x1 then
        some (S, (1 : Int32))
      else
        k_2 x1 (x2 + (1 : Int32)) S) n
theorem fX2_hasSentFor_2_s (fu : Nat) (n : Nat) (x1 : Int32) (x2 : Int32) (S : St) : fX2_hasSentFor_2 fu (n + 1) x1 x2 S = (
    gd (ck (S.1 50 9) 4) <|
    if (S.1 58 ((S.1 50 9)).toNatClampNeg) ≤ x2 then
      some (S, (0 : Int32))
    else
      gd (ck (((S.1 50 9) * (300 : Int32)) + x2) 1200) <|
      if (S.1 57 ((((S.1 50 9) * (300 : Int32)) + x2)).toNatClampNeg) = x1 then
        some (S, (1 : Int32))
      else
        (fX2_hasSentFor_2 fu n) x1 (x2 + (1 : Int32)) S) := rfl
noncomputable def fX2_hasSentFor (fu : Nat) (x1 : Int32) (S : St) : Option (St × Int32) :=
  fX2_hasSentFor_2 fu fu x1 (0 : Int32) S
theorem mvX2_hasSentFor : MV yX2_hasSentFor cX2_hasSentFor 3 (some .boolean) RX2 1 := ⟨gw5_233, gw5_231, gw5_232, gw1_12, by decide +kernel⟩
def rmX2_hasSentFor : Room := { frames := 0, cells := 0, slots := 0, locals := 0 }
set_option maxHeartbeats 4000000 in
set_option maxRecDepth 100000 in
theorem m_X2_hasSentFor (l : Launch) (D : va_G) (cA : FieldType → ClassId) (ad : Nat → Nat) (base : Nat) (fu : Nat) {S S' : St} {x1 : Int32} {r : Int32} (hf : fX2_hasSentFor fu x1 S = some (S', r)) : Met l yX2_hasSentFor (GC yX2_hasSentFor cX2_hasSentFor 3 (some .boolean)) rmX2_hasSentFor (va_Pc [.ref (ad 50), .int x1] (wd D cA ad base S)) (QI D cA ad base S' r) 0 0 (aB base) := by
  refine Met.ofW (cc := cX2_hasSentFor) (maxL := 3) (ret := (some .boolean)) (by decide) rfl ?_
  intro p e s m args below meth c s₁ B hml hv
  obtain ⟨hargs, hwd⟩ := hv
  have hr := B.returns
  have hlocks := B.notSynchronized
  obtain ⟨C, hw⟩ := CX.of (own := RX2) rfl B hml hwd
  have hx := C.1
  have hb := C.2.1
  have hl := lv_entry ([.ref (ad 50), .int x1]) (n := 3) (Nat.le_of_ble_eq_true rfl)
  rw [show entryFrame m args 3 = entryFrame m ([.ref (ad 50), .int x1] : List Value).toArray 3 from by rw [hargs], lg_entry_eq]
  generalize (lg_sl ([.ref (ad 50), .int x1]) ++ List.replicate (3 - (lg_sl ([.ref (ad 50), .int x1])).length) Slot.unset).toArray = ls at hl ⊢
  have hl : lv_has ls 3 [(0, .ref (ad 50)), (1, .int x1)] := hl
  have L_2 : ∀ (n_2 : Nat) (x1 : Int32) (x2 : Int32) (S : St) (H : Heap) (locs : List Loc) (ls : Array Slot), fX2_hasSentFor_2 fu n_2 x1 x2 S = some (S', r) → lv_has ls 3 [(0, .ref (ad 50)), (1, .int x1), (2, .int x2)] → WS D cA ad base s S H locs → W p l e rmX2_hasSentFor s m args below meth c H locs 0 0 (MQ below (QI D cA ad base S' r) args s 0 0 (aB base)) (F0 m 2 ls []) := by
    intro n_2
    induction n_2 with
    | zero =>
      intro x1 x2 S H locs ls hf hl hw
      exact (no_none hf).elim
    | succ n_2 ih_2 =>
      intro x1 x2 S H locs ls hf hl hw
      rw [fX2_hasSentFor_2_s] at hf
      refine lv_iload_n hx hb dX2_hasSentFor_2 rfl (lv_at hl 2 rfl) ?_
      refine lv_aload_n hx hb dX2_hasSentFor_3 rfl (lv_at hl 0 rfl) ?_
      refine r_getR C hw (k := 7) (r := 58) dq_50 ln_50 rfl vc_2 inX2 (by decide) rfl gw2_46 dX2_hasSentFor_4 ?_
      refine lv_aload_n hx hb dX2_hasSentFor_7 rfl (lv_at hl 0 rfl) ?_
      refine r_getI C hw (k := 9) dq_50 ln_50 rfl vc_2 inX2 (by decide) rfl gw2_48 dX2_hasSentFor_8 ?_
      obtain ⟨z_11, hf⟩ := gd_some hf
      refine r_iald C hw (x := 58) dq_58 ln_58 z_11 dX2_hasSentFor_11 ?_
      refine lv_icmp_ge (tgt := 42) hx hb dX2_hasSentFor_12 (by decide) (fun c_12 => ?_) (fun c_12 => ?_)
      · have hf := if_t hf c_12
        refine lv_iconst (v := (0 : Int32)) hx hb dX2_hasSentFor_42 (by decide) ?_
        exact r_zret C hw hr hlocks rfl hf dX2_hasSentFor_43
      · have hf := if_f hf c_12
        refine lv_aload_n hx hb dX2_hasSentFor_15 rfl (lv_at hl 0 rfl) ?_
        refine r_getR C hw (k := 6) (r := 57) dq_50 ln_50 rfl vc_2 inX2 (by decide) rfl gw2_45 dX2_hasSentFor_16 ?_
        refine lv_aload_n hx hb dX2_hasSentFor_19 rfl (lv_at hl 0 rfl) ?_
        refine r_getI C hw (k := 9) dq_50 ln_50 rfl vc_2 inX2 (by decide) rfl gw2_48 dX2_hasSentFor_20 ?_
        refine lv_sipush (v := (300 : Int32)) hx hb dX2_hasSentFor_23 (by decide) ?_
        refine lv_imul hx hb dX2_hasSentFor_26 ?_
        refine lv_iload_n hx hb dX2_hasSentFor_27 rfl (lv_at hl 2 rfl) ?_
        refine lv_iadd hx hb dX2_hasSentFor_28 ?_
        obtain ⟨z_29, hf⟩ := gd_some hf
        refine r_iald C hw (x := 57) dq_57 ln_57 z_29 dX2_hasSentFor_29 ?_
        refine lv_iload_n hx hb dX2_hasSentFor_30 rfl (lv_at hl 1 rfl) ?_
        refine lv_icmp_ne (tgt := 36) hx hb dX2_hasSentFor_31 (by decide) (fun c_31 => ?_) (fun c_31 => ?_)
        · have hf := if_f hf c_31
          refine lv_iinc (v := (x2 + (1 : Int32))) (lv' := [(2, .int (x2 + (1 : Int32))), (0, .ref (ad 50)), (1, .int x1)]) hx hb dX2_hasSentFor_36 hl (k := 2) rfl rfl (by decide) rfl (fun ls hl => ?_)
          refine lv_goto (tgt := 2) hx hb dX2_hasSentFor_39 (by decide) ?_
          exact ih_2 _ _ _ _ _ _ hf (lv_sub hl [1, 2, 0] rfl) hw
        · have hf := if_t hf c_31
          refine lv_iconst (v := (1 : Int32)) hx hb dX2_hasSentFor_34 (by decide) ?_
          exact r_zret C hw hr hlocks rfl hf dX2_hasSentFor_35
  show W p l e rmX2_hasSentFor s m args below meth c s.heap [] 0 0 _ _
  refine lv_iconst (v := (0 : Int32)) hx hb dX2_hasSentFor_0 (by decide) ?_
  refine lv_istore_n (lv' := [(2, .int (0 : Int32)), (0, .ref (ad 50)), (1, .int x1)]) hx hb dX2_hasSentFor_1 rfl hl (by decide) rfl (fun ls hl => ?_)
  exact L_2 fu _ _ _ _ _ _ hf (lv_sub hl [1, 2, 0] rfl) hw
noncomputable def fX2_addSentFor (fu : Nat) (x1 : Int32) (S : St) : Option (St × Int32) :=
  gd (ck (S.1 50 9) 4) <|
  if (300 : Int32) ≤ (S.1 58 ((S.1 50 9)).toNatClampNeg) then
    some (S, (0 : Int32))
  else
    gd (ck (S.1 50 9) 4) <|
    gd (ck (((S.1 50 9) * (300 : Int32)) + (S.1 58 ((S.1 50 9)).toNatClampNeg)) 1200) <|
    sI 57 ((((S.1 50 9) * (300 : Int32)) + (S.1 58 ((S.1 50 9)).toNatClampNeg))).toNatClampNeg x1 S fun S_38 =>
    gd (ck (S_38.1 50 9) 4) <|
    gd (ck (S_38.1 50 9) 4) <|
    sI 58 ((S_38.1 50 9)).toNatClampNeg ((S_38.1 58 ((S_38.1 50 9)).toNatClampNeg) + (1 : Int32)) S_38 fun S_51 =>
    some (S_51, (0 : Int32))
theorem mvX2_addSentFor : MV yX2_addSentFor cX2_addSentFor 2 none RX2 1 := ⟨gw5_237, gw5_235, gw5_236, gw1_12, by decide +kernel⟩
def rmX2_addSentFor : Room := { frames := 0, cells := 0, slots := 0, locals := 0 }
set_option maxHeartbeats 4000000 in
set_option maxRecDepth 100000 in
theorem m_X2_addSentFor (l : Launch) (D : va_G) (cA : FieldType → ClassId) (ad : Nat → Nat) (base : Nat) (fu : Nat) {S S' : St} {x1 : Int32} {r : Int32} (hf : fX2_addSentFor fu x1 S = some (S', r)) : Met l yX2_addSentFor (GC yX2_addSentFor cX2_addSentFor 2 none) rmX2_addSentFor (va_Pc [.ref (ad 50), .int x1] (wd D cA ad base S)) (QV D cA ad base S') 0 0 (aB base) := by
  refine Met.ofW (cc := cX2_addSentFor) (maxL := 2) (ret := none) (by decide) rfl ?_
  intro p e s m args below meth c s₁ B hml hv
  obtain ⟨hargs, hwd⟩ := hv
  have hr := B.returns
  have hlocks := B.notSynchronized
  obtain ⟨C, hw⟩ := CX.of (own := RX2) rfl B hml hwd
  have hx := C.1
  have hb := C.2.1
  have hl := lv_entry ([.ref (ad 50), .int x1]) (n := 2) (Nat.le_of_ble_eq_true rfl)
  rw [show entryFrame m args 2 = entryFrame m ([.ref (ad 50), .int x1] : List Value).toArray 2 from by rw [hargs], lg_entry_eq]
  generalize (lg_sl ([.ref (ad 50), .int x1]) ++ List.replicate (2 - (lg_sl ([.ref (ad 50), .int x1])).length) Slot.unset).toArray = ls at hl ⊢
  have hl : lv_has ls 2 [(0, .ref (ad 50)), (1, .int x1)] := hl
  show W p l e rmX2_addSentFor s m args below meth c s.heap [] 0 0 _ _
  refine lv_aload_n hx hb dX2_addSentFor_0 rfl (lv_at hl 0 rfl) ?_
  refine r_getR C hw (k := 7) (r := 58) dq_50 ln_50 rfl vc_2 inX2 (by decide) rfl gw2_46 dX2_addSentFor_1 ?_
  refine lv_aload_n hx hb dX2_addSentFor_4 rfl (lv_at hl 0 rfl) ?_
  refine r_getI C hw (k := 9) dq_50 ln_50 rfl vc_2 inX2 (by decide) rfl gw2_48 dX2_addSentFor_5 ?_
  obtain ⟨z_8, hf⟩ := gd_some hf
  refine r_iald C hw (x := 58) dq_58 ln_58 z_8 dX2_addSentFor_8 ?_
  refine lv_sipush (v := (300 : Int32)) hx hb dX2_addSentFor_9 (by decide) ?_
  refine lv_icmp_ge (tgt := 52) hx hb dX2_addSentFor_12 (by decide) (fun c_12 => ?_) (fun c_12 => ?_)
  · have hf := if_t hf c_12
    exact r_vret C hw hr hlocks hf dX2_addSentFor_52
  · have hf := if_f hf c_12
    refine lv_aload_n hx hb dX2_addSentFor_15 rfl (lv_at hl 0 rfl) ?_
    refine r_getR C hw (k := 6) (r := 57) dq_50 ln_50 rfl vc_2 inX2 (by decide) rfl gw2_45 dX2_addSentFor_16 ?_
    refine lv_aload_n hx hb dX2_addSentFor_19 rfl (lv_at hl 0 rfl) ?_
    refine r_getI C hw (k := 9) dq_50 ln_50 rfl vc_2 inX2 (by decide) rfl gw2_48 dX2_addSentFor_20 ?_
    refine lv_sipush (v := (300 : Int32)) hx hb dX2_addSentFor_23 (by decide) ?_
    refine lv_imul hx hb dX2_addSentFor_26 ?_
    refine lv_aload_n hx hb dX2_addSentFor_27 rfl (lv_at hl 0 rfl) ?_
    refine r_getR C hw (k := 7) (r := 58) dq_50 ln_50 rfl vc_2 inX2 (by decide) rfl gw2_46 dX2_addSentFor_28 ?_
    refine lv_aload_n hx hb dX2_addSentFor_31 rfl (lv_at hl 0 rfl) ?_
    refine r_getI C hw (k := 9) dq_50 ln_50 rfl vc_2 inX2 (by decide) rfl gw2_48 dX2_addSentFor_32 ?_
    obtain ⟨z_35, hf⟩ := gd_some hf
    refine r_iald C hw (x := 58) dq_58 ln_58 z_35 dX2_addSentFor_35 ?_
    refine lv_iadd hx hb dX2_addSentFor_36 ?_
    refine lv_iload_n hx hb dX2_addSentFor_37 rfl (lv_at hl 1 rfl) ?_
    obtain ⟨z_38, hf⟩ := gd_some hf
    obtain ⟨S_38, e_38, hf⟩ := sI_some hf
    refine r_iast C hw (x := 57) dq_57 ln_57 z_38 dX2_addSentFor_38 e_38 (fun H locs hw => ?_)
    refine lv_aload_n hx hb dX2_addSentFor_39 rfl (lv_at hl 0 rfl) ?_
    refine r_getR C hw (k := 7) (r := 58) dq_50 ln_50 rfl vc_2 inX2 (by decide) rfl gw2_46 dX2_addSentFor_40 ?_
    refine lv_aload_n hx hb dX2_addSentFor_43 rfl (lv_at hl 0 rfl) ?_
    refine r_getI C hw (k := 9) dq_50 ln_50 rfl vc_2 inX2 (by decide) rfl gw2_48 dX2_addSentFor_44 ?_
    refine lv_dup2_11 hx hb dX2_addSentFor_47 rfl rfl ?_
    obtain ⟨z_48, hf⟩ := gd_some hf
    refine r_iald C hw (x := 58) dq_58 ln_58 z_48 dX2_addSentFor_48 ?_
    refine lv_iconst (v := (1 : Int32)) hx hb dX2_addSentFor_49 (by decide) ?_
    refine lv_iadd hx hb dX2_addSentFor_50 ?_
    obtain ⟨z_51, hf⟩ := gd_some hf
    obtain ⟨S_51, e_51, hf⟩ := sI_some hf
    refine r_iast C hw (x := 58) dq_58 ln_58 z_51 dX2_addSentFor_51 e_51 (fun H locs hw => ?_)
    exact r_vret C hw hr hlocks hf dX2_addSentFor_52
