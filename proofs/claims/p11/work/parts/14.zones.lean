noncomputable def fX11_isNamed_10 (fu : Nat) (S : St) : Option (St × Int32) :=
  some (S, (1 : Int32))
noncomputable def fX11_isNamed (fu : Nat) (x0 : Int32) (S : St) : Option (St × Int32) :=
  if x0 = (2 : Int32) then
    fX11_isNamed_10 fu S
  else
    if x0 = (5 : Int32) then
      fX11_isNamed_10 fu S
    else
      some (S, (0 : Int32))
theorem msX11_isNamed : MS yX11_isNamed cX11_isNamed 1 (some .boolean) 1 := ⟨gw3_12, gw3_11, gw1_1, by decide +kernel⟩
def rmX11_isNamed : Room := { frames := 0, cells := 0, slots := 0, locals := 0 }
set_option maxHeartbeats 4000000 in
set_option maxRecDepth 100000 in
theorem m_X11_isNamed (l : Launch) (D : va_G) (cA : FieldType → ClassId) (ad : Nat → Nat) (base : Nat) (fu : Nat) {S S' : St} {x0 : Int32} {r : Int32} (hf : fX11_isNamed fu x0 S = some (S', r)) : Met l yX11_isNamed (GC yX11_isNamed cX11_isNamed 1 (some .boolean)) rmX11_isNamed (va_Pc [.int x0] (wd D cA ad base S)) (QI D cA ad base S' r) 0 0 (aB base) := by
  refine Met.ofW (cc := cX11_isNamed) (maxL := 1) (ret := (some .boolean)) (by decide) rfl ?_
  intro p e s m args below meth c s₁ B hml hv
  obtain ⟨hargs, hwd⟩ := hv
  have hr := B.returns
  have hlocks := B.notSynchronized
  obtain ⟨C, hw⟩ := CX.of (own := RX11) rfl B hml hwd
  have hx := C.1
  have hb := C.2.1
  have hl := lv_entry ([.int x0]) (n := 1) (Nat.le_of_ble_eq_true rfl)
  rw [show entryFrame m args 1 = entryFrame m ([.int x0] : List Value).toArray 1 from by rw [hargs], lg_entry_eq]
  generalize (lg_sl ([.int x0]) ++ List.replicate (1 - (lg_sl ([.int x0])).length) Slot.unset).toArray = ls at hl ⊢
  have hl : lv_has ls 1 [(0, .int x0)] := hl
  have J_10 : ∀ (S : St) (H : Heap) (locs : List Loc) (ls : Array Slot), fX11_isNamed_10 fu S = some (S', r) → lv_has ls 1 [] → WS D cA ad base s S H locs → W p l e rmX11_isNamed s m args below meth c H locs 0 0 (MQ below (QI D cA ad base S' r) args s 0 0 (aB base)) (F0 m 10 ls []) := by
    intro  S H locs ls hf hl hw
    refine lv_iconst (v := (1 : Int32)) hx hb dX11_isNamed_10 (by decide) ?_
    refine lv_goto (tgt := 15) hx hb dX11_isNamed_11 (by decide) ?_
    exact r_zret C hw hr hlocks rfl hf dX11_isNamed_15
  show W p l e rmX11_isNamed s m args below meth c s.heap [] 0 0 _ _
  refine lv_iload_n hx hb dX11_isNamed_0 rfl (lv_at hl 0 rfl) ?_
  refine lv_iconst (v := (2 : Int32)) hx hb dX11_isNamed_1 (by decide) ?_
  refine lv_icmp_eq (tgt := 10) hx hb dX11_isNamed_2 (by decide) (fun c_2 => ?_) (fun c_2 => ?_)
  · have hf := if_t hf c_2
    exact J_10 _ _ _ _ hf (lv_sub hl [] rfl) hw
  · have hf := if_f hf c_2
    refine lv_iload_n hx hb dX11_isNamed_5 rfl (lv_at hl 0 rfl) ?_
    refine lv_iconst (v := (5 : Int32)) hx hb dX11_isNamed_6 (by decide) ?_
    refine lv_icmp_ne (tgt := 14) hx hb dX11_isNamed_7 (by decide) (fun c_7 => ?_) (fun c_7 => ?_)
    · have hf := if_f hf c_7
      refine lv_iconst (v := (0 : Int32)) hx hb dX11_isNamed_14 (by decide) ?_
      exact r_zret C hw hr hlocks rfl hf dX11_isNamed_15
    · have hf := if_t hf c_7
      exact J_10 _ _ _ _ hf (lv_sub hl [] rfl) hw
noncomputable def fX11_isKept_21 (fu : Nat) (S : St) : Option (St × Int32) :=
  some (S, (1 : Int32))
noncomputable def fX11_isKept (fu : Nat) (x0 : Int32) (S : St) : Option (St × Int32) :=
  if x0 = (1 : Int32) then
    fX11_isKept_21 fu S
  else
    if x0 = (2 : Int32) then
      fX11_isKept_21 fu S
    else
      if x0 = (5 : Int32) then
        fX11_isKept_21 fu S
      else
        if x0 = (16 : Int32) then
          fX11_isKept_21 fu S
        else
          some (S, (0 : Int32))
theorem msX11_isKept : MS yX11_isKept cX11_isKept 1 (some .boolean) 1 := ⟨gw3_28, gw3_27, gw1_1, by decide +kernel⟩
def rmX11_isKept : Room := { frames := 0, cells := 0, slots := 0, locals := 0 }
set_option maxHeartbeats 4000000 in
set_option maxRecDepth 100000 in
theorem m_X11_isKept (l : Launch) (D : va_G) (cA : FieldType → ClassId) (ad : Nat → Nat) (base : Nat) (fu : Nat) {S S' : St} {x0 : Int32} {r : Int32} (hf : fX11_isKept fu x0 S = some (S', r)) : Met l yX11_isKept (GC yX11_isKept cX11_isKept 1 (some .boolean)) rmX11_isKept (va_Pc [.int x0] (wd D cA ad base S)) (QI D cA ad base S' r) 0 0 (aB base) := by
  refine Met.ofW (cc := cX11_isKept) (maxL := 1) (ret := (some .boolean)) (by decide) rfl ?_
  intro p e s m args below meth c s₁ B hml hv
  obtain ⟨hargs, hwd⟩ := hv
  have hr := B.returns
  have hlocks := B.notSynchronized
  obtain ⟨C, hw⟩ := CX.of (own := RX11) rfl B hml hwd
  have hx := C.1
  have hb := C.2.1
  have hl := lv_entry ([.int x0]) (n := 1) (Nat.le_of_ble_eq_true rfl)
  rw [show entryFrame m args 1 = entryFrame m ([.int x0] : List Value).toArray 1 from by rw [hargs], lg_entry_eq]
  generalize (lg_sl ([.int x0]) ++ List.replicate (1 - (lg_sl ([.int x0])).length) Slot.unset).toArray = ls at hl ⊢
  have hl : lv_has ls 1 [(0, .int x0)] := hl
  have J_21 : ∀ (S : St) (H : Heap) (locs : List Loc) (ls : Array Slot), fX11_isKept_21 fu S = some (S', r) → lv_has ls 1 [] → WS D cA ad base s S H locs → W p l e rmX11_isKept s m args below meth c H locs 0 0 (MQ below (QI D cA ad base S' r) args s 0 0 (aB base)) (F0 m 21 ls []) := by
    intro  S H locs ls hf hl hw
    refine lv_iconst (v := (1 : Int32)) hx hb dX11_isKept_21 (by decide) ?_
    refine lv_goto (tgt := 26) hx hb dX11_isKept_22 (by decide) ?_
    exact r_zret C hw hr hlocks rfl hf dX11_isKept_26
  show W p l e rmX11_isKept s m args below meth c s.heap [] 0 0 _ _
  refine lv_iload_n hx hb dX11_isKept_0 rfl (lv_at hl 0 rfl) ?_
  refine lv_iconst (v := (1 : Int32)) hx hb dX11_isKept_1 (by decide) ?_
  refine lv_icmp_eq (tgt := 21) hx hb dX11_isKept_2 (by decide) (fun c_2 => ?_) (fun c_2 => ?_)
  · have hf := if_t hf c_2
    exact J_21 _ _ _ _ hf (lv_sub hl [] rfl) hw
  · have hf := if_f hf c_2
    refine lv_iload_n hx hb dX11_isKept_5 rfl (lv_at hl 0 rfl) ?_
    refine lv_iconst (v := (2 : Int32)) hx hb dX11_isKept_6 (by decide) ?_
    refine lv_icmp_eq (tgt := 21) hx hb dX11_isKept_7 (by decide) (fun c_7 => ?_) (fun c_7 => ?_)
    · have hf := if_t hf c_7
      exact J_21 _ _ _ _ hf (lv_sub hl [] rfl) hw
    · have hf := if_f hf c_7
      refine lv_iload_n hx hb dX11_isKept_10 rfl (lv_at hl 0 rfl) ?_
      refine lv_iconst (v := (5 : Int32)) hx hb dX11_isKept_11 (by decide) ?_
      refine lv_icmp_eq (tgt := 21) hx hb dX11_isKept_12 (by decide) (fun c_12 => ?_) (fun c_12 => ?_)
      · have hf := if_t hf c_12
        exact J_21 _ _ _ _ hf (lv_sub hl [] rfl) hw
      · have hf := if_f hf c_12
        refine lv_iload_n hx hb dX11_isKept_15 rfl (lv_at hl 0 rfl) ?_
        refine lv_bipush (v := (16 : Int32)) hx hb dX11_isKept_16 (by decide) ?_
        refine lv_icmp_ne (tgt := 25) hx hb dX11_isKept_18 (by decide) (fun c_18 => ?_) (fun c_18 => ?_)
        · have hf := if_f hf c_18
          refine lv_iconst (v := (0 : Int32)) hx hb dX11_isKept_25 (by decide) ?_
          exact r_zret C hw hr hlocks rfl hf dX11_isKept_26
        · have hf := if_t hf c_18
          exact J_21 _ _ _ _ hf (lv_sub hl [] rfl) hw
noncomputable def fX11_isLife (fu : Nat) (x0 : Int32) (S : St) : Option (St × Int32) :=
  if x0 < (1 : Int32) then
    some (S, (0 : Int32))
  else
    if (100000 : Int32) < x0 then
      some (S, (0 : Int32))
    else
      some (S, (1 : Int32))
theorem msX11_isLife : MS yX11_isLife cX11_isLife 1 (some .boolean) 1 := ⟨gw4_63, gw4_62, gw1_1, by decide +kernel⟩
def rmX11_isLife : Room := { frames := 0, cells := 0, slots := 0, locals := 0 }
set_option maxHeartbeats 4000000 in
set_option maxRecDepth 100000 in
theorem m_X11_isLife (l : Launch) (D : va_G) (cA : FieldType → ClassId) (ad : Nat → Nat) (base : Nat) (fu : Nat) {S S' : St} {x0 : Int32} {r : Int32} (hf : fX11_isLife fu x0 S = some (S', r)) : Met l yX11_isLife (GC yX11_isLife cX11_isLife 1 (some .boolean)) rmX11_isLife (va_Pc [.int x0] (wd D cA ad base S)) (QI D cA ad base S' r) 0 0 (aB base) := by
  refine Met.ofW (cc := cX11_isLife) (maxL := 1) (ret := (some .boolean)) (by decide) rfl ?_
  intro p e s m args below meth c s₁ B hml hv
  obtain ⟨hargs, hwd⟩ := hv
  have hr := B.returns
  have hlocks := B.notSynchronized
  obtain ⟨C, hw⟩ := CX.of (own := RX11) rfl B hml hwd
  have hx := C.1
  have hb := C.2.1
  have hl := lv_entry ([.int x0]) (n := 1) (Nat.le_of_ble_eq_true rfl)
  rw [show entryFrame m args 1 = entryFrame m ([.int x0] : List Value).toArray 1 from by rw [hargs], lg_entry_eq]
  generalize (lg_sl ([.int x0]) ++ List.replicate (1 - (lg_sl ([.int x0])).length) Slot.unset).toArray = ls at hl ⊢
  have hl : lv_has ls 1 [(0, .int x0)] := hl
  show W p l e rmX11_isLife s m args below meth c s.heap [] 0 0 _ _
  refine lv_iload_n hx hb dX11_isLife_0 rfl (lv_at hl 0 rfl) ?_
  refine lv_iconst (v := (1 : Int32)) hx hb dX11_isLife_1 (by decide) ?_
  refine lv_icmp_lt (tgt := 16) hx hb dX11_isLife_2 (by decide) (fun c_2 => ?_) (fun c_2 => ?_)
  · have hf := if_t hf c_2
    refine lv_iconst (v := (0 : Int32)) hx hb dX11_isLife_16 (by decide) ?_
    exact r_zret C hw hr hlocks rfl hf dX11_isLife_17
  · have hf := if_f hf c_2
    refine lv_iload_n hx hb dX11_isLife_5 rfl (lv_at hl 0 rfl) ?_
    refine lv_ldcw hx hb C.2.2.2.1 (C.2.2.2.2.1 _ (gw_of gw4_64 rfl)) dX11_isLife_6 ?_
    refine lv_icmp_gt (tgt := 16) hx hb dX11_isLife_9 (by decide) (fun c_9 => ?_) (fun c_9 => ?_)
    · have hf := if_t hf c_9
      refine lv_iconst (v := (0 : Int32)) hx hb dX11_isLife_16 (by decide) ?_
      exact r_zret C hw hr hlocks rfl hf dX11_isLife_17
    · have hf := if_f hf c_9
      refine lv_iconst (v := (1 : Int32)) hx hb dX11_isLife_12 (by decide) ?_
      refine lv_goto (tgt := 17) hx hb dX11_isLife_13 (by decide) ?_
      exact r_zret C hw hr hlocks rfl hf dX11_isLife_17
noncomputable def fJ7_fill_53178_5 (fu : Nat) (a na : Nat) (n : Nat) : Int32 → Int32 → Int32 → St → Option (St × Int32) :=
  Nat.rec (motive := fun _ => Int32 → Int32 → Int32 → St → Option (St × Int32)) (fun _ _ _ _ => none) (fun _ k_5 x1 x2 x3 S =>
    if x3 ≤ x2 then
      some (S, (0 : Int32))
    else
      gd (ck x2 na) <|
      sI a (x2).toNatClampNeg x1 S fun S_13 =>
      k_5 x1 (x2 + (1 : Int32)) x3 S_13) n
theorem fJ7_fill_53178_5_s (fu : Nat) (a na : Nat) (n : Nat) (x1 : Int32) (x2 : Int32) (x3 : Int32) (S : St) : fJ7_fill_53178_5 fu a na (n + 1) x1 x2 x3 S = (
    if x3 ≤ x2 then
      some (S, (0 : Int32))
    else
      gd (ck x2 na) <|
      sI a (x2).toNatClampNeg x1 S fun S_13 =>
      (fJ7_fill_53178_5 fu a na n) x1 (x2 + (1 : Int32)) x3 S_13) := rfl
noncomputable def fJ7_fill_53178 (fu : Nat) (a na : Nat) (x1 : Int32) (S : St) : Option (St × Int32) :=
  fJ7_fill_53178_5 fu a na fu x1 (0 : Int32) (Int32.ofNat na) S
theorem msJ7_fill_53178 : MS yJ7_fill_53178 cJ7_fill_53178 4 none 2 := ⟨gw4_194, gw4_193, gw1_21, by decide +kernel⟩
def rmJ7_fill_53178 : Room := { frames := 0, cells := 0, slots := 0, locals := 0 }
set_option maxHeartbeats 4000000 in
set_option maxRecDepth 100000 in
theorem m_J7_fill_53178 (l : Launch) (D : va_G) (cA : FieldType → ClassId) (ad : Nat → Nat) (base : Nat) (fu : Nat) (a na : Nat) (ha : isIA a na) {S S' : St} {x1 : Int32} {r : Int32} (hf : fJ7_fill_53178 fu a na x1 S = some (S', r)) : Met l yJ7_fill_53178 (GC yJ7_fill_53178 cJ7_fill_53178 4 none) rmJ7_fill_53178 (va_Pc [.ref (ad a), .int x1] (wd D cA ad base S)) (QV D cA ad base S') 0 0 (aB base) := by
  refine Met.ofW (cc := cJ7_fill_53178) (maxL := 4) (ret := none) (by decide) rfl ?_
  intro p e s m args below meth c s₁ B hml hv
  obtain ⟨hargs, hwd⟩ := hv
  have hr := B.returns
  have hlocks := B.notSynchronized
  obtain ⟨C, hw⟩ := CX.of (own := RJ7) rfl B hml hwd
  have hx := C.1
  have hb := C.2.1
  have hl := lv_entry ([.ref (ad a), .int x1]) (n := 4) (Nat.le_of_ble_eq_true rfl)
  rw [show entryFrame m args 4 = entryFrame m ([.ref (ad a), .int x1] : List Value).toArray 4 from by rw [hargs], lg_entry_eq]
  generalize (lg_sl ([.ref (ad a), .int x1]) ++ List.replicate (4 - (lg_sl ([.ref (ad a), .int x1])).length) Slot.unset).toArray = ls at hl ⊢
  have hl : lv_has ls 4 [(0, .ref (ad a)), (1, .int x1)] := hl
  have L_5 : ∀ (n_5 : Nat) (x1 : Int32) (x2 : Int32) (x3 : Int32) (S : St) (H : Heap) (locs : List Loc) (ls : Array Slot), fJ7_fill_53178_5 fu a na n_5 x1 x2 x3 S = some (S', r) → lv_has ls 4 [(0, .ref (ad a)), (1, .int x1), (2, .int x2), (3, .int x3)] → WS D cA ad base s S H locs → W p l e rmJ7_fill_53178 s m args below meth c H locs 0 0 (MQ below (QV D cA ad base S') args s 0 0 (aB base)) (F0 m 5 ls []) := by
    intro n_5
    induction n_5 with
    | zero =>
      intro x1 x2 x3 S H locs ls hf hl hw
      exact (no_none hf).elim
    | succ n_5 ih_5 =>
      intro x1 x2 x3 S H locs ls hf hl hw
      rw [fJ7_fill_53178_5_s] at hf
      refine lv_iload_n hx hb dJ7_fill_53178_5 rfl (lv_at hl 2 rfl) ?_
      refine lv_iload_n hx hb dJ7_fill_53178_6 rfl (lv_at hl 3 rfl) ?_
      refine lv_icmp_ge (tgt := 20) hx hb dJ7_fill_53178_7 (by decide) (fun c_7 => ?_) (fun c_7 => ?_)
      · have hf := if_t hf c_7
        exact r_vret C hw hr hlocks hf dJ7_fill_53178_20
      · have hf := if_f hf c_7
        refine lv_aload_n hx hb dJ7_fill_53178_10 rfl (lv_at hl 0 rfl) ?_
        refine lv_iload_n hx hb dJ7_fill_53178_11 rfl (lv_at hl 2 rfl) ?_
        refine lv_iload_n hx hb dJ7_fill_53178_12 rfl (lv_at hl 1 rfl) ?_
        obtain ⟨z_13, hf⟩ := gd_some hf
        obtain ⟨S_13, e_13, hf⟩ := sI_some hf
        refine r_iast C hw (x := a) ha.1 ha.2 z_13 dJ7_fill_53178_13 e_13 (fun H locs hw => ?_)
        refine lv_iinc (v := (x2 + (1 : Int32))) (lv' := [(2, .int (x2 + (1 : Int32))), (0, .ref (ad a)), (1, .int x1), (3, .int x3)]) hx hb dJ7_fill_53178_14 hl (k := 2) rfl rfl (by decide) rfl (fun ls hl => ?_)
        refine lv_goto (tgt := 5) hx hb dJ7_fill_53178_17 (by decide) ?_
        exact ih_5 _ _ _ _ _ _ _ hf (lv_sub hl [1, 2, 0, 3] rfl) hw
  show W p l e rmJ7_fill_53178 s m args below meth c s.heap [] 0 0 _ _
  refine lv_iconst (v := (0 : Int32)) hx hb dJ7_fill_53178_0 (by decide) ?_
  refine lv_istore_n (lv' := [(2, .int (0 : Int32)), (0, .ref (ad a)), (1, .int x1)]) hx hb dJ7_fill_53178_1 rfl hl (by decide) rfl (fun ls hl => ?_)
  refine lv_aload_n hx hb dJ7_fill_53178_2 rfl (lv_at hl 1 rfl) ?_
  refine r_alen C hw (x := a) ha.1 ha.2 dJ7_fill_53178_3 ?_
  refine lv_istore_n (lv' := [(3, .int (Int32.ofNat na)), (2, .int (0 : Int32)), (0, .ref (ad a)), (1, .int x1)]) hx hb dJ7_fill_53178_4 rfl hl (by decide) rfl (fun ls hl => ?_)
  exact L_5 fu _ _ _ _ _ _ _ hf (lv_sub hl [2, 3, 1, 0] rfl) hw
noncomputable def fX9_message (fu : Nat) (S : St) : Option (St × Int32) :=
  some (S, (0 : Int32))
theorem mvX9_message : MV yX9_message cX9_message 1 (some (.object "NameSeeker$Bytes")) RX9 0 := ⟨gw5_32, gw5_30, gw5_31, gw1_6, by decide +kernel⟩
def rmX9_message : Room := { frames := 0, cells := 0, slots := 0, locals := 0 }
set_option maxHeartbeats 4000000 in
set_option maxRecDepth 100000 in
theorem m_X9_message (l : Launch) (D : va_G) (cA : FieldType → ClassId) (ad : Nat → Nat) (base : Nat) (fu : Nat) {S S' : St} {r : Int32} (hf : fX9_message fu S = some (S', r)) : Met l yX9_message (GC yX9_message cX9_message 1 (some (.object "NameSeeker$Bytes"))) rmX9_message (va_Pc [.ref (ad 18)] (wd D cA ad base S)) (QR D cA ad base S' 19) 0 0 (aB base) := by
  refine Met.ofW (cc := cX9_message) (maxL := 1) (ret := (some (.object "NameSeeker$Bytes"))) (by decide) rfl ?_
  intro p e s m args below meth c s₁ B hml hv
  obtain ⟨hargs, hwd⟩ := hv
  have hr := B.returns
  have hlocks := B.notSynchronized
  obtain ⟨C, hw⟩ := CX.of (own := RX9) rfl B hml hwd
  have hx := C.1
  have hb := C.2.1
  have hl := lv_entry ([.ref (ad 18)]) (n := 1) (Nat.le_of_ble_eq_true rfl)
  rw [show entryFrame m args 1 = entryFrame m ([.ref (ad 18)] : List Value).toArray 1 from by rw [hargs], lg_entry_eq]
  generalize (lg_sl ([.ref (ad 18)]) ++ List.replicate (1 - (lg_sl ([.ref (ad 18)])).length) Slot.unset).toArray = ls at hl ⊢
  have hl : lv_has ls 1 [(0, .ref (ad 18))] := hl
  show W p l e rmX9_message s m args below meth c s.heap [] 0 0 _ _
  refine lv_aload_n hx hb dX9_message_0 rfl (lv_at hl 0 rfl) ?_
  refine r_getR C hw (k := 1) (r := 19) dq_18 ln_18 rfl vc_9 inX9 (by decide) rfl gw1_133 dX9_message_1 ?_
  exact r_aret C hw hr hlocks hf dX9_message_4
noncomputable def fX9_addName_120 (fu : Nat) (x2 : Int32) (S : St) : Option (St × Int32) :=
  if x2 = 0 then
    bd (fX0_add fu 19 (0 : Int32) S) fun S_129 _ =>
    some (S_129, (0 : Int32))
  else
    gd (ck x2 300) <|
    bd (fX0_addTwo fu 19 ((49152 : Int32) + (S.1 21 (x2).toNatClampNeg)) S) fun S_148 _ =>
    some (S_148, (0 : Int32))
noncomputable def fX9_addName_69 (fu : Nat) (k_19 : Int32 → Int32 → St → Option (St × Int32)) (n : Nat) : Int32 → Int32 → Int32 → St → Option (St × Int32) :=
  Nat.rec (motive := fun _ => Int32 → Int32 → Int32 → St → Option (St × Int32)) (fun _ _ _ _ => none) (fun _ k_69 x2 x3 x4 S =>
    bd (fX3_labelSize fu x2 S) fun S_76 r_76 =>
    if r_76 ≤ x4 then
      bd (fX3_above fu x2 S_76) fun S_110 r_110 =>
      k_19 r_110 (x3 + (1 : Int32)) S_110
    else
      bd (fX3_letter fu x2 x4 S_76) fun S_93 r_93 =>
      bd (fX0_add fu 19 r_93 S_93) fun S_96 _ =>
      k_69 x2 x3 (x4 + (1 : Int32)) S_96) n
theorem fX9_addName_69_s (fu : Nat) (k_19 : Int32 → Int32 → St → Option (St × Int32)) (n : Nat) (x2 : Int32) (x3 : Int32) (x4 : Int32) (S : St) : fX9_addName_69 fu k_19 (n + 1) x2 x3 x4 S = (
    bd (fX3_labelSize fu x2 S) fun S_76 r_76 =>
    if r_76 ≤ x4 then
      bd (fX3_above fu x2 S_76) fun S_110 r_110 =>
      k_19 r_110 (x3 + (1 : Int32)) S_110
    else
      bd (fX3_letter fu x2 x4 S_76) fun S_93 r_93 =>
      bd (fX0_add fu 19 r_93 S_93) fun S_96 _ =>
      (fX9_addName_69 fu k_19 n) x2 x3 (x4 + (1 : Int32)) S_96) := rfl
noncomputable def fX9_addName_19 (fu : Nat) (n : Nat) : Int32 → Int32 → St → Option (St × Int32) :=
  Nat.rec (motive := fun _ => Int32 → Int32 → St → Option (St × Int32)) (fun _ _ _ => none) (fun _ k_19 x2 x3 S =>
    if (6 : Int32) ≤ x3 then
      fX9_addName_120 fu x2 S
    else
      if x2 = 0 then
        fX9_addName_120 fu x2 S
      else
        gd (ck x2 300) <|
        if (S.1 21 (x2).toNatClampNeg) = 0 then
          bd (fX0_size fu 19 S) fun S_47 r_47 =>
          gd (ck x2 300) <|
          sI 21 (x2).toNatClampNeg r_47 S_47 fun S_50 =>
          bd (fX3_labelSize fu x2 S_50) fun S_60 r_60 =>
          bd (fX0_add fu 19 r_60 S_60) fun S_63 _ =>
          fX9_addName_69 fu k_19 fu x2 x3 (0 : Int32) S_63
        else
          fX9_addName_120 fu x2 S) n
theorem fX9_addName_19_s (fu : Nat) (n : Nat) (x2 : Int32) (x3 : Int32) (S : St) : fX9_addName_19 fu (n + 1) x2 x3 S = (
    if (6 : Int32) ≤ x3 then
      fX9_addName_120 fu x2 S
    else
      if x2 = 0 then
        fX9_addName_120 fu x2 S
      else
        gd (ck x2 300) <|
        if (S.1 21 (x2).toNatClampNeg) = 0 then
          bd (fX0_size fu 19 S) fun S_47 r_47 =>
          gd (ck x2 300) <|
          sI 21 (x2).toNatClampNeg r_47 S_47 fun S_50 =>
          bd (fX3_labelSize fu x2 S_50) fun S_60 r_60 =>
          bd (fX0_add fu 19 r_60 S_60) fun S_63 _ =>
          fX9_addName_69 fu (fX9_addName_19 fu n) fu x2 x3 (0 : Int32) S_63
        else
          fX9_addName_120 fu x2 S) := rfl
noncomputable def fX9_addName_16 (fu : Nat) (t0 : Int32) (S : St) : Option (St × Int32) :=
  fX9_addName_19 fu fu t0 (0 : Int32) S
noncomputable def fX9_addName (fu : Nat) (x1 : Int32) (S : St) : Option (St × Int32) :=
  bd (fX3_has fu x1 S) fun S_5 r_5 =>
  if r_5 = 0 then
    fX9_addName_16 fu (0 : Int32) S_5
  else
    fX9_addName_16 fu x1 S_5
theorem mvX9_addName : MV yX9_addName cX9_addName 5 none RX9 1 := ⟨gw4_204, gw4_203, gs_14, gw1_6, by decide +kernel⟩
def rmX9_addName : Room := { frames := 2, cells := 0, slots := 0, locals := 42 }
set_option maxHeartbeats 4000000 in
set_option maxRecDepth 100000 in
theorem m_X9_addName (l : Launch) (D : va_G) (cA : FieldType → ClassId) (ad : Nat → Nat) (base : Nat) (fu : Nat) {S S' : St} {x1 : Int32} {r : Int32} (hf : fX9_addName fu x1 S = some (S', r)) : Met l yX9_addName (GC yX9_addName cX9_addName 5 none) rmX9_addName (va_Pc [.ref (ad 18), .int x1] (wd D cA ad base S)) (QV D cA ad base S') 0 0 (aB base) := by
  refine Met.ofW (cc := cX9_addName) (maxL := 5) (ret := none) (by decide) rfl ?_
  intro p e s m args below meth c s₁ B hml hv
  obtain ⟨hargs, hwd⟩ := hv
  have hr := B.returns
  have hlocks := B.notSynchronized
  obtain ⟨C, hw⟩ := CX.of (own := RX9) rfl B hml hwd
  have hx := C.1
  have hb := C.2.1
  have hl := lv_entry ([.ref (ad 18), .int x1]) (n := 5) (Nat.le_of_ble_eq_true rfl)
  rw [show entryFrame m args 5 = entryFrame m ([.ref (ad 18), .int x1] : List Value).toArray 5 from by rw [hargs], lg_entry_eq]
  generalize (lg_sl ([.ref (ad 18), .int x1]) ++ List.replicate (5 - (lg_sl ([.ref (ad 18), .int x1])).length) Slot.unset).toArray = ls at hl ⊢
  have hl : lv_has ls 5 [(0, .ref (ad 18)), (1, .int x1)] := hl
  have J_120 : ∀ (x2 : Int32) (S : St) (H : Heap) (locs : List Loc) (ls : Array Slot), fX9_addName_120 fu x2 S = some (S', r) → lv_has ls 5 [(0, .ref (ad 18)), (2, .int x2)] → WS D cA ad base s S H locs → W p l e rmX9_addName s m args below meth c H locs 0 0 (MQ below (QV D cA ad base S') args s 0 0 (aB base)) (F0 m 120 ls []) := by
    intro x2 S H locs ls hf hl hw
    refine lv_iload_n hx hb dX9_addName_120 rfl (lv_at hl 1 rfl) ?_
    refine lv_if_ne (tgt := 135) hx hb dX9_addName_121 (by decide) (fun c_121 => ?_) (fun c_121 => ?_)
    · have hf := if_f hf c_121
      refine lv_aload_n hx hb dX9_addName_135 rfl (lv_at hl 0 rfl) ?_
      refine r_getR C hw (k := 1) (r := 19) dq_18 ln_18 rfl vc_9 inX9 (by decide) rfl gw1_133 dX9_addName_136 ?_
      refine lv_ldc hx hb C.2.2.2.1 (C.2.2.2.2.1 _ (gw_of gw4_211 rfl)) dX9_addName_139 ?_
      refine lv_aload_n hx hb dX9_addName_141 rfl (lv_at hl 0 rfl) ?_
      refine r_getR C hw (k := 2) (r := 21) dq_18 ln_18 rfl vc_9 inX9 (by decide) rfl gw1_134 dX9_addName_142 ?_
      refine lv_iload_n hx hb dX9_addName_145 rfl (lv_at hl 1 rfl) ?_
      obtain ⟨z_146, hf⟩ := gd_some hf
      refine r_iald C hw (x := 21) dq_21 ln_21 z_146 dX9_addName_146 ?_
      refine lv_iadd hx hb dX9_addName_147 ?_
      obtain ⟨S_148, r_148, h_148, hf⟩ := bd_some hf
      refine r_bv hw (r_runV (rest := []) C hw (m_X0_addTwo l D cA ad base fu 19 kBy_19 h_148) mvX0_addTwo gw4_195 ⟨rfl, rfl, Nat.le_of_ble_eq_true rfl, Nat.le_of_ble_eq_true rfl⟩ dq_19 ln_19 vc_0 rfl hl.1 rfl (Nat.le_of_ble_eq_true rfl) dX9_addName_148 (Nat.zero_le _) (Nat.zero_le _)) (fun H locs hw => ?_)
      exact r_vret C hw hr hlocks hf dX9_addName_151
    · have hf := if_t hf c_121
      refine lv_aload_n hx hb dX9_addName_124 rfl (lv_at hl 0 rfl) ?_
      refine r_getR C hw (k := 1) (r := 19) dq_18 ln_18 rfl vc_9 inX9 (by decide) rfl gw1_133 dX9_addName_125 ?_
      refine lv_iconst (v := (0 : Int32)) hx hb dX9_addName_128 (by decide) ?_
      obtain ⟨S_129, r_129, h_129, hf⟩ := bd_some hf
      refine r_bv hw (r_runV (rest := []) C hw (m_X0_add l D cA ad base fu 19 kBy_19 h_129) mvX0_add gw4_208 ⟨rfl, rfl, Nat.le_of_ble_eq_true rfl, Nat.le_of_ble_eq_true rfl⟩ dq_19 ln_19 vc_0 rfl hl.1 rfl (Nat.le_of_ble_eq_true rfl) dX9_addName_129 (Nat.zero_le _) (Nat.zero_le _)) (fun H locs hw => ?_)
      refine lv_goto (tgt := 151) hx hb dX9_addName_132 (by decide) ?_
      exact r_vret C hw hr hlocks hf dX9_addName_151
  have L_19 : ∀ (n_19 : Nat) (x2 : Int32) (x3 : Int32) (S : St) (H : Heap) (locs : List Loc) (ls : Array Slot), fX9_addName_19 fu n_19 x2 x3 S = some (S', r) → lv_has ls 5 [(0, .ref (ad 18)), (2, .int x2), (3, .int x3)] → WS D cA ad base s S H locs → W p l e rmX9_addName s m args below meth c H locs 0 0 (MQ below (QV D cA ad base S') args s 0 0 (aB base)) (F0 m 19 ls []) := by
    intro n_19
    induction n_19 with
    | zero =>
      intro x2 x3 S H locs ls hf hl hw
      exact (no_none hf).elim
    | succ n_19 ih_19 =>
      have L_69 : ∀ (n_69 : Nat) (x2 : Int32) (x3 : Int32) (x4 : Int32) (S : St) (H : Heap) (locs : List Loc) (ls : Array Slot), fX9_addName_69 fu (fX9_addName_19 fu n_19) n_69 x2 x3 x4 S = some (S', r) → lv_has ls 5 [(0, .ref (ad 18)), (2, .int x2), (3, .int x3), (4, .int x4)] → WS D cA ad base s S H locs → W p l e rmX9_addName s m args below meth c H locs 0 0 (MQ below (QV D cA ad base S') args s 0 0 (aB base)) (F0 m 69 ls []) := by
        intro n_69
        induction n_69 with
        | zero =>
          intro x2 x3 x4 S H locs ls hf hl hw
          exact (no_none hf).elim
        | succ n_69 ih_69 =>
          intro x2 x3 x4 S H locs ls hf hl hw
          rw [fX9_addName_69_s] at hf
          refine lv_iload hx hb dX9_addName_69 (lv_at hl 3 rfl) ?_
          refine lv_aload_n hx hb dX9_addName_71 rfl (lv_at hl 0 rfl) ?_
          refine r_getR C hw (k := 0) (r := 3) dq_18 ln_18 rfl vc_9 inX9 (by decide) rfl gw1_132 dX9_addName_72 ?_
          refine lv_iload_n hx hb dX9_addName_75 rfl (lv_at hl 1 rfl) ?_
          obtain ⟨S_76, r_76, h_76, hf⟩ := bd_some hf
          refine r_bi hw (r_runV (rest := [.int x4]) C hw (m_X3_labelSize l D cA ad base fu h_76) mvX3_labelSize gw4_207 ⟨rfl, rfl, Nat.le_of_ble_eq_true rfl, Nat.le_of_ble_eq_true rfl⟩ dq_3 ln_3 vc_3 rfl hl.1 rfl (Nat.le_of_ble_eq_true rfl) dX9_addName_76 (Nat.zero_le _) (Nat.zero_le _)) (fun H locs hw => ?_)
          refine lv_icmp_ge (tgt := 105) hx hb dX9_addName_79 (by decide) (fun c_79 => ?_) (fun c_79 => ?_)
          · have hf := if_t hf c_79
            refine lv_aload_n hx hb dX9_addName_105 rfl (lv_at hl 0 rfl) ?_
            refine r_getR C hw (k := 0) (r := 3) dq_18 ln_18 rfl vc_9 inX9 (by decide) rfl gw1_132 dX9_addName_106 ?_
            refine lv_iload_n hx hb dX9_addName_109 rfl (lv_at hl 1 rfl) ?_
            obtain ⟨S_110, r_110, h_110, hf⟩ := bd_some hf
            refine r_bi hw (r_runV (rest := []) C hw (m_X3_above l D cA ad base fu h_110) mvX3_above gw4_210 ⟨rfl, rfl, Nat.le_of_ble_eq_true rfl, Nat.le_of_ble_eq_true rfl⟩ dq_3 ln_3 vc_3 rfl hl.1 rfl (Nat.le_of_ble_eq_true rfl) dX9_addName_110 (Nat.zero_le _) (Nat.zero_le _)) (fun H locs hw => ?_)
            refine lv_istore_n (lv' := [(2, .int r_110), (0, .ref (ad 18)), (3, .int x3), (4, .int x4)]) hx hb dX9_addName_113 rfl hl (by decide) rfl (fun ls hl => ?_)
            refine lv_iinc (v := (x3 + (1 : Int32))) (lv' := [(3, .int (x3 + (1 : Int32))), (2, .int r_110), (0, .ref (ad 18)), (4, .int x4)]) hx hb dX9_addName_114 hl (k := 2) rfl rfl (by decide) rfl (fun ls hl => ?_)
            refine lv_goto (tgt := 19) hx hb dX9_addName_117 (by decide) ?_
            exact ih_19 _ _ _ _ _ _ hf (lv_sub hl [2, 1, 0] rfl) hw
          · have hf := if_f hf c_79
            refine lv_aload_n hx hb dX9_addName_82 rfl (lv_at hl 0 rfl) ?_
            refine r_getR C hw (k := 1) (r := 19) dq_18 ln_18 rfl vc_9 inX9 (by decide) rfl gw1_133 dX9_addName_83 ?_
            refine lv_aload_n hx hb dX9_addName_86 rfl (lv_at hl 0 rfl) ?_
            refine r_getR C hw (k := 0) (r := 3) dq_18 ln_18 rfl vc_9 inX9 (by decide) rfl gw1_132 dX9_addName_87 ?_
            refine lv_iload_n hx hb dX9_addName_90 rfl (lv_at hl 1 rfl) ?_
            refine lv_iload hx hb dX9_addName_91 (lv_at hl 3 rfl) ?_
            obtain ⟨S_93, r_93, h_93, hf⟩ := bd_some hf
            refine r_bi hw (r_runV (rest := [.ref (ad 19)]) C hw (m_X3_letter l D cA ad base fu h_93) mvX3_letter gw4_209 ⟨rfl, rfl, Nat.le_of_ble_eq_true rfl, Nat.le_of_ble_eq_true rfl⟩ dq_3 ln_3 vc_3 rfl hl.1 rfl (Nat.le_of_ble_eq_true rfl) dX9_addName_93 (Nat.zero_le _) (Nat.zero_le _)) (fun H locs hw => ?_)
            obtain ⟨S_96, r_96, h_96, hf⟩ := bd_some hf
            refine r_bv hw (r_runV (rest := []) C hw (m_X0_add l D cA ad base fu 19 kBy_19 h_96) mvX0_add gw4_208 ⟨rfl, rfl, Nat.le_of_ble_eq_true rfl, Nat.le_of_ble_eq_true rfl⟩ dq_19 ln_19 vc_0 rfl hl.1 rfl (Nat.le_of_ble_eq_true rfl) dX9_addName_96 (Nat.zero_le _) (Nat.zero_le _)) (fun H locs hw => ?_)
            refine lv_iinc (v := (x4 + (1 : Int32))) (lv' := [(4, .int (x4 + (1 : Int32))), (0, .ref (ad 18)), (2, .int x2), (3, .int x3)]) hx hb dX9_addName_99 hl (k := 3) rfl rfl (by decide) rfl (fun ls hl => ?_)
            refine lv_goto (tgt := 69) hx hb dX9_addName_102 (by decide) ?_
            exact ih_69 _ _ _ _ _ _ _ hf (lv_sub hl [1, 2, 3, 0] rfl) hw
      intro x2 x3 S H locs ls hf hl hw
      rw [fX9_addName_19_s] at hf
      refine lv_iload_n hx hb dX9_addName_19 rfl (lv_at hl 2 rfl) ?_
      refine lv_bipush (v := (6 : Int32)) hx hb dX9_addName_20 (by decide) ?_
      refine lv_icmp_ge (tgt := 120) hx hb dX9_addName_22 (by decide) (fun c_22 => ?_) (fun c_22 => ?_)
      · have hf := if_t hf c_22
        exact J_120 _ _ _ _ _ hf (lv_sub hl [0, 1] rfl) hw
      · have hf := if_f hf c_22
        refine lv_iload_n hx hb dX9_addName_25 rfl (lv_at hl 1 rfl) ?_
        refine lv_if_eq (tgt := 120) hx hb dX9_addName_26 (by decide) (fun c_26 => ?_) (fun c_26 => ?_)
        · have hf := if_t hf c_26
          exact J_120 _ _ _ _ _ hf (lv_sub hl [0, 1] rfl) hw
        · have hf := if_f hf c_26
          refine lv_aload_n hx hb dX9_addName_29 rfl (lv_at hl 0 rfl) ?_
          refine r_getR C hw (k := 2) (r := 21) dq_18 ln_18 rfl vc_9 inX9 (by decide) rfl gw1_134 dX9_addName_30 ?_
          refine lv_iload_n hx hb dX9_addName_33 rfl (lv_at hl 1 rfl) ?_
          obtain ⟨z_34, hf⟩ := gd_some hf
          refine r_iald C hw (x := 21) dq_21 ln_21 z_34 dX9_addName_34 ?_
          refine lv_if_ne (tgt := 120) hx hb dX9_addName_35 (by decide) (fun c_35 => ?_) (fun c_35 => ?_)
          · have hf := if_f hf c_35
            exact J_120 _ _ _ _ _ hf (lv_sub hl [0, 1] rfl) hw
          · have hf := if_t hf c_35
            refine lv_aload_n hx hb dX9_addName_38 rfl (lv_at hl 0 rfl) ?_
            refine r_getR C hw (k := 2) (r := 21) dq_18 ln_18 rfl vc_9 inX9 (by decide) rfl gw1_134 dX9_addName_39 ?_
            refine lv_iload_n hx hb dX9_addName_42 rfl (lv_at hl 1 rfl) ?_
            refine lv_aload_n hx hb dX9_addName_43 rfl (lv_at hl 0 rfl) ?_
            refine r_getR C hw (k := 1) (r := 19) dq_18 ln_18 rfl vc_9 inX9 (by decide) rfl gw1_133 dX9_addName_44 ?_
            obtain ⟨S_47, r_47, h_47, hf⟩ := bd_some hf
            refine r_bi hw (r_runV (rest := [.int x2, .ref (ad 21)]) C hw (m_X0_size l D cA ad base fu 19 kBy_19 h_47) mvX0_size gw4_206 ⟨rfl, rfl, Nat.le_of_ble_eq_true rfl, Nat.le_of_ble_eq_true rfl⟩ dq_19 ln_19 vc_0 rfl hl.1 rfl (Nat.le_of_ble_eq_true rfl) dX9_addName_47 (Nat.zero_le _) (Nat.zero_le _)) (fun H locs hw => ?_)
            obtain ⟨z_50, hf⟩ := gd_some hf
            obtain ⟨S_50, e_50, hf⟩ := sI_some hf
            refine r_iast C hw (x := 21) dq_21 ln_21 z_50 dX9_addName_50 e_50 (fun H locs hw => ?_)
            refine lv_aload_n hx hb dX9_addName_51 rfl (lv_at hl 0 rfl) ?_
            refine r_getR C hw (k := 1) (r := 19) dq_18 ln_18 rfl vc_9 inX9 (by decide) rfl gw1_133 dX9_addName_52 ?_
            refine lv_aload_n hx hb dX9_addName_55 rfl (lv_at hl 0 rfl) ?_
            refine r_getR C hw (k := 0) (r := 3) dq_18 ln_18 rfl vc_9 inX9 (by decide) rfl gw1_132 dX9_addName_56 ?_
            refine lv_iload_n hx hb dX9_addName_59 rfl (lv_at hl 1 rfl) ?_
            obtain ⟨S_60, r_60, h_60, hf⟩ := bd_some hf
            refine r_bi hw (r_runV (rest := [.ref (ad 19)]) C hw (m_X3_labelSize l D cA ad base fu h_60) mvX3_labelSize gw4_207 ⟨rfl, rfl, Nat.le_of_ble_eq_true rfl, Nat.le_of_ble_eq_true rfl⟩ dq_3 ln_3 vc_3 rfl hl.1 rfl (Nat.le_of_ble_eq_true rfl) dX9_addName_60 (Nat.zero_le _) (Nat.zero_le _)) (fun H locs hw => ?_)
            obtain ⟨S_63, r_63, h_63, hf⟩ := bd_some hf
            refine r_bv hw (r_runV (rest := []) C hw (m_X0_add l D cA ad base fu 19 kBy_19 h_63) mvX0_add gw4_208 ⟨rfl, rfl, Nat.le_of_ble_eq_true rfl, Nat.le_of_ble_eq_true rfl⟩ dq_19 ln_19 vc_0 rfl hl.1 rfl (Nat.le_of_ble_eq_true rfl) dX9_addName_63 (Nat.zero_le _) (Nat.zero_le _)) (fun H locs hw => ?_)
            refine lv_iconst (v := (0 : Int32)) hx hb dX9_addName_66 (by decide) ?_
            refine lv_istore (lv' := [(4, .int (0 : Int32)), (0, .ref (ad 18)), (2, .int x2), (3, .int x3)]) hx hb dX9_addName_67 hl (by decide) rfl (fun ls hl => ?_)
            exact L_69 fu _ _ _ _ _ _ _ hf (lv_sub hl [1, 2, 3, 0] rfl) hw
  have J_16 : ∀ (t0 : Int32) (S : St) (H : Heap) (locs : List Loc) (ls : Array Slot), fX9_addName_16 fu t0 S = some (S', r) → lv_has ls 5 [(0, .ref (ad 18))] → WS D cA ad base s S H locs → W p l e rmX9_addName s m args below meth c H locs 0 0 (MQ below (QV D cA ad base S') args s 0 0 (aB base)) (F0 m 16 ls [.int t0]) := by
    intro t0 S H locs ls hf hl hw
    refine lv_istore_n (lv' := [(2, .int t0), (0, .ref (ad 18))]) hx hb dX9_addName_16 rfl hl (by decide) rfl (fun ls hl => ?_)
    refine lv_iconst (v := (0 : Int32)) hx hb dX9_addName_17 (by decide) ?_
    refine lv_istore_n (lv' := [(3, .int (0 : Int32)), (2, .int t0), (0, .ref (ad 18))]) hx hb dX9_addName_18 rfl hl (by decide) rfl (fun ls hl => ?_)
    exact L_19 fu _ _ _ _ _ _ hf (lv_sub hl [2, 1, 0] rfl) hw
  show W p l e rmX9_addName s m args below meth c s.heap [] 0 0 _ _
  refine lv_aload_n hx hb dX9_addName_0 rfl (lv_at hl 0 rfl) ?_
  refine r_getR C hw (k := 0) (r := 3) dq_18 ln_18 rfl vc_9 inX9 (by decide) rfl gw1_132 dX9_addName_1 ?_
  refine lv_iload_n hx hb dX9_addName_4 rfl (lv_at hl 1 rfl) ?_
  obtain ⟨S_5, r_5, h_5, hf⟩ := bd_some hf
  refine r_bi hw (r_runV (rest := []) C hw (m_X3_has l D cA ad base fu h_5) mvX3_has gw4_205 ⟨rfl, rfl, Nat.le_of_ble_eq_true rfl, Nat.le_of_ble_eq_true rfl⟩ dq_3 ln_3 vc_3 rfl hl.1 rfl (Nat.le_of_ble_eq_true rfl) dX9_addName_5 (Nat.zero_le _) (Nat.zero_le _)) (fun H locs hw => ?_)
  refine lv_if_eq (tgt := 15) hx hb dX9_addName_8 (by decide) (fun c_8 => ?_) (fun c_8 => ?_)
  · have hf := if_t hf c_8
    refine lv_iconst (v := (0 : Int32)) hx hb dX9_addName_15 (by decide) ?_
    exact J_16 _ _ _ _ _ hf (lv_sub hl [0] rfl) hw
  · have hf := if_f hf c_8
    refine lv_iload_n hx hb dX9_addName_11 rfl (lv_at hl 1 rfl) ?_
    refine lv_goto (tgt := 16) hx hb dX9_addName_12 (by decide) ?_
    exact J_16 _ _ _ _ _ hf (lv_sub hl [0] rfl) hw
noncomputable def fX9_begin (fu : Nat) (x1 : Int32) (x2 : Int32) (x3 : Int32) (S : St) : Option (St × Int32) :=
  bd (fX0_clear fu 19 S) fun S_4 _ =>
  bd (fJ7_fill_53178 fu 21 300 (0 : Int32) S_4) fun S_12 _ =>
  bd (fJ7_fill_53178 fu 22 3 (0 : Int32) S_12) fun S_20 _ =>
  bd (fX0_addTwo fu 19 x1 S_20) fun S_28 _ =>
  bd (fX0_addTwo fu 19 (32768 : Int32) S_28) fun S_37 _ =>
  bd (fX0_addTwo fu 19 (1 : Int32) S_37) fun S_45 _ =>
  bd (fX0_addTwo fu 19 (0 : Int32) S_45) fun S_53 _ =>
  bd (fX0_addFour fu 19 (0 : Int32) S_53) fun S_61 _ =>
  bd (fX9_addName fu x2 S_61) fun S_66 _ =>
  bd (fX0_addTwo fu 19 x3 S_66) fun S_74 _ =>
  bd (fX0_addTwo fu 19 (1 : Int32) S_74) fun S_82 _ =>
  some (S_82, (0 : Int32))
theorem mvX9_begin : MV yX9_begin cX9_begin 4 none RX9 3 := ⟨gw4_190, gw4_188, gw4_189, gw1_6, by decide +kernel⟩
def rmX9_begin : Room := { frames := 3, cells := 0, slots := 0, locals := 66 }
set_option maxHeartbeats 4000000 in
set_option maxRecDepth 100000 in
theorem m_X9_begin (l : Launch) (D : va_G) (cA : FieldType → ClassId) (ad : Nat → Nat) (base : Nat) (fu : Nat) {S S' : St} {x1 : Int32} {x2 : Int32} {x3 : Int32} {r : Int32} (hf : fX9_begin fu x1 x2 x3 S = some (S', r)) : Met l yX9_begin (GC yX9_begin cX9_begin 4 none) rmX9_begin (va_Pc [.ref (ad 18), .int x1, .int x2, .int x3] (wd D cA ad base S)) (QV D cA ad base S') 0 0 (aB base) := by
  refine Met.ofW (cc := cX9_begin) (maxL := 4) (ret := none) (by decide) rfl ?_
  intro p e s m args below meth c s₁ B hml hv
  obtain ⟨hargs, hwd⟩ := hv
  have hr := B.returns
  have hlocks := B.notSynchronized
  obtain ⟨C, hw⟩ := CX.of (own := RX9) rfl B hml hwd
  have hx := C.1
  have hb := C.2.1
  have hl := lv_entry ([.ref (ad 18), .int x1, .int x2, .int x3]) (n := 4) (Nat.le_of_ble_eq_true rfl)
  rw [show entryFrame m args 4 = entryFrame m ([.ref (ad 18), .int x1, .int x2, .int x3] : List Value).toArray 4 from by rw [hargs], lg_entry_eq]
  generalize (lg_sl ([.ref (ad 18), .int x1, .int x2, .int x3]) ++ List.replicate (4 - (lg_sl ([.ref (ad 18), .int x1, .int x2, .int x3])).length) Slot.unset).toArray = ls at hl ⊢
  have hl : lv_has ls 4 [(0, .ref (ad 18)), (1, .int x1), (2, .int x2), (3, .int x3)] := hl
  show W p l e rmX9_begin s m args below meth c s.heap [] 0 0 _ _
  refine lv_aload_n hx hb dX9_begin_0 rfl (lv_at hl 0 rfl) ?_
  refine r_getR C hw (k := 1) (r := 19) dq_18 ln_18 rfl vc_9 inX9 (by decide) rfl gw1_133 dX9_begin_1 ?_
  obtain ⟨S_4, r_4, h_4, hf⟩ := bd_some hf
  refine r_bv hw (r_runV (rest := []) C hw (m_X0_clear l D cA ad base fu 19 kBy_19 h_4) mvX0_clear gw4_191 ⟨rfl, rfl, Nat.le_of_ble_eq_true rfl, Nat.le_of_ble_eq_true rfl⟩ dq_19 ln_19 vc_0 rfl hl.1 rfl (Nat.le_of_ble_eq_true rfl) dX9_begin_4 (Nat.zero_le _) (Nat.zero_le _)) (fun H locs hw => ?_)
  refine lv_aload_n hx hb dX9_begin_7 rfl (lv_at hl 0 rfl) ?_
  refine r_getR C hw (k := 2) (r := 21) dq_18 ln_18 rfl vc_9 inX9 (by decide) rfl gw1_134 dX9_begin_8 ?_
  refine lv_iconst (v := (0 : Int32)) hx hb dX9_begin_11 (by decide) ?_
  obtain ⟨S_12, r_12, h_12, hf⟩ := bd_some hf
  refine r_bv hw (r_runS (rest := []) C hw (m_J7_fill_53178 l D cA ad base fu 21 300 ⟨dq_21, ln_21⟩ h_12) msJ7_fill_53178 gw4_192 ⟨rfl, rfl, Nat.le_of_ble_eq_true rfl, Nat.le_of_ble_eq_true rfl⟩ rfl hl.1 rfl (Nat.le_of_ble_eq_true rfl) dX9_begin_12 (Nat.zero_le _) (Nat.zero_le _)) (fun H locs hw => ?_)
  refine lv_aload_n hx hb dX9_begin_15 rfl (lv_at hl 0 rfl) ?_
  refine r_getR C hw (k := 3) (r := 22) dq_18 ln_18 rfl vc_9 inX9 (by decide) rfl gw1_135 dX9_begin_16 ?_
  refine lv_iconst (v := (0 : Int32)) hx hb dX9_begin_19 (by decide) ?_
  obtain ⟨S_20, r_20, h_20, hf⟩ := bd_some hf
  refine r_bv hw (r_runS (rest := []) C hw (m_J7_fill_53178 l D cA ad base fu 22 3 ⟨dq_22, ln_22⟩ h_20) msJ7_fill_53178 gw4_192 ⟨rfl, rfl, Nat.le_of_ble_eq_true rfl, Nat.le_of_ble_eq_true rfl⟩ rfl hl.1 rfl (Nat.le_of_ble_eq_true rfl) dX9_begin_20 (Nat.zero_le _) (Nat.zero_le _)) (fun H locs hw => ?_)
  refine lv_aload_n hx hb dX9_begin_23 rfl (lv_at hl 0 rfl) ?_
  refine r_getR C hw (k := 1) (r := 19) dq_18 ln_18 rfl vc_9 inX9 (by decide) rfl gw1_133 dX9_begin_24 ?_
  refine lv_iload_n hx hb dX9_begin_27 rfl (lv_at hl 1 rfl) ?_
  obtain ⟨S_28, r_28, h_28, hf⟩ := bd_some hf
  refine r_bv hw (r_runV (rest := []) C hw (m_X0_addTwo l D cA ad base fu 19 kBy_19 h_28) mvX0_addTwo gw4_195 ⟨rfl, rfl, Nat.le_of_ble_eq_true rfl, Nat.le_of_ble_eq_true rfl⟩ dq_19 ln_19 vc_0 rfl hl.1 rfl (Nat.le_of_ble_eq_true rfl) dX9_begin_28 (Nat.zero_le _) (Nat.zero_le _)) (fun H locs hw => ?_)
  refine lv_aload_n hx hb dX9_begin_31 rfl (lv_at hl 0 rfl) ?_
  refine r_getR C hw (k := 1) (r := 19) dq_18 ln_18 rfl vc_9 inX9 (by decide) rfl gw1_133 dX9_begin_32 ?_
  refine lv_ldc hx hb C.2.2.2.1 (C.2.2.2.2.1 _ (gw_of gw4_199 rfl)) dX9_begin_35 ?_
  obtain ⟨S_37, r_37, h_37, hf⟩ := bd_some hf
  refine r_bv hw (r_runV (rest := []) C hw (m_X0_addTwo l D cA ad base fu 19 kBy_19 h_37) mvX0_addTwo gw4_195 ⟨rfl, rfl, Nat.le_of_ble_eq_true rfl, Nat.le_of_ble_eq_true rfl⟩ dq_19 ln_19 vc_0 rfl hl.1 rfl (Nat.le_of_ble_eq_true rfl) dX9_begin_37 (Nat.zero_le _) (Nat.zero_le _)) (fun H locs hw => ?_)
  refine lv_aload_n hx hb dX9_begin_40 rfl (lv_at hl 0 rfl) ?_
  refine r_getR C hw (k := 1) (r := 19) dq_18 ln_18 rfl vc_9 inX9 (by decide) rfl gw1_133 dX9_begin_41 ?_
  refine lv_iconst (v := (1 : Int32)) hx hb dX9_begin_44 (by decide) ?_
  obtain ⟨S_45, r_45, h_45, hf⟩ := bd_some hf
  refine r_bv hw (r_runV (rest := []) C hw (m_X0_addTwo l D cA ad base fu 19 kBy_19 h_45) mvX0_addTwo gw4_195 ⟨rfl, rfl, Nat.le_of_ble_eq_true rfl, Nat.le_of_ble_eq_true rfl⟩ dq_19 ln_19 vc_0 rfl hl.1 rfl (Nat.le_of_ble_eq_true rfl) dX9_begin_45 (Nat.zero_le _) (Nat.zero_le _)) (fun H locs hw => ?_)
  refine lv_aload_n hx hb dX9_begin_48 rfl (lv_at hl 0 rfl) ?_
  refine r_getR C hw (k := 1) (r := 19) dq_18 ln_18 rfl vc_9 inX9 (by decide) rfl gw1_133 dX9_begin_49 ?_
  refine lv_iconst (v := (0 : Int32)) hx hb dX9_begin_52 (by decide) ?_
  obtain ⟨S_53, r_53, h_53, hf⟩ := bd_some hf
  refine r_bv hw (r_runV (rest := []) C hw (m_X0_addTwo l D cA ad base fu 19 kBy_19 h_53) mvX0_addTwo gw4_195 ⟨rfl, rfl, Nat.le_of_ble_eq_true rfl, Nat.le_of_ble_eq_true rfl⟩ dq_19 ln_19 vc_0 rfl hl.1 rfl (Nat.le_of_ble_eq_true rfl) dX9_begin_53 (Nat.zero_le _) (Nat.zero_le _)) (fun H locs hw => ?_)
  refine lv_aload_n hx hb dX9_begin_56 rfl (lv_at hl 0 rfl) ?_
  refine r_getR C hw (k := 1) (r := 19) dq_18 ln_18 rfl vc_9 inX9 (by decide) rfl gw1_133 dX9_begin_57 ?_
  refine lv_iconst (v := (0 : Int32)) hx hb dX9_begin_60 (by decide) ?_
  obtain ⟨S_61, r_61, h_61, hf⟩ := bd_some hf
  refine r_bv hw (r_runV (rest := []) C hw (m_X0_addFour l D cA ad base fu 19 kBy_19 h_61) mvX0_addFour gw4_200 ⟨rfl, rfl, Nat.le_of_ble_eq_true rfl, Nat.le_of_ble_eq_true rfl⟩ dq_19 ln_19 vc_0 rfl hl.1 rfl (Nat.le_of_ble_eq_true rfl) dX9_begin_61 (Nat.zero_le _) (Nat.zero_le _)) (fun H locs hw => ?_)
  refine lv_aload_n hx hb dX9_begin_64 rfl (lv_at hl 0 rfl) ?_
  refine lv_iload_n hx hb dX9_begin_65 rfl (lv_at hl 2 rfl) ?_
  obtain ⟨S_66, r_66, h_66, hf⟩ := bd_some hf
  refine r_bv hw (r_runV (rest := []) C hw (m_X9_addName l D cA ad base fu h_66) mvX9_addName gw4_201 ⟨rfl, rfl, Nat.le_of_ble_eq_true rfl, Nat.le_of_ble_eq_true rfl⟩ dq_18 ln_18 vc_9 rfl hl.1 rfl (Nat.le_of_ble_eq_true rfl) dX9_begin_66 (Nat.zero_le _) (Nat.zero_le _)) (fun H locs hw => ?_)
  refine lv_aload_n hx hb dX9_begin_69 rfl (lv_at hl 0 rfl) ?_
  refine r_getR C hw (k := 1) (r := 19) dq_18 ln_18 rfl vc_9 inX9 (by decide) rfl gw1_133 dX9_begin_70 ?_
  refine lv_iload_n hx hb dX9_begin_73 rfl (lv_at hl 3 rfl) ?_
  obtain ⟨S_74, r_74, h_74, hf⟩ := bd_some hf
  refine r_bv hw (r_runV (rest := []) C hw (m_X0_addTwo l D cA ad base fu 19 kBy_19 h_74) mvX0_addTwo gw4_195 ⟨rfl, rfl, Nat.le_of_ble_eq_true rfl, Nat.le_of_ble_eq_true rfl⟩ dq_19 ln_19 vc_0 rfl hl.1 rfl (Nat.le_of_ble_eq_true rfl) dX9_begin_74 (Nat.zero_le _) (Nat.zero_le _)) (fun H locs hw => ?_)
  refine lv_aload_n hx hb dX9_begin_77 rfl (lv_at hl 0 rfl) ?_
  refine r_getR C hw (k := 1) (r := 19) dq_18 ln_18 rfl vc_9 inX9 (by decide) rfl gw1_133 dX9_begin_78 ?_
  refine lv_iconst (v := (1 : Int32)) hx hb dX9_begin_81 (by decide) ?_
  obtain ⟨S_82, r_82, h_82, hf⟩ := bd_some hf
  refine r_bv hw (r_runV (rest := []) C hw (m_X0_addTwo l D cA ad base fu 19 kBy_19 h_82) mvX0_addTwo gw4_195 ⟨rfl, rfl, Nat.le_of_ble_eq_true rfl, Nat.le_of_ble_eq_true rfl⟩ dq_19 ln_19 vc_0 rfl hl.1 rfl (Nat.le_of_ble_eq_true rfl) dX9_begin_82 (Nat.zero_le _) (Nat.zero_le _)) (fun H locs hw => ?_)
  exact r_vret C hw hr hlocks hf dX9_begin_85
noncomputable def fX9_openRecord_19 (fu : Nat) (x2 : Int32) (x3 : Int32) (x4 : Int32) (S : St) : Option (St × Int32) :=
  bd (fX9_addName fu x2 S) fun S_21 _ =>
  bd (fX0_addTwo fu 19 x3 S_21) fun S_29 _ =>
  bd (fX0_addTwo fu 19 (1 : Int32) S_29) fun S_37 _ =>
  bd (fX0_addFour fu 19 x4 S_37) fun S_46 _ =>
  bd (fX0_size fu 19 S_46) fun S_53 r_53 =>
  bd (fX0_addTwo fu 19 (0 : Int32) S_53) fun S_63 _ =>
  some (S_63, r_53)
noncomputable def fX9_openRecord (fu : Nat) (x1 : Int32) (x2 : Int32) (x3 : Int32) (x4 : Int32) (S : St) : Option (St × Int32) :=
  if x1 < 0 then
    fX9_openRecord_19 fu x2 x3 x4 S
  else
    if (3 : Int32) ≤ x1 then
      fX9_openRecord_19 fu x2 x3 x4 S
    else
      gd (ck x1 3) <|
      gd (ck x1 3) <|
      sI 22 (x1).toNatClampNeg ((S.1 22 (x1).toNatClampNeg) + (1 : Int32)) S fun S_18 =>
      fX9_openRecord_19 fu x2 x3 x4 S_18
theorem mvX9_openRecord : MV yX9_openRecord cX9_openRecord 6 (some .int) RX9 4 := ⟨gw4_233, gw4_232, gs_18, gw1_6, by decide +kernel⟩
def rmX9_openRecord : Room := { frames := 3, cells := 0, slots := 0, locals := 66 }
set_option maxHeartbeats 4000000 in
set_option maxRecDepth 100000 in
theorem m_X9_openRecord (l : Launch) (D : va_G) (cA : FieldType → ClassId) (ad : Nat → Nat) (base : Nat) (fu : Nat) {S S' : St} {x1 : Int32} {x2 : Int32} {x3 : Int32} {x4 : Int32} {r : Int32} (hf : fX9_openRecord fu x1 x2 x3 x4 S = some (S', r)) : Met l yX9_openRecord (GC yX9_openRecord cX9_openRecord 6 (some .int)) rmX9_openRecord (va_Pc [.ref (ad 18), .int x1, .int x2, .int x3, .int x4] (wd D cA ad base S)) (QI D cA ad base S' r) 0 0 (aB base) := by
  refine Met.ofW (cc := cX9_openRecord) (maxL := 6) (ret := (some .int)) (by decide) rfl ?_
  intro p e s m args below meth c s₁ B hml hv
  obtain ⟨hargs, hwd⟩ := hv
  have hr := B.returns
  have hlocks := B.notSynchronized
  obtain ⟨C, hw⟩ := CX.of (own := RX9) rfl B hml hwd
  have hx := C.1
  have hb := C.2.1
  have hl := lv_entry ([.ref (ad 18), .int x1, .int x2, .int x3, .int x4]) (n := 6) (Nat.le_of_ble_eq_true rfl)
  rw [show entryFrame m args 6 = entryFrame m ([.ref (ad 18), .int x1, .int x2, .int x3, .int x4] : List Value).toArray 6 from by rw [hargs], lg_entry_eq]
  generalize (lg_sl ([.ref (ad 18), .int x1, .int x2, .int x3, .int x4]) ++ List.replicate (6 - (lg_sl ([.ref (ad 18), .int x1, .int x2, .int x3, .int x4])).length) Slot.unset).toArray = ls at hl ⊢
  have hl : lv_has ls 6 [(0, .ref (ad 18)), (1, .int x1), (2, .int x2), (3, .int x3), (4, .int x4)] := hl
  have J_19 : ∀ (x2 : Int32) (x3 : Int32) (x4 : Int32) (S : St) (H : Heap) (locs : List Loc) (ls : Array Slot), fX9_openRecord_19 fu x2 x3 x4 S = some (S', r) → lv_has ls 6 [(0, .ref (ad 18)), (2, .int x2), (3, .int x3), (4, .int x4)] → WS D cA ad base s S H locs → W p l e rmX9_openRecord s m args below meth c H locs 0 0 (MQ below (QI D cA ad base S' r) args s 0 0 (aB base)) (F0 m 19 ls []) := by
    intro x2 x3 x4 S H locs ls hf hl hw
    refine lv_aload_n hx hb dX9_openRecord_19 rfl (lv_at hl 0 rfl) ?_
    refine lv_iload_n hx hb dX9_openRecord_20 rfl (lv_at hl 1 rfl) ?_
    obtain ⟨S_21, r_21, h_21, hf⟩ := bd_some hf
    refine r_bv hw (r_runV (rest := []) C hw (m_X9_addName l D cA ad base fu h_21) mvX9_addName gw4_201 ⟨rfl, rfl, Nat.le_of_ble_eq_true rfl, Nat.le_of_ble_eq_true rfl⟩ dq_18 ln_18 vc_9 rfl hl.1 rfl (Nat.le_of_ble_eq_true rfl) dX9_openRecord_21 (Nat.zero_le _) (Nat.zero_le _)) (fun H locs hw => ?_)
    refine lv_aload_n hx hb dX9_openRecord_24 rfl (lv_at hl 0 rfl) ?_
    refine r_getR C hw (k := 1) (r := 19) dq_18 ln_18 rfl vc_9 inX9 (by decide) rfl gw1_133 dX9_openRecord_25 ?_
    refine lv_iload_n hx hb dX9_openRecord_28 rfl (lv_at hl 2 rfl) ?_
    obtain ⟨S_29, r_29, h_29, hf⟩ := bd_some hf
    refine r_bv hw (r_runV (rest := []) C hw (m_X0_addTwo l D cA ad base fu 19 kBy_19 h_29) mvX0_addTwo gw4_195 ⟨rfl, rfl, Nat.le_of_ble_eq_true rfl, Nat.le_of_ble_eq_true rfl⟩ dq_19 ln_19 vc_0 rfl hl.1 rfl (Nat.le_of_ble_eq_true rfl) dX9_openRecord_29 (Nat.zero_le _) (Nat.zero_le _)) (fun H locs hw => ?_)
    refine lv_aload_n hx hb dX9_openRecord_32 rfl (lv_at hl 0 rfl) ?_
    refine r_getR C hw (k := 1) (r := 19) dq_18 ln_18 rfl vc_9 inX9 (by decide) rfl gw1_133 dX9_openRecord_33 ?_
    refine lv_iconst (v := (1 : Int32)) hx hb dX9_openRecord_36 (by decide) ?_
    obtain ⟨S_37, r_37, h_37, hf⟩ := bd_some hf
    refine r_bv hw (r_runV (rest := []) C hw (m_X0_addTwo l D cA ad base fu 19 kBy_19 h_37) mvX0_addTwo gw4_195 ⟨rfl, rfl, Nat.le_of_ble_eq_true rfl, Nat.le_of_ble_eq_true rfl⟩ dq_19 ln_19 vc_0 rfl hl.1 rfl (Nat.le_of_ble_eq_true rfl) dX9_openRecord_37 (Nat.zero_le _) (Nat.zero_le _)) (fun H locs hw => ?_)
    refine lv_aload_n hx hb dX9_openRecord_40 rfl (lv_at hl 0 rfl) ?_
    refine r_getR C hw (k := 1) (r := 19) dq_18 ln_18 rfl vc_9 inX9 (by decide) rfl gw1_133 dX9_openRecord_41 ?_
    refine lv_iload hx hb dX9_openRecord_44 (lv_at hl 3 rfl) ?_
    obtain ⟨S_46, r_46, h_46, hf⟩ := bd_some hf
    refine r_bv hw (r_runV (rest := []) C hw (m_X0_addFour l D cA ad base fu 19 kBy_19 h_46) mvX0_addFour gw4_200 ⟨rfl, rfl, Nat.le_of_ble_eq_true rfl, Nat.le_of_ble_eq_true rfl⟩ dq_19 ln_19 vc_0 rfl hl.1 rfl (Nat.le_of_ble_eq_true rfl) dX9_openRecord_46 (Nat.zero_le _) (Nat.zero_le _)) (fun H locs hw => ?_)
    refine lv_aload_n hx hb dX9_openRecord_49 rfl (lv_at hl 0 rfl) ?_
    refine r_getR C hw (k := 1) (r := 19) dq_18 ln_18 rfl vc_9 inX9 (by decide) rfl gw1_133 dX9_openRecord_50 ?_
    obtain ⟨S_53, r_53, h_53, hf⟩ := bd_some hf
    refine r_bi hw (r_runV (rest := []) C hw (m_X0_size l D cA ad base fu 19 kBy_19 h_53) mvX0_size gw4_206 ⟨rfl, rfl, Nat.le_of_ble_eq_true rfl, Nat.le_of_ble_eq_true rfl⟩ dq_19 ln_19 vc_0 rfl hl.1 rfl (Nat.le_of_ble_eq_true rfl) dX9_openRecord_53 (Nat.zero_le _) (Nat.zero_le _)) (fun H locs hw => ?_)
    refine lv_istore (lv' := [(5, .int r_53), (0, .ref (ad 18)), (2, .int x2), (3, .int x3), (4, .int x4)]) hx hb dX9_openRecord_56 hl (by decide) rfl (fun ls hl => ?_)
    refine lv_aload_n hx hb dX9_openRecord_58 rfl (lv_at hl 1 rfl) ?_
    refine r_getR C hw (k := 1) (r := 19) dq_18 ln_18 rfl vc_9 inX9 (by decide) rfl gw1_133 dX9_openRecord_59 ?_
    refine lv_iconst (v := (0 : Int32)) hx hb dX9_openRecord_62 (by decide) ?_
    obtain ⟨S_63, r_63, h_63, hf⟩ := bd_some hf
    refine r_bv hw (r_runV (rest := []) C hw (m_X0_addTwo l D cA ad base fu 19 kBy_19 h_63) mvX0_addTwo gw4_195 ⟨rfl, rfl, Nat.le_of_ble_eq_true rfl, Nat.le_of_ble_eq_true rfl⟩ dq_19 ln_19 vc_0 rfl hl.1 rfl (Nat.le_of_ble_eq_true rfl) dX9_openRecord_63 (Nat.zero_le _) (Nat.zero_le _)) (fun H locs hw => ?_)
    refine lv_iload hx hb dX9_openRecord_66 (lv_at hl 0 rfl) ?_
    exact r_iret C hw hr hlocks hf dX9_openRecord_68
  show W p l e rmX9_openRecord s m args below meth c s.heap [] 0 0 _ _
  refine lv_iload_n hx hb dX9_openRecord_0 rfl (lv_at hl 1 rfl) ?_
  refine lv_if_lt (tgt := 19) hx hb dX9_openRecord_1 (by decide) (fun c_1 => ?_) (fun c_1 => ?_)
  · have hf := if_t hf c_1
    exact J_19 _ _ _ _ _ _ _ hf (lv_sub hl [0, 2, 3, 4] rfl) hw
  · have hf := if_f hf c_1
    refine lv_iload_n hx hb dX9_openRecord_4 rfl (lv_at hl 1 rfl) ?_
    refine lv_iconst (v := (3 : Int32)) hx hb dX9_openRecord_5 (by decide) ?_
    refine lv_icmp_ge (tgt := 19) hx hb dX9_openRecord_6 (by decide) (fun c_6 => ?_) (fun c_6 => ?_)
    · have hf := if_t hf c_6
      exact J_19 _ _ _ _ _ _ _ hf (lv_sub hl [0, 2, 3, 4] rfl) hw
    · have hf := if_f hf c_6
      refine lv_aload_n hx hb dX9_openRecord_9 rfl (lv_at hl 0 rfl) ?_
      refine r_getR C hw (k := 3) (r := 22) dq_18 ln_18 rfl vc_9 inX9 (by decide) rfl gw1_135 dX9_openRecord_10 ?_
      refine lv_iload_n hx hb dX9_openRecord_13 rfl (lv_at hl 1 rfl) ?_
      refine lv_dup2_11 hx hb dX9_openRecord_14 rfl rfl ?_
      obtain ⟨z_15, hf⟩ := gd_some hf
      refine r_iald C hw (x := 22) dq_22 ln_22 z_15 dX9_openRecord_15 ?_
      refine lv_iconst (v := (1 : Int32)) hx hb dX9_openRecord_16 (by decide) ?_
      refine lv_iadd hx hb dX9_openRecord_17 ?_
      obtain ⟨z_18, hf⟩ := gd_some hf
      obtain ⟨S_18, e_18, hf⟩ := sI_some hf
      refine r_iast C hw (x := 22) dq_22 ln_22 z_18 dX9_openRecord_18 e_18 (fun H locs hw => ?_)
      exact J_19 _ _ _ _ _ _ _ hf (lv_sub hl [0, 2, 3, 4] rfl) hw
noncomputable def fX9_closeRecord (fu : Nat) (x1 : Int32) (S : St) : Option (St × Int32) :=
  bd (fX0_size fu 19 S) fun S_9 r_9 =>
  bd (fX0_setTwo fu 19 x1 ((r_9 - x1) - (2 : Int32)) S_9) fun S_16 _ =>
  some (S_16, (0 : Int32))
theorem mvX9_closeRecord : MV yX9_closeRecord cX9_closeRecord 2 none RX9 1 := ⟨gw4_238, gw4_237, gs_19, gw1_6, by decide +kernel⟩
def rmX9_closeRecord : Room := { frames := 2, cells := 0, slots := 0, locals := 44 }
set_option maxHeartbeats 4000000 in
set_option maxRecDepth 100000 in
theorem m_X9_closeRecord (l : Launch) (D : va_G) (cA : FieldType → ClassId) (ad : Nat → Nat) (base : Nat) (fu : Nat) {S S' : St} {x1 : Int32} {r : Int32} (hf : fX9_closeRecord fu x1 S = some (S', r)) : Met l yX9_closeRecord (GC yX9_closeRecord cX9_closeRecord 2 none) rmX9_closeRecord (va_Pc [.ref (ad 18), .int x1] (wd D cA ad base S)) (QV D cA ad base S') 0 0 (aB base) := by
  refine Met.ofW (cc := cX9_closeRecord) (maxL := 2) (ret := none) (by decide) rfl ?_
  intro p e s m args below meth c s₁ B hml hv
  obtain ⟨hargs, hwd⟩ := hv
  have hr := B.returns
  have hlocks := B.notSynchronized
  obtain ⟨C, hw⟩ := CX.of (own := RX9) rfl B hml hwd
  have hx := C.1
  have hb := C.2.1
  have hl := lv_entry ([.ref (ad 18), .int x1]) (n := 2) (Nat.le_of_ble_eq_true rfl)
  rw [show entryFrame m args 2 = entryFrame m ([.ref (ad 18), .int x1] : List Value).toArray 2 from by rw [hargs], lg_entry_eq]
  generalize (lg_sl ([.ref (ad 18), .int x1]) ++ List.replicate (2 - (lg_sl ([.ref (ad 18), .int x1])).length) Slot.unset).toArray = ls at hl ⊢
  have hl : lv_has ls 2 [(0, .ref (ad 18)), (1, .int x1)] := hl
  show W p l e rmX9_closeRecord s m args below meth c s.heap [] 0 0 _ _
  refine lv_aload_n hx hb dX9_closeRecord_0 rfl (lv_at hl 0 rfl) ?_
  refine r_getR C hw (k := 1) (r := 19) dq_18 ln_18 rfl vc_9 inX9 (by decide) rfl gw1_133 dX9_closeRecord_1 ?_
  refine lv_iload_n hx hb dX9_closeRecord_4 rfl (lv_at hl 1 rfl) ?_
  refine lv_aload_n hx hb dX9_closeRecord_5 rfl (lv_at hl 0 rfl) ?_
  refine r_getR C hw (k := 1) (r := 19) dq_18 ln_18 rfl vc_9 inX9 (by decide) rfl gw1_133 dX9_closeRecord_6 ?_
  obtain ⟨S_9, r_9, h_9, hf⟩ := bd_some hf
  refine r_bi hw (r_runV (rest := [.int x1, .ref (ad 19)]) C hw (m_X0_size l D cA ad base fu 19 kBy_19 h_9) mvX0_size gw4_206 ⟨rfl, rfl, Nat.le_of_ble_eq_true rfl, Nat.le_of_ble_eq_true rfl⟩ dq_19 ln_19 vc_0 rfl hl.1 rfl (Nat.le_of_ble_eq_true rfl) dX9_closeRecord_9 (Nat.zero_le _) (Nat.zero_le _)) (fun H locs hw => ?_)
  refine lv_iload_n hx hb dX9_closeRecord_12 rfl (lv_at hl 1 rfl) ?_
  refine lv_isub hx hb dX9_closeRecord_13 ?_
  refine lv_iconst (v := (2 : Int32)) hx hb dX9_closeRecord_14 (by decide) ?_
  refine lv_isub hx hb dX9_closeRecord_15 ?_
  obtain ⟨S_16, r_16, h_16, hf⟩ := bd_some hf
  refine r_bv hw (r_runV (rest := []) C hw (m_X0_setTwo l D cA ad base fu 19 kBy_19 h_16) mvX0_setTwo gw4_239 ⟨rfl, rfl, Nat.le_of_ble_eq_true rfl, Nat.le_of_ble_eq_true rfl⟩ dq_19 ln_19 vc_0 rfl hl.1 rfl (Nat.le_of_ble_eq_true rfl) dX9_closeRecord_16 (Nat.zero_le _) (Nat.zero_le _)) (fun H locs hw => ?_)
  exact r_vret C hw hr hlocks hf dX9_closeRecord_19
noncomputable def fX9_addRecord_50 (fu : Nat) (x6 : Int32) (S : St) : Option (St × Int32) :=
  bd (fX9_closeRecord fu x6 S) fun S_53 _ =>
  some (S_53, (0 : Int32))
noncomputable def fX9_addRecord_41 (fu : Nat) (x4 : Int32) (x6 : Int32) (S : St) : Option (St × Int32) :=
  bd (fX0_addFour fu 19 x4 S) fun S_47 _ =>
  fX9_addRecord_50 fu x6 S_47
noncomputable def fX9_addRecord (fu : Nat) (x1 : Int32) (x2 : Int32) (x3 : Int32) (x4 : Int32) (x5 : Int32) (S : St) : Option (St × Int32) :=
  bd (fX9_openRecord fu x1 x2 x3 x5 S) fun S_6 r_6 =>
  bd (fX11_isNamed fu x3 S_6) fun S_12 r_12 =>
  if r_12 = 0 then
    if x3 = (16 : Int32) then
      bd (fX0_add fu 19 (4 : Int32) S_12) fun S_38 _ =>
      fX9_addRecord_41 fu x4 r_6 S_38
    else
      fX9_addRecord_41 fu x4 r_6 S_12
  else
    bd (fX9_addName fu x4 S_12) fun S_21 _ =>
    fX9_addRecord_50 fu r_6 S_21
theorem mvX9_addRecord : MV yX9_addRecord cX9_addRecord 7 none RX9 5 := ⟨gw4_229, gw4_227, gw4_228, gw1_6, by decide +kernel⟩
def rmX9_addRecord : Room := { frames := 4, cells := 0, slots := 0, locals := 91 }
set_option maxHeartbeats 4000000 in
set_option maxRecDepth 100000 in
theorem m_X9_addRecord (l : Launch) (D : va_G) (cA : FieldType → ClassId) (ad : Nat → Nat) (base : Nat) (fu : Nat) {S S' : St} {x1 : Int32} {x2 : Int32} {x3 : Int32} {x4 : Int32} {x5 : Int32} {r : Int32} (hf : fX9_addRecord fu x1 x2 x3 x4 x5 S = some (S', r)) : Met l yX9_addRecord (GC yX9_addRecord cX9_addRecord 7 none) rmX9_addRecord (va_Pc [.ref (ad 18), .int x1, .int x2, .int x3, .int x4, .int x5] (wd D cA ad base S)) (QV D cA ad base S') 0 0 (aB base) := by
  refine Met.ofW (cc := cX9_addRecord) (maxL := 7) (ret := none) (by decide) rfl ?_
  intro p e s m args below meth c s₁ B hml hv
  obtain ⟨hargs, hwd⟩ := hv
  have hr := B.returns
  have hlocks := B.notSynchronized
  obtain ⟨C, hw⟩ := CX.of (own := RX9) rfl B hml hwd
  have hx := C.1
  have hb := C.2.1
  have hl := lv_entry ([.ref (ad 18), .int x1, .int x2, .int x3, .int x4, .int x5]) (n := 7) (Nat.le_of_ble_eq_true rfl)
  rw [show entryFrame m args 7 = entryFrame m ([.ref (ad 18), .int x1, .int x2, .int x3, .int x4, .int x5] : List Value).toArray 7 from by rw [hargs], lg_entry_eq]
  generalize (lg_sl ([.ref (ad 18), .int x1, .int x2, .int x3, .int x4, .int x5]) ++ List.replicate (7 - (lg_sl ([.ref (ad 18), .int x1, .int x2, .int x3, .int x4, .int x5])).length) Slot.unset).toArray = ls at hl ⊢
  have hl : lv_has ls 7 [(0, .ref (ad 18)), (1, .int x1), (2, .int x2), (3, .int x3), (4, .int x4), (5, .int x5)] := hl
  have J_50 : ∀ (x6 : Int32) (S : St) (H : Heap) (locs : List Loc) (ls : Array Slot), fX9_addRecord_50 fu x6 S = some (S', r) → lv_has ls 7 [(0, .ref (ad 18)), (6, .int x6)] → WS D cA ad base s S H locs → W p l e rmX9_addRecord s m args below meth c H locs 0 0 (MQ below (QV D cA ad base S') args s 0 0 (aB base)) (F0 m 50 ls []) := by
    intro x6 S H locs ls hf hl hw
    refine lv_aload_n hx hb dX9_addRecord_50 rfl (lv_at hl 0 rfl) ?_
    refine lv_iload hx hb dX9_addRecord_51 (lv_at hl 1 rfl) ?_
    obtain ⟨S_53, r_53, h_53, hf⟩ := bd_some hf
    refine r_bv hw (r_runV (rest := []) C hw (m_X9_closeRecord l D cA ad base fu h_53) mvX9_closeRecord gw4_235 ⟨rfl, rfl, Nat.le_of_ble_eq_true rfl, Nat.le_of_ble_eq_true rfl⟩ dq_18 ln_18 vc_9 rfl hl.1 rfl (Nat.le_of_ble_eq_true rfl) dX9_addRecord_53 (Nat.zero_le _) (Nat.zero_le _)) (fun H locs hw => ?_)
    exact r_vret C hw hr hlocks hf dX9_addRecord_56
  have J_41 : ∀ (x4 : Int32) (x6 : Int32) (S : St) (H : Heap) (locs : List Loc) (ls : Array Slot), fX9_addRecord_41 fu x4 x6 S = some (S', r) → lv_has ls 7 [(0, .ref (ad 18)), (4, .int x4), (6, .int x6)] → WS D cA ad base s S H locs → W p l e rmX9_addRecord s m args below meth c H locs 0 0 (MQ below (QV D cA ad base S') args s 0 0 (aB base)) (F0 m 41 ls []) := by
    intro x4 x6 S H locs ls hf hl hw
    refine lv_aload_n hx hb dX9_addRecord_41 rfl (lv_at hl 0 rfl) ?_
    refine r_getR C hw (k := 1) (r := 19) dq_18 ln_18 rfl vc_9 inX9 (by decide) rfl gw1_133 dX9_addRecord_42 ?_
    refine lv_iload hx hb dX9_addRecord_45 (lv_at hl 1 rfl) ?_
    obtain ⟨S_47, r_47, h_47, hf⟩ := bd_some hf
    refine r_bv hw (r_runV (rest := []) C hw (m_X0_addFour l D cA ad base fu 19 kBy_19 h_47) mvX0_addFour gw4_200 ⟨rfl, rfl, Nat.le_of_ble_eq_true rfl, Nat.le_of_ble_eq_true rfl⟩ dq_19 ln_19 vc_0 rfl hl.1 rfl (Nat.le_of_ble_eq_true rfl) dX9_addRecord_47 (Nat.zero_le _) (Nat.zero_le _)) (fun H locs hw => ?_)
    exact J_50 _ _ _ _ _ hf (lv_sub hl [0, 2] rfl) hw
  show W p l e rmX9_addRecord s m args below meth c s.heap [] 0 0 _ _
  refine lv_aload_n hx hb dX9_addRecord_0 rfl (lv_at hl 0 rfl) ?_
  refine lv_iload_n hx hb dX9_addRecord_1 rfl (lv_at hl 1 rfl) ?_
  refine lv_iload_n hx hb dX9_addRecord_2 rfl (lv_at hl 2 rfl) ?_
  refine lv_iload_n hx hb dX9_addRecord_3 rfl (lv_at hl 3 rfl) ?_
  refine lv_iload hx hb dX9_addRecord_4 (lv_at hl 5 rfl) ?_
  obtain ⟨S_6, r_6, h_6, hf⟩ := bd_some hf
  refine r_bi hw (r_runV (rest := []) C hw (m_X9_openRecord l D cA ad base fu h_6) mvX9_openRecord gw4_230 ⟨rfl, rfl, Nat.le_of_ble_eq_true rfl, Nat.le_of_ble_eq_true rfl⟩ dq_18 ln_18 vc_9 rfl hl.1 rfl (Nat.le_of_ble_eq_true rfl) dX9_addRecord_6 (Nat.zero_le _) (Nat.zero_le _)) (fun H locs hw => ?_)
  refine lv_istore (lv' := [(6, .int r_6), (0, .ref (ad 18)), (1, .int x1), (2, .int x2), (3, .int x3), (4, .int x4), (5, .int x5)]) hx hb dX9_addRecord_9 hl (by decide) rfl (fun ls hl => ?_)
  refine lv_iload_n hx hb dX9_addRecord_11 rfl (lv_at hl 4 rfl) ?_
  obtain ⟨S_12, r_12, h_12, hf⟩ := bd_some hf
  refine r_bi hw (r_runSN (rest := []) C hw (m_X11_isNamed l D cA ad base fu h_12) msX11_isNamed C.2.2.2.2.2.2.2.2.2.1 ⟨rfl, rfl, Nat.le_of_ble_eq_true rfl, Nat.le_of_ble_eq_true rfl⟩ rfl hl.1 rfl (Nat.le_of_ble_eq_true rfl) dX9_addRecord_12 (Nat.zero_le _) (Nat.zero_le _)) (fun H locs hw => ?_)
  refine lv_if_eq (tgt := 27) hx hb dX9_addRecord_15 (by decide) (fun c_15 => ?_) (fun c_15 => ?_)
  · have hf := if_t hf c_15
    refine lv_iload_n hx hb dX9_addRecord_27 rfl (lv_at hl 4 rfl) ?_
    refine lv_bipush (v := (16 : Int32)) hx hb dX9_addRecord_28 (by decide) ?_
    refine lv_icmp_ne (tgt := 41) hx hb dX9_addRecord_30 (by decide) (fun c_30 => ?_) (fun c_30 => ?_)
    · have hf := if_f hf c_30
      exact J_41 _ _ _ _ _ _ hf (lv_sub hl [1, 5, 0] rfl) hw
    · have hf := if_t hf c_30
      refine lv_aload_n hx hb dX9_addRecord_33 rfl (lv_at hl 1 rfl) ?_
      refine r_getR C hw (k := 1) (r := 19) dq_18 ln_18 rfl vc_9 inX9 (by decide) rfl gw1_133 dX9_addRecord_34 ?_
      refine lv_iconst (v := (4 : Int32)) hx hb dX9_addRecord_37 (by decide) ?_
      obtain ⟨S_38, r_38, h_38, hf⟩ := bd_some hf
      refine r_bv hw (r_runV (rest := []) C hw (m_X0_add l D cA ad base fu 19 kBy_19 h_38) mvX0_add gw4_208 ⟨rfl, rfl, Nat.le_of_ble_eq_true rfl, Nat.le_of_ble_eq_true rfl⟩ dq_19 ln_19 vc_0 rfl hl.1 rfl (Nat.le_of_ble_eq_true rfl) dX9_addRecord_38 (Nat.zero_le _) (Nat.zero_le _)) (fun H locs hw => ?_)
      exact J_41 _ _ _ _ _ _ hf (lv_sub hl [1, 5, 0] rfl) hw
  · have hf := if_f hf c_15
    refine lv_aload_n hx hb dX9_addRecord_18 rfl (lv_at hl 1 rfl) ?_
    refine lv_iload hx hb dX9_addRecord_19 (lv_at hl 5 rfl) ?_
    obtain ⟨S_21, r_21, h_21, hf⟩ := bd_some hf
    refine r_bv hw (r_runV (rest := []) C hw (m_X9_addName l D cA ad base fu h_21) mvX9_addName gw4_201 ⟨rfl, rfl, Nat.le_of_ble_eq_true rfl, Nat.le_of_ble_eq_true rfl⟩ dq_18 ln_18 vc_9 rfl hl.1 rfl (Nat.le_of_ble_eq_true rfl) dX9_addRecord_21 (Nat.zero_le _) (Nat.zero_le _)) (fun H locs hw => ?_)
    refine lv_goto (tgt := 50) hx hb dX9_addRecord_24 (by decide) ?_
    exact J_50 _ _ _ _ _ hf (lv_sub hl [1, 0] rfl) hw
noncomputable def fX9_addSoa (fu : Nat) (x1 : Int32) (x2 : Int32) (S : St) : Option (St × Int32) :=
  bd (fX9_openRecord fu (1 : Int32) x1 (6 : Int32) x2 S) fun S_6 r_6 =>
  bd (fX9_addName fu (0 : Int32) S_6) fun S_12 _ =>
  bd (fX9_addName fu (0 : Int32) S_12) fun S_17 _ =>
  bd (fX0_addFour fu 19 (1 : Int32) S_17) fun S_25 _ =>
  bd (fX0_addFour fu 19 (0 : Int32) S_25) fun S_33 _ =>
  bd (fX0_addFour fu 19 (0 : Int32) S_33) fun S_41 _ =>
  bd (fX0_addFour fu 19 (0 : Int32) S_41) fun S_49 _ =>
  bd (fX0_addFour fu 19 x2 S_49) fun S_57 _ =>
  bd (fX9_closeRecord fu r_6 S_57) fun S_62 _ =>
  some (S_62, (0 : Int32))
theorem mvX9_addSoa : MV yX9_addSoa cX9_addSoa 4 none RX9 2 := ⟨gw5_23, gw5_21, gw5_22, gw1_6, by decide +kernel⟩
def rmX9_addSoa : Room := { frames := 4, cells := 0, slots := 0, locals := 91 }
set_option maxHeartbeats 4000000 in
set_option maxRecDepth 100000 in
theorem m_X9_addSoa (l : Launch) (D : va_G) (cA : FieldType → ClassId) (ad : Nat → Nat) (base : Nat) (fu : Nat) {S S' : St} {x1 : Int32} {x2 : Int32} {r : Int32} (hf : fX9_addSoa fu x1 x2 S = some (S', r)) : Met l yX9_addSoa (GC yX9_addSoa cX9_addSoa 4 none) rmX9_addSoa (va_Pc [.ref (ad 18), .int x1, .int x2] (wd D cA ad base S)) (QV D cA ad base S') 0 0 (aB base) := by
  refine Met.ofW (cc := cX9_addSoa) (maxL := 4) (ret := none) (by decide) rfl ?_
  intro p e s m args below meth c s₁ B hml hv
  obtain ⟨hargs, hwd⟩ := hv
  have hr := B.returns
  have hlocks := B.notSynchronized
  obtain ⟨C, hw⟩ := CX.of (own := RX9) rfl B hml hwd
  have hx := C.1
  have hb := C.2.1
  have hl := lv_entry ([.ref (ad 18), .int x1, .int x2]) (n := 4) (Nat.le_of_ble_eq_true rfl)
  rw [show entryFrame m args 4 = entryFrame m ([.ref (ad 18), .int x1, .int x2] : List Value).toArray 4 from by rw [hargs], lg_entry_eq]
  generalize (lg_sl ([.ref (ad 18), .int x1, .int x2]) ++ List.replicate (4 - (lg_sl ([.ref (ad 18), .int x1, .int x2])).length) Slot.unset).toArray = ls at hl ⊢
  have hl : lv_has ls 4 [(0, .ref (ad 18)), (1, .int x1), (2, .int x2)] := hl
  show W p l e rmX9_addSoa s m args below meth c s.heap [] 0 0 _ _
  refine lv_aload_n hx hb dX9_addSoa_0 rfl (lv_at hl 0 rfl) ?_
  refine lv_iconst (v := (1 : Int32)) hx hb dX9_addSoa_1 (by decide) ?_
  refine lv_iload_n hx hb dX9_addSoa_2 rfl (lv_at hl 1 rfl) ?_
  refine lv_bipush (v := (6 : Int32)) hx hb dX9_addSoa_3 (by decide) ?_
  refine lv_iload_n hx hb dX9_addSoa_5 rfl (lv_at hl 2 rfl) ?_
  obtain ⟨S_6, r_6, h_6, hf⟩ := bd_some hf
  refine r_bi hw (r_runV (rest := []) C hw (m_X9_openRecord l D cA ad base fu h_6) mvX9_openRecord gw4_230 ⟨rfl, rfl, Nat.le_of_ble_eq_true rfl, Nat.le_of_ble_eq_true rfl⟩ dq_18 ln_18 vc_9 rfl hl.1 rfl (Nat.le_of_ble_eq_true rfl) dX9_addSoa_6 (Nat.zero_le _) (Nat.zero_le _)) (fun H locs hw => ?_)
  refine lv_istore_n (lv' := [(3, .int r_6), (0, .ref (ad 18)), (1, .int x1), (2, .int x2)]) hx hb dX9_addSoa_9 rfl hl (by decide) rfl (fun ls hl => ?_)
  refine lv_aload_n hx hb dX9_addSoa_10 rfl (lv_at hl 1 rfl) ?_
  refine lv_iconst (v := (0 : Int32)) hx hb dX9_addSoa_11 (by decide) ?_
  obtain ⟨S_12, r_12, h_12, hf⟩ := bd_some hf
  refine r_bv hw (r_runV (rest := []) C hw (m_X9_addName l D cA ad base fu h_12) mvX9_addName gw4_201 ⟨rfl, rfl, Nat.le_of_ble_eq_true rfl, Nat.le_of_ble_eq_true rfl⟩ dq_18 ln_18 vc_9 rfl hl.1 rfl (Nat.le_of_ble_eq_true rfl) dX9_addSoa_12 (Nat.zero_le _) (Nat.zero_le _)) (fun H locs hw => ?_)
  refine lv_aload_n hx hb dX9_addSoa_15 rfl (lv_at hl 1 rfl) ?_
  refine lv_iconst (v := (0 : Int32)) hx hb dX9_addSoa_16 (by decide) ?_
  obtain ⟨S_17, r_17, h_17, hf⟩ := bd_some hf
  refine r_bv hw (r_runV (rest := []) C hw (m_X9_addName l D cA ad base fu h_17) mvX9_addName gw4_201 ⟨rfl, rfl, Nat.le_of_ble_eq_true rfl, Nat.le_of_ble_eq_true rfl⟩ dq_18 ln_18 vc_9 rfl hl.1 rfl (Nat.le_of_ble_eq_true rfl) dX9_addSoa_17 (Nat.zero_le _) (Nat.zero_le _)) (fun H locs hw => ?_)
  refine lv_aload_n hx hb dX9_addSoa_20 rfl (lv_at hl 1 rfl) ?_
  refine r_getR C hw (k := 1) (r := 19) dq_18 ln_18 rfl vc_9 inX9 (by decide) rfl gw1_133 dX9_addSoa_21 ?_
  refine lv_iconst (v := (1 : Int32)) hx hb dX9_addSoa_24 (by decide) ?_
  obtain ⟨S_25, r_25, h_25, hf⟩ := bd_some hf
  refine r_bv hw (r_runV (rest := []) C hw (m_X0_addFour l D cA ad base fu 19 kBy_19 h_25) mvX0_addFour gw4_200 ⟨rfl, rfl, Nat.le_of_ble_eq_true rfl, Nat.le_of_ble_eq_true rfl⟩ dq_19 ln_19 vc_0 rfl hl.1 rfl (Nat.le_of_ble_eq_true rfl) dX9_addSoa_25 (Nat.zero_le _) (Nat.zero_le _)) (fun H locs hw => ?_)
  refine lv_aload_n hx hb dX9_addSoa_28 rfl (lv_at hl 1 rfl) ?_
  refine r_getR C hw (k := 1) (r := 19) dq_18 ln_18 rfl vc_9 inX9 (by decide) rfl gw1_133 dX9_addSoa_29 ?_
  refine lv_iconst (v := (0 : Int32)) hx hb dX9_addSoa_32 (by decide) ?_
  obtain ⟨S_33, r_33, h_33, hf⟩ := bd_some hf
  refine r_bv hw (r_runV (rest := []) C hw (m_X0_addFour l D cA ad base fu 19 kBy_19 h_33) mvX0_addFour gw4_200 ⟨rfl, rfl, Nat.le_of_ble_eq_true rfl, Nat.le_of_ble_eq_true rfl⟩ dq_19 ln_19 vc_0 rfl hl.1 rfl (Nat.le_of_ble_eq_true rfl) dX9_addSoa_33 (Nat.zero_le _) (Nat.zero_le _)) (fun H locs hw => ?_)
  refine lv_aload_n hx hb dX9_addSoa_36 rfl (lv_at hl 1 rfl) ?_
  refine r_getR C hw (k := 1) (r := 19) dq_18 ln_18 rfl vc_9 inX9 (by decide) rfl gw1_133 dX9_addSoa_37 ?_
  refine lv_iconst (v := (0 : Int32)) hx hb dX9_addSoa_40 (by decide) ?_
  obtain ⟨S_41, r_41, h_41, hf⟩ := bd_some hf
  refine r_bv hw (r_runV (rest := []) C hw (m_X0_addFour l D cA ad base fu 19 kBy_19 h_41) mvX0_addFour gw4_200 ⟨rfl, rfl, Nat.le_of_ble_eq_true rfl, Nat.le_of_ble_eq_true rfl⟩ dq_19 ln_19 vc_0 rfl hl.1 rfl (Nat.le_of_ble_eq_true rfl) dX9_addSoa_41 (Nat.zero_le _) (Nat.zero_le _)) (fun H locs hw => ?_)
  refine lv_aload_n hx hb dX9_addSoa_44 rfl (lv_at hl 1 rfl) ?_
  refine r_getR C hw (k := 1) (r := 19) dq_18 ln_18 rfl vc_9 inX9 (by decide) rfl gw1_133 dX9_addSoa_45 ?_
  refine lv_iconst (v := (0 : Int32)) hx hb dX9_addSoa_48 (by decide) ?_
  obtain ⟨S_49, r_49, h_49, hf⟩ := bd_some hf
  refine r_bv hw (r_runV (rest := []) C hw (m_X0_addFour l D cA ad base fu 19 kBy_19 h_49) mvX0_addFour gw4_200 ⟨rfl, rfl, Nat.le_of_ble_eq_true rfl, Nat.le_of_ble_eq_true rfl⟩ dq_19 ln_19 vc_0 rfl hl.1 rfl (Nat.le_of_ble_eq_true rfl) dX9_addSoa_49 (Nat.zero_le _) (Nat.zero_le _)) (fun H locs hw => ?_)
  refine lv_aload_n hx hb dX9_addSoa_52 rfl (lv_at hl 1 rfl) ?_
  refine r_getR C hw (k := 1) (r := 19) dq_18 ln_18 rfl vc_9 inX9 (by decide) rfl gw1_133 dX9_addSoa_53 ?_
  refine lv_iload_n hx hb dX9_addSoa_56 rfl (lv_at hl 3 rfl) ?_
  obtain ⟨S_57, r_57, h_57, hf⟩ := bd_some hf
  refine r_bv hw (r_runV (rest := []) C hw (m_X0_addFour l D cA ad base fu 19 kBy_19 h_57) mvX0_addFour gw4_200 ⟨rfl, rfl, Nat.le_of_ble_eq_true rfl, Nat.le_of_ble_eq_true rfl⟩ dq_19 ln_19 vc_0 rfl hl.1 rfl (Nat.le_of_ble_eq_true rfl) dX9_addSoa_57 (Nat.zero_le _) (Nat.zero_le _)) (fun H locs hw => ?_)
  refine lv_aload_n hx hb dX9_addSoa_60 rfl (lv_at hl 1 rfl) ?_
  refine lv_iload_n hx hb dX9_addSoa_61 rfl (lv_at hl 0 rfl) ?_
  obtain ⟨S_62, r_62, h_62, hf⟩ := bd_some hf
  refine r_bv hw (r_runV (rest := []) C hw (m_X9_closeRecord l D cA ad base fu h_62) mvX9_closeRecord gw4_235 ⟨rfl, rfl, Nat.le_of_ble_eq_true rfl, Nat.le_of_ble_eq_true rfl⟩ dq_18 ln_18 vc_9 rfl hl.1 rfl (Nat.le_of_ble_eq_true rfl) dX9_addSoa_62 (Nat.zero_le _) (Nat.zero_le _)) (fun H locs hw => ?_)
  exact r_vret C hw hr hlocks hf dX9_addSoa_65
noncomputable def fX9_finish (fu : Nat) (x1 : Int32) (S : St) : Option (St × Int32) :=
  bd (fX0_isTooLong fu 19 S) fun S_4 r_4 =>
  if r_4 = 0 then
    bd (fX0_setTwo fu 19 (2 : Int32) ((32768 : Int32) + x1) S_4) fun S_21 _ =>
    gd (ck (0 : Int32) 3) <|
    bd (fX0_setTwo fu 19 (6 : Int32) (S_21.1 22 ((0 : Int32)).toNatClampNeg) S_21) fun S_36 _ =>
    gd (ck (1 : Int32) 3) <|
    bd (fX0_setTwo fu 19 (8 : Int32) (S_36.1 22 ((1 : Int32)).toNatClampNeg) S_36) fun S_51 _ =>
    gd (ck (2 : Int32) 3) <|
    bd (fX0_setTwo fu 19 (10 : Int32) (S_51.1 22 ((2 : Int32)).toNatClampNeg) S_51) fun S_66 _ =>
    some (S_66, (1 : Int32))
  else
    some (S_4, (0 : Int32))
theorem mvX9_finish : MV yX9_finish cX9_finish 2 (some .boolean) RX9 1 := ⟨gw5_15, gw5_13, gw5_14, gw1_6, by decide +kernel⟩
def rmX9_finish : Room := { frames := 2, cells := 0, slots := 0, locals := 44 }
set_option maxHeartbeats 4000000 in
set_option maxRecDepth 100000 in
theorem m_X9_finish (l : Launch) (D : va_G) (cA : FieldType → ClassId) (ad : Nat → Nat) (base : Nat) (fu : Nat) {S S' : St} {x1 : Int32} {r : Int32} (hf : fX9_finish fu x1 S = some (S', r)) : Met l yX9_finish (GC yX9_finish cX9_finish 2 (some .boolean)) rmX9_finish (va_Pc [.ref (ad 18), .int x1] (wd D cA ad base S)) (QI D cA ad base S' r) 0 0 (aB base) := by
  refine Met.ofW (cc := cX9_finish) (maxL := 2) (ret := (some .boolean)) (by decide) rfl ?_
  intro p e s m args below meth c s₁ B hml hv
  obtain ⟨hargs, hwd⟩ := hv
  have hr := B.returns
  have hlocks := B.notSynchronized
  obtain ⟨C, hw⟩ := CX.of (own := RX9) rfl B hml hwd
  have hx := C.1
  have hb := C.2.1
  have hl := lv_entry ([.ref (ad 18), .int x1]) (n := 2) (Nat.le_of_ble_eq_true rfl)
  rw [show entryFrame m args 2 = entryFrame m ([.ref (ad 18), .int x1] : List Value).toArray 2 from by rw [hargs], lg_entry_eq]
  generalize (lg_sl ([.ref (ad 18), .int x1]) ++ List.replicate (2 - (lg_sl ([.ref (ad 18), .int x1])).length) Slot.unset).toArray = ls at hl ⊢
  have hl : lv_has ls 2 [(0, .ref (ad 18)), (1, .int x1)] := hl
  show W p l e rmX9_finish s m args below meth c s.heap [] 0 0 _ _
  refine lv_aload_n hx hb dX9_finish_0 rfl (lv_at hl 0 rfl) ?_
  refine r_getR C hw (k := 1) (r := 19) dq_18 ln_18 rfl vc_9 inX9 (by decide) rfl gw1_133 dX9_finish_1 ?_
  obtain ⟨S_4, r_4, h_4, hf⟩ := bd_some hf
  refine r_bi hw (r_runV (rest := []) C hw (m_X0_isTooLong l D cA ad base fu 19 kBy_19 h_4) mvX0_isTooLong gw5_16 ⟨rfl, rfl, Nat.le_of_ble_eq_true rfl, Nat.le_of_ble_eq_true rfl⟩ dq_19 ln_19 vc_0 rfl hl.1 rfl (Nat.le_of_ble_eq_true rfl) dX9_finish_4 (Nat.zero_le _) (Nat.zero_le _)) (fun H locs hw => ?_)
  refine lv_if_eq (tgt := 12) hx hb dX9_finish_7 (by decide) (fun c_7 => ?_) (fun c_7 => ?_)
  · have hf := if_t hf c_7
    refine lv_aload_n hx hb dX9_finish_12 rfl (lv_at hl 0 rfl) ?_
    refine r_getR C hw (k := 1) (r := 19) dq_18 ln_18 rfl vc_9 inX9 (by decide) rfl gw1_133 dX9_finish_13 ?_
    refine lv_iconst (v := (2 : Int32)) hx hb dX9_finish_16 (by decide) ?_
    refine lv_ldc hx hb C.2.2.2.1 (C.2.2.2.2.1 _ (gw_of gw4_199 rfl)) dX9_finish_17 ?_
    refine lv_iload_n hx hb dX9_finish_19 rfl (lv_at hl 1 rfl) ?_
    refine lv_iadd hx hb dX9_finish_20 ?_
    obtain ⟨S_21, r_21, h_21, hf⟩ := bd_some hf
    refine r_bv hw (r_runV (rest := []) C hw (m_X0_setTwo l D cA ad base fu 19 kBy_19 h_21) mvX0_setTwo gw4_239 ⟨rfl, rfl, Nat.le_of_ble_eq_true rfl, Nat.le_of_ble_eq_true rfl⟩ dq_19 ln_19 vc_0 rfl hl.1 rfl (Nat.le_of_ble_eq_true rfl) dX9_finish_21 (Nat.zero_le _) (Nat.zero_le _)) (fun H locs hw => ?_)
    refine lv_aload_n hx hb dX9_finish_24 rfl (lv_at hl 0 rfl) ?_
    refine r_getR C hw (k := 1) (r := 19) dq_18 ln_18 rfl vc_9 inX9 (by decide) rfl gw1_133 dX9_finish_25 ?_
    refine lv_bipush (v := (6 : Int32)) hx hb dX9_finish_28 (by decide) ?_
    refine lv_aload_n hx hb dX9_finish_30 rfl (lv_at hl 0 rfl) ?_
    refine r_getR C hw (k := 3) (r := 22) dq_18 ln_18 rfl vc_9 inX9 (by decide) rfl gw1_135 dX9_finish_31 ?_
    refine lv_iconst (v := (0 : Int32)) hx hb dX9_finish_34 (by decide) ?_
    obtain ⟨z_35, hf⟩ := gd_some hf
    refine r_iald C hw (x := 22) dq_22 ln_22 z_35 dX9_finish_35 ?_
    obtain ⟨S_36, r_36, h_36, hf⟩ := bd_some hf
    refine r_bv hw (r_runV (rest := []) C hw (m_X0_setTwo l D cA ad base fu 19 kBy_19 h_36) mvX0_setTwo gw4_239 ⟨rfl, rfl, Nat.le_of_ble_eq_true rfl, Nat.le_of_ble_eq_true rfl⟩ dq_19 ln_19 vc_0 rfl hl.1 rfl (Nat.le_of_ble_eq_true rfl) dX9_finish_36 (Nat.zero_le _) (Nat.zero_le _)) (fun H locs hw => ?_)
    refine lv_aload_n hx hb dX9_finish_39 rfl (lv_at hl 0 rfl) ?_
    refine r_getR C hw (k := 1) (r := 19) dq_18 ln_18 rfl vc_9 inX9 (by decide) rfl gw1_133 dX9_finish_40 ?_
    refine lv_bipush (v := (8 : Int32)) hx hb dX9_finish_43 (by decide) ?_
    refine lv_aload_n hx hb dX9_finish_45 rfl (lv_at hl 0 rfl) ?_
    refine r_getR C hw (k := 3) (r := 22) dq_18 ln_18 rfl vc_9 inX9 (by decide) rfl gw1_135 dX9_finish_46 ?_
    refine lv_iconst (v := (1 : Int32)) hx hb dX9_finish_49 (by decide) ?_
    obtain ⟨z_50, hf⟩ := gd_some hf
    refine r_iald C hw (x := 22) dq_22 ln_22 z_50 dX9_finish_50 ?_
    obtain ⟨S_51, r_51, h_51, hf⟩ := bd_some hf
    refine r_bv hw (r_runV (rest := []) C hw (m_X0_setTwo l D cA ad base fu 19 kBy_19 h_51) mvX0_setTwo gw4_239 ⟨rfl, rfl, Nat.le_of_ble_eq_true rfl, Nat.le_of_ble_eq_true rfl⟩ dq_19 ln_19 vc_0 rfl hl.1 rfl (Nat.le_of_ble_eq_true rfl) dX9_finish_51 (Nat.zero_le _) (Nat.zero_le _)) (fun H locs hw => ?_)
    refine lv_aload_n hx hb dX9_finish_54 rfl (lv_at hl 0 rfl) ?_
    refine r_getR C hw (k := 1) (r := 19) dq_18 ln_18 rfl vc_9 inX9 (by decide) rfl gw1_133 dX9_finish_55 ?_
    refine lv_bipush (v := (10 : Int32)) hx hb dX9_finish_58 (by decide) ?_
    refine lv_aload_n hx hb dX9_finish_60 rfl (lv_at hl 0 rfl) ?_
    refine r_getR C hw (k := 3) (r := 22) dq_18 ln_18 rfl vc_9 inX9 (by decide) rfl gw1_135 dX9_finish_61 ?_
    refine lv_iconst (v := (2 : Int32)) hx hb dX9_finish_64 (by decide) ?_
    obtain ⟨z_65, hf⟩ := gd_some hf
    refine r_iald C hw (x := 22) dq_22 ln_22 z_65 dX9_finish_65 ?_
    obtain ⟨S_66, r_66, h_66, hf⟩ := bd_some hf
    refine r_bv hw (r_runV (rest := []) C hw (m_X0_setTwo l D cA ad base fu 19 kBy_19 h_66) mvX0_setTwo gw4_239 ⟨rfl, rfl, Nat.le_of_ble_eq_true rfl, Nat.le_of_ble_eq_true rfl⟩ dq_19 ln_19 vc_0 rfl hl.1 rfl (Nat.le_of_ble_eq_true rfl) dX9_finish_66 (Nat.zero_le _) (Nat.zero_le _)) (fun H locs hw => ?_)
    refine lv_iconst (v := (1 : Int32)) hx hb dX9_finish_69 (by decide) ?_
    exact r_zret C hw hr hlocks rfl hf dX9_finish_70
  · have hf := if_f hf c_7
    refine lv_iconst (v := (0 : Int32)) hx hb dX9_finish_10 (by decide) ?_
    exact r_zret C hw hr hlocks rfl hf dX9_finish_11
noncomputable def fX10_size (fu : Nat) (S : St) : Option (St × Int32) :=
  some (S, (S.1 10 3))
theorem mvX10_size : MV yX10_size cX10_size 1 (some .int) RX10 0 := ⟨gw3_78, gw3_76, gw3_77, gw1_5, by decide +kernel⟩
def rmX10_size : Room := { frames := 0, cells := 0, slots := 0, locals := 0 }
set_option maxHeartbeats 4000000 in
set_option maxRecDepth 100000 in
theorem m_X10_size (l : Launch) (D : va_G) (cA : FieldType → ClassId) (ad : Nat → Nat) (base : Nat) (fu : Nat) {S S' : St} {r : Int32} (hf : fX10_size fu S = some (S', r)) : Met l yX10_size (GC yX10_size cX10_size 1 (some .int)) rmX10_size (va_Pc [.ref (ad 10)] (wd D cA ad base S)) (QI D cA ad base S' r) 0 0 (aB base) := by
  refine Met.ofW (cc := cX10_size) (maxL := 1) (ret := (some .int)) (by decide) rfl ?_
  intro p e s m args below meth c s₁ B hml hv
  obtain ⟨hargs, hwd⟩ := hv
  have hr := B.returns
  have hlocks := B.notSynchronized
  obtain ⟨C, hw⟩ := CX.of (own := RX10) rfl B hml hwd
  have hx := C.1
  have hb := C.2.1
  have hl := lv_entry ([.ref (ad 10)]) (n := 1) (Nat.le_of_ble_eq_true rfl)
  rw [show entryFrame m args 1 = entryFrame m ([.ref (ad 10)] : List Value).toArray 1 from by rw [hargs], lg_entry_eq]
  generalize (lg_sl ([.ref (ad 10)]) ++ List.replicate (1 - (lg_sl ([.ref (ad 10)])).length) Slot.unset).toArray = ls at hl ⊢
  have hl : lv_has ls 1 [(0, .ref (ad 10))] := hl
  show W p l e rmX10_size s m args below meth c s.heap [] 0 0 _ _
  refine lv_aload_n hx hb dX10_size_0 rfl (lv_at hl 0 rfl) ?_
  refine r_getI C hw (k := 3) dq_10 ln_10 rfl vc_10 inX10 (by decide) rfl gw1_96 dX10_size_1 ?_
  exact r_iret C hw hr hlocks hf dX10_size_4
noncomputable def fX10_records (fu : Nat) (S : St) : Option (St × Int32) :=
  some (S, (S.1 10 9))
theorem mvX10_records : MV yX10_records cX10_records 1 (some .int) RX10 0 := ⟨gw3_82, gw3_80, gw3_81, gw1_5, by decide +kernel⟩
def rmX10_records : Room := { frames := 0, cells := 0, slots := 0, locals := 0 }
set_option maxHeartbeats 4000000 in
set_option maxRecDepth 100000 in
theorem m_X10_records (l : Launch) (D : va_G) (cA : FieldType → ClassId) (ad : Nat → Nat) (base : Nat) (fu : Nat) {S S' : St} {r : Int32} (hf : fX10_records fu S = some (S', r)) : Met l yX10_records (GC yX10_records cX10_records 1 (some .int)) rmX10_records (va_Pc [.ref (ad 10)] (wd D cA ad base S)) (QI D cA ad base S' r) 0 0 (aB base) := by
  refine Met.ofW (cc := cX10_records) (maxL := 1) (ret := (some .int)) (by decide) rfl ?_
  intro p e s m args below meth c s₁ B hml hv
  obtain ⟨hargs, hwd⟩ := hv
  have hr := B.returns
  have hlocks := B.notSynchronized
  obtain ⟨C, hw⟩ := CX.of (own := RX10) rfl B hml hwd
  have hx := C.1
  have hb := C.2.1
  have hl := lv_entry ([.ref (ad 10)]) (n := 1) (Nat.le_of_ble_eq_true rfl)
  rw [show entryFrame m args 1 = entryFrame m ([.ref (ad 10)] : List Value).toArray 1 from by rw [hargs], lg_entry_eq]
  generalize (lg_sl ([.ref (ad 10)]) ++ List.replicate (1 - (lg_sl ([.ref (ad 10)])).length) Slot.unset).toArray = ls at hl ⊢
  have hl : lv_has ls 1 [(0, .ref (ad 10))] := hl
  show W p l e rmX10_records s m args below meth c s.heap [] 0 0 _ _
  refine lv_aload_n hx hb dX10_records_0 rfl (lv_at hl 0 rfl) ?_
  refine r_getI C hw (k := 9) dq_10 ln_10 rfl vc_10 inX10 (by decide) rfl gw1_102 dX10_records_1 ?_
  exact r_iret C hw hr hlocks hf dX10_records_4
noncomputable def fX10_has (fu : Nat) (x1 : Int32) (S : St) : Option (St × Int32) :=
  if x1 < 0 then
    some (S, (0 : Int32))
  else
    if (S.1 10 3) ≤ x1 then
      some (S, (0 : Int32))
    else
      some (S, (1 : Int32))
theorem mvX10_has : MV yX10_has cX10_has 2 (some .boolean) RX10 1 := ⟨gw4_89, gw4_87, gw4_88, gw1_5, by decide +kernel⟩
def rmX10_has : Room := { frames := 0, cells := 0, slots := 0, locals := 0 }
set_option maxHeartbeats 4000000 in
set_option maxRecDepth 100000 in
theorem m_X10_has (l : Launch) (D : va_G) (cA : FieldType → ClassId) (ad : Nat → Nat) (base : Nat) (fu : Nat) {S S' : St} {x1 : Int32} {r : Int32} (hf : fX10_has fu x1 S = some (S', r)) : Met l yX10_has (GC yX10_has cX10_has 2 (some .boolean)) rmX10_has (va_Pc [.ref (ad 10), .int x1] (wd D cA ad base S)) (QI D cA ad base S' r) 0 0 (aB base) := by
  refine Met.ofW (cc := cX10_has) (maxL := 2) (ret := (some .boolean)) (by decide) rfl ?_
  intro p e s m args below meth c s₁ B hml hv
  obtain ⟨hargs, hwd⟩ := hv
  have hr := B.returns
  have hlocks := B.notSynchronized
  obtain ⟨C, hw⟩ := CX.of (own := RX10) rfl B hml hwd
  have hx := C.1
  have hb := C.2.1
  have hl := lv_entry ([.ref (ad 10), .int x1]) (n := 2) (Nat.le_of_ble_eq_true rfl)
  rw [show entryFrame m args 2 = entryFrame m ([.ref (ad 10), .int x1] : List Value).toArray 2 from by rw [hargs], lg_entry_eq]
  generalize (lg_sl ([.ref (ad 10), .int x1]) ++ List.replicate (2 - (lg_sl ([.ref (ad 10), .int x1])).length) Slot.unset).toArray = ls at hl ⊢
  have hl : lv_has ls 2 [(0, .ref (ad 10)), (1, .int x1)] := hl
  show W p l e rmX10_has s m args below meth c s.heap [] 0 0 _ _
  refine lv_iload_n hx hb dX10_has_0 rfl (lv_at hl 1 rfl) ?_
  refine lv_if_lt (tgt := 16) hx hb dX10_has_1 (by decide) (fun c_1 => ?_) (fun c_1 => ?_)
  · have hf := if_t hf c_1
    refine lv_iconst (v := (0 : Int32)) hx hb dX10_has_16 (by decide) ?_
    exact r_zret C hw hr hlocks rfl hf dX10_has_17
  · have hf := if_f hf c_1
    refine lv_iload_n hx hb dX10_has_4 rfl (lv_at hl 1 rfl) ?_
    refine lv_aload_n hx hb dX10_has_5 rfl (lv_at hl 0 rfl) ?_
    refine r_getI C hw (k := 3) dq_10 ln_10 rfl vc_10 inX10 (by decide) rfl gw1_96 dX10_has_6 ?_
    refine lv_icmp_ge (tgt := 16) hx hb dX10_has_9 (by decide) (fun c_9 => ?_) (fun c_9 => ?_)
    · have hf := if_t hf c_9
      refine lv_iconst (v := (0 : Int32)) hx hb dX10_has_16 (by decide) ?_
      exact r_zret C hw hr hlocks rfl hf dX10_has_17
    · have hf := if_f hf c_9
      refine lv_iconst (v := (1 : Int32)) hx hb dX10_has_12 (by decide) ?_
      refine lv_goto (tgt := 17) hx hb dX10_has_13 (by decide) ?_
      exact r_zret C hw hr hlocks rfl hf dX10_has_17
noncomputable def fX10_apexOf (fu : Nat) (x1 : Int32) (S : St) : Option (St × Int32) :=
  bd (fX10_has fu x1 S) fun S_2 r_2 =>
  if r_2 = 0 then
    some (S_2, (0 : Int32))
  else
    gd (ck x1 12) <|
    some (S_2, (S_2.1 11 (x1).toNatClampNeg))
theorem mvX10_apexOf : MV yX10_apexOf cX10_apexOf 2 (some .int) RX10 1 := ⟨gw4_94, gw4_92, gw4_93, gw1_5, by decide +kernel⟩
def rmX10_apexOf : Room := { frames := 1, cells := 0, slots := 0, locals := 21 }
set_option maxHeartbeats 4000000 in
set_option maxRecDepth 100000 in
theorem m_X10_apexOf (l : Launch) (D : va_G) (cA : FieldType → ClassId) (ad : Nat → Nat) (base : Nat) (fu : Nat) {S S' : St} {x1 : Int32} {r : Int32} (hf : fX10_apexOf fu x1 S = some (S', r)) : Met l yX10_apexOf (GC yX10_apexOf cX10_apexOf 2 (some .int)) rmX10_apexOf (va_Pc [.ref (ad 10), .int x1] (wd D cA ad base S)) (QI D cA ad base S' r) 0 0 (aB base) := by
  refine Met.ofW (cc := cX10_apexOf) (maxL := 2) (ret := (some .int)) (by decide) rfl ?_
  intro p e s m args below meth c s₁ B hml hv
  obtain ⟨hargs, hwd⟩ := hv
  have hr := B.returns
  have hlocks := B.notSynchronized
  obtain ⟨C, hw⟩ := CX.of (own := RX10) rfl B hml hwd
  have hx := C.1
  have hb := C.2.1
  have hl := lv_entry ([.ref (ad 10), .int x1]) (n := 2) (Nat.le_of_ble_eq_true rfl)
  rw [show entryFrame m args 2 = entryFrame m ([.ref (ad 10), .int x1] : List Value).toArray 2 from by rw [hargs], lg_entry_eq]
  generalize (lg_sl ([.ref (ad 10), .int x1]) ++ List.replicate (2 - (lg_sl ([.ref (ad 10), .int x1])).length) Slot.unset).toArray = ls at hl ⊢
  have hl : lv_has ls 2 [(0, .ref (ad 10)), (1, .int x1)] := hl
  show W p l e rmX10_apexOf s m args below meth c s.heap [] 0 0 _ _
  refine lv_aload_n hx hb dX10_apexOf_0 rfl (lv_at hl 0 rfl) ?_
  refine lv_iload_n hx hb dX10_apexOf_1 rfl (lv_at hl 1 rfl) ?_
  obtain ⟨S_2, r_2, h_2, hf⟩ := bd_some hf
  refine r_bi hw (r_runV (rest := []) C hw (m_X10_has l D cA ad base fu h_2) mvX10_has gw4_95 ⟨rfl, rfl, Nat.le_of_ble_eq_true rfl, Nat.le_of_ble_eq_true rfl⟩ dq_10 ln_10 vc_10 rfl hl.1 rfl (Nat.le_of_ble_eq_true rfl) dX10_apexOf_2 (Nat.zero_le _) (Nat.zero_le _)) (fun H locs hw => ?_)
  refine lv_if_eq (tgt := 17) hx hb dX10_apexOf_5 (by decide) (fun c_5 => ?_) (fun c_5 => ?_)
  · have hf := if_t hf c_5
    refine lv_iconst (v := (0 : Int32)) hx hb dX10_apexOf_17 (by decide) ?_
    exact r_iret C hw hr hlocks hf dX10_apexOf_18
  · have hf := if_f hf c_5
    refine lv_aload_n hx hb dX10_apexOf_8 rfl (lv_at hl 0 rfl) ?_
    refine r_getR C hw (k := 1) (r := 11) dq_10 ln_10 rfl vc_10 inX10 (by decide) rfl gw1_94 dX10_apexOf_9 ?_
    refine lv_iload_n hx hb dX10_apexOf_12 rfl (lv_at hl 1 rfl) ?_
    obtain ⟨z_13, hf⟩ := gd_some hf
    refine r_iald C hw (x := 11) dq_11 ln_11 z_13 dX10_apexOf_13 ?_
    refine lv_goto (tgt := 18) hx hb dX10_apexOf_14 (by decide) ?_
    exact r_iret C hw hr hlocks hf dX10_apexOf_18
noncomputable def fX10_ofApex_2 (fu : Nat) (n : Nat) : Int32 → Int32 → St → Option (St × Int32) :=
  Nat.rec (motive := fun _ => Int32 → Int32 → St → Option (St × Int32)) (fun _ _ _ => none) (fun _ k_2 x1 x2 S =>
    if (S.1 10 3) ≤ x2 then
      some (S, (-1 : Int32))
    else
      gd (ck x2 12) <|
      if (S.1 11 (x2).toNatClampNeg) = x1 then
        some (S, x2)
      else
        k_2 x1 (x2 + (1 : Int32)) S) n
theorem fX10_ofApex_2_s (fu : Nat) (n : Nat) (x1 : Int32) (x2 : Int32) (S : St) : fX10_ofApex_2 fu (n + 1) x1 x2 S = (
    if (S.1 10 3) ≤ x2 then
      some (S, (-1 : Int32))
    else
      gd (ck x2 12) <|
      if (S.1 11 (x2).toNatClampNeg) = x1 then
        some (S, x2)
      else
        (fX10_ofApex_2 fu n) x1 (x2 + (1 : Int32)) S) := rfl
noncomputable def fX10_ofApex (fu : Nat) (x1 : Int32) (S : St) : Option (St × Int32) :=
  fX10_ofApex_2 fu fu x1 (0 : Int32) S
theorem mvX10_ofApex : MV yX10_ofApex cX10_ofApex 3 (some .int) RX10 1 := ⟨gw4_68, gw4_66, gw4_67, gw1_5, by decide +kernel⟩
def rmX10_ofApex : Room := { frames := 0, cells := 0, slots := 0, locals := 0 }
set_option maxHeartbeats 4000000 in
set_option maxRecDepth 100000 in
theorem m_X10_ofApex (l : Launch) (D : va_G) (cA : FieldType → ClassId) (ad : Nat → Nat) (base : Nat) (fu : Nat) {S S' : St} {x1 : Int32} {r : Int32} (hf : fX10_ofApex fu x1 S = some (S', r)) : Met l yX10_ofApex (GC yX10_ofApex cX10_ofApex 3 (some .int)) rmX10_ofApex (va_Pc [.ref (ad 10), .int x1] (wd D cA ad base S)) (QI D cA ad base S' r) 0 0 (aB base) := by
  refine Met.ofW (cc := cX10_ofApex) (maxL := 3) (ret := (some .int)) (by decide) rfl ?_
  intro p e s m args below meth c s₁ B hml hv
  obtain ⟨hargs, hwd⟩ := hv
  have hr := B.returns
  have hlocks := B.notSynchronized
  obtain ⟨C, hw⟩ := CX.of (own := RX10) rfl B hml hwd
  have hx := C.1
  have hb := C.2.1
  have hl := lv_entry ([.ref (ad 10), .int x1]) (n := 3) (Nat.le_of_ble_eq_true rfl)
  rw [show entryFrame m args 3 = entryFrame m ([.ref (ad 10), .int x1] : List Value).toArray 3 from by rw [hargs], lg_entry_eq]
  generalize (lg_sl ([.ref (ad 10), .int x1]) ++ List.replicate (3 - (lg_sl ([.ref (ad 10), .int x1])).length) Slot.unset).toArray = ls at hl ⊢
  have hl : lv_has ls 3 [(0, .ref (ad 10)), (1, .int x1)] := hl
  have L_2 : ∀ (n_2 : Nat) (x1 : Int32) (x2 : Int32) (S : St) (H : Heap) (locs : List Loc) (ls : Array Slot), fX10_ofApex_2 fu n_2 x1 x2 S = some (S', r) → lv_has ls 3 [(0, .ref (ad 10)), (1, .int x1), (2, .int x2)] → WS D cA ad base s S H locs → W p l e rmX10_ofApex s m args below meth c H locs 0 0 (MQ below (QI D cA ad base S' r) args s 0 0 (aB base)) (F0 m 2 ls []) := by
    intro n_2
    induction n_2 with
    | zero =>
      intro x1 x2 S H locs ls hf hl hw
      exact (no_none hf).elim
    | succ n_2 ih_2 =>
      intro x1 x2 S H locs ls hf hl hw
      rw [fX10_ofApex_2_s] at hf
      refine lv_iload_n hx hb dX10_ofApex_2 rfl (lv_at hl 2 rfl) ?_
      refine lv_aload_n hx hb dX10_ofApex_3 rfl (lv_at hl 0 rfl) ?_
      refine r_getI C hw (k := 3) dq_10 ln_10 rfl vc_10 inX10 (by decide) rfl gw1_96 dX10_ofApex_4 ?_
      refine lv_icmp_ge (tgt := 28) hx hb dX10_ofApex_7 (by decide) (fun c_7 => ?_) (fun c_7 => ?_)
      · have hf := if_t hf c_7
        refine lv_iconst (v := (-1 : Int32)) hx hb dX10_ofApex_28 (by decide) ?_
        exact r_iret C hw hr hlocks hf dX10_ofApex_29
      · have hf := if_f hf c_7
        refine lv_aload_n hx hb dX10_ofApex_10 rfl (lv_at hl 0 rfl) ?_
        refine r_getR C hw (k := 1) (r := 11) dq_10 ln_10 rfl vc_10 inX10 (by decide) rfl gw1_94 dX10_ofApex_11 ?_
        refine lv_iload_n hx hb dX10_ofApex_14 rfl (lv_at hl 2 rfl) ?_
        obtain ⟨z_15, hf⟩ := gd_some hf
        refine r_iald C hw (x := 11) dq_11 ln_11 z_15 dX10_ofApex_15 ?_
        refine lv_iload_n hx hb dX10_ofApex_16 rfl (lv_at hl 1 rfl) ?_
        refine lv_icmp_ne (tgt := 22) hx hb dX10_ofApex_17 (by decide) (fun c_17 => ?_) (fun c_17 => ?_)
        · have hf := if_f hf c_17
          refine lv_iinc (v := (x2 + (1 : Int32))) (lv' := [(2, .int (x2 + (1 : Int32))), (0, .ref (ad 10)), (1, .int x1)]) hx hb dX10_ofApex_22 hl (k := 2) rfl rfl (by decide) rfl (fun ls hl => ?_)
          refine lv_goto (tgt := 2) hx hb dX10_ofApex_25 (by decide) ?_
          exact ih_2 _ _ _ _ _ _ hf (lv_sub hl [1, 2, 0] rfl) hw
        · have hf := if_t hf c_17
          refine lv_iload_n hx hb dX10_ofApex_20 rfl (lv_at hl 2 rfl) ?_
          exact r_iret C hw hr hlocks hf dX10_ofApex_21
  show W p l e rmX10_ofApex s m args below meth c s.heap [] 0 0 _ _
  refine lv_iconst (v := (0 : Int32)) hx hb dX10_ofApex_0 (by decide) ?_
  refine lv_istore_n (lv' := [(2, .int (0 : Int32)), (0, .ref (ad 10)), (1, .int x1)]) hx hb dX10_ofApex_1 rfl hl (by decide) rfl (fun ls hl => ?_)
  exact L_2 fu _ _ _ _ _ _ hf (lv_sub hl [1, 2, 0] rfl) hw
noncomputable def fX10_open (fu : Nat) (x1 : Int32) (x2 : Int32) (S : St) : Option (St × Int32) :=
  if (S.1 10 3) < (12 : Int32) then
    gd (ck (S.1 10 3) 12) <|
    sI 11 ((S.1 10 3)).toNatClampNeg x1 S fun S_20 =>
    gd (ck (S_20.1 10 3) 12) <|
    sI 12 ((S_20.1 10 3)).toNatClampNeg x2 S_20 fun S_30 =>
    sI 10 3 ((S_30.1 10 3) + (1 : Int32)) S_30 fun S_38 =>
    some (S_38, ((S_38.1 10 3) - (1 : Int32)))
  else
    some (S, (-1 : Int32))
theorem mvX10_open : MV yX10_open cX10_open 3 (some .int) RX10 2 := ⟨gw4_74, gw4_72, gw4_73, gw1_5, by decide +kernel⟩
def rmX10_open : Room := { frames := 0, cells := 0, slots := 0, locals := 0 }
set_option maxHeartbeats 4000000 in
set_option maxRecDepth 100000 in
theorem m_X10_open (l : Launch) (D : va_G) (cA : FieldType → ClassId) (ad : Nat → Nat) (base : Nat) (fu : Nat) {S S' : St} {x1 : Int32} {x2 : Int32} {r : Int32} (hf : fX10_open fu x1 x2 S = some (S', r)) : Met l yX10_open (GC yX10_open cX10_open 3 (some .int)) rmX10_open (va_Pc [.ref (ad 10), .int x1, .int x2] (wd D cA ad base S)) (QI D cA ad base S' r) 0 0 (aB base) := by
  refine Met.ofW (cc := cX10_open) (maxL := 3) (ret := (some .int)) (by decide) rfl ?_
  intro p e s m args below meth c s₁ B hml hv
  obtain ⟨hargs, hwd⟩ := hv
  have hr := B.returns
  have hlocks := B.notSynchronized
  obtain ⟨C, hw⟩ := CX.of (own := RX10) rfl B hml hwd
  have hx := C.1
  have hb := C.2.1
  have hl := lv_entry ([.ref (ad 10), .int x1, .int x2]) (n := 3) (Nat.le_of_ble_eq_true rfl)
  rw [show entryFrame m args 3 = entryFrame m ([.ref (ad 10), .int x1, .int x2] : List Value).toArray 3 from by rw [hargs], lg_entry_eq]
  generalize (lg_sl ([.ref (ad 10), .int x1, .int x2]) ++ List.replicate (3 - (lg_sl ([.ref (ad 10), .int x1, .int x2])).length) Slot.unset).toArray = ls at hl ⊢
  have hl : lv_has ls 3 [(0, .ref (ad 10)), (1, .int x1), (2, .int x2)] := hl
  show W p l e rmX10_open s m args below meth c s.heap [] 0 0 _ _
  refine lv_aload_n hx hb dX10_open_0 rfl (lv_at hl 0 rfl) ?_
  refine r_getI C hw (k := 3) dq_10 ln_10 rfl vc_10 inX10 (by decide) rfl gw1_96 dX10_open_1 ?_
  refine lv_bipush (v := (12 : Int32)) hx hb dX10_open_4 (by decide) ?_
  refine lv_icmp_lt (tgt := 11) hx hb dX10_open_6 (by decide) (fun c_6 => ?_) (fun c_6 => ?_)
  · have hf := if_t hf c_6
    refine lv_aload_n hx hb dX10_open_11 rfl (lv_at hl 0 rfl) ?_
    refine r_getR C hw (k := 1) (r := 11) dq_10 ln_10 rfl vc_10 inX10 (by decide) rfl gw1_94 dX10_open_12 ?_
    refine lv_aload_n hx hb dX10_open_15 rfl (lv_at hl 0 rfl) ?_
    refine r_getI C hw (k := 3) dq_10 ln_10 rfl vc_10 inX10 (by decide) rfl gw1_96 dX10_open_16 ?_
    refine lv_iload_n hx hb dX10_open_19 rfl (lv_at hl 1 rfl) ?_
    obtain ⟨z_20, hf⟩ := gd_some hf
    obtain ⟨S_20, e_20, hf⟩ := sI_some hf
    refine r_iast C hw (x := 11) dq_11 ln_11 z_20 dX10_open_20 e_20 (fun H locs hw => ?_)
    refine lv_aload_n hx hb dX10_open_21 rfl (lv_at hl 0 rfl) ?_
    refine r_getR C hw (k := 2) (r := 12) dq_10 ln_10 rfl vc_10 inX10 (by decide) rfl gw1_95 dX10_open_22 ?_
    refine lv_aload_n hx hb dX10_open_25 rfl (lv_at hl 0 rfl) ?_
    refine r_getI C hw (k := 3) dq_10 ln_10 rfl vc_10 inX10 (by decide) rfl gw1_96 dX10_open_26 ?_
    refine lv_iload_n hx hb dX10_open_29 rfl (lv_at hl 2 rfl) ?_
    obtain ⟨z_30, hf⟩ := gd_some hf
    obtain ⟨S_30, e_30, hf⟩ := sI_some hf
    refine r_iast C hw (x := 12) dq_12 ln_12 z_30 dX10_open_30 e_30 (fun H locs hw => ?_)
    refine lv_aload_n hx hb dX10_open_31 rfl (lv_at hl 0 rfl) ?_
    refine lv_dup hx hb dX10_open_32 rfl ?_
    refine r_getI C hw (k := 3) dq_10 ln_10 rfl vc_10 inX10 (by decide) rfl gw1_96 dX10_open_33 ?_
    refine lv_iconst (v := (1 : Int32)) hx hb dX10_open_36 (by decide) ?_
    refine lv_iadd hx hb dX10_open_37 ?_
    obtain ⟨S_38, e_38, hf⟩ := sI_some hf
    refine r_putI C hw (k := 3) (ty0 := tyX10) dq_10 ln_10 rfl vc_10 inX10 tyX10_ok nmX10 (by decide) rfl rfl gw1_96 rfl rfl dX10_open_38 e_38 (fun H locs hw => ?_)
    refine lv_aload_n hx hb dX10_open_41 rfl (lv_at hl 0 rfl) ?_
    refine r_getI C hw (k := 3) dq_10 ln_10 rfl vc_10 inX10 (by decide) rfl gw1_96 dX10_open_42 ?_
    refine lv_iconst (v := (1 : Int32)) hx hb dX10_open_45 (by decide) ?_
    refine lv_isub hx hb dX10_open_46 ?_
    exact r_iret C hw hr hlocks hf dX10_open_47
  · have hf := if_f hf c_6
    refine lv_iconst (v := (-1 : Int32)) hx hb dX10_open_9 (by decide) ?_
    exact r_iret C hw hr hlocks hf dX10_open_10
noncomputable def fX10_add (fu : Nat) (x1 : Int32) (x2 : Int32) (x3 : Int32) (x4 : Int32) (x5 : Int32) (S : St) : Option (St × Int32) :=
  if (S.1 10 9) < (150 : Int32) then
    gd (ck (S.1 10 9) 150) <|
    sI 13 ((S.1 10 9)).toNatClampNeg x1 S fun S_20 =>
    gd (ck (S_20.1 10 9) 150) <|
    sI 14 ((S_20.1 10 9)).toNatClampNeg x2 S_20 fun S_30 =>
    gd (ck (S_30.1 10 9) 150) <|
    sI 15 ((S_30.1 10 9)).toNatClampNeg x3 S_30 fun S_40 =>
    gd (ck (S_40.1 10 9) 150) <|
    sI 16 ((S_40.1 10 9)).toNatClampNeg x4 S_40 fun S_51 =>
    gd (ck (S_51.1 10 9) 150) <|
    sI 17 ((S_51.1 10 9)).toNatClampNeg x5 S_51 fun S_62 =>
    sI 10 9 ((S_62.1 10 9) + (1 : Int32)) S_62 fun S_70 =>
    some (S_70, (0 : Int32))
  else
    some (S, (0 : Int32))
theorem mvX10_add : MV yX10_add cX10_add 6 none RX10 5 := ⟨gw4_108, gw4_106, gw4_107, gw1_5, by decide +kernel⟩
def rmX10_add : Room := { frames := 0, cells := 0, slots := 0, locals := 0 }
set_option maxHeartbeats 4000000 in
set_option maxRecDepth 100000 in
theorem m_X10_add (l : Launch) (D : va_G) (cA : FieldType → ClassId) (ad : Nat → Nat) (base : Nat) (fu : Nat) {S S' : St} {x1 : Int32} {x2 : Int32} {x3 : Int32} {x4 : Int32} {x5 : Int32} {r : Int32} (hf : fX10_add fu x1 x2 x3 x4 x5 S = some (S', r)) : Met l yX10_add (GC yX10_add cX10_add 6 none) rmX10_add (va_Pc [.ref (ad 10), .int x1, .int x2, .int x3, .int x4, .int x5] (wd D cA ad base S)) (QV D cA ad base S') 0 0 (aB base) := by
  refine Met.ofW (cc := cX10_add) (maxL := 6) (ret := none) (by decide) rfl ?_
  intro p e s m args below meth c s₁ B hml hv
  obtain ⟨hargs, hwd⟩ := hv
  have hr := B.returns
  have hlocks := B.notSynchronized
  obtain ⟨C, hw⟩ := CX.of (own := RX10) rfl B hml hwd
  have hx := C.1
  have hb := C.2.1
  have hl := lv_entry ([.ref (ad 10), .int x1, .int x2, .int x3, .int x4, .int x5]) (n := 6) (Nat.le_of_ble_eq_true rfl)
  rw [show entryFrame m args 6 = entryFrame m ([.ref (ad 10), .int x1, .int x2, .int x3, .int x4, .int x5] : List Value).toArray 6 from by rw [hargs], lg_entry_eq]
  generalize (lg_sl ([.ref (ad 10), .int x1, .int x2, .int x3, .int x4, .int x5]) ++ List.replicate (6 - (lg_sl ([.ref (ad 10), .int x1, .int x2, .int x3, .int x4, .int x5])).length) Slot.unset).toArray = ls at hl ⊢
  have hl : lv_has ls 6 [(0, .ref (ad 10)), (1, .int x1), (2, .int x2), (3, .int x3), (4, .int x4), (5, .int x5)] := hl
  show W p l e rmX10_add s m args below meth c s.heap [] 0 0 _ _
  refine lv_aload_n hx hb dX10_add_0 rfl (lv_at hl 0 rfl) ?_
  refine r_getI C hw (k := 9) dq_10 ln_10 rfl vc_10 inX10 (by decide) rfl gw1_102 dX10_add_1 ?_
  refine lv_sipush (v := (150 : Int32)) hx hb dX10_add_4 (by decide) ?_
  refine lv_icmp_lt (tgt := 11) hx hb dX10_add_7 (by decide) (fun c_7 => ?_) (fun c_7 => ?_)
  · have hf := if_t hf c_7
    refine lv_aload_n hx hb dX10_add_11 rfl (lv_at hl 0 rfl) ?_
    refine r_getR C hw (k := 4) (r := 13) dq_10 ln_10 rfl vc_10 inX10 (by decide) rfl gw1_97 dX10_add_12 ?_
    refine lv_aload_n hx hb dX10_add_15 rfl (lv_at hl 0 rfl) ?_
    refine r_getI C hw (k := 9) dq_10 ln_10 rfl vc_10 inX10 (by decide) rfl gw1_102 dX10_add_16 ?_
    refine lv_iload_n hx hb dX10_add_19 rfl (lv_at hl 1 rfl) ?_
    obtain ⟨z_20, hf⟩ := gd_some hf
    obtain ⟨S_20, e_20, hf⟩ := sI_some hf
    refine r_iast C hw (x := 13) dq_13 ln_13 z_20 dX10_add_20 e_20 (fun H locs hw => ?_)
    refine lv_aload_n hx hb dX10_add_21 rfl (lv_at hl 0 rfl) ?_
    refine r_getR C hw (k := 5) (r := 14) dq_10 ln_10 rfl vc_10 inX10 (by decide) rfl gw1_98 dX10_add_22 ?_
    refine lv_aload_n hx hb dX10_add_25 rfl (lv_at hl 0 rfl) ?_
    refine r_getI C hw (k := 9) dq_10 ln_10 rfl vc_10 inX10 (by decide) rfl gw1_102 dX10_add_26 ?_
    refine lv_iload_n hx hb dX10_add_29 rfl (lv_at hl 2 rfl) ?_
    obtain ⟨z_30, hf⟩ := gd_some hf
    obtain ⟨S_30, e_30, hf⟩ := sI_some hf
    refine r_iast C hw (x := 14) dq_14 ln_14 z_30 dX10_add_30 e_30 (fun H locs hw => ?_)
    refine lv_aload_n hx hb dX10_add_31 rfl (lv_at hl 0 rfl) ?_
    refine r_getR C hw (k := 6) (r := 15) dq_10 ln_10 rfl vc_10 inX10 (by decide) rfl gw1_99 dX10_add_32 ?_
    refine lv_aload_n hx hb dX10_add_35 rfl (lv_at hl 0 rfl) ?_
    refine r_getI C hw (k := 9) dq_10 ln_10 rfl vc_10 inX10 (by decide) rfl gw1_102 dX10_add_36 ?_
    refine lv_iload_n hx hb dX10_add_39 rfl (lv_at hl 3 rfl) ?_
    obtain ⟨z_40, hf⟩ := gd_some hf
    obtain ⟨S_40, e_40, hf⟩ := sI_some hf
    refine r_iast C hw (x := 15) dq_15 ln_15 z_40 dX10_add_40 e_40 (fun H locs hw => ?_)
    refine lv_aload_n hx hb dX10_add_41 rfl (lv_at hl 0 rfl) ?_
    refine r_getR C hw (k := 7) (r := 16) dq_10 ln_10 rfl vc_10 inX10 (by decide) rfl gw1_100 dX10_add_42 ?_
    refine lv_aload_n hx hb dX10_add_45 rfl (lv_at hl 0 rfl) ?_
    refine r_getI C hw (k := 9) dq_10 ln_10 rfl vc_10 inX10 (by decide) rfl gw1_102 dX10_add_46 ?_
    refine lv_iload hx hb dX10_add_49 (lv_at hl 4 rfl) ?_
    obtain ⟨z_51, hf⟩ := gd_some hf
    obtain ⟨S_51, e_51, hf⟩ := sI_some hf
    refine r_iast C hw (x := 16) dq_16 ln_16 z_51 dX10_add_51 e_51 (fun H locs hw => ?_)
    refine lv_aload_n hx hb dX10_add_52 rfl (lv_at hl 0 rfl) ?_
    refine r_getR C hw (k := 8) (r := 17) dq_10 ln_10 rfl vc_10 inX10 (by decide) rfl gw1_101 dX10_add_53 ?_
    refine lv_aload_n hx hb dX10_add_56 rfl (lv_at hl 0 rfl) ?_
    refine r_getI C hw (k := 9) dq_10 ln_10 rfl vc_10 inX10 (by decide) rfl gw1_102 dX10_add_57 ?_
    refine lv_iload hx hb dX10_add_60 (lv_at hl 5 rfl) ?_
    obtain ⟨z_62, hf⟩ := gd_some hf
    obtain ⟨S_62, e_62, hf⟩ := sI_some hf
    refine r_iast C hw (x := 17) dq_17 ln_17 z_62 dX10_add_62 e_62 (fun H locs hw => ?_)
    refine lv_aload_n hx hb dX10_add_63 rfl (lv_at hl 0 rfl) ?_
    refine lv_dup hx hb dX10_add_64 rfl ?_
    refine r_getI C hw (k := 9) dq_10 ln_10 rfl vc_10 inX10 (by decide) rfl gw1_102 dX10_add_65 ?_
    refine lv_iconst (v := (1 : Int32)) hx hb dX10_add_68 (by decide) ?_
    refine lv_iadd hx hb dX10_add_69 ?_
    obtain ⟨S_70, e_70, hf⟩ := sI_some hf
    refine r_putI C hw (k := 9) (ty0 := tyX10) dq_10 ln_10 rfl vc_10 inX10 tyX10_ok nmX10 (by decide) rfl rfl gw1_102 rfl rfl dX10_add_70 e_70 (fun H locs hw => ?_)
    exact r_vret C hw hr hlocks hf dX10_add_73
  · have hf := if_f hf c_7
    exact r_vret C hw hr hlocks hf dX10_add_10
noncomputable def fX10_recordsOf_25 (fu : Nat) (k_4 : Int32 → Int32 → Int32 → St → Option (St × Int32)) (x1 : Int32) (x2 : Int32) (x3 : Int32) (S : St) : Option (St × Int32) :=
  k_4 x1 x2 (x3 + (1 : Int32)) S
noncomputable def fX10_recordsOf_4 (fu : Nat) (n : Nat) : Int32 → Int32 → Int32 → St → Option (St × Int32) :=
  Nat.rec (motive := fun _ => Int32 → Int32 → Int32 → St → Option (St × Int32)) (fun _ _ _ _ => none) (fun _ k_4 x1 x2 x3 S =>
    if (S.1 10 9) ≤ x3 then
      some (S, x2)
    else
      gd (ck x3 150) <|
      if (S.1 13 (x3).toNatClampNeg) = x1 then
        fX10_recordsOf_25 fu k_4 x1 (x2 + (1 : Int32)) x3 S
      else
        fX10_recordsOf_25 fu k_4 x1 x2 x3 S) n
theorem fX10_recordsOf_4_s (fu : Nat) (n : Nat) (x1 : Int32) (x2 : Int32) (x3 : Int32) (S : St) : fX10_recordsOf_4 fu (n + 1) x1 x2 x3 S = (
    if (S.1 10 9) ≤ x3 then
      some (S, x2)
    else
      gd (ck x3 150) <|
      if (S.1 13 (x3).toNatClampNeg) = x1 then
        fX10_recordsOf_25 fu (fX10_recordsOf_4 fu n) x1 (x2 + (1 : Int32)) x3 S
      else
        fX10_recordsOf_25 fu (fX10_recordsOf_4 fu n) x1 x2 x3 S) := rfl
noncomputable def fX10_recordsOf (fu : Nat) (x1 : Int32) (S : St) : Option (St × Int32) :=
  fX10_recordsOf_4 fu fu x1 (0 : Int32) (0 : Int32) S
theorem mvX10_recordsOf : MV yX10_recordsOf cX10_recordsOf 4 (some .int) RX10 1 := ⟨gw4_112, gw4_110, gw4_111, gw1_5, by decide +kernel⟩
def rmX10_recordsOf : Room := { frames := 0, cells := 0, slots := 0, locals := 0 }
set_option maxHeartbeats 4000000 in
set_option maxRecDepth 100000 in
theorem m_X10_recordsOf (l : Launch) (D : va_G) (cA : FieldType → ClassId) (ad : Nat → Nat) (base : Nat) (fu : Nat) {S S' : St} {x1 : Int32} {r : Int32} (hf : fX10_recordsOf fu x1 S = some (S', r)) : Met l yX10_recordsOf (GC yX10_recordsOf cX10_recordsOf 4 (some .int)) rmX10_recordsOf (va_Pc [.ref (ad 10), .int x1] (wd D cA ad base S)) (QI D cA ad base S' r) 0 0 (aB base) := by
  refine Met.ofW (cc := cX10_recordsOf) (maxL := 4) (ret := (some .int)) (by decide) rfl ?_
  intro p e s m args below meth c s₁ B hml hv
  obtain ⟨hargs, hwd⟩ := hv
  have hr := B.returns
  have hlocks := B.notSynchronized
  obtain ⟨C, hw⟩ := CX.of (own := RX10) rfl B hml hwd
  have hx := C.1
  have hb := C.2.1
  have hl := lv_entry ([.ref (ad 10), .int x1]) (n := 4) (Nat.le_of_ble_eq_true rfl)
  rw [show entryFrame m args 4 = entryFrame m ([.ref (ad 10), .int x1] : List Value).toArray 4 from by rw [hargs], lg_entry_eq]
  generalize (lg_sl ([.ref (ad 10), .int x1]) ++ List.replicate (4 - (lg_sl ([.ref (ad 10), .int x1])).length) Slot.unset).toArray = ls at hl ⊢
  have hl : lv_has ls 4 [(0, .ref (ad 10)), (1, .int x1)] := hl
  have L_4 : ∀ (n_4 : Nat) (x1 : Int32) (x2 : Int32) (x3 : Int32) (S : St) (H : Heap) (locs : List Loc) (ls : Array Slot), fX10_recordsOf_4 fu n_4 x1 x2 x3 S = some (S', r) → lv_has ls 4 [(0, .ref (ad 10)), (1, .int x1), (2, .int x2), (3, .int x3)] → WS D cA ad base s S H locs → W p l e rmX10_recordsOf s m args below meth c H locs 0 0 (MQ below (QI D cA ad base S' r) args s 0 0 (aB base)) (F0 m 4 ls []) := by
    intro n_4
    induction n_4 with
    | zero =>
      intro x1 x2 x3 S H locs ls hf hl hw
      exact (no_none hf).elim
    | succ n_4 ih_4 =>
      have J_25 : ∀ (x1 : Int32) (x2 : Int32) (x3 : Int32) (S : St) (H : Heap) (locs : List Loc) (ls : Array Slot), fX10_recordsOf_25 fu (fX10_recordsOf_4 fu n_4) x1 x2 x3 S = some (S', r) → lv_has ls 4 [(0, .ref (ad 10)), (1, .int x1), (2, .int x2), (3, .int x3)] → WS D cA ad base s S H locs → W p l e rmX10_recordsOf s m args below meth c H locs 0 0 (MQ below (QI D cA ad base S' r) args s 0 0 (aB base)) (F0 m 25 ls []) := by
        intro x1 x2 x3 S H locs ls hf hl hw
        refine lv_iinc (v := (x3 + (1 : Int32))) (lv' := [(3, .int (x3 + (1 : Int32))), (0, .ref (ad 10)), (1, .int x1), (2, .int x2)]) hx hb dX10_recordsOf_25 hl (k := 3) rfl rfl (by decide) rfl (fun ls hl => ?_)
        refine lv_goto (tgt := 4) hx hb dX10_recordsOf_28 (by decide) ?_
        exact ih_4 _ _ _ _ _ _ _ hf (lv_sub hl [1, 2, 3, 0] rfl) hw
      intro x1 x2 x3 S H locs ls hf hl hw
      rw [fX10_recordsOf_4_s] at hf
      refine lv_iload_n hx hb dX10_recordsOf_4 rfl (lv_at hl 3 rfl) ?_
      refine lv_aload_n hx hb dX10_recordsOf_5 rfl (lv_at hl 0 rfl) ?_
      refine r_getI C hw (k := 9) dq_10 ln_10 rfl vc_10 inX10 (by decide) rfl gw1_102 dX10_recordsOf_6 ?_
      refine lv_icmp_ge (tgt := 31) hx hb dX10_recordsOf_9 (by decide) (fun c_9 => ?_) (fun c_9 => ?_)
      · have hf := if_t hf c_9
        refine lv_iload_n hx hb dX10_recordsOf_31 rfl (lv_at hl 2 rfl) ?_
        exact r_iret C hw hr hlocks hf dX10_recordsOf_32
      · have hf := if_f hf c_9
        refine lv_aload_n hx hb dX10_recordsOf_12 rfl (lv_at hl 0 rfl) ?_
        refine r_getR C hw (k := 4) (r := 13) dq_10 ln_10 rfl vc_10 inX10 (by decide) rfl gw1_97 dX10_recordsOf_13 ?_
        refine lv_iload_n hx hb dX10_recordsOf_16 rfl (lv_at hl 3 rfl) ?_
        obtain ⟨z_17, hf⟩ := gd_some hf
        refine r_iald C hw (x := 13) dq_13 ln_13 z_17 dX10_recordsOf_17 ?_
        refine lv_iload_n hx hb dX10_recordsOf_18 rfl (lv_at hl 1 rfl) ?_
        refine lv_icmp_ne (tgt := 25) hx hb dX10_recordsOf_19 (by decide) (fun c_19 => ?_) (fun c_19 => ?_)
        · have hf := if_f hf c_19
          exact J_25 _ _ _ _ _ _ _ hf (lv_sub hl [0, 1, 2, 3] rfl) hw
        · have hf := if_t hf c_19
          refine lv_iinc (v := (x2 + (1 : Int32))) (lv' := [(2, .int (x2 + (1 : Int32))), (0, .ref (ad 10)), (1, .int x1), (3, .int x3)]) hx hb dX10_recordsOf_22 hl (k := 2) rfl rfl (by decide) rfl (fun ls hl => ?_)
          exact J_25 _ _ _ _ _ _ _ hf (lv_sub hl [1, 2, 0, 3] rfl) hw
  show W p l e rmX10_recordsOf s m args below meth c s.heap [] 0 0 _ _
  refine lv_iconst (v := (0 : Int32)) hx hb dX10_recordsOf_0 (by decide) ?_
  refine lv_istore_n (lv' := [(2, .int (0 : Int32)), (0, .ref (ad 10)), (1, .int x1)]) hx hb dX10_recordsOf_1 rfl hl (by decide) rfl (fun ls hl => ?_)
  refine lv_iconst (v := (0 : Int32)) hx hb dX10_recordsOf_2 (by decide) ?_
  refine lv_istore_n (lv' := [(3, .int (0 : Int32)), (2, .int (0 : Int32)), (0, .ref (ad 10)), (1, .int x1)]) hx hb dX10_recordsOf_3 rfl hl (by decide) rfl (fun ls hl => ?_)
  exact L_4 fu _ _ _ _ _ _ _ hf (lv_sub hl [2, 3, 1, 0] rfl) hw
noncomputable def fX10_isOf (fu : Nat) (x1 : Int32) (x2 : Int32) (x3 : Int32) (x4 : Int32) (S : St) : Option (St × Int32) :=
  gd (ck x1 150) <|
  if (S.1 13 (x1).toNatClampNeg) = x2 then
    gd (ck x1 150) <|
    if (S.1 14 (x1).toNatClampNeg) = x3 then
      gd (ck x1 150) <|
      if (S.1 15 (x1).toNatClampNeg) = x4 then
        some (S, (1 : Int32))
      else
        some (S, (0 : Int32))
    else
      some (S, (0 : Int32))
  else
    some (S, (0 : Int32))
theorem mvX10_isOf : MV yX10_isOf cX10_isOf 5 (some .boolean) RX10 4 := ⟨gw4_127, gw4_126, gs_11, gw1_5, by decide +kernel⟩
def rmX10_isOf : Room := { frames := 0, cells := 0, slots := 0, locals := 0 }
set_option maxHeartbeats 4000000 in
set_option maxRecDepth 100000 in
theorem m_X10_isOf (l : Launch) (D : va_G) (cA : FieldType → ClassId) (ad : Nat → Nat) (base : Nat) (fu : Nat) {S S' : St} {x1 : Int32} {x2 : Int32} {x3 : Int32} {x4 : Int32} {r : Int32} (hf : fX10_isOf fu x1 x2 x3 x4 S = some (S', r)) : Met l yX10_isOf (GC yX10_isOf cX10_isOf 5 (some .boolean)) rmX10_isOf (va_Pc [.ref (ad 10), .int x1, .int x2, .int x3, .int x4] (wd D cA ad base S)) (QI D cA ad base S' r) 0 0 (aB base) := by
  refine Met.ofW (cc := cX10_isOf) (maxL := 5) (ret := (some .boolean)) (by decide) rfl ?_
  intro p e s m args below meth c s₁ B hml hv
  obtain ⟨hargs, hwd⟩ := hv
  have hr := B.returns
  have hlocks := B.notSynchronized
  obtain ⟨C, hw⟩ := CX.of (own := RX10) rfl B hml hwd
  have hx := C.1
  have hb := C.2.1
  have hl := lv_entry ([.ref (ad 10), .int x1, .int x2, .int x3, .int x4]) (n := 5) (Nat.le_of_ble_eq_true rfl)
  rw [show entryFrame m args 5 = entryFrame m ([.ref (ad 10), .int x1, .int x2, .int x3, .int x4] : List Value).toArray 5 from by rw [hargs], lg_entry_eq]
  generalize (lg_sl ([.ref (ad 10), .int x1, .int x2, .int x3, .int x4]) ++ List.replicate (5 - (lg_sl ([.ref (ad 10), .int x1, .int x2, .int x3, .int x4])).length) Slot.unset).toArray = ls at hl ⊢
  have hl : lv_has ls 5 [(0, .ref (ad 10)), (1, .int x1), (2, .int x2), (3, .int x3), (4, .int x4)] := hl
  show W p l e rmX10_isOf s m args below meth c s.heap [] 0 0 _ _
  refine lv_aload_n hx hb dX10_isOf_0 rfl (lv_at hl 0 rfl) ?_
  refine r_getR C hw (k := 4) (r := 13) dq_10 ln_10 rfl vc_10 inX10 (by decide) rfl gw1_97 dX10_isOf_1 ?_
  refine lv_iload_n hx hb dX10_isOf_4 rfl (lv_at hl 1 rfl) ?_
  obtain ⟨z_5, hf⟩ := gd_some hf
  refine r_iald C hw (x := 13) dq_13 ln_13 z_5 dX10_isOf_5 ?_
  refine lv_iload_n hx hb dX10_isOf_6 rfl (lv_at hl 2 rfl) ?_
  refine lv_icmp_ne (tgt := 35) hx hb dX10_isOf_7 (by decide) (fun c_7 => ?_) (fun c_7 => ?_)
  · have hf := if_f hf c_7
    refine lv_iconst (v := (0 : Int32)) hx hb dX10_isOf_35 (by decide) ?_
    exact r_zret C hw hr hlocks rfl hf dX10_isOf_36
  · have hf := if_t hf c_7
    refine lv_aload_n hx hb dX10_isOf_10 rfl (lv_at hl 0 rfl) ?_
    refine r_getR C hw (k := 5) (r := 14) dq_10 ln_10 rfl vc_10 inX10 (by decide) rfl gw1_98 dX10_isOf_11 ?_
    refine lv_iload_n hx hb dX10_isOf_14 rfl (lv_at hl 1 rfl) ?_
    obtain ⟨z_15, hf⟩ := gd_some hf
    refine r_iald C hw (x := 14) dq_14 ln_14 z_15 dX10_isOf_15 ?_
    refine lv_iload_n hx hb dX10_isOf_16 rfl (lv_at hl 3 rfl) ?_
    refine lv_icmp_ne (tgt := 35) hx hb dX10_isOf_17 (by decide) (fun c_17 => ?_) (fun c_17 => ?_)
    · have hf := if_f hf c_17
      refine lv_iconst (v := (0 : Int32)) hx hb dX10_isOf_35 (by decide) ?_
      exact r_zret C hw hr hlocks rfl hf dX10_isOf_36
    · have hf := if_t hf c_17
      refine lv_aload_n hx hb dX10_isOf_20 rfl (lv_at hl 0 rfl) ?_
      refine r_getR C hw (k := 6) (r := 15) dq_10 ln_10 rfl vc_10 inX10 (by decide) rfl gw1_99 dX10_isOf_21 ?_
      refine lv_iload_n hx hb dX10_isOf_24 rfl (lv_at hl 1 rfl) ?_
      obtain ⟨z_25, hf⟩ := gd_some hf
      refine r_iald C hw (x := 15) dq_15 ln_15 z_25 dX10_isOf_25 ?_
      refine lv_iload hx hb dX10_isOf_26 (lv_at hl 4 rfl) ?_
      refine lv_icmp_ne (tgt := 35) hx hb dX10_isOf_28 (by decide) (fun c_28 => ?_) (fun c_28 => ?_)
      · have hf := if_f hf c_28
        refine lv_iconst (v := (0 : Int32)) hx hb dX10_isOf_35 (by decide) ?_
        exact r_zret C hw hr hlocks rfl hf dX10_isOf_36
      · have hf := if_t hf c_28
        refine lv_iconst (v := (1 : Int32)) hx hb dX10_isOf_31 (by decide) ?_
        refine lv_goto (tgt := 36) hx hb dX10_isOf_32 (by decide) ?_
        exact r_zret C hw hr hlocks rfl hf dX10_isOf_36
noncomputable def fX10_remove_104 (fu : Nat) (k_12 : Int32 → Int32 → Int32 → Int32 → Int32 → Int32 → St → Option (St × Int32)) (x1 : Int32) (x2 : Int32) (x3 : Int32) (x4 : Int32) (x5 : Int32) (x6 : Int32) (S : St) : Option (St × Int32) :=
  k_12 x1 x2 x3 x4 x5 (x6 + (1 : Int32)) S
noncomputable def fX10_remove_12 (fu : Nat) (n : Nat) : Int32 → Int32 → Int32 → Int32 → Int32 → Int32 → St → Option (St × Int32) :=
  Nat.rec (motive := fun _ => Int32 → Int32 → Int32 → Int32 → Int32 → Int32 → St → Option (St × Int32)) (fun _ _ _ _ _ _ _ => none) (fun _ k_12 x1 x2 x3 x4 x5 x6 S =>
    if x4 ≤ x6 then
      sI 10 9 x5 S fun S_113 =>
      some (S_113, (x4 - x5))
    else
      bd (fX10_isOf fu x6 x1 x2 x3 S) fun S_25 r_25 =>
      if r_25 = 0 then
        gd (ck x6 150) <|
        gd (ck x5 150) <|
        sI 13 (x5).toNatClampNeg (S_25.1 13 (x6).toNatClampNeg) S_25 fun S_44 =>
        gd (ck x6 150) <|
        gd (ck x5 150) <|
        sI 14 (x5).toNatClampNeg (S_44.1 14 (x6).toNatClampNeg) S_44 fun S_58 =>
        gd (ck x6 150) <|
        gd (ck x5 150) <|
        sI 15 (x5).toNatClampNeg (S_58.1 15 (x6).toNatClampNeg) S_58 fun S_72 =>
        gd (ck x6 150) <|
        gd (ck x5 150) <|
        sI 16 (x5).toNatClampNeg (S_72.1 16 (x6).toNatClampNeg) S_72 fun S_86 =>
        gd (ck x6 150) <|
        gd (ck x5 150) <|
        sI 17 (x5).toNatClampNeg (S_86.1 17 (x6).toNatClampNeg) S_86 fun S_100 =>
        fX10_remove_104 fu k_12 x1 x2 x3 x4 (x5 + (1 : Int32)) x6 S_100
      else
        fX10_remove_104 fu k_12 x1 x2 x3 x4 x5 x6 S_25) n
theorem fX10_remove_12_s (fu : Nat) (n : Nat) (x1 : Int32) (x2 : Int32) (x3 : Int32) (x4 : Int32) (x5 : Int32) (x6 : Int32) (S : St) : fX10_remove_12 fu (n + 1) x1 x2 x3 x4 x5 x6 S = (
    if x4 ≤ x6 then
      sI 10 9 x5 S fun S_113 =>
      some (S_113, (x4 - x5))
    else
      bd (fX10_isOf fu x6 x1 x2 x3 S) fun S_25 r_25 =>
      if r_25 = 0 then
        gd (ck x6 150) <|
        gd (ck x5 150) <|
        sI 13 (x5).toNatClampNeg (S_25.1 13 (x6).toNatClampNeg) S_25 fun S_44 =>
        gd (ck x6 150) <|
        gd (ck x5 150) <|
        sI 14 (x5).toNatClampNeg (S_44.1 14 (x6).toNatClampNeg) S_44 fun S_58 =>
        gd (ck x6 150) <|
        gd (ck x5 150) <|
        sI 15 (x5).toNatClampNeg (S_58.1 15 (x6).toNatClampNeg) S_58 fun S_72 =>
        gd (ck x6 150) <|
        gd (ck x5 150) <|
        sI 16 (x5).toNatClampNeg (S_72.1 16 (x6).toNatClampNeg) S_72 fun S_86 =>
        gd (ck x6 150) <|
        gd (ck x5 150) <|
        sI 17 (x5).toNatClampNeg (S_86.1 17 (x6).toNatClampNeg) S_86 fun S_100 =>
        fX10_remove_104 fu (fX10_remove_12 fu n) x1 x2 x3 x4 (x5 + (1 : Int32)) x6 S_100
      else
        fX10_remove_104 fu (fX10_remove_12 fu n) x1 x2 x3 x4 x5 x6 S_25) := rfl
noncomputable def fX10_remove (fu : Nat) (x1 : Int32) (x2 : Int32) (x3 : Int32) (S : St) : Option (St × Int32) :=
  fX10_remove_12 fu fu x1 x2 x3 (S.1 10 9) (0 : Int32) (0 : Int32) S
theorem mvX10_remove : MV yX10_remove cX10_remove 7 (some .int) RX10 3 := ⟨gw4_123, gw4_121, gw4_122, gw1_5, by decide +kernel⟩
def rmX10_remove : Room := { frames := 1, cells := 0, slots := 0, locals := 24 }
set_option maxHeartbeats 4000000 in
set_option maxRecDepth 100000 in
theorem m_X10_remove (l : Launch) (D : va_G) (cA : FieldType → ClassId) (ad : Nat → Nat) (base : Nat) (fu : Nat) {S S' : St} {x1 : Int32} {x2 : Int32} {x3 : Int32} {r : Int32} (hf : fX10_remove fu x1 x2 x3 S = some (S', r)) : Met l yX10_remove (GC yX10_remove cX10_remove 7 (some .int)) rmX10_remove (va_Pc [.ref (ad 10), .int x1, .int x2, .int x3] (wd D cA ad base S)) (QI D cA ad base S' r) 0 0 (aB base) := by
  refine Met.ofW (cc := cX10_remove) (maxL := 7) (ret := (some .int)) (by decide) rfl ?_
  intro p e s m args below meth c s₁ B hml hv
  obtain ⟨hargs, hwd⟩ := hv
  have hr := B.returns
  have hlocks := B.notSynchronized
  obtain ⟨C, hw⟩ := CX.of (own := RX10) rfl B hml hwd
  have hx := C.1
  have hb := C.2.1
  have hl := lv_entry ([.ref (ad 10), .int x1, .int x2, .int x3]) (n := 7) (Nat.le_of_ble_eq_true rfl)
  rw [show entryFrame m args 7 = entryFrame m ([.ref (ad 10), .int x1, .int x2, .int x3] : List Value).toArray 7 from by rw [hargs], lg_entry_eq]
  generalize (lg_sl ([.ref (ad 10), .int x1, .int x2, .int x3]) ++ List.replicate (7 - (lg_sl ([.ref (ad 10), .int x1, .int x2, .int x3])).length) Slot.unset).toArray = ls at hl ⊢
  have hl : lv_has ls 7 [(0, .ref (ad 10)), (1, .int x1), (2, .int x2), (3, .int x3)] := hl
  have L_12 : ∀ (n_12 : Nat) (x1 : Int32) (x2 : Int32) (x3 : Int32) (x4 : Int32) (x5 : Int32) (x6 : Int32) (S : St) (H : Heap) (locs : List Loc) (ls : Array Slot), fX10_remove_12 fu n_12 x1 x2 x3 x4 x5 x6 S = some (S', r) → lv_has ls 7 [(0, .ref (ad 10)), (1, .int x1), (2, .int x2), (3, .int x3), (4, .int x4), (5, .int x5), (6, .int x6)] → WS D cA ad base s S H locs → W p l e rmX10_remove s m args below meth c H locs 0 0 (MQ below (QI D cA ad base S' r) args s 0 0 (aB base)) (F0 m 12 ls []) := by
    intro n_12
    induction n_12 with
    | zero =>
      intro x1 x2 x3 x4 x5 x6 S H locs ls hf hl hw
      exact (no_none hf).elim
    | succ n_12 ih_12 =>
      have J_104 : ∀ (x1 : Int32) (x2 : Int32) (x3 : Int32) (x4 : Int32) (x5 : Int32) (x6 : Int32) (S : St) (H : Heap) (locs : List Loc) (ls : Array Slot), fX10_remove_104 fu (fX10_remove_12 fu n_12) x1 x2 x3 x4 x5 x6 S = some (S', r) → lv_has ls 7 [(0, .ref (ad 10)), (1, .int x1), (2, .int x2), (3, .int x3), (4, .int x4), (5, .int x5), (6, .int x6)] → WS D cA ad base s S H locs → W p l e rmX10_remove s m args below meth c H locs 0 0 (MQ below (QI D cA ad base S' r) args s 0 0 (aB base)) (F0 m 104 ls []) := by
        intro x1 x2 x3 x4 x5 x6 S H locs ls hf hl hw
        refine lv_iinc (v := (x6 + (1 : Int32))) (lv' := [(6, .int (x6 + (1 : Int32))), (0, .ref (ad 10)), (1, .int x1), (2, .int x2), (3, .int x3), (4, .int x4), (5, .int x5)]) hx hb dX10_remove_104 hl (k := 6) rfl rfl (by decide) rfl (fun ls hl => ?_)
        refine lv_goto (tgt := 12) hx hb dX10_remove_107 (by decide) ?_
        exact ih_12 _ _ _ _ _ _ _ _ _ _ hf (lv_sub hl [1, 2, 3, 4, 5, 6, 0] rfl) hw
      intro x1 x2 x3 x4 x5 x6 S H locs ls hf hl hw
      rw [fX10_remove_12_s] at hf
      refine lv_iload hx hb dX10_remove_12 (lv_at hl 6 rfl) ?_
      refine lv_iload hx hb dX10_remove_14 (lv_at hl 4 rfl) ?_
      refine lv_icmp_ge (tgt := 110) hx hb dX10_remove_16 (by decide) (fun c_16 => ?_) (fun c_16 => ?_)
      · have hf := if_t hf c_16
        refine lv_aload_n hx hb dX10_remove_110 rfl (lv_at hl 0 rfl) ?_
        refine lv_iload hx hb dX10_remove_111 (lv_at hl 5 rfl) ?_
        obtain ⟨S_113, e_113, hf⟩ := sI_some hf
        refine r_putI C hw (k := 9) (ty0 := tyX10) dq_10 ln_10 rfl vc_10 inX10 tyX10_ok nmX10 (by decide) rfl rfl gw1_102 rfl rfl dX10_remove_113 e_113 (fun H locs hw => ?_)
        refine lv_iload hx hb dX10_remove_116 (lv_at hl 4 rfl) ?_
        refine lv_iload hx hb dX10_remove_118 (lv_at hl 5 rfl) ?_
        refine lv_isub hx hb dX10_remove_120 ?_
        exact r_iret C hw hr hlocks hf dX10_remove_121
      · have hf := if_f hf c_16
        refine lv_aload_n hx hb dX10_remove_19 rfl (lv_at hl 0 rfl) ?_
        refine lv_iload hx hb dX10_remove_20 (lv_at hl 6 rfl) ?_
        refine lv_iload_n hx hb dX10_remove_22 rfl (lv_at hl 1 rfl) ?_
        refine lv_iload_n hx hb dX10_remove_23 rfl (lv_at hl 2 rfl) ?_
        refine lv_iload_n hx hb dX10_remove_24 rfl (lv_at hl 3 rfl) ?_
        obtain ⟨S_25, r_25, h_25, hf⟩ := bd_some hf
        refine r_bi hw (r_runV (rest := []) C hw (m_X10_isOf l D cA ad base fu h_25) mvX10_isOf gw4_124 ⟨rfl, rfl, Nat.le_of_ble_eq_true rfl, Nat.le_of_ble_eq_true rfl⟩ dq_10 ln_10 vc_10 rfl hl.1 rfl (Nat.le_of_ble_eq_true rfl) dX10_remove_25 (Nat.zero_le _) (Nat.zero_le _)) (fun H locs hw => ?_)
        refine lv_if_ne (tgt := 104) hx hb dX10_remove_28 (by decide) (fun c_28 => ?_) (fun c_28 => ?_)
        · have hf := if_f hf c_28
          exact J_104 _ _ _ _ _ _ _ _ _ _ hf (lv_sub hl [0, 1, 2, 3, 4, 5, 6] rfl) hw
        · have hf := if_t hf c_28
          refine lv_aload_n hx hb dX10_remove_31 rfl (lv_at hl 0 rfl) ?_
          refine r_getR C hw (k := 4) (r := 13) dq_10 ln_10 rfl vc_10 inX10 (by decide) rfl gw1_97 dX10_remove_32 ?_
          refine lv_iload hx hb dX10_remove_35 (lv_at hl 5 rfl) ?_
          refine lv_aload_n hx hb dX10_remove_37 rfl (lv_at hl 0 rfl) ?_
          refine r_getR C hw (k := 4) (r := 13) dq_10 ln_10 rfl vc_10 inX10 (by decide) rfl gw1_97 dX10_remove_38 ?_
          refine lv_iload hx hb dX10_remove_41 (lv_at hl 6 rfl) ?_
          obtain ⟨z_43, hf⟩ := gd_some hf
          refine r_iald C hw (x := 13) dq_13 ln_13 z_43 dX10_remove_43 ?_
          obtain ⟨z_44, hf⟩ := gd_some hf
          obtain ⟨S_44, e_44, hf⟩ := sI_some hf
          refine r_iast C hw (x := 13) dq_13 ln_13 z_44 dX10_remove_44 e_44 (fun H locs hw => ?_)
          refine lv_aload_n hx hb dX10_remove_45 rfl (lv_at hl 0 rfl) ?_
          refine r_getR C hw (k := 5) (r := 14) dq_10 ln_10 rfl vc_10 inX10 (by decide) rfl gw1_98 dX10_remove_46 ?_
          refine lv_iload hx hb dX10_remove_49 (lv_at hl 5 rfl) ?_
          refine lv_aload_n hx hb dX10_remove_51 rfl (lv_at hl 0 rfl) ?_
          refine r_getR C hw (k := 5) (r := 14) dq_10 ln_10 rfl vc_10 inX10 (by decide) rfl gw1_98 dX10_remove_52 ?_
          refine lv_iload hx hb dX10_remove_55 (lv_at hl 6 rfl) ?_
          obtain ⟨z_57, hf⟩ := gd_some hf
          refine r_iald C hw (x := 14) dq_14 ln_14 z_57 dX10_remove_57 ?_
          obtain ⟨z_58, hf⟩ := gd_some hf
          obtain ⟨S_58, e_58, hf⟩ := sI_some hf
          refine r_iast C hw (x := 14) dq_14 ln_14 z_58 dX10_remove_58 e_58 (fun H locs hw => ?_)
          refine lv_aload_n hx hb dX10_remove_59 rfl (lv_at hl 0 rfl) ?_
          refine r_getR C hw (k := 6) (r := 15) dq_10 ln_10 rfl vc_10 inX10 (by decide) rfl gw1_99 dX10_remove_60 ?_
          refine lv_iload hx hb dX10_remove_63 (lv_at hl 5 rfl) ?_
          refine lv_aload_n hx hb dX10_remove_65 rfl (lv_at hl 0 rfl) ?_
          refine r_getR C hw (k := 6) (r := 15) dq_10 ln_10 rfl vc_10 inX10 (by decide) rfl gw1_99 dX10_remove_66 ?_
          refine lv_iload hx hb dX10_remove_69 (lv_at hl 6 rfl) ?_
          obtain ⟨z_71, hf⟩ := gd_some hf
          refine r_iald C hw (x := 15) dq_15 ln_15 z_71 dX10_remove_71 ?_
          obtain ⟨z_72, hf⟩ := gd_some hf
          obtain ⟨S_72, e_72, hf⟩ := sI_some hf
          refine r_iast C hw (x := 15) dq_15 ln_15 z_72 dX10_remove_72 e_72 (fun H locs hw => ?_)
          refine lv_aload_n hx hb dX10_remove_73 rfl (lv_at hl 0 rfl) ?_
          refine r_getR C hw (k := 7) (r := 16) dq_10 ln_10 rfl vc_10 inX10 (by decide) rfl gw1_100 dX10_remove_74 ?_
          refine lv_iload hx hb dX10_remove_77 (lv_at hl 5 rfl) ?_
          refine lv_aload_n hx hb dX10_remove_79 rfl (lv_at hl 0 rfl) ?_
          refine r_getR C hw (k := 7) (r := 16) dq_10 ln_10 rfl vc_10 inX10 (by decide) rfl gw1_100 dX10_remove_80 ?_
          refine lv_iload hx hb dX10_remove_83 (lv_at hl 6 rfl) ?_
          obtain ⟨z_85, hf⟩ := gd_some hf
          refine r_iald C hw (x := 16) dq_16 ln_16 z_85 dX10_remove_85 ?_
          obtain ⟨z_86, hf⟩ := gd_some hf
          obtain ⟨S_86, e_86, hf⟩ := sI_some hf
          refine r_iast C hw (x := 16) dq_16 ln_16 z_86 dX10_remove_86 e_86 (fun H locs hw => ?_)
          refine lv_aload_n hx hb dX10_remove_87 rfl (lv_at hl 0 rfl) ?_
          refine r_getR C hw (k := 8) (r := 17) dq_10 ln_10 rfl vc_10 inX10 (by decide) rfl gw1_101 dX10_remove_88 ?_
          refine lv_iload hx hb dX10_remove_91 (lv_at hl 5 rfl) ?_
          refine lv_aload_n hx hb dX10_remove_93 rfl (lv_at hl 0 rfl) ?_
          refine r_getR C hw (k := 8) (r := 17) dq_10 ln_10 rfl vc_10 inX10 (by decide) rfl gw1_101 dX10_remove_94 ?_
          refine lv_iload hx hb dX10_remove_97 (lv_at hl 6 rfl) ?_
          obtain ⟨z_99, hf⟩ := gd_some hf
          refine r_iald C hw (x := 17) dq_17 ln_17 z_99 dX10_remove_99 ?_
          obtain ⟨z_100, hf⟩ := gd_some hf
          obtain ⟨S_100, e_100, hf⟩ := sI_some hf
          refine r_iast C hw (x := 17) dq_17 ln_17 z_100 dX10_remove_100 e_100 (fun H locs hw => ?_)
          refine lv_iinc (v := (x5 + (1 : Int32))) (lv' := [(5, .int (x5 + (1 : Int32))), (0, .ref (ad 10)), (1, .int x1), (2, .int x2), (3, .int x3), (4, .int x4), (6, .int x6)]) hx hb dX10_remove_101 hl (k := 5) rfl rfl (by decide) rfl (fun ls hl => ?_)
          exact J_104 _ _ _ _ _ _ _ _ _ _ hf (lv_sub hl [1, 2, 3, 4, 5, 0, 6] rfl) hw
  show W p l e rmX10_remove s m args below meth c s.heap [] 0 0 _ _
  refine lv_aload_n hx hb dX10_remove_0 rfl (lv_at hl 0 rfl) ?_
  refine r_getI C hw (k := 9) dq_10 ln_10 rfl vc_10 inX10 (by decide) rfl gw1_102 dX10_remove_1 ?_
  refine lv_istore (lv' := [(4, .int (S.1 10 9)), (0, .ref (ad 10)), (1, .int x1), (2, .int x2), (3, .int x3)]) hx hb dX10_remove_4 hl (by decide) rfl (fun ls hl => ?_)
  refine lv_iconst (v := (0 : Int32)) hx hb dX10_remove_6 (by decide) ?_
  refine lv_istore (lv' := [(5, .int (0 : Int32)), (4, .int (S.1 10 9)), (0, .ref (ad 10)), (1, .int x1), (2, .int x2), (3, .int x3)]) hx hb dX10_remove_7 hl (by decide) rfl (fun ls hl => ?_)
  refine lv_iconst (v := (0 : Int32)) hx hb dX10_remove_9 (by decide) ?_
  refine lv_istore (lv' := [(6, .int (0 : Int32)), (5, .int (0 : Int32)), (4, .int (S.1 10 9)), (0, .ref (ad 10)), (1, .int x1), (2, .int x2), (3, .int x3)]) hx hb dX10_remove_10 hl (by decide) rfl (fun ls hl => ?_)
  exact L_12 fu _ _ _ _ _ _ _ _ _ _ hf (lv_sub hl [3, 4, 5, 6, 2, 1, 0] rfl) hw
noncomputable def fX10_owns_3 (fu : Nat) (n : Nat) : Int32 → Int32 → Int32 → Int32 → St → Option (St × Int32) :=
  Nat.rec (motive := fun _ => Int32 → Int32 → Int32 → Int32 → St → Option (St × Int32)) (fun _ _ _ _ _ => none) (fun _ k_3 x1 x2 x3 x4 S =>
    if (S.1 10 9) ≤ x4 then
      some (S, (0 : Int32))
    else
      bd (fX10_isOf fu x4 x1 x2 x3 S) fun S_18 r_18 =>
      if r_18 = 0 then
        k_3 x1 x2 x3 (x4 + (1 : Int32)) S_18
      else
        some (S_18, (1 : Int32))) n
theorem fX10_owns_3_s (fu : Nat) (n : Nat) (x1 : Int32) (x2 : Int32) (x3 : Int32) (x4 : Int32) (S : St) : fX10_owns_3 fu (n + 1) x1 x2 x3 x4 S = (
    if (S.1 10 9) ≤ x4 then
      some (S, (0 : Int32))
    else
      bd (fX10_isOf fu x4 x1 x2 x3 S) fun S_18 r_18 =>
      if r_18 = 0 then
        (fX10_owns_3 fu n) x1 x2 x3 (x4 + (1 : Int32)) S_18
      else
        some (S_18, (1 : Int32))) := rfl
noncomputable def fX10_owns (fu : Nat) (x1 : Int32) (x2 : Int32) (x3 : Int32) (S : St) : Option (St × Int32) :=
  fX10_owns_3 fu fu x1 x2 x3 (0 : Int32) S
theorem mvX10_owns : MV yX10_owns cX10_owns 5 (some .boolean) RX10 3 := ⟨gw4_220, gw4_219, gs_16, gw1_5, by decide +kernel⟩
def rmX10_owns : Room := { frames := 1, cells := 0, slots := 0, locals := 24 }
set_option maxHeartbeats 4000000 in
set_option maxRecDepth 100000 in
theorem m_X10_owns (l : Launch) (D : va_G) (cA : FieldType → ClassId) (ad : Nat → Nat) (base : Nat) (fu : Nat) {S S' : St} {x1 : Int32} {x2 : Int32} {x3 : Int32} {r : Int32} (hf : fX10_owns fu x1 x2 x3 S = some (S', r)) : Met l yX10_owns (GC yX10_owns cX10_owns 5 (some .boolean)) rmX10_owns (va_Pc [.ref (ad 10), .int x1, .int x2, .int x3] (wd D cA ad base S)) (QI D cA ad base S' r) 0 0 (aB base) := by
  refine Met.ofW (cc := cX10_owns) (maxL := 5) (ret := (some .boolean)) (by decide) rfl ?_
  intro p e s m args below meth c s₁ B hml hv
  obtain ⟨hargs, hwd⟩ := hv
  have hr := B.returns
  have hlocks := B.notSynchronized
  obtain ⟨C, hw⟩ := CX.of (own := RX10) rfl B hml hwd
  have hx := C.1
  have hb := C.2.1
  have hl := lv_entry ([.ref (ad 10), .int x1, .int x2, .int x3]) (n := 5) (Nat.le_of_ble_eq_true rfl)
  rw [show entryFrame m args 5 = entryFrame m ([.ref (ad 10), .int x1, .int x2, .int x3] : List Value).toArray 5 from by rw [hargs], lg_entry_eq]
  generalize (lg_sl ([.ref (ad 10), .int x1, .int x2, .int x3]) ++ List.replicate (5 - (lg_sl ([.ref (ad 10), .int x1, .int x2, .int x3])).length) Slot.unset).toArray = ls at hl ⊢
  have hl : lv_has ls 5 [(0, .ref (ad 10)), (1, .int x1), (2, .int x2), (3, .int x3)] := hl
  have L_3 : ∀ (n_3 : Nat) (x1 : Int32) (x2 : Int32) (x3 : Int32) (x4 : Int32) (S : St) (H : Heap) (locs : List Loc) (ls : Array Slot), fX10_owns_3 fu n_3 x1 x2 x3 x4 S = some (S', r) → lv_has ls 5 [(0, .ref (ad 10)), (1, .int x1), (2, .int x2), (3, .int x3), (4, .int x4)] → WS D cA ad base s S H locs → W p l e rmX10_owns s m args below meth c H locs 0 0 (MQ below (QI D cA ad base S' r) args s 0 0 (aB base)) (F0 m 3 ls []) := by
    intro n_3
    induction n_3 with
    | zero =>
      intro x1 x2 x3 x4 S H locs ls hf hl hw
      exact (no_none hf).elim
    | succ n_3 ih_3 =>
      intro x1 x2 x3 x4 S H locs ls hf hl hw
      rw [fX10_owns_3_s] at hf
      refine lv_iload hx hb dX10_owns_3 (lv_at hl 4 rfl) ?_
      refine lv_aload_n hx hb dX10_owns_5 rfl (lv_at hl 0 rfl) ?_
      refine r_getI C hw (k := 9) dq_10 ln_10 rfl vc_10 inX10 (by decide) rfl gw1_102 dX10_owns_6 ?_
      refine lv_icmp_ge (tgt := 32) hx hb dX10_owns_9 (by decide) (fun c_9 => ?_) (fun c_9 => ?_)
      · have hf := if_t hf c_9
        refine lv_iconst (v := (0 : Int32)) hx hb dX10_owns_32 (by decide) ?_
        exact r_zret C hw hr hlocks rfl hf dX10_owns_33
      · have hf := if_f hf c_9
        refine lv_aload_n hx hb dX10_owns_12 rfl (lv_at hl 0 rfl) ?_
        refine lv_iload hx hb dX10_owns_13 (lv_at hl 4 rfl) ?_
        refine lv_iload_n hx hb dX10_owns_15 rfl (lv_at hl 1 rfl) ?_
        refine lv_iload_n hx hb dX10_owns_16 rfl (lv_at hl 2 rfl) ?_
        refine lv_iload_n hx hb dX10_owns_17 rfl (lv_at hl 3 rfl) ?_
        obtain ⟨S_18, r_18, h_18, hf⟩ := bd_some hf
        refine r_bi hw (r_runV (rest := []) C hw (m_X10_isOf l D cA ad base fu h_18) mvX10_isOf gw4_124 ⟨rfl, rfl, Nat.le_of_ble_eq_true rfl, Nat.le_of_ble_eq_true rfl⟩ dq_10 ln_10 vc_10 rfl hl.1 rfl (Nat.le_of_ble_eq_true rfl) dX10_owns_18 (Nat.zero_le _) (Nat.zero_le _)) (fun H locs hw => ?_)
        refine lv_if_eq (tgt := 26) hx hb dX10_owns_21 (by decide) (fun c_21 => ?_) (fun c_21 => ?_)
        · have hf := if_t hf c_21
          refine lv_iinc (v := (x4 + (1 : Int32))) (lv' := [(4, .int (x4 + (1 : Int32))), (0, .ref (ad 10)), (1, .int x1), (2, .int x2), (3, .int x3)]) hx hb dX10_owns_26 hl (k := 4) rfl rfl (by decide) rfl (fun ls hl => ?_)
          refine lv_goto (tgt := 3) hx hb dX10_owns_29 (by decide) ?_
          exact ih_3 _ _ _ _ _ _ _ _ hf (lv_sub hl [1, 2, 3, 4, 0] rfl) hw
        · have hf := if_f hf c_21
          refine lv_iconst (v := (1 : Int32)) hx hb dX10_owns_24 (by decide) ?_
          exact r_zret C hw hr hlocks rfl hf dX10_owns_25
  show W p l e rmX10_owns s m args below meth c s.heap [] 0 0 _ _
  refine lv_iconst (v := (0 : Int32)) hx hb dX10_owns_0 (by decide) ?_
  refine lv_istore (lv' := [(4, .int (0 : Int32)), (0, .ref (ad 10)), (1, .int x1), (2, .int x2), (3, .int x3)]) hx hb dX10_owns_1 hl (by decide) rfl (fun ls hl => ?_)
  exact L_3 fu _ _ _ _ _ _ _ _ hf (lv_sub hl [1, 2, 3, 4, 0] rfl) hw
noncomputable def fX10_highestCut_39 (fu : Nat) (k_8 : Int32 → Int32 → Int32 → Int32 → St → Option (St × Int32)) (x1 : Int32) (x3 : Int32) (x4 : Int32) (x5 : Int32) (S : St) : Option (St × Int32) :=
  bd (fX3_above fu x4 S) fun S_45 r_45 =>
  k_8 x1 x3 r_45 (x5 + (1 : Int32)) S_45
noncomputable def fX10_highestCut_8 (fu : Nat) (n : Nat) : Int32 → Int32 → Int32 → Int32 → St → Option (St × Int32) :=
  Nat.rec (motive := fun _ => Int32 → Int32 → Int32 → Int32 → St → Option (St × Int32)) (fun _ _ _ _ _ => none) (fun _ k_8 x1 x3 x4 x5 S =>
    if (6 : Int32) ≤ x5 then
      some (S, x3)
    else
      bd (fX10_apexOf fu x1 S) fun S_19 r_19 =>
      if x4 = r_19 then
        some (S_19, x3)
      else
        bd (fX10_owns fu x1 x4 (2 : Int32) S_19) fun S_30 r_30 =>
        if r_30 = 0 then
          fX10_highestCut_39 fu k_8 x1 x3 x4 x5 S_30
        else
          fX10_highestCut_39 fu k_8 x1 x4 x4 x5 S_30) n
theorem fX10_highestCut_8_s (fu : Nat) (n : Nat) (x1 : Int32) (x3 : Int32) (x4 : Int32) (x5 : Int32) (S : St) : fX10_highestCut_8 fu (n + 1) x1 x3 x4 x5 S = (
    if (6 : Int32) ≤ x5 then
      some (S, x3)
    else
      bd (fX10_apexOf fu x1 S) fun S_19 r_19 =>
      if x4 = r_19 then
        some (S_19, x3)
      else
        bd (fX10_owns fu x1 x4 (2 : Int32) S_19) fun S_30 r_30 =>
        if r_30 = 0 then
          fX10_highestCut_39 fu (fX10_highestCut_8 fu n) x1 x3 x4 x5 S_30
        else
          fX10_highestCut_39 fu (fX10_highestCut_8 fu n) x1 x4 x4 x5 S_30) := rfl
noncomputable def fX10_highestCut (fu : Nat) (x1 : Int32) (x2 : Int32) (S : St) : Option (St × Int32) :=
  fX10_highestCut_8 fu fu x1 (-1 : Int32) x2 (0 : Int32) S
theorem mvX10_highestCut : MV yX10_highestCut cX10_highestCut 6 (some .int) RX10 2 := ⟨gw4_215, gw4_214, gs_15, gw1_5, by decide +kernel⟩
def rmX10_highestCut : Room := { frames := 2, cells := 0, slots := 0, locals := 48 }
set_option maxHeartbeats 4000000 in
set_option maxRecDepth 100000 in
theorem m_X10_highestCut (l : Launch) (D : va_G) (cA : FieldType → ClassId) (ad : Nat → Nat) (base : Nat) (fu : Nat) {S S' : St} {x1 : Int32} {x2 : Int32} {r : Int32} (hf : fX10_highestCut fu x1 x2 S = some (S', r)) : Met l yX10_highestCut (GC yX10_highestCut cX10_highestCut 6 (some .int)) rmX10_highestCut (va_Pc [.ref (ad 10), .int x1, .int x2] (wd D cA ad base S)) (QI D cA ad base S' r) 0 0 (aB base) := by
  refine Met.ofW (cc := cX10_highestCut) (maxL := 6) (ret := (some .int)) (by decide) rfl ?_
  intro p e s m args below meth c s₁ B hml hv
  obtain ⟨hargs, hwd⟩ := hv
  have hr := B.returns
  have hlocks := B.notSynchronized
  obtain ⟨C, hw⟩ := CX.of (own := RX10) rfl B hml hwd
  have hx := C.1
  have hb := C.2.1
  have hl := lv_entry ([.ref (ad 10), .int x1, .int x2]) (n := 6) (Nat.le_of_ble_eq_true rfl)
  rw [show entryFrame m args 6 = entryFrame m ([.ref (ad 10), .int x1, .int x2] : List Value).toArray 6 from by rw [hargs], lg_entry_eq]
  generalize (lg_sl ([.ref (ad 10), .int x1, .int x2]) ++ List.replicate (6 - (lg_sl ([.ref (ad 10), .int x1, .int x2])).length) Slot.unset).toArray = ls at hl ⊢
  have hl : lv_has ls 6 [(0, .ref (ad 10)), (1, .int x1), (2, .int x2)] := hl
  have L_8 : ∀ (n_8 : Nat) (x1 : Int32) (x3 : Int32) (x4 : Int32) (x5 : Int32) (S : St) (H : Heap) (locs : List Loc) (ls : Array Slot), fX10_highestCut_8 fu n_8 x1 x3 x4 x5 S = some (S', r) → lv_has ls 6 [(0, .ref (ad 10)), (1, .int x1), (3, .int x3), (4, .int x4), (5, .int x5)] → WS D cA ad base s S H locs → W p l e rmX10_highestCut s m args below meth c H locs 0 0 (MQ below (QI D cA ad base S' r) args s 0 0 (aB base)) (F0 m 8 ls []) := by
    intro n_8
    induction n_8 with
    | zero =>
      intro x1 x3 x4 x5 S H locs ls hf hl hw
      exact (no_none hf).elim
    | succ n_8 ih_8 =>
      have J_39 : ∀ (x1 : Int32) (x3 : Int32) (x4 : Int32) (x5 : Int32) (S : St) (H : Heap) (locs : List Loc) (ls : Array Slot), fX10_highestCut_39 fu (fX10_highestCut_8 fu n_8) x1 x3 x4 x5 S = some (S', r) → lv_has ls 6 [(0, .ref (ad 10)), (1, .int x1), (3, .int x3), (4, .int x4), (5, .int x5)] → WS D cA ad base s S H locs → W p l e rmX10_highestCut s m args below meth c H locs 0 0 (MQ below (QI D cA ad base S' r) args s 0 0 (aB base)) (F0 m 39 ls []) := by
        intro x1 x3 x4 x5 S H locs ls hf hl hw
        refine lv_aload_n hx hb dX10_highestCut_39 rfl (lv_at hl 0 rfl) ?_
        refine r_getR C hw (k := 0) (r := 3) dq_10 ln_10 rfl vc_10 inX10 (by decide) rfl gw1_93 dX10_highestCut_40 ?_
        refine lv_iload hx hb dX10_highestCut_43 (lv_at hl 3 rfl) ?_
        obtain ⟨S_45, r_45, h_45, hf⟩ := bd_some hf
        refine r_bi hw (r_runV (rest := []) C hw (m_X3_above l D cA ad base fu h_45) mvX3_above gw4_221 ⟨rfl, rfl, Nat.le_of_ble_eq_true rfl, Nat.le_of_ble_eq_true rfl⟩ dq_3 ln_3 vc_3 rfl hl.1 rfl (Nat.le_of_ble_eq_true rfl) dX10_highestCut_45 (Nat.zero_le _) (Nat.zero_le _)) (fun H locs hw => ?_)
        refine lv_istore (lv' := [(4, .int r_45), (0, .ref (ad 10)), (1, .int x1), (3, .int x3), (5, .int x5)]) hx hb dX10_highestCut_48 hl (by decide) rfl (fun ls hl => ?_)
        refine lv_iinc (v := (x5 + (1 : Int32))) (lv' := [(5, .int (x5 + (1 : Int32))), (4, .int r_45), (0, .ref (ad 10)), (1, .int x1), (3, .int x3)]) hx hb dX10_highestCut_50 hl (k := 4) rfl rfl (by decide) rfl (fun ls hl => ?_)
        refine lv_goto (tgt := 8) hx hb dX10_highestCut_53 (by decide) ?_
        exact ih_8 _ _ _ _ _ _ _ _ hf (lv_sub hl [2, 3, 4, 1, 0] rfl) hw
      intro x1 x3 x4 x5 S H locs ls hf hl hw
      rw [fX10_highestCut_8_s] at hf
      refine lv_iload hx hb dX10_highestCut_8 (lv_at hl 4 rfl) ?_
      refine lv_bipush (v := (6 : Int32)) hx hb dX10_highestCut_10 (by decide) ?_
      refine lv_icmp_ge (tgt := 56) hx hb dX10_highestCut_12 (by decide) (fun c_12 => ?_) (fun c_12 => ?_)
      · have hf := if_t hf c_12
        refine lv_iload_n hx hb dX10_highestCut_56 rfl (lv_at hl 2 rfl) ?_
        exact r_iret C hw hr hlocks hf dX10_highestCut_57
      · have hf := if_f hf c_12
        refine lv_iload hx hb dX10_highestCut_15 (lv_at hl 3 rfl) ?_
        refine lv_aload_n hx hb dX10_highestCut_17 rfl (lv_at hl 0 rfl) ?_
        refine lv_iload_n hx hb dX10_highestCut_18 rfl (lv_at hl 1 rfl) ?_
        obtain ⟨S_19, r_19, h_19, hf⟩ := bd_some hf
        refine r_bi hw (r_runV (rest := [.int x4]) C hw (m_X10_apexOf l D cA ad base fu h_19) mvX10_apexOf gw4_216 ⟨rfl, rfl, Nat.le_of_ble_eq_true rfl, Nat.le_of_ble_eq_true rfl⟩ dq_10 ln_10 vc_10 rfl hl.1 rfl (Nat.le_of_ble_eq_true rfl) dX10_highestCut_19 (Nat.zero_le _) (Nat.zero_le _)) (fun H locs hw => ?_)
        refine lv_icmp_eq (tgt := 56) hx hb dX10_highestCut_22 (by decide) (fun c_22 => ?_) (fun c_22 => ?_)
        · have hf := if_t hf c_22
          refine lv_iload_n hx hb dX10_highestCut_56 rfl (lv_at hl 2 rfl) ?_
          exact r_iret C hw hr hlocks hf dX10_highestCut_57
        · have hf := if_f hf c_22
          refine lv_aload_n hx hb dX10_highestCut_25 rfl (lv_at hl 0 rfl) ?_
          refine lv_iload_n hx hb dX10_highestCut_26 rfl (lv_at hl 1 rfl) ?_
          refine lv_iload hx hb dX10_highestCut_27 (lv_at hl 3 rfl) ?_
          refine lv_iconst (v := (2 : Int32)) hx hb dX10_highestCut_29 (by decide) ?_
          obtain ⟨S_30, r_30, h_30, hf⟩ := bd_some hf
          refine r_bi hw (r_runV (rest := []) C hw (m_X10_owns l D cA ad base fu h_30) mvX10_owns gw4_217 ⟨rfl, rfl, Nat.le_of_ble_eq_true rfl, Nat.le_of_ble_eq_true rfl⟩ dq_10 ln_10 vc_10 rfl hl.1 rfl (Nat.le_of_ble_eq_true rfl) dX10_highestCut_30 (Nat.zero_le _) (Nat.zero_le _)) (fun H locs hw => ?_)
          refine lv_if_eq (tgt := 39) hx hb dX10_highestCut_33 (by decide) (fun c_33 => ?_) (fun c_33 => ?_)
          · have hf := if_t hf c_33
            exact J_39 _ _ _ _ _ _ _ _ hf (lv_sub hl [0, 1, 2, 3, 4] rfl) hw
          · have hf := if_f hf c_33
            refine lv_iload hx hb dX10_highestCut_36 (lv_at hl 3 rfl) ?_
            refine lv_istore_n (lv' := [(3, .int x4), (0, .ref (ad 10)), (1, .int x1), (4, .int x4), (5, .int x5)]) hx hb dX10_highestCut_38 rfl hl (by decide) rfl (fun ls hl => ?_)
            exact J_39 _ _ _ _ _ _ _ _ hf (lv_sub hl [1, 2, 0, 3, 4] rfl) hw
  show W p l e rmX10_highestCut s m args below meth c s.heap [] 0 0 _ _
  refine lv_iconst (v := (-1 : Int32)) hx hb dX10_highestCut_0 (by decide) ?_
  refine lv_istore_n (lv' := [(3, .int (-1 : Int32)), (0, .ref (ad 10)), (1, .int x1), (2, .int x2)]) hx hb dX10_highestCut_1 rfl hl (by decide) rfl (fun ls hl => ?_)
  refine lv_iload_n hx hb dX10_highestCut_2 rfl (lv_at hl 3 rfl) ?_
  refine lv_istore (lv' := [(4, .int x2), (3, .int (-1 : Int32)), (0, .ref (ad 10)), (1, .int x1), (2, .int x2)]) hx hb dX10_highestCut_3 hl (by decide) rfl (fun ls hl => ?_)
  refine lv_iconst (v := (0 : Int32)) hx hb dX10_highestCut_5 (by decide) ?_
  refine lv_istore (lv' := [(5, .int (0 : Int32)), (4, .int x2), (3, .int (-1 : Int32)), (0, .ref (ad 10)), (1, .int x1), (2, .int x2)]) hx hb dX10_highestCut_6 hl (by decide) rfl (fun ls hl => ?_)
  exact L_8 fu _ _ _ _ _ _ _ _ hf (lv_sub hl [3, 4, 2, 1, 0] rfl) hw
noncomputable def fX10_tellAll_60 (fu : Nat) (k_6 : Int32 → Int32 → Int32 → Int32 → Int32 → Int32 → Int32 → St → Option (St × Int32)) (x1 : Int32) (x2 : Int32) (x3 : Int32) (x4 : Int32) (x5 : Int32) (x7 : Int32) (x8 : Int32) (S : St) : Option (St × Int32) :=
  k_6 x1 x2 x3 x4 x5 x7 (x8 + (1 : Int32)) S
noncomputable def fX10_tellAll_6 (fu : Nat) (n : Nat) : Int32 → Int32 → Int32 → Int32 → Int32 → Int32 → Int32 → St → Option (St × Int32) :=
  Nat.rec (motive := fun _ => Int32 → Int32 → Int32 → Int32 → Int32 → Int32 → Int32 → St → Option (St × Int32)) (fun _ _ _ _ _ _ _ _ => none) (fun _ k_6 x1 x2 x3 x4 x5 x7 x8 S =>
    if (S.1 10 9) ≤ x8 then
      some (S, x7)
    else
      if x5 ≤ x7 then
        some (S, x7)
      else
        bd (fX10_isOf fu x8 x1 x2 x3 S) fun S_28 r_28 =>
        if r_28 = 0 then
          fX10_tellAll_60 fu k_6 x1 x2 x3 x4 x5 x7 x8 S_28
        else
          gd (ck x8 150) <|
          gd (ck x8 150) <|
          bd (fX9_addRecord fu x4 x2 x3 (S_28.1 16 (x8).toNatClampNeg) (S_28.1 17 (x8).toNatClampNeg) S_28) fun S_54 _ =>
          fX10_tellAll_60 fu k_6 x1 x2 x3 x4 x5 (x7 + (1 : Int32)) x8 S_54) n
theorem fX10_tellAll_6_s (fu : Nat) (n : Nat) (x1 : Int32) (x2 : Int32) (x3 : Int32) (x4 : Int32) (x5 : Int32) (x7 : Int32) (x8 : Int32) (S : St) : fX10_tellAll_6 fu (n + 1) x1 x2 x3 x4 x5 x7 x8 S = (
    if (S.1 10 9) ≤ x8 then
      some (S, x7)
    else
      if x5 ≤ x7 then
        some (S, x7)
      else
        bd (fX10_isOf fu x8 x1 x2 x3 S) fun S_28 r_28 =>
        if r_28 = 0 then
          fX10_tellAll_60 fu (fX10_tellAll_6 fu n) x1 x2 x3 x4 x5 x7 x8 S_28
        else
          gd (ck x8 150) <|
          gd (ck x8 150) <|
          bd (fX9_addRecord fu x4 x2 x3 (S_28.1 16 (x8).toNatClampNeg) (S_28.1 17 (x8).toNatClampNeg) S_28) fun S_54 _ =>
          fX10_tellAll_60 fu (fX10_tellAll_6 fu n) x1 x2 x3 x4 x5 (x7 + (1 : Int32)) x8 S_54) := rfl
noncomputable def fX10_tellAll (fu : Nat) (x1 : Int32) (x2 : Int32) (x3 : Int32) (x4 : Int32) (x5 : Int32) (S : St) : Option (St × Int32) :=
  fX10_tellAll_6 fu fu x1 x2 x3 x4 x5 (0 : Int32) (0 : Int32) S
theorem mvX10_tellAll : MV yX10_tellAll cX10_tellAll 9 (some .int) RX10 6 := ⟨gw4_225, gw4_224, gs_17, gw1_5, by decide +kernel⟩
def rmX10_tellAll : Room := { frames := 5, cells := 0, slots := 0, locals := 117 }
set_option maxHeartbeats 4000000 in
set_option maxRecDepth 100000 in
theorem m_X10_tellAll (l : Launch) (D : va_G) (cA : FieldType → ClassId) (ad : Nat → Nat) (base : Nat) (fu : Nat) {S S' : St} {x1 : Int32} {x2 : Int32} {x3 : Int32} {x4 : Int32} {x5 : Int32} {r : Int32} (hf : fX10_tellAll fu x1 x2 x3 x4 x5 S = some (S', r)) : Met l yX10_tellAll (GC yX10_tellAll cX10_tellAll 9 (some .int)) rmX10_tellAll (va_Pc [.ref (ad 10), .int x1, .int x2, .int x3, .int x4, .int x5, .ref (ad 18)] (wd D cA ad base S)) (QI D cA ad base S' r) 0 0 (aB base) := by
  refine Met.ofW (cc := cX10_tellAll) (maxL := 9) (ret := (some .int)) (by decide) rfl ?_
  intro p e s m args below meth c s₁ B hml hv
  obtain ⟨hargs, hwd⟩ := hv
  have hr := B.returns
  have hlocks := B.notSynchronized
  obtain ⟨C, hw⟩ := CX.of (own := RX10) rfl B hml hwd
  have hx := C.1
  have hb := C.2.1
  have hl := lv_entry ([.ref (ad 10), .int x1, .int x2, .int x3, .int x4, .int x5, .ref (ad 18)]) (n := 9) (Nat.le_of_ble_eq_true rfl)
  rw [show entryFrame m args 9 = entryFrame m ([.ref (ad 10), .int x1, .int x2, .int x3, .int x4, .int x5, .ref (ad 18)] : List Value).toArray 9 from by rw [hargs], lg_entry_eq]
  generalize (lg_sl ([.ref (ad 10), .int x1, .int x2, .int x3, .int x4, .int x5, .ref (ad 18)]) ++ List.replicate (9 - (lg_sl ([.ref (ad 10), .int x1, .int x2, .int x3, .int x4, .int x5, .ref (ad 18)])).length) Slot.unset).toArray = ls at hl ⊢
  have hl : lv_has ls 9 [(0, .ref (ad 10)), (1, .int x1), (2, .int x2), (3, .int x3), (4, .int x4), (5, .int x5), (6, .ref (ad 18))] := hl
  have L_6 : ∀ (n_6 : Nat) (x1 : Int32) (x2 : Int32) (x3 : Int32) (x4 : Int32) (x5 : Int32) (x7 : Int32) (x8 : Int32) (S : St) (H : Heap) (locs : List Loc) (ls : Array Slot), fX10_tellAll_6 fu n_6 x1 x2 x3 x4 x5 x7 x8 S = some (S', r) → lv_has ls 9 [(0, .ref (ad 10)), (1, .int x1), (2, .int x2), (3, .int x3), (4, .int x4), (5, .int x5), (6, .ref (ad 18)), (7, .int x7), (8, .int x8)] → WS D cA ad base s S H locs → W p l e rmX10_tellAll s m args below meth c H locs 0 0 (MQ below (QI D cA ad base S' r) args s 0 0 (aB base)) (F0 m 6 ls []) := by
    intro n_6
    induction n_6 with
    | zero =>
      intro x1 x2 x3 x4 x5 x7 x8 S H locs ls hf hl hw
      exact (no_none hf).elim
    | succ n_6 ih_6 =>
      have J_60 : ∀ (x1 : Int32) (x2 : Int32) (x3 : Int32) (x4 : Int32) (x5 : Int32) (x7 : Int32) (x8 : Int32) (S : St) (H : Heap) (locs : List Loc) (ls : Array Slot), fX10_tellAll_60 fu (fX10_tellAll_6 fu n_6) x1 x2 x3 x4 x5 x7 x8 S = some (S', r) → lv_has ls 9 [(0, .ref (ad 10)), (1, .int x1), (2, .int x2), (3, .int x3), (4, .int x4), (5, .int x5), (6, .ref (ad 18)), (7, .int x7), (8, .int x8)] → WS D cA ad base s S H locs → W p l e rmX10_tellAll s m args below meth c H locs 0 0 (MQ below (QI D cA ad base S' r) args s 0 0 (aB base)) (F0 m 60 ls []) := by
        intro x1 x2 x3 x4 x5 x7 x8 S H locs ls hf hl hw
        refine lv_iinc (v := (x8 + (1 : Int32))) (lv' := [(8, .int (x8 + (1 : Int32))), (0, .ref (ad 10)), (1, .int x1), (2, .int x2), (3, .int x3), (4, .int x4), (5, .int x5), (6, .ref (ad 18)), (7, .int x7)]) hx hb dX10_tellAll_60 hl (k := 8) rfl rfl (by decide) rfl (fun ls hl => ?_)
        refine lv_goto (tgt := 6) hx hb dX10_tellAll_63 (by decide) ?_
        exact ih_6 _ _ _ _ _ _ _ _ _ _ _ hf (lv_sub hl [1, 2, 3, 4, 5, 6, 7, 8, 0] rfl) hw
      intro x1 x2 x3 x4 x5 x7 x8 S H locs ls hf hl hw
      rw [fX10_tellAll_6_s] at hf
      refine lv_iload hx hb dX10_tellAll_6 (lv_at hl 8 rfl) ?_
      refine lv_aload_n hx hb dX10_tellAll_8 rfl (lv_at hl 0 rfl) ?_
      refine r_getI C hw (k := 9) dq_10 ln_10 rfl vc_10 inX10 (by decide) rfl gw1_102 dX10_tellAll_9 ?_
      refine lv_icmp_ge (tgt := 66) hx hb dX10_tellAll_12 (by decide) (fun c_12 => ?_) (fun c_12 => ?_)
      · have hf := if_t hf c_12
        refine lv_iload hx hb dX10_tellAll_66 (lv_at hl 7 rfl) ?_
        exact r_iret C hw hr hlocks hf dX10_tellAll_68
      · have hf := if_f hf c_12
        refine lv_iload hx hb dX10_tellAll_15 (lv_at hl 7 rfl) ?_
        refine lv_iload hx hb dX10_tellAll_17 (lv_at hl 5 rfl) ?_
        refine lv_icmp_ge (tgt := 66) hx hb dX10_tellAll_19 (by decide) (fun c_19 => ?_) (fun c_19 => ?_)
        · have hf := if_t hf c_19
          refine lv_iload hx hb dX10_tellAll_66 (lv_at hl 7 rfl) ?_
          exact r_iret C hw hr hlocks hf dX10_tellAll_68
        · have hf := if_f hf c_19
          refine lv_aload_n hx hb dX10_tellAll_22 rfl (lv_at hl 0 rfl) ?_
          refine lv_iload hx hb dX10_tellAll_23 (lv_at hl 8 rfl) ?_
          refine lv_iload_n hx hb dX10_tellAll_25 rfl (lv_at hl 1 rfl) ?_
          refine lv_iload_n hx hb dX10_tellAll_26 rfl (lv_at hl 2 rfl) ?_
          refine lv_iload_n hx hb dX10_tellAll_27 rfl (lv_at hl 3 rfl) ?_
          obtain ⟨S_28, r_28, h_28, hf⟩ := bd_some hf
          refine r_bi hw (r_runV (rest := []) C hw (m_X10_isOf l D cA ad base fu h_28) mvX10_isOf gw4_124 ⟨rfl, rfl, Nat.le_of_ble_eq_true rfl, Nat.le_of_ble_eq_true rfl⟩ dq_10 ln_10 vc_10 rfl hl.1 rfl (Nat.le_of_ble_eq_true rfl) dX10_tellAll_28 (Nat.zero_le _) (Nat.zero_le _)) (fun H locs hw => ?_)
          refine lv_if_eq (tgt := 60) hx hb dX10_tellAll_31 (by decide) (fun c_31 => ?_) (fun c_31 => ?_)
          · have hf := if_t hf c_31
            exact J_60 _ _ _ _ _ _ _ _ _ _ _ hf (lv_sub hl [0, 1, 2, 3, 4, 5, 6, 7, 8] rfl) hw
          · have hf := if_f hf c_31
            refine lv_aload hx hb dX10_tellAll_34 (lv_at hl 6 rfl) ?_
            refine lv_iload hx hb dX10_tellAll_36 (lv_at hl 4 rfl) ?_
            refine lv_iload_n hx hb dX10_tellAll_38 rfl (lv_at hl 2 rfl) ?_
            refine lv_iload_n hx hb dX10_tellAll_39 rfl (lv_at hl 3 rfl) ?_
            refine lv_aload_n hx hb dX10_tellAll_40 rfl (lv_at hl 0 rfl) ?_
            refine r_getR C hw (k := 7) (r := 16) dq_10 ln_10 rfl vc_10 inX10 (by decide) rfl gw1_100 dX10_tellAll_41 ?_
            refine lv_iload hx hb dX10_tellAll_44 (lv_at hl 8 rfl) ?_
            obtain ⟨z_46, hf⟩ := gd_some hf
            refine r_iald C hw (x := 16) dq_16 ln_16 z_46 dX10_tellAll_46 ?_
            refine lv_aload_n hx hb dX10_tellAll_47 rfl (lv_at hl 0 rfl) ?_
            refine r_getR C hw (k := 8) (r := 17) dq_10 ln_10 rfl vc_10 inX10 (by decide) rfl gw1_101 dX10_tellAll_48 ?_
            refine lv_iload hx hb dX10_tellAll_51 (lv_at hl 8 rfl) ?_
            obtain ⟨z_53, hf⟩ := gd_some hf
            refine r_iald C hw (x := 17) dq_17 ln_17 z_53 dX10_tellAll_53 ?_
            obtain ⟨S_54, r_54, h_54, hf⟩ := bd_some hf
            refine r_bv hw (r_runV (rest := []) C hw (m_X9_addRecord l D cA ad base fu h_54) mvX9_addRecord gw4_226 ⟨rfl, rfl, Nat.le_of_ble_eq_true rfl, Nat.le_of_ble_eq_true rfl⟩ dq_18 ln_18 vc_9 rfl hl.1 rfl (Nat.le_of_ble_eq_true rfl) dX10_tellAll_54 (Nat.zero_le _) (Nat.zero_le _)) (fun H locs hw => ?_)
            refine lv_iinc (v := (x7 + (1 : Int32))) (lv' := [(7, .int (x7 + (1 : Int32))), (0, .ref (ad 10)), (1, .int x1), (2, .int x2), (3, .int x3), (4, .int x4), (5, .int x5), (6, .ref (ad 18)), (8, .int x8)]) hx hb dX10_tellAll_57 hl (k := 7) rfl rfl (by decide) rfl (fun ls hl => ?_)
            exact J_60 _ _ _ _ _ _ _ _ _ _ _ hf (lv_sub hl [1, 2, 3, 4, 5, 6, 7, 0, 8] rfl) hw
  show W p l e rmX10_tellAll s m args below meth c s.heap [] 0 0 _ _
  refine lv_iconst (v := (0 : Int32)) hx hb dX10_tellAll_0 (by decide) ?_
  refine lv_istore (lv' := [(7, .int (0 : Int32)), (0, .ref (ad 10)), (1, .int x1), (2, .int x2), (3, .int x3), (4, .int x4), (5, .int x5), (6, .ref (ad 18))]) hx hb dX10_tellAll_1 hl (by decide) rfl (fun ls hl => ?_)
  refine lv_iconst (v := (0 : Int32)) hx hb dX10_tellAll_3 (by decide) ?_
  refine lv_istore (lv' := [(8, .int (0 : Int32)), (7, .int (0 : Int32)), (0, .ref (ad 10)), (1, .int x1), (2, .int x2), (3, .int x3), (4, .int x4), (5, .int x5), (6, .ref (ad 18))]) hx hb dX10_tellAll_4 hl (by decide) rfl (fun ls hl => ?_)
  exact L_6 fu _ _ _ _ _ _ _ _ _ _ _ hf (lv_sub hl [2, 3, 4, 5, 6, 7, 8, 1, 0] rfl) hw
noncomputable def fX10_isHost_37 (fu : Nat) (k_3 : Int32 → Int32 → Int32 → Int32 → St → Option (St × Int32)) (x1 : Int32) (x2 : Int32) (x3 : Int32) (x4 : Int32) (S : St) : Option (St × Int32) :=
  k_3 x1 x2 x3 (x4 + (1 : Int32)) S
noncomputable def fX10_isHost_3 (fu : Nat) (n : Nat) : Int32 → Int32 → Int32 → Int32 → St → Option (St × Int32) :=
  Nat.rec (motive := fun _ => Int32 → Int32 → Int32 → Int32 → St → Option (St × Int32)) (fun _ _ _ _ _ => none) (fun _ k_3 x1 x2 x3 x4 S =>
    if (S.1 10 9) ≤ x4 then
      some (S, (0 : Int32))
    else
      bd (fX10_isOf fu x4 x1 x2 (2 : Int32) S) fun S_18 r_18 =>
      if r_18 = 0 then
        fX10_isHost_37 fu k_3 x1 x2 x3 x4 S_18
      else
        gd (ck x4 150) <|
        if (S_18.1 16 (x4).toNatClampNeg) = x3 then
          some (S_18, (1 : Int32))
        else
          fX10_isHost_37 fu k_3 x1 x2 x3 x4 S_18) n
theorem fX10_isHost_3_s (fu : Nat) (n : Nat) (x1 : Int32) (x2 : Int32) (x3 : Int32) (x4 : Int32) (S : St) : fX10_isHost_3 fu (n + 1) x1 x2 x3 x4 S = (
    if (S.1 10 9) ≤ x4 then
      some (S, (0 : Int32))
    else
      bd (fX10_isOf fu x4 x1 x2 (2 : Int32) S) fun S_18 r_18 =>
      if r_18 = 0 then
        fX10_isHost_37 fu (fX10_isHost_3 fu n) x1 x2 x3 x4 S_18
      else
        gd (ck x4 150) <|
        if (S_18.1 16 (x4).toNatClampNeg) = x3 then
          some (S_18, (1 : Int32))
        else
          fX10_isHost_37 fu (fX10_isHost_3 fu n) x1 x2 x3 x4 S_18) := rfl
noncomputable def fX10_isHost (fu : Nat) (x1 : Int32) (x2 : Int32) (x3 : Int32) (S : St) : Option (St × Int32) :=
  fX10_isHost_3 fu fu x1 x2 x3 (0 : Int32) S
theorem mvX10_isHost : MV yX10_isHost cX10_isHost 5 (some .boolean) RX10 3 := ⟨gw5_11, gw5_10, gs_21, gw1_5, by decide +kernel⟩
def rmX10_isHost : Room := { frames := 1, cells := 0, slots := 0, locals := 24 }
set_option maxHeartbeats 4000000 in
set_option maxRecDepth 100000 in
theorem m_X10_isHost (l : Launch) (D : va_G) (cA : FieldType → ClassId) (ad : Nat → Nat) (base : Nat) (fu : Nat) {S S' : St} {x1 : Int32} {x2 : Int32} {x3 : Int32} {r : Int32} (hf : fX10_isHost fu x1 x2 x3 S = some (S', r)) : Met l yX10_isHost (GC yX10_isHost cX10_isHost 5 (some .boolean)) rmX10_isHost (va_Pc [.ref (ad 10), .int x1, .int x2, .int x3] (wd D cA ad base S)) (QI D cA ad base S' r) 0 0 (aB base) := by
  refine Met.ofW (cc := cX10_isHost) (maxL := 5) (ret := (some .boolean)) (by decide) rfl ?_
  intro p e s m args below meth c s₁ B hml hv
  obtain ⟨hargs, hwd⟩ := hv
  have hr := B.returns
  have hlocks := B.notSynchronized
  obtain ⟨C, hw⟩ := CX.of (own := RX10) rfl B hml hwd
  have hx := C.1
  have hb := C.2.1
  have hl := lv_entry ([.ref (ad 10), .int x1, .int x2, .int x3]) (n := 5) (Nat.le_of_ble_eq_true rfl)
  rw [show entryFrame m args 5 = entryFrame m ([.ref (ad 10), .int x1, .int x2, .int x3] : List Value).toArray 5 from by rw [hargs], lg_entry_eq]
  generalize (lg_sl ([.ref (ad 10), .int x1, .int x2, .int x3]) ++ List.replicate (5 - (lg_sl ([.ref (ad 10), .int x1, .int x2, .int x3])).length) Slot.unset).toArray = ls at hl ⊢
  have hl : lv_has ls 5 [(0, .ref (ad 10)), (1, .int x1), (2, .int x2), (3, .int x3)] := hl
  have L_3 : ∀ (n_3 : Nat) (x1 : Int32) (x2 : Int32) (x3 : Int32) (x4 : Int32) (S : St) (H : Heap) (locs : List Loc) (ls : Array Slot), fX10_isHost_3 fu n_3 x1 x2 x3 x4 S = some (S', r) → lv_has ls 5 [(0, .ref (ad 10)), (1, .int x1), (2, .int x2), (3, .int x3), (4, .int x4)] → WS D cA ad base s S H locs → W p l e rmX10_isHost s m args below meth c H locs 0 0 (MQ below (QI D cA ad base S' r) args s 0 0 (aB base)) (F0 m 3 ls []) := by
    intro n_3
    induction n_3 with
    | zero =>
      intro x1 x2 x3 x4 S H locs ls hf hl hw
      exact (no_none hf).elim
    | succ n_3 ih_3 =>
      have J_37 : ∀ (x1 : Int32) (x2 : Int32) (x3 : Int32) (x4 : Int32) (S : St) (H : Heap) (locs : List Loc) (ls : Array Slot), fX10_isHost_37 fu (fX10_isHost_3 fu n_3) x1 x2 x3 x4 S = some (S', r) → lv_has ls 5 [(0, .ref (ad 10)), (1, .int x1), (2, .int x2), (3, .int x3), (4, .int x4)] → WS D cA ad base s S H locs → W p l e rmX10_isHost s m args below meth c H locs 0 0 (MQ below (QI D cA ad base S' r) args s 0 0 (aB base)) (F0 m 37 ls []) := by
        intro x1 x2 x3 x4 S H locs ls hf hl hw
        refine lv_iinc (v := (x4 + (1 : Int32))) (lv' := [(4, .int (x4 + (1 : Int32))), (0, .ref (ad 10)), (1, .int x1), (2, .int x2), (3, .int x3)]) hx hb dX10_isHost_37 hl (k := 4) rfl rfl (by decide) rfl (fun ls hl => ?_)
        refine lv_goto (tgt := 3) hx hb dX10_isHost_40 (by decide) ?_
        exact ih_3 _ _ _ _ _ _ _ _ hf (lv_sub hl [1, 2, 3, 4, 0] rfl) hw
      intro x1 x2 x3 x4 S H locs ls hf hl hw
      rw [fX10_isHost_3_s] at hf
      refine lv_iload hx hb dX10_isHost_3 (lv_at hl 4 rfl) ?_
      refine lv_aload_n hx hb dX10_isHost_5 rfl (lv_at hl 0 rfl) ?_
      refine r_getI C hw (k := 9) dq_10 ln_10 rfl vc_10 inX10 (by decide) rfl gw1_102 dX10_isHost_6 ?_
      refine lv_icmp_ge (tgt := 43) hx hb dX10_isHost_9 (by decide) (fun c_9 => ?_) (fun c_9 => ?_)
      · have hf := if_t hf c_9
        refine lv_iconst (v := (0 : Int32)) hx hb dX10_isHost_43 (by decide) ?_
        exact r_zret C hw hr hlocks rfl hf dX10_isHost_44
      · have hf := if_f hf c_9
        refine lv_aload_n hx hb dX10_isHost_12 rfl (lv_at hl 0 rfl) ?_
        refine lv_iload hx hb dX10_isHost_13 (lv_at hl 4 rfl) ?_
        refine lv_iload_n hx hb dX10_isHost_15 rfl (lv_at hl 1 rfl) ?_
        refine lv_iload_n hx hb dX10_isHost_16 rfl (lv_at hl 2 rfl) ?_
        refine lv_iconst (v := (2 : Int32)) hx hb dX10_isHost_17 (by decide) ?_
        obtain ⟨S_18, r_18, h_18, hf⟩ := bd_some hf
        refine r_bi hw (r_runV (rest := []) C hw (m_X10_isOf l D cA ad base fu h_18) mvX10_isOf gw4_124 ⟨rfl, rfl, Nat.le_of_ble_eq_true rfl, Nat.le_of_ble_eq_true rfl⟩ dq_10 ln_10 vc_10 rfl hl.1 rfl (Nat.le_of_ble_eq_true rfl) dX10_isHost_18 (Nat.zero_le _) (Nat.zero_le _)) (fun H locs hw => ?_)
        refine lv_if_eq (tgt := 37) hx hb dX10_isHost_21 (by decide) (fun c_21 => ?_) (fun c_21 => ?_)
        · have hf := if_t hf c_21
          exact J_37 _ _ _ _ _ _ _ _ hf (lv_sub hl [0, 1, 2, 3, 4] rfl) hw
        · have hf := if_f hf c_21
          refine lv_aload_n hx hb dX10_isHost_24 rfl (lv_at hl 0 rfl) ?_
          refine r_getR C hw (k := 7) (r := 16) dq_10 ln_10 rfl vc_10 inX10 (by decide) rfl gw1_100 dX10_isHost_25 ?_
          refine lv_iload hx hb dX10_isHost_28 (lv_at hl 4 rfl) ?_
          obtain ⟨z_30, hf⟩ := gd_some hf
          refine r_iald C hw (x := 16) dq_16 ln_16 z_30 dX10_isHost_30 ?_
          refine lv_iload_n hx hb dX10_isHost_31 rfl (lv_at hl 3 rfl) ?_
          refine lv_icmp_ne (tgt := 37) hx hb dX10_isHost_32 (by decide) (fun c_32 => ?_) (fun c_32 => ?_)
          · have hf := if_f hf c_32
            exact J_37 _ _ _ _ _ _ _ _ hf (lv_sub hl [0, 1, 2, 3, 4] rfl) hw
          · have hf := if_t hf c_32
            refine lv_iconst (v := (1 : Int32)) hx hb dX10_isHost_35 (by decide) ?_
            exact r_zret C hw hr hlocks rfl hf dX10_isHost_36
  show W p l e rmX10_isHost s m args below meth c s.heap [] 0 0 _ _
  refine lv_iconst (v := (0 : Int32)) hx hb dX10_isHost_0 (by decide) ?_
  refine lv_istore (lv' := [(4, .int (0 : Int32)), (0, .ref (ad 10)), (1, .int x1), (2, .int x2), (3, .int x3)]) hx hb dX10_isHost_1 hl (by decide) rfl (fun ls hl => ?_)
  exact L_3 fu _ _ _ _ _ _ _ _ hf (lv_sub hl [1, 2, 3, 4, 0] rfl) hw
noncomputable def fX10_tellHosts_77 (fu : Nat) (k_3 : Int32 → Int32 → Int32 → St → Option (St × Int32)) (x1 : Int32) (x2 : Int32) (x4 : Int32) (S : St) : Option (St × Int32) :=
  k_3 x1 x2 (x4 + (1 : Int32)) S
noncomputable def fX10_tellHosts_3 (fu : Nat) (n : Nat) : Int32 → Int32 → Int32 → St → Option (St × Int32) :=
  Nat.rec (motive := fun _ => Int32 → Int32 → Int32 → St → Option (St × Int32)) (fun _ _ _ _ => none) (fun _ k_3 x1 x2 x4 S =>
    if (S.1 10 9) ≤ x4 then
      some (S, (0 : Int32))
    else
      gd (ck x4 150) <|
      if (S.1 13 (x4).toNatClampNeg) = x1 then
        gd (ck x4 150) <|
        if (S.1 15 (x4).toNatClampNeg) = (1 : Int32) then
          gd (ck x4 150) <|
          bd (fX10_isHost fu x1 x2 (S.1 14 (x4).toNatClampNeg) S) fun S_44 r_44 =>
          if r_44 = 0 then
            fX10_tellHosts_77 fu k_3 x1 x2 x4 S_44
          else
            gd (ck x4 150) <|
            gd (ck x4 150) <|
            gd (ck x4 150) <|
            bd (fX9_addRecord fu (2 : Int32) (S_44.1 14 (x4).toNatClampNeg) (1 : Int32) (S_44.1 16 (x4).toNatClampNeg) (S_44.1 17 (x4).toNatClampNeg) S_44) fun S_74 _ =>
            fX10_tellHosts_77 fu k_3 x1 x2 x4 S_74
        else
          fX10_tellHosts_77 fu k_3 x1 x2 x4 S
      else
        fX10_tellHosts_77 fu k_3 x1 x2 x4 S) n
theorem fX10_tellHosts_3_s (fu : Nat) (n : Nat) (x1 : Int32) (x2 : Int32) (x4 : Int32) (S : St) : fX10_tellHosts_3 fu (n + 1) x1 x2 x4 S = (
    if (S.1 10 9) ≤ x4 then
      some (S, (0 : Int32))
    else
      gd (ck x4 150) <|
      if (S.1 13 (x4).toNatClampNeg) = x1 then
        gd (ck x4 150) <|
        if (S.1 15 (x4).toNatClampNeg) = (1 : Int32) then
          gd (ck x4 150) <|
          bd (fX10_isHost fu x1 x2 (S.1 14 (x4).toNatClampNeg) S) fun S_44 r_44 =>
          if r_44 = 0 then
            fX10_tellHosts_77 fu (fX10_tellHosts_3 fu n) x1 x2 x4 S_44
          else
            gd (ck x4 150) <|
            gd (ck x4 150) <|
            gd (ck x4 150) <|
            bd (fX9_addRecord fu (2 : Int32) (S_44.1 14 (x4).toNatClampNeg) (1 : Int32) (S_44.1 16 (x4).toNatClampNeg) (S_44.1 17 (x4).toNatClampNeg) S_44) fun S_74 _ =>
            fX10_tellHosts_77 fu (fX10_tellHosts_3 fu n) x1 x2 x4 S_74
        else
          fX10_tellHosts_77 fu (fX10_tellHosts_3 fu n) x1 x2 x4 S
      else
        fX10_tellHosts_77 fu (fX10_tellHosts_3 fu n) x1 x2 x4 S) := rfl
noncomputable def fX10_tellHosts (fu : Nat) (x1 : Int32) (x2 : Int32) (S : St) : Option (St × Int32) :=
  fX10_tellHosts_3 fu fu x1 x2 (0 : Int32) S
theorem mvX10_tellHosts : MV yX10_tellHosts cX10_tellHosts 5 none RX10 3 := ⟨gw5_7, gw5_6, gs_20, gw1_5, by decide +kernel⟩
def rmX10_tellHosts : Room := { frames := 5, cells := 0, slots := 0, locals := 117 }
set_option maxHeartbeats 4000000 in
set_option maxRecDepth 100000 in
theorem m_X10_tellHosts (l : Launch) (D : va_G) (cA : FieldType → ClassId) (ad : Nat → Nat) (base : Nat) (fu : Nat) {S S' : St} {x1 : Int32} {x2 : Int32} {r : Int32} (hf : fX10_tellHosts fu x1 x2 S = some (S', r)) : Met l yX10_tellHosts (GC yX10_tellHosts cX10_tellHosts 5 none) rmX10_tellHosts (va_Pc [.ref (ad 10), .int x1, .int x2, .ref (ad 18)] (wd D cA ad base S)) (QV D cA ad base S') 0 0 (aB base) := by
  refine Met.ofW (cc := cX10_tellHosts) (maxL := 5) (ret := none) (by decide) rfl ?_
  intro p e s m args below meth c s₁ B hml hv
  obtain ⟨hargs, hwd⟩ := hv
  have hr := B.returns
  have hlocks := B.notSynchronized
  obtain ⟨C, hw⟩ := CX.of (own := RX10) rfl B hml hwd
  have hx := C.1
  have hb := C.2.1
  have hl := lv_entry ([.ref (ad 10), .int x1, .int x2, .ref (ad 18)]) (n := 5) (Nat.le_of_ble_eq_true rfl)
  rw [show entryFrame m args 5 = entryFrame m ([.ref (ad 10), .int x1, .int x2, .ref (ad 18)] : List Value).toArray 5 from by rw [hargs], lg_entry_eq]
  generalize (lg_sl ([.ref (ad 10), .int x1, .int x2, .ref (ad 18)]) ++ List.replicate (5 - (lg_sl ([.ref (ad 10), .int x1, .int x2, .ref (ad 18)])).length) Slot.unset).toArray = ls at hl ⊢
  have hl : lv_has ls 5 [(0, .ref (ad 10)), (1, .int x1), (2, .int x2), (3, .ref (ad 18))] := hl
  have L_3 : ∀ (n_3 : Nat) (x1 : Int32) (x2 : Int32) (x4 : Int32) (S : St) (H : Heap) (locs : List Loc) (ls : Array Slot), fX10_tellHosts_3 fu n_3 x1 x2 x4 S = some (S', r) → lv_has ls 5 [(0, .ref (ad 10)), (1, .int x1), (2, .int x2), (3, .ref (ad 18)), (4, .int x4)] → WS D cA ad base s S H locs → W p l e rmX10_tellHosts s m args below meth c H locs 0 0 (MQ below (QV D cA ad base S') args s 0 0 (aB base)) (F0 m 3 ls []) := by
    intro n_3
    induction n_3 with
    | zero =>
      intro x1 x2 x4 S H locs ls hf hl hw
      exact (no_none hf).elim
    | succ n_3 ih_3 =>
      have J_77 : ∀ (x1 : Int32) (x2 : Int32) (x4 : Int32) (S : St) (H : Heap) (locs : List Loc) (ls : Array Slot), fX10_tellHosts_77 fu (fX10_tellHosts_3 fu n_3) x1 x2 x4 S = some (S', r) → lv_has ls 5 [(0, .ref (ad 10)), (1, .int x1), (2, .int x2), (3, .ref (ad 18)), (4, .int x4)] → WS D cA ad base s S H locs → W p l e rmX10_tellHosts s m args below meth c H locs 0 0 (MQ below (QV D cA ad base S') args s 0 0 (aB base)) (F0 m 77 ls []) := by
        intro x1 x2 x4 S H locs ls hf hl hw
        refine lv_iinc (v := (x4 + (1 : Int32))) (lv' := [(4, .int (x4 + (1 : Int32))), (0, .ref (ad 10)), (1, .int x1), (2, .int x2), (3, .ref (ad 18))]) hx hb dX10_tellHosts_77 hl (k := 4) rfl rfl (by decide) rfl (fun ls hl => ?_)
        refine lv_goto (tgt := 3) hx hb dX10_tellHosts_80 (by decide) ?_
        exact ih_3 _ _ _ _ _ _ _ hf (lv_sub hl [1, 2, 3, 4, 0] rfl) hw
      intro x1 x2 x4 S H locs ls hf hl hw
      rw [fX10_tellHosts_3_s] at hf
      refine lv_iload hx hb dX10_tellHosts_3 (lv_at hl 4 rfl) ?_
      refine lv_aload_n hx hb dX10_tellHosts_5 rfl (lv_at hl 0 rfl) ?_
      refine r_getI C hw (k := 9) dq_10 ln_10 rfl vc_10 inX10 (by decide) rfl gw1_102 dX10_tellHosts_6 ?_
      refine lv_icmp_ge (tgt := 83) hx hb dX10_tellHosts_9 (by decide) (fun c_9 => ?_) (fun c_9 => ?_)
      · have hf := if_t hf c_9
        exact r_vret C hw hr hlocks hf dX10_tellHosts_83
      · have hf := if_f hf c_9
        refine lv_aload_n hx hb dX10_tellHosts_12 rfl (lv_at hl 0 rfl) ?_
        refine r_getR C hw (k := 4) (r := 13) dq_10 ln_10 rfl vc_10 inX10 (by decide) rfl gw1_97 dX10_tellHosts_13 ?_
        refine lv_iload hx hb dX10_tellHosts_16 (lv_at hl 4 rfl) ?_
        obtain ⟨z_18, hf⟩ := gd_some hf
        refine r_iald C hw (x := 13) dq_13 ln_13 z_18 dX10_tellHosts_18 ?_
        refine lv_iload_n hx hb dX10_tellHosts_19 rfl (lv_at hl 1 rfl) ?_
        refine lv_icmp_ne (tgt := 77) hx hb dX10_tellHosts_20 (by decide) (fun c_20 => ?_) (fun c_20 => ?_)
        · have hf := if_f hf c_20
          exact J_77 _ _ _ _ _ _ _ hf (lv_sub hl [0, 1, 2, 3, 4] rfl) hw
        · have hf := if_t hf c_20
          refine lv_aload_n hx hb dX10_tellHosts_23 rfl (lv_at hl 0 rfl) ?_
          refine r_getR C hw (k := 6) (r := 15) dq_10 ln_10 rfl vc_10 inX10 (by decide) rfl gw1_99 dX10_tellHosts_24 ?_
          refine lv_iload hx hb dX10_tellHosts_27 (lv_at hl 4 rfl) ?_
          obtain ⟨z_29, hf⟩ := gd_some hf
          refine r_iald C hw (x := 15) dq_15 ln_15 z_29 dX10_tellHosts_29 ?_
          refine lv_iconst (v := (1 : Int32)) hx hb dX10_tellHosts_30 (by decide) ?_
          refine lv_icmp_ne (tgt := 77) hx hb dX10_tellHosts_31 (by decide) (fun c_31 => ?_) (fun c_31 => ?_)
          · have hf := if_f hf c_31
            exact J_77 _ _ _ _ _ _ _ hf (lv_sub hl [0, 1, 2, 3, 4] rfl) hw
          · have hf := if_t hf c_31
            refine lv_aload_n hx hb dX10_tellHosts_34 rfl (lv_at hl 0 rfl) ?_
            refine lv_iload_n hx hb dX10_tellHosts_35 rfl (lv_at hl 1 rfl) ?_
            refine lv_iload_n hx hb dX10_tellHosts_36 rfl (lv_at hl 2 rfl) ?_
            refine lv_aload_n hx hb dX10_tellHosts_37 rfl (lv_at hl 0 rfl) ?_
            refine r_getR C hw (k := 5) (r := 14) dq_10 ln_10 rfl vc_10 inX10 (by decide) rfl gw1_98 dX10_tellHosts_38 ?_
            refine lv_iload hx hb dX10_tellHosts_41 (lv_at hl 4 rfl) ?_
            obtain ⟨z_43, hf⟩ := gd_some hf
            refine r_iald C hw (x := 14) dq_14 ln_14 z_43 dX10_tellHosts_43 ?_
            obtain ⟨S_44, r_44, h_44, hf⟩ := bd_some hf
            refine r_bi hw (r_runV (rest := []) C hw (m_X10_isHost l D cA ad base fu h_44) mvX10_isHost gw5_8 ⟨rfl, rfl, Nat.le_of_ble_eq_true rfl, Nat.le_of_ble_eq_true rfl⟩ dq_10 ln_10 vc_10 rfl hl.1 rfl (Nat.le_of_ble_eq_true rfl) dX10_tellHosts_44 (Nat.zero_le _) (Nat.zero_le _)) (fun H locs hw => ?_)
            refine lv_if_eq (tgt := 77) hx hb dX10_tellHosts_47 (by decide) (fun c_47 => ?_) (fun c_47 => ?_)
            · have hf := if_t hf c_47
              exact J_77 _ _ _ _ _ _ _ hf (lv_sub hl [0, 1, 2, 3, 4] rfl) hw
            · have hf := if_f hf c_47
              refine lv_aload_n hx hb dX10_tellHosts_50 rfl (lv_at hl 3 rfl) ?_
              refine lv_iconst (v := (2 : Int32)) hx hb dX10_tellHosts_51 (by decide) ?_
              refine lv_aload_n hx hb dX10_tellHosts_52 rfl (lv_at hl 0 rfl) ?_
              refine r_getR C hw (k := 5) (r := 14) dq_10 ln_10 rfl vc_10 inX10 (by decide) rfl gw1_98 dX10_tellHosts_53 ?_
              refine lv_iload hx hb dX10_tellHosts_56 (lv_at hl 4 rfl) ?_
              obtain ⟨z_58, hf⟩ := gd_some hf
              refine r_iald C hw (x := 14) dq_14 ln_14 z_58 dX10_tellHosts_58 ?_
              refine lv_iconst (v := (1 : Int32)) hx hb dX10_tellHosts_59 (by decide) ?_
              refine lv_aload_n hx hb dX10_tellHosts_60 rfl (lv_at hl 0 rfl) ?_
              refine r_getR C hw (k := 7) (r := 16) dq_10 ln_10 rfl vc_10 inX10 (by decide) rfl gw1_100 dX10_tellHosts_61 ?_
              refine lv_iload hx hb dX10_tellHosts_64 (lv_at hl 4 rfl) ?_
              obtain ⟨z_66, hf⟩ := gd_some hf
              refine r_iald C hw (x := 16) dq_16 ln_16 z_66 dX10_tellHosts_66 ?_
              refine lv_aload_n hx hb dX10_tellHosts_67 rfl (lv_at hl 0 rfl) ?_
              refine r_getR C hw (k := 8) (r := 17) dq_10 ln_10 rfl vc_10 inX10 (by decide) rfl gw1_101 dX10_tellHosts_68 ?_
              refine lv_iload hx hb dX10_tellHosts_71 (lv_at hl 4 rfl) ?_
              obtain ⟨z_73, hf⟩ := gd_some hf
              refine r_iald C hw (x := 17) dq_17 ln_17 z_73 dX10_tellHosts_73 ?_
              obtain ⟨S_74, r_74, h_74, hf⟩ := bd_some hf
              refine r_bv hw (r_runV (rest := []) C hw (m_X9_addRecord l D cA ad base fu h_74) mvX9_addRecord gw4_226 ⟨rfl, rfl, Nat.le_of_ble_eq_true rfl, Nat.le_of_ble_eq_true rfl⟩ dq_18 ln_18 vc_9 rfl hl.1 rfl (Nat.le_of_ble_eq_true rfl) dX10_tellHosts_74 (Nat.zero_le _) (Nat.zero_le _)) (fun H locs hw => ?_)
              exact J_77 _ _ _ _ _ _ _ hf (lv_sub hl [0, 1, 2, 3, 4] rfl) hw
  show W p l e rmX10_tellHosts s m args below meth c s.heap [] 0 0 _ _
  refine lv_iconst (v := (0 : Int32)) hx hb dX10_tellHosts_0 (by decide) ?_
  refine lv_istore (lv' := [(4, .int (0 : Int32)), (0, .ref (ad 10)), (1, .int x1), (2, .int x2), (3, .ref (ad 18))]) hx hb dX10_tellHosts_1 hl (by decide) rfl (fun ls hl => ?_)
  exact L_3 fu _ _ _ _ _ _ _ hf (lv_sub hl [1, 2, 3, 4, 0] rfl) hw
noncomputable def fX10_isThere_50 (fu : Nat) (k_13 : Int32 → Int32 → Int32 → St → Option (St × Int32)) (x1 : Int32) (x2 : Int32) (x3 : Int32) (S : St) : Option (St × Int32) :=
  k_13 x1 x2 (x3 + (1 : Int32)) S
noncomputable def fX10_isThere_13 (fu : Nat) (n : Nat) : Int32 → Int32 → Int32 → St → Option (St × Int32) :=
  Nat.rec (motive := fun _ => Int32 → Int32 → Int32 → St → Option (St × Int32)) (fun _ _ _ _ => none) (fun _ k_13 x1 x2 x3 S =>
    if (S.1 10 9) ≤ x3 then
      some (S, (0 : Int32))
    else
      gd (ck x3 150) <|
      if (S.1 13 (x3).toNatClampNeg) = x1 then
        gd (ck x3 150) <|
        bd (fX3_isIn fu (S.1 14 (x3).toNatClampNeg) x2 S) fun S_42 r_42 =>
        if r_42 = 0 then
          fX10_isThere_50 fu k_13 x1 x2 x3 S_42
        else
          some (S_42, (1 : Int32))
      else
        fX10_isThere_50 fu k_13 x1 x2 x3 S) n
theorem fX10_isThere_13_s (fu : Nat) (n : Nat) (x1 : Int32) (x2 : Int32) (x3 : Int32) (S : St) : fX10_isThere_13 fu (n + 1) x1 x2 x3 S = (
    if (S.1 10 9) ≤ x3 then
      some (S, (0 : Int32))
    else
      gd (ck x3 150) <|
      if (S.1 13 (x3).toNatClampNeg) = x1 then
        gd (ck x3 150) <|
        bd (fX3_isIn fu (S.1 14 (x3).toNatClampNeg) x2 S) fun S_42 r_42 =>
        if r_42 = 0 then
          fX10_isThere_50 fu (fX10_isThere_13 fu n) x1 x2 x3 S_42
        else
          some (S_42, (1 : Int32))
      else
        fX10_isThere_50 fu (fX10_isThere_13 fu n) x1 x2 x3 S) := rfl
noncomputable def fX10_isThere (fu : Nat) (x1 : Int32) (x2 : Int32) (S : St) : Option (St × Int32) :=
  bd (fX10_apexOf fu x1 S) fun S_3 r_3 =>
  if x2 = r_3 then
    some (S_3, (1 : Int32))
  else
    fX10_isThere_13 fu fu x1 x2 (0 : Int32) S_3
theorem mvX10_isThere : MV yX10_isThere cX10_isThere 4 (some .boolean) RX10 2 := ⟨gw5_27, gw5_26, gs_22, gw1_5, by decide +kernel⟩
def rmX10_isThere : Room := { frames := 2, cells := 0, slots := 0, locals := 45 }
set_option maxHeartbeats 4000000 in
set_option maxRecDepth 100000 in
theorem m_X10_isThere (l : Launch) (D : va_G) (cA : FieldType → ClassId) (ad : Nat → Nat) (base : Nat) (fu : Nat) {S S' : St} {x1 : Int32} {x2 : Int32} {r : Int32} (hf : fX10_isThere fu x1 x2 S = some (S', r)) : Met l yX10_isThere (GC yX10_isThere cX10_isThere 4 (some .boolean)) rmX10_isThere (va_Pc [.ref (ad 10), .int x1, .int x2] (wd D cA ad base S)) (QI D cA ad base S' r) 0 0 (aB base) := by
  refine Met.ofW (cc := cX10_isThere) (maxL := 4) (ret := (some .boolean)) (by decide) rfl ?_
  intro p e s m args below meth c s₁ B hml hv
  obtain ⟨hargs, hwd⟩ := hv
  have hr := B.returns
  have hlocks := B.notSynchronized
  obtain ⟨C, hw⟩ := CX.of (own := RX10) rfl B hml hwd
  have hx := C.1
  have hb := C.2.1
  have hl := lv_entry ([.ref (ad 10), .int x1, .int x2]) (n := 4) (Nat.le_of_ble_eq_true rfl)
  rw [show entryFrame m args 4 = entryFrame m ([.ref (ad 10), .int x1, .int x2] : List Value).toArray 4 from by rw [hargs], lg_entry_eq]
  generalize (lg_sl ([.ref (ad 10), .int x1, .int x2]) ++ List.replicate (4 - (lg_sl ([.ref (ad 10), .int x1, .int x2])).length) Slot.unset).toArray = ls at hl ⊢
  have hl : lv_has ls 4 [(0, .ref (ad 10)), (1, .int x1), (2, .int x2)] := hl
  have L_13 : ∀ (n_13 : Nat) (x1 : Int32) (x2 : Int32) (x3 : Int32) (S : St) (H : Heap) (locs : List Loc) (ls : Array Slot), fX10_isThere_13 fu n_13 x1 x2 x3 S = some (S', r) → lv_has ls 4 [(0, .ref (ad 10)), (1, .int x1), (2, .int x2), (3, .int x3)] → WS D cA ad base s S H locs → W p l e rmX10_isThere s m args below meth c H locs 0 0 (MQ below (QI D cA ad base S' r) args s 0 0 (aB base)) (F0 m 13 ls []) := by
    intro n_13
    induction n_13 with
    | zero =>
      intro x1 x2 x3 S H locs ls hf hl hw
      exact (no_none hf).elim
    | succ n_13 ih_13 =>
      have J_50 : ∀ (x1 : Int32) (x2 : Int32) (x3 : Int32) (S : St) (H : Heap) (locs : List Loc) (ls : Array Slot), fX10_isThere_50 fu (fX10_isThere_13 fu n_13) x1 x2 x3 S = some (S', r) → lv_has ls 4 [(0, .ref (ad 10)), (1, .int x1), (2, .int x2), (3, .int x3)] → WS D cA ad base s S H locs → W p l e rmX10_isThere s m args below meth c H locs 0 0 (MQ below (QI D cA ad base S' r) args s 0 0 (aB base)) (F0 m 50 ls []) := by
        intro x1 x2 x3 S H locs ls hf hl hw
        refine lv_iinc (v := (x3 + (1 : Int32))) (lv' := [(3, .int (x3 + (1 : Int32))), (0, .ref (ad 10)), (1, .int x1), (2, .int x2)]) hx hb dX10_isThere_50 hl (k := 3) rfl rfl (by decide) rfl (fun ls hl => ?_)
        refine lv_goto (tgt := 13) hx hb dX10_isThere_53 (by decide) ?_
        exact ih_13 _ _ _ _ _ _ _ hf (lv_sub hl [1, 2, 3, 0] rfl) hw
      intro x1 x2 x3 S H locs ls hf hl hw
      rw [fX10_isThere_13_s] at hf
      refine lv_iload_n hx hb dX10_isThere_13 rfl (lv_at hl 3 rfl) ?_
      refine lv_aload_n hx hb dX10_isThere_14 rfl (lv_at hl 0 rfl) ?_
      refine r_getI C hw (k := 9) dq_10 ln_10 rfl vc_10 inX10 (by decide) rfl gw1_102 dX10_isThere_15 ?_
      refine lv_icmp_ge (tgt := 56) hx hb dX10_isThere_18 (by decide) (fun c_18 => ?_) (fun c_18 => ?_)
      · have hf := if_t hf c_18
        refine lv_iconst (v := (0 : Int32)) hx hb dX10_isThere_56 (by decide) ?_
        exact r_zret C hw hr hlocks rfl hf dX10_isThere_57
      · have hf := if_f hf c_18
        refine lv_aload_n hx hb dX10_isThere_21 rfl (lv_at hl 0 rfl) ?_
        refine r_getR C hw (k := 4) (r := 13) dq_10 ln_10 rfl vc_10 inX10 (by decide) rfl gw1_97 dX10_isThere_22 ?_
        refine lv_iload_n hx hb dX10_isThere_25 rfl (lv_at hl 3 rfl) ?_
        obtain ⟨z_26, hf⟩ := gd_some hf
        refine r_iald C hw (x := 13) dq_13 ln_13 z_26 dX10_isThere_26 ?_
        refine lv_iload_n hx hb dX10_isThere_27 rfl (lv_at hl 1 rfl) ?_
        refine lv_icmp_ne (tgt := 50) hx hb dX10_isThere_28 (by decide) (fun c_28 => ?_) (fun c_28 => ?_)
        · have hf := if_f hf c_28
          exact J_50 _ _ _ _ _ _ _ hf (lv_sub hl [0, 1, 2, 3] rfl) hw
        · have hf := if_t hf c_28
          refine lv_aload_n hx hb dX10_isThere_31 rfl (lv_at hl 0 rfl) ?_
          refine r_getR C hw (k := 0) (r := 3) dq_10 ln_10 rfl vc_10 inX10 (by decide) rfl gw1_93 dX10_isThere_32 ?_
          refine lv_aload_n hx hb dX10_isThere_35 rfl (lv_at hl 0 rfl) ?_
          refine r_getR C hw (k := 5) (r := 14) dq_10 ln_10 rfl vc_10 inX10 (by decide) rfl gw1_98 dX10_isThere_36 ?_
          refine lv_iload_n hx hb dX10_isThere_39 rfl (lv_at hl 3 rfl) ?_
          obtain ⟨z_40, hf⟩ := gd_some hf
          refine r_iald C hw (x := 14) dq_14 ln_14 z_40 dX10_isThere_40 ?_
          refine lv_iload_n hx hb dX10_isThere_41 rfl (lv_at hl 2 rfl) ?_
          obtain ⟨S_42, r_42, h_42, hf⟩ := bd_some hf
          refine r_bi hw (r_runV (rest := []) C hw (m_X3_isIn l D cA ad base fu h_42) mvX3_isIn gw5_28 ⟨rfl, rfl, Nat.le_of_ble_eq_true rfl, Nat.le_of_ble_eq_true rfl⟩ dq_3 ln_3 vc_3 rfl hl.1 rfl (Nat.le_of_ble_eq_true rfl) dX10_isThere_42 (Nat.zero_le _) (Nat.zero_le _)) (fun H locs hw => ?_)
          refine lv_if_eq (tgt := 50) hx hb dX10_isThere_45 (by decide) (fun c_45 => ?_) (fun c_45 => ?_)
          · have hf := if_t hf c_45
            exact J_50 _ _ _ _ _ _ _ hf (lv_sub hl [0, 1, 2, 3] rfl) hw
          · have hf := if_f hf c_45
            refine lv_iconst (v := (1 : Int32)) hx hb dX10_isThere_48 (by decide) ?_
            exact r_zret C hw hr hlocks rfl hf dX10_isThere_49
  show W p l e rmX10_isThere s m args below meth c s.heap [] 0 0 _ _
  refine lv_iload_n hx hb dX10_isThere_0 rfl (lv_at hl 2 rfl) ?_
  refine lv_aload_n hx hb dX10_isThere_1 rfl (lv_at hl 0 rfl) ?_
  refine lv_iload_n hx hb dX10_isThere_2 rfl (lv_at hl 1 rfl) ?_
  obtain ⟨S_3, r_3, h_3, hf⟩ := bd_some hf
  refine r_bi hw (r_runV (rest := [.int x2]) C hw (m_X10_apexOf l D cA ad base fu h_3) mvX10_apexOf gw4_216 ⟨rfl, rfl, Nat.le_of_ble_eq_true rfl, Nat.le_of_ble_eq_true rfl⟩ dq_10 ln_10 vc_10 rfl hl.1 rfl (Nat.le_of_ble_eq_true rfl) dX10_isThere_3 (Nat.zero_le _) (Nat.zero_le _)) (fun H locs hw => ?_)
  refine lv_icmp_ne (tgt := 11) hx hb dX10_isThere_6 (by decide) (fun c_6 => ?_) (fun c_6 => ?_)
  · have hf := if_f hf c_6
    refine lv_iconst (v := (0 : Int32)) hx hb dX10_isThere_11 (by decide) ?_
    refine lv_istore_n (lv' := [(3, .int (0 : Int32)), (0, .ref (ad 10)), (1, .int x1), (2, .int x2)]) hx hb dX10_isThere_12 rfl hl (by decide) rfl (fun ls hl => ?_)
    exact L_13 fu _ _ _ _ _ _ _ hf (lv_sub hl [1, 2, 3, 0] rfl) hw
  · have hf := if_t hf c_6
    refine lv_iconst (v := (1 : Int32)) hx hb dX10_isThere_9 (by decide) ?_
    exact r_zret C hw hr hlocks rfl hf dX10_isThere_10
noncomputable def fX10_tell_172 (fu : Nat) (t0 : Int32) (S : St) : Option (St × Int32) :=
  bd (fX9_finish fu t0 S) fun S_172 r_172 =>
  gd (isB r_172) <|
  some (S_172, r_172)
noncomputable def fX10_tell_149 (fu : Nat) (x1 : Int32) (x2 : Int32) (t0 : Int32) (t1 : Int32) (S : St) : Option (St × Int32) :=
  bd (fX9_addSoa fu t1 t0 S) fun S_149 _ =>
  bd (fX10_isThere fu x1 x2 S_149) fun S_157 r_157 =>
  if r_157 = 0 then
    fX10_tell_172 fu (1027 : Int32) S_157
  else
    fX10_tell_172 fu (1024 : Int32) S_157
noncomputable def fX10_tell_108 (fu : Nat) (x1 : Int32) (x2 : Int32) (t0 : Int32) (S : St) : Option (St × Int32) :=
  if t0 ≤ 0 then
    bd (fX10_apexOf fu x1 S) fun S_128 r_128 =>
    bd (fX10_has fu x1 S_128) fun S_133 r_133 =>
    if r_133 = 0 then
      fX10_tell_149 fu x1 x2 (1 : Int32) r_128 S_133
    else
      gd (ck x1 12) <|
      fX10_tell_149 fu x1 x2 (S_133.1 12 (x1).toNatClampNeg) r_128 S_133
  else
    bd (fX9_finish fu (1024 : Int32) S) fun S_120 r_120 =>
    gd (isB r_120) <|
    some (S_120, r_120)
noncomputable def fX10_tell_74 (fu : Nat) (x1 : Int32) (x2 : Int32) (x3 : Int32) (t0 : Int32) (S : St) : Option (St × Int32) :=
  if t0 = 0 then
    bd (fX10_tellAll fu x1 x2 x3 (0 : Int32) (150 : Int32) S) fun S_105 r_105 =>
    fX10_tell_108 fu x1 x2 r_105 S_105
  else
    bd (fX10_tellAll fu x1 x2 (5 : Int32) (0 : Int32) (1 : Int32) S) fun S_89 r_89 =>
    fX10_tell_108 fu x1 x2 r_89 S_89
noncomputable def fX10_tell_73 (fu : Nat) (x1 : Int32) (x2 : Int32) (x3 : Int32) (S : St) : Option (St × Int32) :=
  fX10_tell_74 fu x1 x2 x3 (0 : Int32) S
noncomputable def fX10_tell (fu : Nat) (x1 : Int32) (x2 : Int32) (x3 : Int32) (x4 : Int32) (S : St) : Option (St × Int32) :=
  bd (fX9_begin fu x4 x2 x3 S) fun S_6 _ =>
  bd (fX10_highestCut fu x1 x2 S_6) fun S_12 r_12 =>
  if r_12 = (-1 : Int32) then
    if x3 = (5 : Int32) then
      fX10_tell_73 fu x1 x2 x3 S_12
    else
      bd (fX10_owns fu x1 x2 (5 : Int32) S_12) fun S_63 r_63 =>
      if r_63 = 0 then
        fX10_tell_73 fu x1 x2 x3 S_63
      else
        fX10_tell_74 fu x1 x2 x3 (1 : Int32) S_63
  else
    bd (fX10_tellAll fu x1 r_12 (2 : Int32) (1 : Int32) (150 : Int32) S_12) fun S_34 r_34 =>
    bd (fX10_tellHosts fu x1 r_12 S_34) fun S_44 _ =>
    bd (fX9_finish fu (0 : Int32) S_44) fun S_50 r_50 =>
    gd (isB r_50) <|
    some (S_50, r_50)
theorem mvX10_tell : MV yX10_tell cX10_tell 9 (some .boolean) RX10 5 := ⟨gw4_186, gw4_184, gw4_185, gw1_5, by decide +kernel⟩
def rmX10_tell : Room := { frames := 6, cells := 0, slots := 0, locals := 145 }
set_option maxHeartbeats 4000000 in
set_option maxRecDepth 100000 in
theorem m_X10_tell (l : Launch) (D : va_G) (cA : FieldType → ClassId) (ad : Nat → Nat) (base : Nat) (fu : Nat) {S S' : St} {x1 : Int32} {x2 : Int32} {x3 : Int32} {x4 : Int32} {r : Int32} (hf : fX10_tell fu x1 x2 x3 x4 S = some (S', r)) : Met l yX10_tell (GC yX10_tell cX10_tell 9 (some .boolean)) rmX10_tell (va_Pc [.ref (ad 10), .int x1, .int x2, .int x3, .int x4, .ref (ad 18)] (wd D cA ad base S)) (QI D cA ad base S' r) 0 0 (aB base) := by
  refine Met.ofW (cc := cX10_tell) (maxL := 9) (ret := (some .boolean)) (by decide) rfl ?_
  intro p e s m args below meth c s₁ B hml hv
  obtain ⟨hargs, hwd⟩ := hv
  have hr := B.returns
  have hlocks := B.notSynchronized
  obtain ⟨C, hw⟩ := CX.of (own := RX10) rfl B hml hwd
  have hx := C.1
  have hb := C.2.1
  have hl := lv_entry ([.ref (ad 10), .int x1, .int x2, .int x3, .int x4, .ref (ad 18)]) (n := 9) (Nat.le_of_ble_eq_true rfl)
  rw [show entryFrame m args 9 = entryFrame m ([.ref (ad 10), .int x1, .int x2, .int x3, .int x4, .ref (ad 18)] : List Value).toArray 9 from by rw [hargs], lg_entry_eq]
  generalize (lg_sl ([.ref (ad 10), .int x1, .int x2, .int x3, .int x4, .ref (ad 18)]) ++ List.replicate (9 - (lg_sl ([.ref (ad 10), .int x1, .int x2, .int x3, .int x4, .ref (ad 18)])).length) Slot.unset).toArray = ls at hl ⊢
  have hl : lv_has ls 9 [(0, .ref (ad 10)), (1, .int x1), (2, .int x2), (3, .int x3), (4, .int x4), (5, .ref (ad 18))] := hl
  have J_172 : ∀ (t0 : Int32) (S : St) (H : Heap) (locs : List Loc) (ls : Array Slot), fX10_tell_172 fu t0 S = some (S', r) → lv_has ls 9 [] → WS D cA ad base s S H locs → W p l e rmX10_tell s m args below meth c H locs 0 0 (MQ below (QI D cA ad base S' r) args s 0 0 (aB base)) (F0 m 172 ls [.int t0, .ref (ad 18)]) := by
    intro t0 S H locs ls hf hl hw
    obtain ⟨S_172, r_172, h_172, hf⟩ := bd_some hf
    refine r_bi hw (r_runV (rest := []) C hw (m_X9_finish l D cA ad base fu h_172) mvX9_finish gw5_12 ⟨rfl, rfl, Nat.le_of_ble_eq_true rfl, Nat.le_of_ble_eq_true rfl⟩ dq_18 ln_18 vc_9 rfl hl.1 rfl (Nat.le_of_ble_eq_true rfl) dX10_tell_172 (Nat.zero_le _) (Nat.zero_le _)) (fun H locs hw => ?_)
    obtain ⟨z_175, hf⟩ := gd_some hf
    exact r_zret C hw hr hlocks z_175 hf dX10_tell_175
  have J_149 : ∀ (x1 : Int32) (x2 : Int32) (t0 : Int32) (t1 : Int32) (S : St) (H : Heap) (locs : List Loc) (ls : Array Slot), fX10_tell_149 fu x1 x2 t0 t1 S = some (S', r) → lv_has ls 9 [(0, .ref (ad 10)), (1, .int x1), (2, .int x2), (5, .ref (ad 18))] → WS D cA ad base s S H locs → W p l e rmX10_tell s m args below meth c H locs 0 0 (MQ below (QI D cA ad base S' r) args s 0 0 (aB base)) (F0 m 149 ls [.int t0, .int t1, .ref (ad 18)]) := by
    intro x1 x2 t0 t1 S H locs ls hf hl hw
    obtain ⟨S_149, r_149, h_149, hf⟩ := bd_some hf
    refine r_bv hw (r_runV (rest := []) C hw (m_X9_addSoa l D cA ad base fu h_149) mvX9_addSoa gw5_20 ⟨rfl, rfl, Nat.le_of_ble_eq_true rfl, Nat.le_of_ble_eq_true rfl⟩ dq_18 ln_18 vc_9 rfl hl.1 rfl (Nat.le_of_ble_eq_true rfl) dX10_tell_149 (Nat.zero_le _) (Nat.zero_le _)) (fun H locs hw => ?_)
    refine lv_aload hx hb dX10_tell_152 (lv_at hl 3 rfl) ?_
    refine lv_aload_n hx hb dX10_tell_154 rfl (lv_at hl 0 rfl) ?_
    refine lv_iload_n hx hb dX10_tell_155 rfl (lv_at hl 1 rfl) ?_
    refine lv_iload_n hx hb dX10_tell_156 rfl (lv_at hl 2 rfl) ?_
    obtain ⟨S_157, r_157, h_157, hf⟩ := bd_some hf
    refine r_bi hw (r_runV (rest := [.ref (ad 18)]) C hw (m_X10_isThere l D cA ad base fu h_157) mvX10_isThere gw5_24 ⟨rfl, rfl, Nat.le_of_ble_eq_true rfl, Nat.le_of_ble_eq_true rfl⟩ dq_10 ln_10 vc_10 rfl hl.1 rfl (Nat.le_of_ble_eq_true rfl) dX10_tell_157 (Nat.zero_le _) (Nat.zero_le _)) (fun H locs hw => ?_)
    refine lv_if_eq (tgt := 169) hx hb dX10_tell_160 (by decide) (fun c_160 => ?_) (fun c_160 => ?_)
    · have hf := if_t hf c_160
      refine lv_sipush (v := (1027 : Int32)) hx hb dX10_tell_169 (by decide) ?_
      exact J_172 _ _ _ _ _ hf (lv_sub hl [] rfl) hw
    · have hf := if_f hf c_160
      refine lv_sipush (v := (1024 : Int32)) hx hb dX10_tell_163 (by decide) ?_
      refine lv_goto (tgt := 172) hx hb dX10_tell_166 (by decide) ?_
      exact J_172 _ _ _ _ _ hf (lv_sub hl [] rfl) hw
  have J_108 : ∀ (x1 : Int32) (x2 : Int32) (t0 : Int32) (S : St) (H : Heap) (locs : List Loc) (ls : Array Slot), fX10_tell_108 fu x1 x2 t0 S = some (S', r) → lv_has ls 9 [(0, .ref (ad 10)), (1, .int x1), (2, .int x2), (5, .ref (ad 18))] → WS D cA ad base s S H locs → W p l e rmX10_tell s m args below meth c H locs 0 0 (MQ below (QI D cA ad base S' r) args s 0 0 (aB base)) (F0 m 108 ls [.int t0]) := by
    intro x1 x2 t0 S H locs ls hf hl hw
    refine lv_istore (lv' := [(8, .int t0), (0, .ref (ad 10)), (1, .int x1), (2, .int x2), (5, .ref (ad 18))]) hx hb dX10_tell_108 hl (by decide) rfl (fun ls hl => ?_)
    refine lv_iload hx hb dX10_tell_110 (lv_at hl 0 rfl) ?_
    refine lv_if_le (tgt := 124) hx hb dX10_tell_112 (by decide) (fun c_112 => ?_) (fun c_112 => ?_)
    · have hf := if_t hf c_112
      refine lv_aload hx hb dX10_tell_124 (lv_at hl 4 rfl) ?_
      refine lv_aload_n hx hb dX10_tell_126 rfl (lv_at hl 1 rfl) ?_
      refine lv_iload_n hx hb dX10_tell_127 rfl (lv_at hl 2 rfl) ?_
      obtain ⟨S_128, r_128, h_128, hf⟩ := bd_some hf
      refine r_bi hw (r_runV (rest := [.ref (ad 18)]) C hw (m_X10_apexOf l D cA ad base fu h_128) mvX10_apexOf gw4_216 ⟨rfl, rfl, Nat.le_of_ble_eq_true rfl, Nat.le_of_ble_eq_true rfl⟩ dq_10 ln_10 vc_10 rfl hl.1 rfl (Nat.le_of_ble_eq_true rfl) dX10_tell_128 (Nat.zero_le _) (Nat.zero_le _)) (fun H locs hw => ?_)
      refine lv_aload_n hx hb dX10_tell_131 rfl (lv_at hl 1 rfl) ?_
      refine lv_iload_n hx hb dX10_tell_132 rfl (lv_at hl 2 rfl) ?_
      obtain ⟨S_133, r_133, h_133, hf⟩ := bd_some hf
      refine r_bi hw (r_runV (rest := [.int r_128, .ref (ad 18)]) C hw (m_X10_has l D cA ad base fu h_133) mvX10_has gw4_95 ⟨rfl, rfl, Nat.le_of_ble_eq_true rfl, Nat.le_of_ble_eq_true rfl⟩ dq_10 ln_10 vc_10 rfl hl.1 rfl (Nat.le_of_ble_eq_true rfl) dX10_tell_133 (Nat.zero_le _) (Nat.zero_le _)) (fun H locs hw => ?_)
      refine lv_if_eq (tgt := 148) hx hb dX10_tell_136 (by decide) (fun c_136 => ?_) (fun c_136 => ?_)
      · have hf := if_t hf c_136
        refine lv_iconst (v := (1 : Int32)) hx hb dX10_tell_148 (by decide) ?_
        exact J_149 _ _ _ _ _ _ _ _ hf (lv_sub hl [1, 2, 3, 4] rfl) hw
      · have hf := if_f hf c_136
        refine lv_aload_n hx hb dX10_tell_139 rfl (lv_at hl 1 rfl) ?_
        refine r_getR C hw (k := 2) (r := 12) dq_10 ln_10 rfl vc_10 inX10 (by decide) rfl gw1_95 dX10_tell_140 ?_
        refine lv_iload_n hx hb dX10_tell_143 rfl (lv_at hl 2 rfl) ?_
        obtain ⟨z_144, hf⟩ := gd_some hf
        refine r_iald C hw (x := 12) dq_12 ln_12 z_144 dX10_tell_144 ?_
        refine lv_goto (tgt := 149) hx hb dX10_tell_145 (by decide) ?_
        exact J_149 _ _ _ _ _ _ _ _ hf (lv_sub hl [1, 2, 3, 4] rfl) hw
    · have hf := if_f hf c_112
      refine lv_aload hx hb dX10_tell_115 (lv_at hl 4 rfl) ?_
      refine lv_sipush (v := (1024 : Int32)) hx hb dX10_tell_117 (by decide) ?_
      obtain ⟨S_120, r_120, h_120, hf⟩ := bd_some hf
      refine r_bi hw (r_runV (rest := []) C hw (m_X9_finish l D cA ad base fu h_120) mvX9_finish gw5_12 ⟨rfl, rfl, Nat.le_of_ble_eq_true rfl, Nat.le_of_ble_eq_true rfl⟩ dq_18 ln_18 vc_9 rfl hl.1 rfl (Nat.le_of_ble_eq_true rfl) dX10_tell_120 (Nat.zero_le _) (Nat.zero_le _)) (fun H locs hw => ?_)
      obtain ⟨z_123, hf⟩ := gd_some hf
      exact r_zret C hw hr hlocks z_123 hf dX10_tell_123
  have J_74 : ∀ (x1 : Int32) (x2 : Int32) (x3 : Int32) (t0 : Int32) (S : St) (H : Heap) (locs : List Loc) (ls : Array Slot), fX10_tell_74 fu x1 x2 x3 t0 S = some (S', r) → lv_has ls 9 [(0, .ref (ad 10)), (1, .int x1), (2, .int x2), (3, .int x3), (5, .ref (ad 18))] → WS D cA ad base s S H locs → W p l e rmX10_tell s m args below meth c H locs 0 0 (MQ below (QI D cA ad base S' r) args s 0 0 (aB base)) (F0 m 74 ls [.int t0]) := by
    intro x1 x2 x3 t0 S H locs ls hf hl hw
    refine lv_istore (lv' := [(7, .int t0), (0, .ref (ad 10)), (1, .int x1), (2, .int x2), (3, .int x3), (5, .ref (ad 18))]) hx hb dX10_tell_74 hl (by decide) rfl (fun ls hl => ?_)
    refine lv_iload hx hb dX10_tell_76 (lv_at hl 0 rfl) ?_
    refine lv_if_eq (tgt := 95) hx hb dX10_tell_78 (by decide) (fun c_78 => ?_) (fun c_78 => ?_)
    · have hf := if_t hf c_78
      refine lv_aload_n hx hb dX10_tell_95 rfl (lv_at hl 1 rfl) ?_
      refine lv_iload_n hx hb dX10_tell_96 rfl (lv_at hl 2 rfl) ?_
      refine lv_iload_n hx hb dX10_tell_97 rfl (lv_at hl 3 rfl) ?_
      refine lv_iload_n hx hb dX10_tell_98 rfl (lv_at hl 4 rfl) ?_
      refine lv_iconst (v := (0 : Int32)) hx hb dX10_tell_99 (by decide) ?_
      refine lv_sipush (v := (150 : Int32)) hx hb dX10_tell_100 (by decide) ?_
      refine lv_aload hx hb dX10_tell_103 (lv_at hl 5 rfl) ?_
      obtain ⟨S_105, r_105, h_105, hf⟩ := bd_some hf
      refine r_bi hw (r_runV (rest := []) C hw (m_X10_tellAll l D cA ad base fu h_105) mvX10_tellAll gw4_222 ⟨rfl, rfl, Nat.le_of_ble_eq_true rfl, Nat.le_of_ble_eq_true rfl⟩ dq_10 ln_10 vc_10 rfl hl.1 rfl (Nat.le_of_ble_eq_true rfl) dX10_tell_105 (Nat.zero_le _) (Nat.zero_le _)) (fun H locs hw => ?_)
      exact J_108 _ _ _ _ _ _ _ hf (lv_sub hl [1, 2, 3, 5] rfl) hw
    · have hf := if_f hf c_78
      refine lv_aload_n hx hb dX10_tell_81 rfl (lv_at hl 1 rfl) ?_
      refine lv_iload_n hx hb dX10_tell_82 rfl (lv_at hl 2 rfl) ?_
      refine lv_iload_n hx hb dX10_tell_83 rfl (lv_at hl 3 rfl) ?_
      refine lv_iconst (v := (5 : Int32)) hx hb dX10_tell_84 (by decide) ?_
      refine lv_iconst (v := (0 : Int32)) hx hb dX10_tell_85 (by decide) ?_
      refine lv_iconst (v := (1 : Int32)) hx hb dX10_tell_86 (by decide) ?_
      refine lv_aload hx hb dX10_tell_87 (lv_at hl 5 rfl) ?_
      obtain ⟨S_89, r_89, h_89, hf⟩ := bd_some hf
      refine r_bi hw (r_runV (rest := []) C hw (m_X10_tellAll l D cA ad base fu h_89) mvX10_tellAll gw4_222 ⟨rfl, rfl, Nat.le_of_ble_eq_true rfl, Nat.le_of_ble_eq_true rfl⟩ dq_10 ln_10 vc_10 rfl hl.1 rfl (Nat.le_of_ble_eq_true rfl) dX10_tell_89 (Nat.zero_le _) (Nat.zero_le _)) (fun H locs hw => ?_)
      refine lv_goto (tgt := 108) hx hb dX10_tell_92 (by decide) ?_
      exact J_108 _ _ _ _ _ _ _ hf (lv_sub hl [1, 2, 3, 5] rfl) hw
  have J_73 : ∀ (x1 : Int32) (x2 : Int32) (x3 : Int32) (S : St) (H : Heap) (locs : List Loc) (ls : Array Slot), fX10_tell_73 fu x1 x2 x3 S = some (S', r) → lv_has ls 9 [(0, .ref (ad 10)), (1, .int x1), (2, .int x2), (3, .int x3), (5, .ref (ad 18))] → WS D cA ad base s S H locs → W p l e rmX10_tell s m args below meth c H locs 0 0 (MQ below (QI D cA ad base S' r) args s 0 0 (aB base)) (F0 m 73 ls []) := by
    intro x1 x2 x3 S H locs ls hf hl hw
    refine lv_iconst (v := (0 : Int32)) hx hb dX10_tell_73 (by decide) ?_
    exact J_74 _ _ _ _ _ _ _ _ hf (lv_sub hl [0, 1, 2, 3, 4] rfl) hw
  show W p l e rmX10_tell s m args below meth c s.heap [] 0 0 _ _
  refine lv_aload hx hb dX10_tell_0 (lv_at hl 5 rfl) ?_
  refine lv_iload hx hb dX10_tell_2 (lv_at hl 4 rfl) ?_
  refine lv_iload_n hx hb dX10_tell_4 rfl (lv_at hl 2 rfl) ?_
  refine lv_iload_n hx hb dX10_tell_5 rfl (lv_at hl 3 rfl) ?_
  obtain ⟨S_6, r_6, h_6, hf⟩ := bd_some hf
  refine r_bv hw (r_runV (rest := []) C hw (m_X9_begin l D cA ad base fu h_6) mvX9_begin gw4_187 ⟨rfl, rfl, Nat.le_of_ble_eq_true rfl, Nat.le_of_ble_eq_true rfl⟩ dq_18 ln_18 vc_9 rfl hl.1 rfl (Nat.le_of_ble_eq_true rfl) dX10_tell_6 (Nat.zero_le _) (Nat.zero_le _)) (fun H locs hw => ?_)
  refine lv_aload_n hx hb dX10_tell_9 rfl (lv_at hl 0 rfl) ?_
  refine lv_iload_n hx hb dX10_tell_10 rfl (lv_at hl 1 rfl) ?_
  refine lv_iload_n hx hb dX10_tell_11 rfl (lv_at hl 2 rfl) ?_
  obtain ⟨S_12, r_12, h_12, hf⟩ := bd_some hf
  refine r_bi hw (r_runV (rest := []) C hw (m_X10_highestCut l D cA ad base fu h_12) mvX10_highestCut gw4_212 ⟨rfl, rfl, Nat.le_of_ble_eq_true rfl, Nat.le_of_ble_eq_true rfl⟩ dq_10 ln_10 vc_10 rfl hl.1 rfl (Nat.le_of_ble_eq_true rfl) dX10_tell_12 (Nat.zero_le _) (Nat.zero_le _)) (fun H locs hw => ?_)
  refine lv_istore (lv' := [(6, .int r_12), (0, .ref (ad 10)), (1, .int x1), (2, .int x2), (3, .int x3), (4, .int x4), (5, .ref (ad 18))]) hx hb dX10_tell_15 hl (by decide) rfl (fun ls hl => ?_)
  refine lv_iload hx hb dX10_tell_17 (lv_at hl 0 rfl) ?_
  refine lv_iconst (v := (-1 : Int32)) hx hb dX10_tell_19 (by decide) ?_
  refine lv_icmp_eq (tgt := 54) hx hb dX10_tell_20 (by decide) (fun c_20 => ?_) (fun c_20 => ?_)
  · have hf := if_t hf c_20
    refine lv_iload_n hx hb dX10_tell_54 rfl (lv_at hl 4 rfl) ?_
    refine lv_iconst (v := (5 : Int32)) hx hb dX10_tell_55 (by decide) ?_
    refine lv_icmp_eq (tgt := 73) hx hb dX10_tell_56 (by decide) (fun c_56 => ?_) (fun c_56 => ?_)
    · have hf := if_t hf c_56
      exact J_73 _ _ _ _ _ _ _ hf (lv_sub hl [1, 2, 3, 4, 6] rfl) hw
    · have hf := if_f hf c_56
      refine lv_aload_n hx hb dX10_tell_59 rfl (lv_at hl 1 rfl) ?_
      refine lv_iload_n hx hb dX10_tell_60 rfl (lv_at hl 2 rfl) ?_
      refine lv_iload_n hx hb dX10_tell_61 rfl (lv_at hl 3 rfl) ?_
      refine lv_iconst (v := (5 : Int32)) hx hb dX10_tell_62 (by decide) ?_
      obtain ⟨S_63, r_63, h_63, hf⟩ := bd_some hf
      refine r_bi hw (r_runV (rest := []) C hw (m_X10_owns l D cA ad base fu h_63) mvX10_owns gw4_217 ⟨rfl, rfl, Nat.le_of_ble_eq_true rfl, Nat.le_of_ble_eq_true rfl⟩ dq_10 ln_10 vc_10 rfl hl.1 rfl (Nat.le_of_ble_eq_true rfl) dX10_tell_63 (Nat.zero_le _) (Nat.zero_le _)) (fun H locs hw => ?_)
      refine lv_if_eq (tgt := 73) hx hb dX10_tell_66 (by decide) (fun c_66 => ?_) (fun c_66 => ?_)
      · have hf := if_t hf c_66
        exact J_73 _ _ _ _ _ _ _ hf (lv_sub hl [1, 2, 3, 4, 6] rfl) hw
      · have hf := if_f hf c_66
        refine lv_iconst (v := (1 : Int32)) hx hb dX10_tell_69 (by decide) ?_
        refine lv_goto (tgt := 74) hx hb dX10_tell_70 (by decide) ?_
        exact J_74 _ _ _ _ _ _ _ _ hf (lv_sub hl [1, 2, 3, 4, 6] rfl) hw
  · have hf := if_f hf c_20
    refine lv_aload_n hx hb dX10_tell_23 rfl (lv_at hl 1 rfl) ?_
    refine lv_iload_n hx hb dX10_tell_24 rfl (lv_at hl 2 rfl) ?_
    refine lv_iload hx hb dX10_tell_25 (lv_at hl 0 rfl) ?_
    refine lv_iconst (v := (2 : Int32)) hx hb dX10_tell_27 (by decide) ?_
    refine lv_iconst (v := (1 : Int32)) hx hb dX10_tell_28 (by decide) ?_
    refine lv_sipush (v := (150 : Int32)) hx hb dX10_tell_29 (by decide) ?_
    refine lv_aload hx hb dX10_tell_32 (lv_at hl 6 rfl) ?_
    obtain ⟨S_34, r_34, h_34, hf⟩ := bd_some hf
    refine r_bi hw (r_runV (rest := []) C hw (m_X10_tellAll l D cA ad base fu h_34) mvX10_tellAll gw4_222 ⟨rfl, rfl, Nat.le_of_ble_eq_true rfl, Nat.le_of_ble_eq_true rfl⟩ dq_10 ln_10 vc_10 rfl hl.1 rfl (Nat.le_of_ble_eq_true rfl) dX10_tell_34 (Nat.zero_le _) (Nat.zero_le _)) (fun H locs hw => ?_)
    refine lv_pop hx hb dX10_tell_37 rfl ?_
    refine lv_aload_n hx hb dX10_tell_38 rfl (lv_at hl 1 rfl) ?_
    refine lv_iload_n hx hb dX10_tell_39 rfl (lv_at hl 2 rfl) ?_
    refine lv_iload hx hb dX10_tell_40 (lv_at hl 0 rfl) ?_
    refine lv_aload hx hb dX10_tell_42 (lv_at hl 6 rfl) ?_
    obtain ⟨S_44, r_44, h_44, hf⟩ := bd_some hf
    refine r_bv hw (r_runV (rest := []) C hw (m_X10_tellHosts l D cA ad base fu h_44) mvX10_tellHosts gw5_4 ⟨rfl, rfl, Nat.le_of_ble_eq_true rfl, Nat.le_of_ble_eq_true rfl⟩ dq_10 ln_10 vc_10 rfl hl.1 rfl (Nat.le_of_ble_eq_true rfl) dX10_tell_44 (Nat.zero_le _) (Nat.zero_le _)) (fun H locs hw => ?_)
    refine lv_aload hx hb dX10_tell_47 (lv_at hl 6 rfl) ?_
    refine lv_iconst (v := (0 : Int32)) hx hb dX10_tell_49 (by decide) ?_
    obtain ⟨S_50, r_50, h_50, hf⟩ := bd_some hf
    refine r_bi hw (r_runV (rest := []) C hw (m_X9_finish l D cA ad base fu h_50) mvX9_finish gw5_12 ⟨rfl, rfl, Nat.le_of_ble_eq_true rfl, Nat.le_of_ble_eq_true rfl⟩ dq_18 ln_18 vc_9 rfl hl.1 rfl (Nat.le_of_ble_eq_true rfl) dX10_tell_50 (Nat.zero_le _) (Nat.zero_le _)) (fun H locs hw => ?_)
    obtain ⟨z_53, hf⟩ := gd_some hf
    exact r_zret C hw hr hlocks z_53 hf dX10_tell_53
noncomputable def fX7_size (fu : Nat) (S : St) : Option (St × Int32) :=
  some (S, (S.1 23 4))
theorem mvX7_size : MV yX7_size cX7_size 1 (some .int) RX7 0 := ⟨gw3_86, gw3_84, gw3_85, gw1_7, by decide +kernel⟩
def rmX7_size : Room := { frames := 0, cells := 0, slots := 0, locals := 0 }
set_option maxHeartbeats 4000000 in
set_option maxRecDepth 100000 in
theorem m_X7_size (l : Launch) (D : va_G) (cA : FieldType → ClassId) (ad : Nat → Nat) (base : Nat) (fu : Nat) {S S' : St} {r : Int32} (hf : fX7_size fu S = some (S', r)) : Met l yX7_size (GC yX7_size cX7_size 1 (some .int)) rmX7_size (va_Pc [.ref (ad 23)] (wd D cA ad base S)) (QI D cA ad base S' r) 0 0 (aB base) := by
  refine Met.ofW (cc := cX7_size) (maxL := 1) (ret := (some .int)) (by decide) rfl ?_
  intro p e s m args below meth c s₁ B hml hv
  obtain ⟨hargs, hwd⟩ := hv
  have hr := B.returns
  have hlocks := B.notSynchronized
  obtain ⟨C, hw⟩ := CX.of (own := RX7) rfl B hml hwd
  have hx := C.1
  have hb := C.2.1
  have hl := lv_entry ([.ref (ad 23)]) (n := 1) (Nat.le_of_ble_eq_true rfl)
  rw [show entryFrame m args 1 = entryFrame m ([.ref (ad 23)] : List Value).toArray 1 from by rw [hargs], lg_entry_eq]
  generalize (lg_sl ([.ref (ad 23)]) ++ List.replicate (1 - (lg_sl ([.ref (ad 23)])).length) Slot.unset).toArray = ls at hl ⊢
  have hl : lv_has ls 1 [(0, .ref (ad 23))] := hl
  show W p l e rmX7_size s m args below meth c s.heap [] 0 0 _ _
  refine lv_aload_n hx hb dX7_size_0 rfl (lv_at hl 0 rfl) ?_
  refine r_getI C hw (k := 4) dq_23 ln_23 rfl vc_7 inX7 (by decide) rfl gw1_155 dX7_size_1 ?_
  exact r_iret C hw hr hlocks hf dX7_size_4
noncomputable def fX7_has (fu : Nat) (x1 : Int32) (S : St) : Option (St × Int32) :=
  if x1 < 0 then
    some (S, (0 : Int32))
  else
    if (S.1 23 4) ≤ x1 then
      some (S, (0 : Int32))
    else
      some (S, (1 : Int32))
theorem mvX7_has : MV yX7_has cX7_has 2 (some .boolean) RX7 1 := ⟨gw4_159, gw4_157, gw4_158, gw1_7, by decide +kernel⟩
def rmX7_has : Room := { frames := 0, cells := 0, slots := 0, locals := 0 }
set_option maxHeartbeats 4000000 in
set_option maxRecDepth 100000 in
theorem m_X7_has (l : Launch) (D : va_G) (cA : FieldType → ClassId) (ad : Nat → Nat) (base : Nat) (fu : Nat) {S S' : St} {x1 : Int32} {r : Int32} (hf : fX7_has fu x1 S = some (S', r)) : Met l yX7_has (GC yX7_has cX7_has 2 (some .boolean)) rmX7_has (va_Pc [.ref (ad 23), .int x1] (wd D cA ad base S)) (QI D cA ad base S' r) 0 0 (aB base) := by
  refine Met.ofW (cc := cX7_has) (maxL := 2) (ret := (some .boolean)) (by decide) rfl ?_
  intro p e s m args below meth c s₁ B hml hv
  obtain ⟨hargs, hwd⟩ := hv
  have hr := B.returns
  have hlocks := B.notSynchronized
  obtain ⟨C, hw⟩ := CX.of (own := RX7) rfl B hml hwd
  have hx := C.1
  have hb := C.2.1
  have hl := lv_entry ([.ref (ad 23), .int x1]) (n := 2) (Nat.le_of_ble_eq_true rfl)
  rw [show entryFrame m args 2 = entryFrame m ([.ref (ad 23), .int x1] : List Value).toArray 2 from by rw [hargs], lg_entry_eq]
  generalize (lg_sl ([.ref (ad 23), .int x1]) ++ List.replicate (2 - (lg_sl ([.ref (ad 23), .int x1])).length) Slot.unset).toArray = ls at hl ⊢
  have hl : lv_has ls 2 [(0, .ref (ad 23)), (1, .int x1)] := hl
  show W p l e rmX7_has s m args below meth c s.heap [] 0 0 _ _
  refine lv_iload_n hx hb dX7_has_0 rfl (lv_at hl 1 rfl) ?_
  refine lv_if_lt (tgt := 16) hx hb dX7_has_1 (by decide) (fun c_1 => ?_) (fun c_1 => ?_)
  · have hf := if_t hf c_1
    refine lv_iconst (v := (0 : Int32)) hx hb dX7_has_16 (by decide) ?_
    exact r_zret C hw hr hlocks rfl hf dX7_has_17
  · have hf := if_f hf c_1
    refine lv_iload_n hx hb dX7_has_4 rfl (lv_at hl 1 rfl) ?_
    refine lv_aload_n hx hb dX7_has_5 rfl (lv_at hl 0 rfl) ?_
    refine r_getI C hw (k := 4) dq_23 ln_23 rfl vc_7 inX7 (by decide) rfl gw1_155 dX7_has_6 ?_
    refine lv_icmp_ge (tgt := 16) hx hb dX7_has_9 (by decide) (fun c_9 => ?_) (fun c_9 => ?_)
    · have hf := if_t hf c_9
      refine lv_iconst (v := (0 : Int32)) hx hb dX7_has_16 (by decide) ?_
      exact r_zret C hw hr hlocks rfl hf dX7_has_17
    · have hf := if_f hf c_9
      refine lv_iconst (v := (1 : Int32)) hx hb dX7_has_12 (by decide) ?_
      refine lv_goto (tgt := 17) hx hb dX7_has_13 (by decide) ?_
      exact r_zret C hw hr hlocks rfl hf dX7_has_17
noncomputable def fX7_ofAddress_2 (fu : Nat) (n : Nat) : Int32 → Int32 → St → Option (St × Int32) :=
  Nat.rec (motive := fun _ => Int32 → Int32 → St → Option (St × Int32)) (fun _ _ _ => none) (fun _ k_2 x1 x2 S =>
    if (S.1 23 4) ≤ x2 then
      some (S, (-1 : Int32))
    else
      gd (ck x2 12) <|
      if (S.1 24 (x2).toNatClampNeg) = x1 then
        some (S, x2)
      else
        k_2 x1 (x2 + (1 : Int32)) S) n
theorem fX7_ofAddress_2_s (fu : Nat) (n : Nat) (x1 : Int32) (x2 : Int32) (S : St) : fX7_ofAddress_2 fu (n + 1) x1 x2 S = (
    if (S.1 23 4) ≤ x2 then
      some (S, (-1 : Int32))
    else
      gd (ck x2 12) <|
      if (S.1 24 (x2).toNatClampNeg) = x1 then
        some (S, x2)
      else
        (fX7_ofAddress_2 fu n) x1 (x2 + (1 : Int32)) S) := rfl
noncomputable def fX7_ofAddress (fu : Nat) (x1 : Int32) (S : St) : Option (St × Int32) :=
  fX7_ofAddress_2 fu fu x1 (0 : Int32) S
theorem mvX7_ofAddress : MV yX7_ofAddress cX7_ofAddress 3 (some .int) RX7 1 := ⟨gw4_138, gw4_136, gw4_137, gw1_7, by decide +kernel⟩
def rmX7_ofAddress : Room := { frames := 0, cells := 0, slots := 0, locals := 0 }
set_option maxHeartbeats 4000000 in
set_option maxRecDepth 100000 in
theorem m_X7_ofAddress (l : Launch) (D : va_G) (cA : FieldType → ClassId) (ad : Nat → Nat) (base : Nat) (fu : Nat) {S S' : St} {x1 : Int32} {r : Int32} (hf : fX7_ofAddress fu x1 S = some (S', r)) : Met l yX7_ofAddress (GC yX7_ofAddress cX7_ofAddress 3 (some .int)) rmX7_ofAddress (va_Pc [.ref (ad 23), .int x1] (wd D cA ad base S)) (QI D cA ad base S' r) 0 0 (aB base) := by
  refine Met.ofW (cc := cX7_ofAddress) (maxL := 3) (ret := (some .int)) (by decide) rfl ?_
  intro p e s m args below meth c s₁ B hml hv
  obtain ⟨hargs, hwd⟩ := hv
  have hr := B.returns
  have hlocks := B.notSynchronized
  obtain ⟨C, hw⟩ := CX.of (own := RX7) rfl B hml hwd
  have hx := C.1
  have hb := C.2.1
  have hl := lv_entry ([.ref (ad 23), .int x1]) (n := 3) (Nat.le_of_ble_eq_true rfl)
  rw [show entryFrame m args 3 = entryFrame m ([.ref (ad 23), .int x1] : List Value).toArray 3 from by rw [hargs], lg_entry_eq]
  generalize (lg_sl ([.ref (ad 23), .int x1]) ++ List.replicate (3 - (lg_sl ([.ref (ad 23), .int x1])).length) Slot.unset).toArray = ls at hl ⊢
  have hl : lv_has ls 3 [(0, .ref (ad 23)), (1, .int x1)] := hl
  have L_2 : ∀ (n_2 : Nat) (x1 : Int32) (x2 : Int32) (S : St) (H : Heap) (locs : List Loc) (ls : Array Slot), fX7_ofAddress_2 fu n_2 x1 x2 S = some (S', r) → lv_has ls 3 [(0, .ref (ad 23)), (1, .int x1), (2, .int x2)] → WS D cA ad base s S H locs → W p l e rmX7_ofAddress s m args below meth c H locs 0 0 (MQ below (QI D cA ad base S' r) args s 0 0 (aB base)) (F0 m 2 ls []) := by
    intro n_2
    induction n_2 with
    | zero =>
      intro x1 x2 S H locs ls hf hl hw
      exact (no_none hf).elim
    | succ n_2 ih_2 =>
      intro x1 x2 S H locs ls hf hl hw
      rw [fX7_ofAddress_2_s] at hf
      refine lv_iload_n hx hb dX7_ofAddress_2 rfl (lv_at hl 2 rfl) ?_
      refine lv_aload_n hx hb dX7_ofAddress_3 rfl (lv_at hl 0 rfl) ?_
      refine r_getI C hw (k := 4) dq_23 ln_23 rfl vc_7 inX7 (by decide) rfl gw1_155 dX7_ofAddress_4 ?_
      refine lv_icmp_ge (tgt := 28) hx hb dX7_ofAddress_7 (by decide) (fun c_7 => ?_) (fun c_7 => ?_)
      · have hf := if_t hf c_7
        refine lv_iconst (v := (-1 : Int32)) hx hb dX7_ofAddress_28 (by decide) ?_
        exact r_iret C hw hr hlocks hf dX7_ofAddress_29
      · have hf := if_f hf c_7
        refine lv_aload_n hx hb dX7_ofAddress_10 rfl (lv_at hl 0 rfl) ?_
        refine r_getR C hw (k := 2) (r := 24) dq_23 ln_23 rfl vc_7 inX7 (by decide) rfl gw1_153 dX7_ofAddress_11 ?_
        refine lv_iload_n hx hb dX7_ofAddress_14 rfl (lv_at hl 2 rfl) ?_
        obtain ⟨z_15, hf⟩ := gd_some hf
        refine r_iald C hw (x := 24) dq_24 ln_24 z_15 dX7_ofAddress_15 ?_
        refine lv_iload_n hx hb dX7_ofAddress_16 rfl (lv_at hl 1 rfl) ?_
        refine lv_icmp_ne (tgt := 22) hx hb dX7_ofAddress_17 (by decide) (fun c_17 => ?_) (fun c_17 => ?_)
        · have hf := if_f hf c_17
          refine lv_iinc (v := (x2 + (1 : Int32))) (lv' := [(2, .int (x2 + (1 : Int32))), (0, .ref (ad 23)), (1, .int x1)]) hx hb dX7_ofAddress_22 hl (k := 2) rfl rfl (by decide) rfl (fun ls hl => ?_)
          refine lv_goto (tgt := 2) hx hb dX7_ofAddress_25 (by decide) ?_
          exact ih_2 _ _ _ _ _ _ hf (lv_sub hl [1, 2, 0] rfl) hw
        · have hf := if_t hf c_17
          refine lv_iload_n hx hb dX7_ofAddress_20 rfl (lv_at hl 2 rfl) ?_
          exact r_iret C hw hr hlocks hf dX7_ofAddress_21
  show W p l e rmX7_ofAddress s m args below meth c s.heap [] 0 0 _ _
  refine lv_iconst (v := (0 : Int32)) hx hb dX7_ofAddress_0 (by decide) ?_
  refine lv_istore_n (lv' := [(2, .int (0 : Int32)), (0, .ref (ad 23)), (1, .int x1)]) hx hb dX7_ofAddress_1 rfl hl (by decide) rfl (fun ls hl => ?_)
  exact L_2 fu _ _ _ _ _ _ hf (lv_sub hl [1, 2, 0] rfl) hw
noncomputable def fX7_open (fu : Nat) (x1 : Int32) (S : St) : Option (St × Int32) :=
  if (S.1 23 4) < (12 : Int32) then
    gd (ck (S.1 23 4) 12) <|
    sI 24 ((S.1 23 4)).toNatClampNeg x1 S fun S_20 =>
    gd (ck (S_20.1 23 4) 12) <|
    sI 25 ((S_20.1 23 4)).toNatClampNeg (0 : Int32) S_20 fun S_30 =>
    sI 23 4 ((S_30.1 23 4) + (1 : Int32)) S_30 fun S_38 =>
    some (S_38, ((S_38.1 23 4) - (1 : Int32)))
  else
    some (S, (-1 : Int32))
theorem mvX7_open : MV yX7_open cX7_open 2 (some .int) RX7 1 := ⟨gw4_144, gw4_142, gw4_143, gw1_7, by decide +kernel⟩
def rmX7_open : Room := { frames := 0, cells := 0, slots := 0, locals := 0 }
set_option maxHeartbeats 4000000 in
set_option maxRecDepth 100000 in
theorem m_X7_open (l : Launch) (D : va_G) (cA : FieldType → ClassId) (ad : Nat → Nat) (base : Nat) (fu : Nat) {S S' : St} {x1 : Int32} {r : Int32} (hf : fX7_open fu x1 S = some (S', r)) : Met l yX7_open (GC yX7_open cX7_open 2 (some .int)) rmX7_open (va_Pc [.ref (ad 23), .int x1] (wd D cA ad base S)) (QI D cA ad base S' r) 0 0 (aB base) := by
  refine Met.ofW (cc := cX7_open) (maxL := 2) (ret := (some .int)) (by decide) rfl ?_
  intro p e s m args below meth c s₁ B hml hv
  obtain ⟨hargs, hwd⟩ := hv
  have hr := B.returns
  have hlocks := B.notSynchronized
  obtain ⟨C, hw⟩ := CX.of (own := RX7) rfl B hml hwd
  have hx := C.1
  have hb := C.2.1
  have hl := lv_entry ([.ref (ad 23), .int x1]) (n := 2) (Nat.le_of_ble_eq_true rfl)
  rw [show entryFrame m args 2 = entryFrame m ([.ref (ad 23), .int x1] : List Value).toArray 2 from by rw [hargs], lg_entry_eq]
  generalize (lg_sl ([.ref (ad 23), .int x1]) ++ List.replicate (2 - (lg_sl ([.ref (ad 23), .int x1])).length) Slot.unset).toArray = ls at hl ⊢
  have hl : lv_has ls 2 [(0, .ref (ad 23)), (1, .int x1)] := hl
  show W p l e rmX7_open s m args below meth c s.heap [] 0 0 _ _
  refine lv_aload_n hx hb dX7_open_0 rfl (lv_at hl 0 rfl) ?_
  refine r_getI C hw (k := 4) dq_23 ln_23 rfl vc_7 inX7 (by decide) rfl gw1_155 dX7_open_1 ?_
  refine lv_bipush (v := (12 : Int32)) hx hb dX7_open_4 (by decide) ?_
  refine lv_icmp_lt (tgt := 11) hx hb dX7_open_6 (by decide) (fun c_6 => ?_) (fun c_6 => ?_)
  · have hf := if_t hf c_6
    refine lv_aload_n hx hb dX7_open_11 rfl (lv_at hl 0 rfl) ?_
    refine r_getR C hw (k := 2) (r := 24) dq_23 ln_23 rfl vc_7 inX7 (by decide) rfl gw1_153 dX7_open_12 ?_
    refine lv_aload_n hx hb dX7_open_15 rfl (lv_at hl 0 rfl) ?_
    refine r_getI C hw (k := 4) dq_23 ln_23 rfl vc_7 inX7 (by decide) rfl gw1_155 dX7_open_16 ?_
    refine lv_iload_n hx hb dX7_open_19 rfl (lv_at hl 1 rfl) ?_
    obtain ⟨z_20, hf⟩ := gd_some hf
    obtain ⟨S_20, e_20, hf⟩ := sI_some hf
    refine r_iast C hw (x := 24) dq_24 ln_24 z_20 dX7_open_20 e_20 (fun H locs hw => ?_)
    refine lv_aload_n hx hb dX7_open_21 rfl (lv_at hl 0 rfl) ?_
    refine r_getR C hw (k := 3) (r := 25) dq_23 ln_23 rfl vc_7 inX7 (by decide) rfl gw1_154 dX7_open_22 ?_
    refine lv_aload_n hx hb dX7_open_25 rfl (lv_at hl 0 rfl) ?_
    refine r_getI C hw (k := 4) dq_23 ln_23 rfl vc_7 inX7 (by decide) rfl gw1_155 dX7_open_26 ?_
    refine lv_iconst (v := (0 : Int32)) hx hb dX7_open_29 (by decide) ?_
    obtain ⟨z_30, hf⟩ := gd_some hf
    obtain ⟨S_30, e_30, hf⟩ := sI_some hf
    refine r_iast C hw (x := 25) dq_25 ln_25 z_30 dX7_open_30 e_30 (fun H locs hw => ?_)
    refine lv_aload_n hx hb dX7_open_31 rfl (lv_at hl 0 rfl) ?_
    refine lv_dup hx hb dX7_open_32 rfl ?_
    refine r_getI C hw (k := 4) dq_23 ln_23 rfl vc_7 inX7 (by decide) rfl gw1_155 dX7_open_33 ?_
    refine lv_iconst (v := (1 : Int32)) hx hb dX7_open_36 (by decide) ?_
    refine lv_iadd hx hb dX7_open_37 ?_
    obtain ⟨S_38, e_38, hf⟩ := sI_some hf
    refine r_putI C hw (k := 4) (ty0 := tyX7) dq_23 ln_23 rfl vc_7 inX7 tyX7_ok nmX7 (by decide) rfl rfl gw1_155 rfl rfl dX7_open_38 e_38 (fun H locs hw => ?_)
    refine lv_aload_n hx hb dX7_open_41 rfl (lv_at hl 0 rfl) ?_
    refine r_getI C hw (k := 4) dq_23 ln_23 rfl vc_7 inX7 (by decide) rfl gw1_155 dX7_open_42 ?_
    refine lv_iconst (v := (1 : Int32)) hx hb dX7_open_45 (by decide) ?_
    refine lv_isub hx hb dX7_open_46 ?_
    exact r_iret C hw hr hlocks hf dX7_open_47
  · have hf := if_f hf c_6
    refine lv_iconst (v := (-1 : Int32)) hx hb dX7_open_9 (by decide) ?_
    exact r_iret C hw hr hlocks hf dX7_open_10
noncomputable def fX7_isServed (fu : Nat) (x1 : Int32) (x2 : Int32) (S : St) : Option (St × Int32) :=
  bd (fX7_has fu x1 S) fun S_2 r_2 =>
  if r_2 = 0 then
    some (S_2, (0 : Int32))
  else
    gd (ck x1 12) <|
    if (((S_2.1 25 (x1).toNatClampNeg) >>> (x2 &&& 31)) &&& (1 : Int32)) = (1 : Int32) then
      some (S_2, (1 : Int32))
    else
      some (S_2, (0 : Int32))
theorem mvX7_isServed : MV yX7_isServed cX7_isServed 3 (some .boolean) RX7 2 := ⟨gw4_169, gw4_168, gs_13, gw1_7, by decide +kernel⟩
def rmX7_isServed : Room := { frames := 1, cells := 0, slots := 0, locals := 21 }
set_option maxHeartbeats 4000000 in
set_option maxRecDepth 100000 in
theorem m_X7_isServed (l : Launch) (D : va_G) (cA : FieldType → ClassId) (ad : Nat → Nat) (base : Nat) (fu : Nat) {S S' : St} {x1 : Int32} {x2 : Int32} {r : Int32} (hf : fX7_isServed fu x1 x2 S = some (S', r)) : Met l yX7_isServed (GC yX7_isServed cX7_isServed 3 (some .boolean)) rmX7_isServed (va_Pc [.ref (ad 23), .int x1, .int x2] (wd D cA ad base S)) (QI D cA ad base S' r) 0 0 (aB base) := by
  refine Met.ofW (cc := cX7_isServed) (maxL := 3) (ret := (some .boolean)) (by decide) rfl ?_
  intro p e s m args below meth c s₁ B hml hv
  obtain ⟨hargs, hwd⟩ := hv
  have hr := B.returns
  have hlocks := B.notSynchronized
  obtain ⟨C, hw⟩ := CX.of (own := RX7) rfl B hml hwd
  have hx := C.1
  have hb := C.2.1
  have hl := lv_entry ([.ref (ad 23), .int x1, .int x2]) (n := 3) (Nat.le_of_ble_eq_true rfl)
  rw [show entryFrame m args 3 = entryFrame m ([.ref (ad 23), .int x1, .int x2] : List Value).toArray 3 from by rw [hargs], lg_entry_eq]
  generalize (lg_sl ([.ref (ad 23), .int x1, .int x2]) ++ List.replicate (3 - (lg_sl ([.ref (ad 23), .int x1, .int x2])).length) Slot.unset).toArray = ls at hl ⊢
  have hl : lv_has ls 3 [(0, .ref (ad 23)), (1, .int x1), (2, .int x2)] := hl
  show W p l e rmX7_isServed s m args below meth c s.heap [] 0 0 _ _
  refine lv_aload_n hx hb dX7_isServed_0 rfl (lv_at hl 0 rfl) ?_
  refine lv_iload_n hx hb dX7_isServed_1 rfl (lv_at hl 1 rfl) ?_
  obtain ⟨S_2, r_2, h_2, hf⟩ := bd_some hf
  refine r_bi hw (r_runV (rest := []) C hw (m_X7_has l D cA ad base fu h_2) mvX7_has gw4_165 ⟨rfl, rfl, Nat.le_of_ble_eq_true rfl, Nat.le_of_ble_eq_true rfl⟩ dq_23 ln_23 vc_7 rfl hl.1 rfl (Nat.le_of_ble_eq_true rfl) dX7_isServed_2 (Nat.zero_le _) (Nat.zero_le _)) (fun H locs hw => ?_)
  refine lv_if_eq (tgt := 26) hx hb dX7_isServed_5 (by decide) (fun c_5 => ?_) (fun c_5 => ?_)
  · have hf := if_t hf c_5
    refine lv_iconst (v := (0 : Int32)) hx hb dX7_isServed_26 (by decide) ?_
    exact r_zret C hw hr hlocks rfl hf dX7_isServed_27
  · have hf := if_f hf c_5
    refine lv_aload_n hx hb dX7_isServed_8 rfl (lv_at hl 0 rfl) ?_
    refine r_getR C hw (k := 3) (r := 25) dq_23 ln_23 rfl vc_7 inX7 (by decide) rfl gw1_154 dX7_isServed_9 ?_
    refine lv_iload_n hx hb dX7_isServed_12 rfl (lv_at hl 1 rfl) ?_
    obtain ⟨z_13, hf⟩ := gd_some hf
    refine r_iald C hw (x := 25) dq_25 ln_25 z_13 dX7_isServed_13 ?_
    refine lv_iload_n hx hb dX7_isServed_14 rfl (lv_at hl 2 rfl) ?_
    refine lv_ishr hx hb dX7_isServed_15 ?_
    refine lv_iconst (v := (1 : Int32)) hx hb dX7_isServed_16 (by decide) ?_
    refine lv_iand hx hb dX7_isServed_17 ?_
    refine lv_iconst (v := (1 : Int32)) hx hb dX7_isServed_18 (by decide) ?_
    refine lv_icmp_ne (tgt := 26) hx hb dX7_isServed_19 (by decide) (fun c_19 => ?_) (fun c_19 => ?_)
    · have hf := if_f hf c_19
      refine lv_iconst (v := (0 : Int32)) hx hb dX7_isServed_26 (by decide) ?_
      exact r_zret C hw hr hlocks rfl hf dX7_isServed_27
    · have hf := if_t hf c_19
      refine lv_iconst (v := (1 : Int32)) hx hb dX7_isServed_22 (by decide) ?_
      refine lv_goto (tgt := 27) hx hb dX7_isServed_23 (by decide) ?_
      exact r_zret C hw hr hlocks rfl hf dX7_isServed_27
noncomputable def fX7_change (fu : Nat) (x1 : Int32) (x2 : Int32) (x3 : Int32) (S : St) : Option (St × Int32) :=
  bd (fX7_has fu x1 S) fun S_2 r_2 =>
  if r_2 = 0 then
    some (S_2, (0 : Int32))
  else
    bd (fX7_isServed fu x1 x2 S_2) fun S_11 r_11 =>
    if r_11 = x3 then
      some (S_11, (0 : Int32))
    else
      gd (ck x1 12) <|
      gd (ck x1 12) <|
      sI 25 (x1).toNatClampNeg ((S_11.1 25 (x1).toNatClampNeg) ^^^ ((1 : Int32) <<< (x2 &&& 31))) S_11 fun S_31 =>
      some (S_31, (1 : Int32))
theorem mvX7_change : MV yX7_change cX7_change 4 (some .boolean) RX7 3 := ⟨gw4_164, gw4_162, gw4_163, gw1_7, by decide +kernel⟩
def rmX7_change : Room := { frames := 2, cells := 0, slots := 0, locals := 43 }
set_option maxHeartbeats 4000000 in
set_option maxRecDepth 100000 in
theorem m_X7_change (l : Launch) (D : va_G) (cA : FieldType → ClassId) (ad : Nat → Nat) (base : Nat) (fu : Nat) {S S' : St} {x1 : Int32} {x2 : Int32} {x3 : Int32} {r : Int32} (hf : fX7_change fu x1 x2 x3 S = some (S', r)) : Met l yX7_change (GC yX7_change cX7_change 4 (some .boolean)) rmX7_change (va_Pc [.ref (ad 23), .int x1, .int x2, .int x3] (wd D cA ad base S)) (QI D cA ad base S' r) 0 0 (aB base) := by
  refine Met.ofW (cc := cX7_change) (maxL := 4) (ret := (some .boolean)) (by decide) rfl ?_
  intro p e s m args below meth c s₁ B hml hv
  obtain ⟨hargs, hwd⟩ := hv
  have hr := B.returns
  have hlocks := B.notSynchronized
  obtain ⟨C, hw⟩ := CX.of (own := RX7) rfl B hml hwd
  have hx := C.1
  have hb := C.2.1
  have hl := lv_entry ([.ref (ad 23), .int x1, .int x2, .int x3]) (n := 4) (Nat.le_of_ble_eq_true rfl)
  rw [show entryFrame m args 4 = entryFrame m ([.ref (ad 23), .int x1, .int x2, .int x3] : List Value).toArray 4 from by rw [hargs], lg_entry_eq]
  generalize (lg_sl ([.ref (ad 23), .int x1, .int x2, .int x3]) ++ List.replicate (4 - (lg_sl ([.ref (ad 23), .int x1, .int x2, .int x3])).length) Slot.unset).toArray = ls at hl ⊢
  have hl : lv_has ls 4 [(0, .ref (ad 23)), (1, .int x1), (2, .int x2), (3, .int x3)] := hl
  show W p l e rmX7_change s m args below meth c s.heap [] 0 0 _ _
  refine lv_aload_n hx hb dX7_change_0 rfl (lv_at hl 0 rfl) ?_
  refine lv_iload_n hx hb dX7_change_1 rfl (lv_at hl 1 rfl) ?_
  obtain ⟨S_2, r_2, h_2, hf⟩ := bd_some hf
  refine r_bi hw (r_runV (rest := []) C hw (m_X7_has l D cA ad base fu h_2) mvX7_has gw4_165 ⟨rfl, rfl, Nat.le_of_ble_eq_true rfl, Nat.le_of_ble_eq_true rfl⟩ dq_23 ln_23 vc_7 rfl hl.1 rfl (Nat.le_of_ble_eq_true rfl) dX7_change_2 (Nat.zero_le _) (Nat.zero_le _)) (fun H locs hw => ?_)
  refine lv_if_eq (tgt := 18) hx hb dX7_change_5 (by decide) (fun c_5 => ?_) (fun c_5 => ?_)
  · have hf := if_t hf c_5
    refine lv_iconst (v := (0 : Int32)) hx hb dX7_change_18 (by decide) ?_
    exact r_zret C hw hr hlocks rfl hf dX7_change_19
  · have hf := if_f hf c_5
    refine lv_aload_n hx hb dX7_change_8 rfl (lv_at hl 0 rfl) ?_
    refine lv_iload_n hx hb dX7_change_9 rfl (lv_at hl 1 rfl) ?_
    refine lv_iload_n hx hb dX7_change_10 rfl (lv_at hl 2 rfl) ?_
    obtain ⟨S_11, r_11, h_11, hf⟩ := bd_some hf
    refine r_bi hw (r_runV (rest := []) C hw (m_X7_isServed l D cA ad base fu h_11) mvX7_isServed gw4_166 ⟨rfl, rfl, Nat.le_of_ble_eq_true rfl, Nat.le_of_ble_eq_true rfl⟩ dq_23 ln_23 vc_7 rfl hl.1 rfl (Nat.le_of_ble_eq_true rfl) dX7_change_11 (Nat.zero_le _) (Nat.zero_le _)) (fun H locs hw => ?_)
    refine lv_iload_n hx hb dX7_change_14 rfl (lv_at hl 3 rfl) ?_
    refine lv_icmp_ne (tgt := 20) hx hb dX7_change_15 (by decide) (fun c_15 => ?_) (fun c_15 => ?_)
    · have hf := if_f hf c_15
      refine lv_aload_n hx hb dX7_change_20 rfl (lv_at hl 0 rfl) ?_
      refine r_getR C hw (k := 3) (r := 25) dq_23 ln_23 rfl vc_7 inX7 (by decide) rfl gw1_154 dX7_change_21 ?_
      refine lv_iload_n hx hb dX7_change_24 rfl (lv_at hl 1 rfl) ?_
      refine lv_dup2_11 hx hb dX7_change_25 rfl rfl ?_
      obtain ⟨z_26, hf⟩ := gd_some hf
      refine r_iald C hw (x := 25) dq_25 ln_25 z_26 dX7_change_26 ?_
      refine lv_iconst (v := (1 : Int32)) hx hb dX7_change_27 (by decide) ?_
      refine lv_iload_n hx hb dX7_change_28 rfl (lv_at hl 2 rfl) ?_
      refine lv_ishl hx hb dX7_change_29 ?_
      refine lv_ixor hx hb dX7_change_30 ?_
      obtain ⟨z_31, hf⟩ := gd_some hf
      obtain ⟨S_31, e_31, hf⟩ := sI_some hf
      refine r_iast C hw (x := 25) dq_25 ln_25 z_31 dX7_change_31 e_31 (fun H locs hw => ?_)
      refine lv_iconst (v := (1 : Int32)) hx hb dX7_change_32 (by decide) ?_
      exact r_zret C hw hr hlocks rfl hf dX7_change_33
    · have hf := if_t hf c_15
      refine lv_iconst (v := (0 : Int32)) hx hb dX7_change_18 (by decide) ?_
      exact r_zret C hw hr hlocks rfl hf dX7_change_19
noncomputable def fX7_zoneFor_41 (fu : Nat) (k_5 : Int32 → Int32 → Int32 → St → Option (St × Int32)) (x1 : Int32) (x3 : Int32) (x4 : Int32) (S : St) : Option (St × Int32) :=
  bd (fX3_above fu x3 S) fun S_46 r_46 =>
  k_5 x1 r_46 (x4 + (1 : Int32)) S_46
noncomputable def fX7_zoneFor_5 (fu : Nat) (n : Nat) : Int32 → Int32 → Int32 → St → Option (St × Int32) :=
  Nat.rec (motive := fun _ => Int32 → Int32 → Int32 → St → Option (St × Int32)) (fun _ _ _ _ => none) (fun _ k_5 x1 x3 x4 S =>
    if (6 : Int32) < x4 then
      some (S, (-1 : Int32))
    else
      bd (fX10_ofApex fu x3 S) fun S_17 r_17 =>
      if r_17 = (-1 : Int32) then
        fX7_zoneFor_41 fu k_5 x1 x3 x4 S_17
      else
        bd (fX7_isServed fu x1 r_17 S_17) fun S_32 r_32 =>
        if r_32 = 0 then
          fX7_zoneFor_41 fu k_5 x1 x3 x4 S_32
        else
          some (S_32, r_17)) n
theorem fX7_zoneFor_5_s (fu : Nat) (n : Nat) (x1 : Int32) (x3 : Int32) (x4 : Int32) (S : St) : fX7_zoneFor_5 fu (n + 1) x1 x3 x4 S = (
    if (6 : Int32) < x4 then
      some (S, (-1 : Int32))
    else
      bd (fX10_ofApex fu x3 S) fun S_17 r_17 =>
      if r_17 = (-1 : Int32) then
        fX7_zoneFor_41 fu (fX7_zoneFor_5 fu n) x1 x3 x4 S_17
      else
        bd (fX7_isServed fu x1 r_17 S_17) fun S_32 r_32 =>
        if r_32 = 0 then
          fX7_zoneFor_41 fu (fX7_zoneFor_5 fu n) x1 x3 x4 S_32
        else
          some (S_32, r_17)) := rfl
noncomputable def fX7_zoneFor (fu : Nat) (x1 : Int32) (x2 : Int32) (S : St) : Option (St × Int32) :=
  fX7_zoneFor_5 fu fu x1 x2 (0 : Int32) S
theorem mvX7_zoneFor : MV yX7_zoneFor cX7_zoneFor 6 (some .int) RX7 2 := ⟨gw4_180, gw4_178, gw4_179, gw1_7, by decide +kernel⟩
def rmX7_zoneFor : Room := { frames := 2, cells := 0, slots := 0, locals := 43 }
set_option maxHeartbeats 4000000 in
set_option maxRecDepth 100000 in
theorem m_X7_zoneFor (l : Launch) (D : va_G) (cA : FieldType → ClassId) (ad : Nat → Nat) (base : Nat) (fu : Nat) {S S' : St} {x1 : Int32} {x2 : Int32} {r : Int32} (hf : fX7_zoneFor fu x1 x2 S = some (S', r)) : Met l yX7_zoneFor (GC yX7_zoneFor cX7_zoneFor 6 (some .int)) rmX7_zoneFor (va_Pc [.ref (ad 23), .int x1, .int x2] (wd D cA ad base S)) (QI D cA ad base S' r) 0 0 (aB base) := by
  refine Met.ofW (cc := cX7_zoneFor) (maxL := 6) (ret := (some .int)) (by decide) rfl ?_
  intro p e s m args below meth c s₁ B hml hv
  obtain ⟨hargs, hwd⟩ := hv
  have hr := B.returns
  have hlocks := B.notSynchronized
  obtain ⟨C, hw⟩ := CX.of (own := RX7) rfl B hml hwd
  have hx := C.1
  have hb := C.2.1
  have hl := lv_entry ([.ref (ad 23), .int x1, .int x2]) (n := 6) (Nat.le_of_ble_eq_true rfl)
  rw [show entryFrame m args 6 = entryFrame m ([.ref (ad 23), .int x1, .int x2] : List Value).toArray 6 from by rw [hargs], lg_entry_eq]
  generalize (lg_sl ([.ref (ad 23), .int x1, .int x2]) ++ List.replicate (6 - (lg_sl ([.ref (ad 23), .int x1, .int x2])).length) Slot.unset).toArray = ls at hl ⊢
  have hl : lv_has ls 6 [(0, .ref (ad 23)), (1, .int x1), (2, .int x2)] := hl
  have L_5 : ∀ (n_5 : Nat) (x1 : Int32) (x3 : Int32) (x4 : Int32) (S : St) (H : Heap) (locs : List Loc) (ls : Array Slot), fX7_zoneFor_5 fu n_5 x1 x3 x4 S = some (S', r) → lv_has ls 6 [(0, .ref (ad 23)), (1, .int x1), (3, .int x3), (4, .int x4)] → WS D cA ad base s S H locs → W p l e rmX7_zoneFor s m args below meth c H locs 0 0 (MQ below (QI D cA ad base S' r) args s 0 0 (aB base)) (F0 m 5 ls []) := by
    intro n_5
    induction n_5 with
    | zero =>
      intro x1 x3 x4 S H locs ls hf hl hw
      exact (no_none hf).elim
    | succ n_5 ih_5 =>
      have J_41 : ∀ (x1 : Int32) (x3 : Int32) (x4 : Int32) (S : St) (H : Heap) (locs : List Loc) (ls : Array Slot), fX7_zoneFor_41 fu (fX7_zoneFor_5 fu n_5) x1 x3 x4 S = some (S', r) → lv_has ls 6 [(0, .ref (ad 23)), (1, .int x1), (3, .int x3), (4, .int x4)] → WS D cA ad base s S H locs → W p l e rmX7_zoneFor s m args below meth c H locs 0 0 (MQ below (QI D cA ad base S' r) args s 0 0 (aB base)) (F0 m 41 ls []) := by
        intro x1 x3 x4 S H locs ls hf hl hw
        refine lv_aload_n hx hb dX7_zoneFor_41 rfl (lv_at hl 0 rfl) ?_
        refine r_getR C hw (k := 0) (r := 3) dq_23 ln_23 rfl vc_7 inX7 (by decide) rfl gw1_151 dX7_zoneFor_42 ?_
        refine lv_iload_n hx hb dX7_zoneFor_45 rfl (lv_at hl 2 rfl) ?_
        obtain ⟨S_46, r_46, h_46, hf⟩ := bd_some hf
        refine r_bi hw (r_runV (rest := []) C hw (m_X3_above l D cA ad base fu h_46) mvX3_above gw4_182 ⟨rfl, rfl, Nat.le_of_ble_eq_true rfl, Nat.le_of_ble_eq_true rfl⟩ dq_3 ln_3 vc_3 rfl hl.1 rfl (Nat.le_of_ble_eq_true rfl) dX7_zoneFor_46 (Nat.zero_le _) (Nat.zero_le _)) (fun H locs hw => ?_)
        refine lv_istore_n (lv' := [(3, .int r_46), (0, .ref (ad 23)), (1, .int x1), (4, .int x4)]) hx hb dX7_zoneFor_49 rfl hl (by decide) rfl (fun ls hl => ?_)
        refine lv_iinc (v := (x4 + (1 : Int32))) (lv' := [(4, .int (x4 + (1 : Int32))), (3, .int r_46), (0, .ref (ad 23)), (1, .int x1)]) hx hb dX7_zoneFor_50 hl (k := 3) rfl rfl (by decide) rfl (fun ls hl => ?_)
        refine lv_goto (tgt := 5) hx hb dX7_zoneFor_53 (by decide) ?_
        exact ih_5 _ _ _ _ _ _ _ hf (lv_sub hl [2, 3, 1, 0] rfl) hw
      intro x1 x3 x4 S H locs ls hf hl hw
      rw [fX7_zoneFor_5_s] at hf
      refine lv_iload hx hb dX7_zoneFor_5 (lv_at hl 3 rfl) ?_
      refine lv_bipush (v := (6 : Int32)) hx hb dX7_zoneFor_7 (by decide) ?_
      refine lv_icmp_gt (tgt := 56) hx hb dX7_zoneFor_9 (by decide) (fun c_9 => ?_) (fun c_9 => ?_)
      · have hf := if_t hf c_9
        refine lv_iconst (v := (-1 : Int32)) hx hb dX7_zoneFor_56 (by decide) ?_
        exact r_iret C hw hr hlocks hf dX7_zoneFor_57
      · have hf := if_f hf c_9
        refine lv_aload_n hx hb dX7_zoneFor_12 rfl (lv_at hl 0 rfl) ?_
        refine r_getR C hw (k := 1) (r := 10) dq_23 ln_23 rfl vc_7 inX7 (by decide) rfl gw1_152 dX7_zoneFor_13 ?_
        refine lv_iload_n hx hb dX7_zoneFor_16 rfl (lv_at hl 2 rfl) ?_
        obtain ⟨S_17, r_17, h_17, hf⟩ := bd_some hf
        refine r_bi hw (r_runV (rest := []) C hw (m_X10_ofApex l D cA ad base fu h_17) mvX10_ofApex gw4_181 ⟨rfl, rfl, Nat.le_of_ble_eq_true rfl, Nat.le_of_ble_eq_true rfl⟩ dq_10 ln_10 vc_10 rfl hl.1 rfl (Nat.le_of_ble_eq_true rfl) dX7_zoneFor_17 (Nat.zero_le _) (Nat.zero_le _)) (fun H locs hw => ?_)
        refine lv_istore (lv' := [(5, .int r_17), (0, .ref (ad 23)), (1, .int x1), (3, .int x3), (4, .int x4)]) hx hb dX7_zoneFor_20 hl (by decide) rfl (fun ls hl => ?_)
        refine lv_iload hx hb dX7_zoneFor_22 (lv_at hl 0 rfl) ?_
        refine lv_iconst (v := (-1 : Int32)) hx hb dX7_zoneFor_24 (by decide) ?_
        refine lv_icmp_eq (tgt := 41) hx hb dX7_zoneFor_25 (by decide) (fun c_25 => ?_) (fun c_25 => ?_)
        · have hf := if_t hf c_25
          exact J_41 _ _ _ _ _ _ _ hf (lv_sub hl [1, 2, 3, 4] rfl) hw
        · have hf := if_f hf c_25
          refine lv_aload_n hx hb dX7_zoneFor_28 rfl (lv_at hl 1 rfl) ?_
          refine lv_iload_n hx hb dX7_zoneFor_29 rfl (lv_at hl 2 rfl) ?_
          refine lv_iload hx hb dX7_zoneFor_30 (lv_at hl 0 rfl) ?_
          obtain ⟨S_32, r_32, h_32, hf⟩ := bd_some hf
          refine r_bi hw (r_runV (rest := []) C hw (m_X7_isServed l D cA ad base fu h_32) mvX7_isServed gw4_166 ⟨rfl, rfl, Nat.le_of_ble_eq_true rfl, Nat.le_of_ble_eq_true rfl⟩ dq_23 ln_23 vc_7 rfl hl.1 rfl (Nat.le_of_ble_eq_true rfl) dX7_zoneFor_32 (Nat.zero_le _) (Nat.zero_le _)) (fun H locs hw => ?_)
          refine lv_if_eq (tgt := 41) hx hb dX7_zoneFor_35 (by decide) (fun c_35 => ?_) (fun c_35 => ?_)
          · have hf := if_t hf c_35
            exact J_41 _ _ _ _ _ _ _ hf (lv_sub hl [1, 2, 3, 4] rfl) hw
          · have hf := if_f hf c_35
            refine lv_iload hx hb dX7_zoneFor_38 (lv_at hl 0 rfl) ?_
            exact r_iret C hw hr hlocks hf dX7_zoneFor_40
  show W p l e rmX7_zoneFor s m args below meth c s.heap [] 0 0 _ _
  refine lv_iload_n hx hb dX7_zoneFor_0 rfl (lv_at hl 2 rfl) ?_
  refine lv_istore_n (lv' := [(3, .int x2), (0, .ref (ad 23)), (1, .int x1), (2, .int x2)]) hx hb dX7_zoneFor_1 rfl hl (by decide) rfl (fun ls hl => ?_)
  refine lv_iconst (v := (0 : Int32)) hx hb dX7_zoneFor_2 (by decide) ?_
  refine lv_istore (lv' := [(4, .int (0 : Int32)), (3, .int x2), (0, .ref (ad 23)), (1, .int x1), (2, .int x2)]) hx hb dX7_zoneFor_3 hl (by decide) rfl (fun ls hl => ?_)
  exact L_5 fu _ _ _ _ _ _ _ hf (lv_sub hl [2, 3, 1, 0] rfl) hw
