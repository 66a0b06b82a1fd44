def ri_X0 : Room := { frames := 1, cells := 1, slots := 1000, locals := 20 }
set_option maxHeartbeats 4000000 in
set_option maxRecDepth 100000 in
theorem i_X0 (l : Launch) (D : va_G) (cA : FieldType → ClassId) (base : Nat) (es : List va_E) (n : Nat) (hn : es.length = n) : Met l yX0_init (GC yX0_init cX0_init 1 none) ri_X0 (va_Pc [.ref (base + n)] (wp D cA base (es ++ [.inr (0, [.null, .int 0, .int 0])]))) (QP D cA base (es ++ [.inr (0, [.ref (base + (n + 1)), .int 0, .int 0]), .inl (cA .byte, 1000, .inl (fun _ => 0))])) 1 1000 (aB base) := by
  refine Met.ofW (cc := cX0_init) (maxL := 1) (ret := none) (by decide) rfl ?_
  intro p e s m args below meth c s₁ B hml hv
  obtain ⟨hargs, hwd⟩ := hv
  have hr := B.returns
  have hlocks := B.notSynchronized
  have hin : meth.name = "<init>" := (name_of_methodNamed B.named B.method).1
  obtain ⟨C, hw⟩ := CX.ofP (own := RX0) rfl B hml hwd
  have hx := C.1
  have hb := C.2.1
  have hl := lv_entry ([.ref (base + n)]) (n := 1) (Nat.le_of_ble_eq_true rfl)
  rw [show entryFrame m args 1 = entryFrame m ([.ref (base + n)] : List Value).toArray 1 from by rw [hargs], lg_entry_eq]
  generalize (lg_sl ([.ref (base + n)]) ++ List.replicate (1 - (lg_sl ([.ref (base + n)])).length) Slot.unset).toArray = ls at hl ⊢
  have hl : lv_has ls 1 [(0, .ref (base + n))] := hl
  show W p l e ri_X0 s m args below meth c s.heap [] 0 0 _ _
  refine lv_aload_n hx hb dX0_init_0 rfl (lv_at hl 0 rfl) ?_
  refine p_obj C hl.1 gw1_38 dX0_init_1 (Nat.le_of_ble_eq_true rfl) (Nat.le_of_ble_eq_true rfl) ?_
  refine lv_aload_n hx hb dX0_init_4 rfl (lv_at hl 0 rfl) ?_
  refine lv_sipush (v := (1000 : Int32)) hx hb dX0_init_5 (by decide) ?_
  refine p_newa C hw hn (i := 1) rfl (atype := .byte) (ty := .byte) rfl gw1_49 (by simp) (fun _ h => h) (a0 := (1000, .inl (fun _ => 0))) (fun _ => rfl) (by decide) (by decide) (by decide) (Nat.le_of_ble_eq_true rfl) (Nat.le_of_ble_eq_true rfl) dX0_init_8 (fun H locs hw => ?_)
  have hw : WP D base s (es ++ [.inr (0, [.null, .int 0, .int 0]), .inl (cA .byte, 1000, .inl (fun _ => 0))]) H locs := hw
  refine p_putF C hw hn 0 (k := 0) (ty0 := tyX0) rfl vc_0 inX0 tyX0_ok nmX0 (by decide) gw1_39 rfl hin rfl rfl rfl (Nat.le_of_ble_eq_true rfl) dX0_init_10 (fun H locs hw => ?_)
  have hw : WP D base s (es ++ [.inr (0, [.ref (base + (n + 1)), .int 0, .int 0]), .inl (cA .byte, 1000, .inl (fun _ => 0))]) H locs := hw
  refine lv_aload_n hx hb dX0_init_13 rfl (lv_at hl 0 rfl) ?_
  refine lv_iconst (v := (0 : Int32)) hx hb dX0_init_14 (by decide) ?_
  refine p_put C hw hn 0 (k := 1) (ty0 := tyX0) rfl vc_0 inX0 tyX0_ok nmX0 (by decide) gw1_40 rfl rfl rfl rfl (Nat.le_of_ble_eq_true rfl) dX0_init_15 (fun H locs hw => ?_)
  have hw : WP D base s (es ++ [.inr (0, [.ref (base + (n + 1)), .int 0, .int 0]), .inl (cA .byte, 1000, .inl (fun _ => 0))]) H locs := hw
  refine lv_aload_n hx hb dX0_init_18 rfl (lv_at hl 0 rfl) ?_
  refine lv_iconst (v := (0 : Int32)) hx hb dX0_init_19 (by decide) ?_
  refine p_put C hw hn 0 (k := 2) (ty0 := tyX0) rfl vc_0 inX0 tyX0_ok nmX0 (by decide) gw1_41 rfl rfl rfl rfl (Nat.le_of_ble_eq_true rfl) dX0_init_20 (fun H locs hw => ?_)
  have hw : WP D base s (es ++ [.inr (0, [.ref (base + (n + 1)), .int 0, .int 0]), .inl (cA .byte, 1000, .inl (fun _ => 0))]) H locs := hw
  refine W.widen (k := 1) (n := 1000) (Nat.le_of_ble_eq_true rfl) (Nat.le_of_ble_eq_true rfl) ?_
  exact p_vret C hw hr hlocks dX0_init_23
def ri_X8 : Room := { frames := 1, cells := 2, slots := 12, locals := 20 }
set_option maxHeartbeats 4000000 in
set_option maxRecDepth 100000 in
theorem i_X8 (l : Launch) (D : va_G) (cA : FieldType → ClassId) (base : Nat) (es : List va_E) (n : Nat) (hn : es.length = n) : Met l yX8_init (GC yX8_init cX8_init 1 none) ri_X8 (va_Pc [.ref (base + n)] (wp D cA base (es ++ [.inr (8, [.null, .null, .int 0])]))) (QP D cA base (es ++ [.inr (8, [.ref (base + (n + 1)), .ref (base + (n + 2)), .int 0]), .inl (cA .long, 6, .inr (.inl (fun _ => 0))), .inl (cA .int, 6, .inl (fun _ => 0))])) 2 12 (aB base) := by
  refine Met.ofW (cc := cX8_init) (maxL := 1) (ret := none) (by decide) rfl ?_
  intro p e s m args below meth c s₁ B hml hv
  obtain ⟨hargs, hwd⟩ := hv
  have hr := B.returns
  have hlocks := B.notSynchronized
  have hin : meth.name = "<init>" := (name_of_methodNamed B.named B.method).1
  obtain ⟨C, hw⟩ := CX.ofP (own := RX8) rfl B hml hwd
  have hx := C.1
  have hb := C.2.1
  have hl := lv_entry ([.ref (base + n)]) (n := 1) (Nat.le_of_ble_eq_true rfl)
  rw [show entryFrame m args 1 = entryFrame m ([.ref (base + n)] : List Value).toArray 1 from by rw [hargs], lg_entry_eq]
  generalize (lg_sl ([.ref (base + n)]) ++ List.replicate (1 - (lg_sl ([.ref (base + n)])).length) Slot.unset).toArray = ls at hl ⊢
  have hl : lv_has ls 1 [(0, .ref (base + n))] := hl
  show W p l e ri_X8 s m args below meth c s.heap [] 0 0 _ _
  refine lv_aload_n hx hb dX8_init_0 rfl (lv_at hl 0 rfl) ?_
  refine p_obj C hl.1 gw1_76 dX8_init_1 (Nat.le_of_ble_eq_true rfl) (Nat.le_of_ble_eq_true rfl) ?_
  refine lv_aload_n hx hb dX8_init_4 rfl (lv_at hl 0 rfl) ?_
  refine lv_bipush (v := (6 : Int32)) hx hb dX8_init_5 (by decide) ?_
  refine p_newa C hw hn (i := 1) rfl (atype := .long) (ty := .long) rfl gw1_70 (by simp) (fun _ h => h) (a0 := (6, .inr (.inl (fun _ => 0)))) (fun _ => rfl) (by decide) (by decide) (by decide) (Nat.le_of_ble_eq_true rfl) (Nat.le_of_ble_eq_true rfl) dX8_init_7 (fun H locs hw => ?_)
  have hw : WP D base s (es ++ [.inr (8, [.null, .null, .int 0]), .inl (cA .long, 6, .inr (.inl (fun _ => 0)))]) H locs := hw
  refine p_putF C hw hn 0 (k := 0) (ty0 := tyX8) rfl vc_8 inX8 tyX8_ok nmX8 (by decide) gw1_77 rfl hin rfl rfl rfl (Nat.le_of_ble_eq_true rfl) dX8_init_9 (fun H locs hw => ?_)
  have hw : WP D base s (es ++ [.inr (8, [.ref (base + (n + 1)), .null, .int 0]), .inl (cA .long, 6, .inr (.inl (fun _ => 0)))]) H locs := hw
  refine lv_aload_n hx hb dX8_init_12 rfl (lv_at hl 0 rfl) ?_
  refine lv_bipush (v := (6 : Int32)) hx hb dX8_init_13 (by decide) ?_
  refine p_newa C hw hn (i := 2) rfl (atype := .int) (ty := .int) rfl gw1_69 (by simp) (fun _ h => h) (a0 := (6, .inl (fun _ => 0))) (fun _ => rfl) (by decide) (by decide) (by decide) (Nat.le_of_ble_eq_true rfl) (Nat.le_of_ble_eq_true rfl) dX8_init_15 (fun H locs hw => ?_)
  have hw : WP D base s (es ++ [.inr (8, [.ref (base + (n + 1)), .null, .int 0]), .inl (cA .long, 6, .inr (.inl (fun _ => 0))), .inl (cA .int, 6, .inl (fun _ => 0))]) H locs := hw
  refine p_putF C hw hn 0 (k := 1) (ty0 := tyX8) rfl vc_8 inX8 tyX8_ok nmX8 (by decide) gw1_78 rfl hin rfl rfl rfl (Nat.le_of_ble_eq_true rfl) dX8_init_17 (fun H locs hw => ?_)
  have hw : WP D base s (es ++ [.inr (8, [.ref (base + (n + 1)), .ref (base + (n + 2)), .int 0]), .inl (cA .long, 6, .inr (.inl (fun _ => 0))), .inl (cA .int, 6, .inl (fun _ => 0))]) H locs := hw
  refine lv_aload_n hx hb dX8_init_20 rfl (lv_at hl 0 rfl) ?_
  refine lv_iconst (v := (0 : Int32)) hx hb dX8_init_21 (by decide) ?_
  refine p_put C hw hn 0 (k := 2) (ty0 := tyX8) rfl vc_8 inX8 tyX8_ok nmX8 (by decide) gw1_79 rfl rfl rfl rfl (Nat.le_of_ble_eq_true rfl) dX8_init_22 (fun H locs hw => ?_)
  have hw : WP D base s (es ++ [.inr (8, [.ref (base + (n + 1)), .ref (base + (n + 2)), .int 0]), .inl (cA .long, 6, .inr (.inl (fun _ => 0))), .inl (cA .int, 6, .inl (fun _ => 0))]) H locs := hw
  refine W.widen (k := 2) (n := 12) (Nat.le_of_ble_eq_true rfl) (Nat.le_of_ble_eq_true rfl) ?_
  exact p_vret C hw hr hlocks dX8_init_25
def ri_X3 : Room := { frames := 1, cells := 3, slots := 900, locals := 20 }
set_option maxHeartbeats 4000000 in
set_option maxRecDepth 100000 in
theorem i_X3 (l : Launch) (D : va_G) (cA : FieldType → ClassId) (base : Nat) (es : List va_E) (n : Nat) (hn : es.length = n) : Met l yX3_init (GC yX3_init cX3_init 1 none) ri_X3 (va_Pc [.ref (base + n)] (wp D cA base (es ++ [.inr (3, [.null, .null, .null, .int 0])]))) (QP D cA base (es ++ [.inr (3, [.ref (base + (n + 1)), .ref (base + (n + 2)), .ref (base + (n + 3)), .int 1]), .inl (cA .int, 300, .inl (fun _ => 0)), .inl (cA .long, 300, .inr (.inl (fun _ => 0))), .inl (cA .int, 300, .inl (fun _ => 0))])) 3 900 (aB base) := by
  refine Met.ofW (cc := cX3_init) (maxL := 1) (ret := none) (by decide) rfl ?_
  intro p e s m args below meth c s₁ B hml hv
  obtain ⟨hargs, hwd⟩ := hv
  have hr := B.returns
  have hlocks := B.notSynchronized
  have hin : meth.name = "<init>" := (name_of_methodNamed B.named B.method).1
  obtain ⟨C, hw⟩ := CX.ofP (own := RX3) rfl B hml hwd
  have hx := C.1
  have hb := C.2.1
  have hl := lv_entry ([.ref (base + n)]) (n := 1) (Nat.le_of_ble_eq_true rfl)
  rw [show entryFrame m args 1 = entryFrame m ([.ref (base + n)] : List Value).toArray 1 from by rw [hargs], lg_entry_eq]
  generalize (lg_sl ([.ref (base + n)]) ++ List.replicate (1 - (lg_sl ([.ref (base + n)])).length) Slot.unset).toArray = ls at hl ⊢
  have hl : lv_has ls 1 [(0, .ref (base + n))] := hl
  show W p l e ri_X3 s m args below meth c s.heap [] 0 0 _ _
  refine lv_aload_n hx hb dX3_init_0 rfl (lv_at hl 0 rfl) ?_
  refine p_obj C hl.1 gw1_55 dX3_init_1 (Nat.le_of_ble_eq_true rfl) (Nat.le_of_ble_eq_true rfl) ?_
  refine lv_aload_n hx hb dX3_init_4 rfl (lv_at hl 0 rfl) ?_
  refine lv_sipush (v := (300 : Int32)) hx hb dX3_init_5 (by decide) ?_
  refine p_newa C hw hn (i := 1) rfl (atype := .int) (ty := .int) rfl gw1_69 (by simp) (fun _ h => h) (a0 := (300, .inl (fun _ => 0))) (fun _ => rfl) (by decide) (by decide) (by decide) (Nat.le_of_ble_eq_true rfl) (Nat.le_of_ble_eq_true rfl) dX3_init_8 (fun H locs hw => ?_)
  have hw : WP D base s (es ++ [.inr (3, [.null, .null, .null, .int 0]), .inl (cA .int, 300, .inl (fun _ => 0))]) H locs := hw
  refine p_putF C hw hn 0 (k := 0) (ty0 := tyX3) rfl vc_3 inX3 tyX3_ok nmX3 (by decide) gw1_56 rfl hin rfl rfl rfl (Nat.le_of_ble_eq_true rfl) dX3_init_10 (fun H locs hw => ?_)
  have hw : WP D base s (es ++ [.inr (3, [.ref (base + (n + 1)), .null, .null, .int 0]), .inl (cA .int, 300, .inl (fun _ => 0))]) H locs := hw
  refine lv_aload_n hx hb dX3_init_13 rfl (lv_at hl 0 rfl) ?_
  refine lv_sipush (v := (300 : Int32)) hx hb dX3_init_14 (by decide) ?_
  refine p_newa C hw hn (i := 2) rfl (atype := .long) (ty := .long) rfl gw1_70 (by simp) (fun _ h => h) (a0 := (300, .inr (.inl (fun _ => 0)))) (fun _ => rfl) (by decide) (by decide) (by decide) (Nat.le_of_ble_eq_true rfl) (Nat.le_of_ble_eq_true rfl) dX3_init_17 (fun H locs hw => ?_)
  have hw : WP D base s (es ++ [.inr (3, [.ref (base + (n + 1)), .null, .null, .int 0]), .inl (cA .int, 300, .inl (fun _ => 0)), .inl (cA .long, 300, .inr (.inl (fun _ => 0)))]) H locs := hw
  refine p_putF C hw hn 0 (k := 1) (ty0 := tyX3) rfl vc_3 inX3 tyX3_ok nmX3 (by decide) gw1_57 rfl hin rfl rfl rfl (Nat.le_of_ble_eq_true rfl) dX3_init_19 (fun H locs hw => ?_)
  have hw : WP D base s (es ++ [.inr (3, [.ref (base + (n + 1)), .ref (base + (n + 2)), .null, .int 0]), .inl (cA .int, 300, .inl (fun _ => 0)), .inl (cA .long, 300, .inr (.inl (fun _ => 0)))]) H locs := hw
  refine lv_aload_n hx hb dX3_init_22 rfl (lv_at hl 0 rfl) ?_
  refine lv_sipush (v := (300 : Int32)) hx hb dX3_init_23 (by decide) ?_
  refine p_newa C hw hn (i := 3) rfl (atype := .int) (ty := .int) rfl gw1_69 (by simp) (fun _ h => h) (a0 := (300, .inl (fun _ => 0))) (fun _ => rfl) (by decide) (by decide) (by decide) (Nat.le_of_ble_eq_true rfl) (Nat.le_of_ble_eq_true rfl) dX3_init_26 (fun H locs hw => ?_)
  have hw : WP D base s (es ++ [.inr (3, [.ref (base + (n + 1)), .ref (base + (n + 2)), .null, .int 0]), .inl (cA .int, 300, .inl (fun _ => 0)), .inl (cA .long, 300, .inr (.inl (fun _ => 0))), .inl (cA .int, 300, .inl (fun _ => 0))]) H locs := hw
  refine p_putF C hw hn 0 (k := 2) (ty0 := tyX3) rfl vc_3 inX3 tyX3_ok nmX3 (by decide) gw1_58 rfl hin rfl rfl rfl (Nat.le_of_ble_eq_true rfl) dX3_init_28 (fun H locs hw => ?_)
  have hw : WP D base s (es ++ [.inr (3, [.ref (base + (n + 1)), .ref (base + (n + 2)), .ref (base + (n + 3)), .int 0]), .inl (cA .int, 300, .inl (fun _ => 0)), .inl (cA .long, 300, .inr (.inl (fun _ => 0))), .inl (cA .int, 300, .inl (fun _ => 0))]) H locs := hw
  refine lv_aload_n hx hb dX3_init_31 rfl (lv_at hl 0 rfl) ?_
  refine lv_iconst (v := (1 : Int32)) hx hb dX3_init_32 (by decide) ?_
  refine p_put C hw hn 0 (k := 3) (ty0 := tyX3) rfl vc_3 inX3 tyX3_ok nmX3 (by decide) gw1_59 rfl rfl rfl rfl (Nat.le_of_ble_eq_true rfl) dX3_init_33 (fun H locs hw => ?_)
  have hw : WP D base s (es ++ [.inr (3, [.ref (base + (n + 1)), .ref (base + (n + 2)), .ref (base + (n + 3)), .int 1]), .inl (cA .int, 300, .inl (fun _ => 0)), .inl (cA .long, 300, .inr (.inl (fun _ => 0))), .inl (cA .int, 300, .inl (fun _ => 0))]) H locs := hw
  refine W.widen (k := 3) (n := 900) (Nat.le_of_ble_eq_true rfl) (Nat.le_of_ble_eq_true rfl) ?_
  exact p_vret C hw hr hlocks dX3_init_36
def ri_X5 : Room := { frames := 1, cells := 5, slots := 450, locals := 20 }
set_option maxHeartbeats 4000000 in
set_option maxRecDepth 100000 in
theorem i_X5 (l : Launch) (D : va_G) (cA : FieldType → ClassId) (base : Nat) (es : List va_E) (n : Nat) (hn : es.length = n) : Met l yX5_init (GC yX5_init cX5_init 1 none) ri_X5 (va_Pc [.ref (base + n)] (wp D cA base (es ++ [.inr (5, [.null, .null, .null, .null, .null, .int 0])]))) (QP D cA base (es ++ [.inr (5, [.ref (base + (n + 1)), .ref (base + (n + 2)), .ref (base + (n + 3)), .ref (base + (n + 4)), .ref (base + (n + 5)), .int 0]), .inl (cA .int, 90, .inl (fun _ => 0)), .inl (cA .int, 90, .inl (fun _ => 0)), .inl (cA .int, 90, .inl (fun _ => 0)), .inl (cA .int, 90, .inl (fun _ => 0)), .inl (cA .int, 90, .inl (fun _ => 0))])) 5 450 (aB base) := by
  refine Met.ofW (cc := cX5_init) (maxL := 1) (ret := none) (by decide) rfl ?_
  intro p e s m args below meth c s₁ B hml hv
  obtain ⟨hargs, hwd⟩ := hv
  have hr := B.returns
  have hlocks := B.notSynchronized
  have hin : meth.name = "<init>" := (name_of_methodNamed B.named B.method).1
  obtain ⟨C, hw⟩ := CX.ofP (own := RX5) rfl B hml hwd
  have hx := C.1
  have hb := C.2.1
  have hl := lv_entry ([.ref (base + n)]) (n := 1) (Nat.le_of_ble_eq_true rfl)
  rw [show entryFrame m args 1 = entryFrame m ([.ref (base + n)] : List Value).toArray 1 from by rw [hargs], lg_entry_eq]
  generalize (lg_sl ([.ref (base + n)]) ++ List.replicate (1 - (lg_sl ([.ref (base + n)])).length) Slot.unset).toArray = ls at hl ⊢
  have hl : lv_has ls 1 [(0, .ref (base + n))] := hl
  show W p l e ri_X5 s m args below meth c s.heap [] 0 0 _ _
  refine lv_aload_n hx hb dX5_init_0 rfl (lv_at hl 0 rfl) ?_
  refine p_obj C hl.1 gw1_180 dX5_init_1 (Nat.le_of_ble_eq_true rfl) (Nat.le_of_ble_eq_true rfl) ?_
  refine lv_aload_n hx hb dX5_init_4 rfl (lv_at hl 0 rfl) ?_
  refine lv_bipush (v := (90 : Int32)) hx hb dX5_init_5 (by decide) ?_
  refine p_newa C hw hn (i := 1) rfl (atype := .int) (ty := .int) rfl gw1_69 (by simp) (fun _ h => h) (a0 := (90, .inl (fun _ => 0))) (fun _ => rfl) (by decide) (by decide) (by decide) (Nat.le_of_ble_eq_true rfl) (Nat.le_of_ble_eq_true rfl) dX5_init_7 (fun H locs hw => ?_)
  have hw : WP D base s (es ++ [.inr (5, [.null, .null, .null, .null, .null, .int 0]), .inl (cA .int, 90, .inl (fun _ => 0))]) H locs := hw
  refine p_putF C hw hn 0 (k := 0) (ty0 := tyX5) rfl vc_5 inX5 tyX5_ok nmX5 (by decide) gw1_181 rfl hin rfl rfl rfl (Nat.le_of_ble_eq_true rfl) dX5_init_9 (fun H locs hw => ?_)
  have hw : WP D base s (es ++ [.inr (5, [.ref (base + (n + 1)), .null, .null, .null, .null, .int 0]), .inl (cA .int, 90, .inl (fun _ => 0))]) H locs := hw
  refine lv_aload_n hx hb dX5_init_12 rfl (lv_at hl 0 rfl) ?_
  refine lv_bipush (v := (90 : Int32)) hx hb dX5_init_13 (by decide) ?_
  refine p_newa C hw hn (i := 2) rfl (atype := .int) (ty := .int) rfl gw1_69 (by simp) (fun _ h => h) (a0 := (90, .inl (fun _ => 0))) (fun _ => rfl) (by decide) (by decide) (by decide) (Nat.le_of_ble_eq_true rfl) (Nat.le_of_ble_eq_true rfl) dX5_init_15 (fun H locs hw => ?_)
  have hw : WP D base s (es ++ [.inr (5, [.ref (base + (n + 1)), .null, .null, .null, .null, .int 0]), .inl (cA .int, 90, .inl (fun _ => 0)), .inl (cA .int, 90, .inl (fun _ => 0))]) H locs := hw
  refine p_putF C hw hn 0 (k := 1) (ty0 := tyX5) rfl vc_5 inX5 tyX5_ok nmX5 (by decide) gw1_182 rfl hin rfl rfl rfl (Nat.le_of_ble_eq_true rfl) dX5_init_17 (fun H locs hw => ?_)
  have hw : WP D base s (es ++ [.inr (5, [.ref (base + (n + 1)), .ref (base + (n + 2)), .null, .null, .null, .int 0]), .inl (cA .int, 90, .inl (fun _ => 0)), .inl (cA .int, 90, .inl (fun _ => 0))]) H locs := hw
  refine lv_aload_n hx hb dX5_init_20 rfl (lv_at hl 0 rfl) ?_
  refine lv_bipush (v := (90 : Int32)) hx hb dX5_init_21 (by decide) ?_
  refine p_newa C hw hn (i := 3) rfl (atype := .int) (ty := .int) rfl gw1_69 (by simp) (fun _ h => h) (a0 := (90, .inl (fun _ => 0))) (fun _ => rfl) (by decide) (by decide) (by decide) (Nat.le_of_ble_eq_true rfl) (Nat.le_of_ble_eq_true rfl) dX5_init_23 (fun H locs hw => ?_)
  have hw : WP D base s (es ++ [.inr (5, [.ref (base + (n + 1)), .ref (base + (n + 2)), .null, .null, .null, .int 0]), .inl (cA .int, 90, .inl (fun _ => 0)), .inl (cA .int, 90, .inl (fun _ => 0)), .inl (cA .int, 90, .inl (fun _ => 0))]) H locs := hw
  refine p_putF C hw hn 0 (k := 2) (ty0 := tyX5) rfl vc_5 inX5 tyX5_ok nmX5 (by decide) gw1_183 rfl hin rfl rfl rfl (Nat.le_of_ble_eq_true rfl) dX5_init_25 (fun H locs hw => ?_)
  have hw : WP D base s (es ++ [.inr (5, [.ref (base + (n + 1)), .ref (base + (n + 2)), .ref (base + (n + 3)), .null, .null, .int 0]), .inl (cA .int, 90, .inl (fun _ => 0)), .inl (cA .int, 90, .inl (fun _ => 0)), .inl (cA .int, 90, .inl (fun _ => 0))]) H locs := hw
  refine lv_aload_n hx hb dX5_init_28 rfl (lv_at hl 0 rfl) ?_
  refine lv_bipush (v := (90 : Int32)) hx hb dX5_init_29 (by decide) ?_
  refine p_newa C hw hn (i := 4) rfl (atype := .int) (ty := .int) rfl gw1_69 (by simp) (fun _ h => h) (a0 := (90, .inl (fun _ => 0))) (fun _ => rfl) (by decide) (by decide) (by decide) (Nat.le_of_ble_eq_true rfl) (Nat.le_of_ble_eq_true rfl) dX5_init_31 (fun H locs hw => ?_)
  have hw : WP D base s (es ++ [.inr (5, [.ref (base + (n + 1)), .ref (base + (n + 2)), .ref (base + (n + 3)), .null, .null, .int 0]), .inl (cA .int, 90, .inl (fun _ => 0)), .inl (cA .int, 90, .inl (fun _ => 0)), .inl (cA .int, 90, .inl (fun _ => 0)), .inl (cA .int, 90, .inl (fun _ => 0))]) H locs := hw
  refine p_putF C hw hn 0 (k := 3) (ty0 := tyX5) rfl vc_5 inX5 tyX5_ok nmX5 (by decide) gw1_184 rfl hin rfl rfl rfl (Nat.le_of_ble_eq_true rfl) dX5_init_33 (fun H locs hw => ?_)
  have hw : WP D base s (es ++ [.inr (5, [.ref (base + (n + 1)), .ref (base + (n + 2)), .ref (base + (n + 3)), .ref (base + (n + 4)), .null, .int 0]), .inl (cA .int, 90, .inl (fun _ => 0)), .inl (cA .int, 90, .inl (fun _ => 0)), .inl (cA .int, 90, .inl (fun _ => 0)), .inl (cA .int, 90, .inl (fun _ => 0))]) H locs := hw
  refine lv_aload_n hx hb dX5_init_36 rfl (lv_at hl 0 rfl) ?_
  refine lv_bipush (v := (90 : Int32)) hx hb dX5_init_37 (by decide) ?_
  refine p_newa C hw hn (i := 5) rfl (atype := .int) (ty := .int) rfl gw1_69 (by simp) (fun _ h => h) (a0 := (90, .inl (fun _ => 0))) (fun _ => rfl) (by decide) (by decide) (by decide) (Nat.le_of_ble_eq_true rfl) (Nat.le_of_ble_eq_true rfl) dX5_init_39 (fun H locs hw => ?_)
  have hw : WP D base s (es ++ [.inr (5, [.ref (base + (n + 1)), .ref (base + (n + 2)), .ref (base + (n + 3)), .ref (base + (n + 4)), .null, .int 0]), .inl (cA .int, 90, .inl (fun _ => 0)), .inl (cA .int, 90, .inl (fun _ => 0)), .inl (cA .int, 90, .inl (fun _ => 0)), .inl (cA .int, 90, .inl (fun _ => 0)), .inl (cA .int, 90, .inl (fun _ => 0))]) H locs := hw
  refine p_putF C hw hn 0 (k := 4) (ty0 := tyX5) rfl vc_5 inX5 tyX5_ok nmX5 (by decide) gw1_185 rfl hin rfl rfl rfl (Nat.le_of_ble_eq_true rfl) dX5_init_41 (fun H locs hw => ?_)
  have hw : WP D base s (es ++ [.inr (5, [.ref (base + (n + 1)), .ref (base + (n + 2)), .ref (base + (n + 3)), .ref (base + (n + 4)), .ref (base + (n + 5)), .int 0]), .inl (cA .int, 90, .inl (fun _ => 0)), .inl (cA .int, 90, .inl (fun _ => 0)), .inl (cA .int, 90, .inl (fun _ => 0)), .inl (cA .int, 90, .inl (fun _ => 0)), .inl (cA .int, 90, .inl (fun _ => 0))]) H locs := hw
  refine lv_aload_n hx hb dX5_init_44 rfl (lv_at hl 0 rfl) ?_
  refine lv_iconst (v := (0 : Int32)) hx hb dX5_init_45 (by decide) ?_
  refine p_put C hw hn 0 (k := 5) (ty0 := tyX5) rfl vc_5 inX5 tyX5_ok nmX5 (by decide) gw1_186 rfl rfl rfl rfl (Nat.le_of_ble_eq_true rfl) dX5_init_46 (fun H locs hw => ?_)
  have hw : WP D base s (es ++ [.inr (5, [.ref (base + (n + 1)), .ref (base + (n + 2)), .ref (base + (n + 3)), .ref (base + (n + 4)), .ref (base + (n + 5)), .int 0]), .inl (cA .int, 90, .inl (fun _ => 0)), .inl (cA .int, 90, .inl (fun _ => 0)), .inl (cA .int, 90, .inl (fun _ => 0)), .inl (cA .int, 90, .inl (fun _ => 0)), .inl (cA .int, 90, .inl (fun _ => 0))]) H locs := hw
  refine W.widen (k := 5) (n := 450) (Nat.le_of_ble_eq_true rfl) (Nat.le_of_ble_eq_true rfl) ?_
  exact p_vret C hw hr hlocks dX5_init_49
def ri_X1 : Room := { frames := 1, cells := 6, slots := 1500, locals := 20 }
set_option maxHeartbeats 4000000 in
set_option maxRecDepth 100000 in
theorem i_X1 (l : Launch) (D : va_G) (cA : FieldType → ClassId) (base : Nat) (es : List va_E) (n : Nat) (hn : es.length = n) : Met l yX1_init (GC yX1_init cX1_init 1 none) ri_X1 (va_Pc [.ref (base + n)] (wp D cA base (es ++ [.inr (1, [.null, .null, .null, .null, .null, .null, .int 0, .int 0, .int 0])]))) (QP D cA base (es ++ [.inr (1, [.ref (base + (n + 1)), .ref (base + (n + 2)), .ref (base + (n + 3)), .ref (base + (n + 4)), .ref (base + (n + 5)), .ref (base + (n + 6)), .int 0, .int 0, .int 0]), .inl (cA .int, 100, .inl (fun _ => 0)), .inl (cA .int, 100, .inl (fun _ => 0)), .inl (cA .long, 100, .inr (.inl (fun _ => 0))), .inl (cA .int, 100, .inl (fun _ => 0)), .inl (cA .int, 100, .inl (fun _ => 0)), .inl (cA .int, 1000, .inl (fun _ => 0))])) 6 1500 (aB base) := by
  refine Met.ofW (cc := cX1_init) (maxL := 1) (ret := none) (by decide) rfl ?_
  intro p e s m args below meth c s₁ B hml hv
  obtain ⟨hargs, hwd⟩ := hv
  have hr := B.returns
  have hlocks := B.notSynchronized
  have hin : meth.name = "<init>" := (name_of_methodNamed B.named B.method).1
  obtain ⟨C, hw⟩ := CX.ofP (own := RX1) rfl B hml hwd
  have hx := C.1
  have hb := C.2.1
  have hl := lv_entry ([.ref (base + n)]) (n := 1) (Nat.le_of_ble_eq_true rfl)
  rw [show entryFrame m args 1 = entryFrame m ([.ref (base + n)] : List Value).toArray 1 from by rw [hargs], lg_entry_eq]
  generalize (lg_sl ([.ref (base + n)]) ++ List.replicate (1 - (lg_sl ([.ref (base + n)])).length) Slot.unset).toArray = ls at hl ⊢
  have hl : lv_has ls 1 [(0, .ref (base + n))] := hl
  show W p l e ri_X1 s m args below meth c s.heap [] 0 0 _ _
  refine lv_aload_n hx hb dX1_init_0 rfl (lv_at hl 0 rfl) ?_
  refine p_obj C hl.1 gw1_238 dX1_init_1 (Nat.le_of_ble_eq_true rfl) (Nat.le_of_ble_eq_true rfl) ?_
  refine lv_aload_n hx hb dX1_init_4 rfl (lv_at hl 0 rfl) ?_
  refine lv_bipush (v := (100 : Int32)) hx hb dX1_init_5 (by decide) ?_
  refine p_newa C hw hn (i := 1) rfl (atype := .int) (ty := .int) rfl gw1_69 (by simp) (fun _ h => h) (a0 := (100, .inl (fun _ => 0))) (fun _ => rfl) (by decide) (by decide) (by decide) (Nat.le_of_ble_eq_true rfl) (Nat.le_of_ble_eq_true rfl) dX1_init_7 (fun H locs hw => ?_)
  have hw : WP D base s (es ++ [.inr (1, [.null, .null, .null, .null, .null, .null, .int 0, .int 0, .int 0]), .inl (cA .int, 100, .inl (fun _ => 0))]) H locs := hw
  refine p_putF C hw hn 0 (k := 0) (ty0 := tyX1) rfl vc_1 inX1 tyX1_ok nmX1 (by decide) gw1_239 rfl hin rfl rfl rfl (Nat.le_of_ble_eq_true rfl) dX1_init_9 (fun H locs hw => ?_)
  have hw : WP D base s (es ++ [.inr (1, [.ref (base + (n + 1)), .null, .null, .null, .null, .null, .int 0, .int 0, .int 0]), .inl (cA .int, 100, .inl (fun _ => 0))]) H locs := hw
  refine lv_aload_n hx hb dX1_init_12 rfl (lv_at hl 0 rfl) ?_
  refine lv_bipush (v := (100 : Int32)) hx hb dX1_init_13 (by decide) ?_
  refine p_newa C hw hn (i := 2) rfl (atype := .int) (ty := .int) rfl gw1_69 (by simp) (fun _ h => h) (a0 := (100, .inl (fun _ => 0))) (fun _ => rfl) (by decide) (by decide) (by decide) (Nat.le_of_ble_eq_true rfl) (Nat.le_of_ble_eq_true rfl) dX1_init_15 (fun H locs hw => ?_)
  have hw : WP D base s (es ++ [.inr (1, [.ref (base + (n + 1)), .null, .null, .null, .null, .null, .int 0, .int 0, .int 0]), .inl (cA .int, 100, .inl (fun _ => 0)), .inl (cA .int, 100, .inl (fun _ => 0))]) H locs := hw
  refine p_putF C hw hn 0 (k := 1) (ty0 := tyX1) rfl vc_1 inX1 tyX1_ok nmX1 (by decide) gw2_0 rfl hin rfl rfl rfl (Nat.le_of_ble_eq_true rfl) dX1_init_17 (fun H locs hw => ?_)
  have hw : WP D base s (es ++ [.inr (1, [.ref (base + (n + 1)), .ref (base + (n + 2)), .null, .null, .null, .null, .int 0, .int 0, .int 0]), .inl (cA .int, 100, .inl (fun _ => 0)), .inl (cA .int, 100, .inl (fun _ => 0))]) H locs := hw
  refine lv_aload_n hx hb dX1_init_20 rfl (lv_at hl 0 rfl) ?_
  refine lv_bipush (v := (100 : Int32)) hx hb dX1_init_21 (by decide) ?_
  refine p_newa C hw hn (i := 3) rfl (atype := .long) (ty := .long) rfl gw1_70 (by simp) (fun _ h => h) (a0 := (100, .inr (.inl (fun _ => 0)))) (fun _ => rfl) (by decide) (by decide) (by decide) (Nat.le_of_ble_eq_true rfl) (Nat.le_of_ble_eq_true rfl) dX1_init_23 (fun H locs hw => ?_)
  have hw : WP D base s (es ++ [.inr (1, [.ref (base + (n + 1)), .ref (base + (n + 2)), .null, .null, .null, .null, .int 0, .int 0, .int 0]), .inl (cA .int, 100, .inl (fun _ => 0)), .inl (cA .int, 100, .inl (fun _ => 0)), .inl (cA .long, 100, .inr (.inl (fun _ => 0)))]) H locs := hw
  refine p_putF C hw hn 0 (k := 2) (ty0 := tyX1) rfl vc_1 inX1 tyX1_ok nmX1 (by decide) gw2_1 rfl hin rfl rfl rfl (Nat.le_of_ble_eq_true rfl) dX1_init_25 (fun H locs hw => ?_)
  have hw : WP D base s (es ++ [.inr (1, [.ref (base + (n + 1)), .ref (base + (n + 2)), .ref (base + (n + 3)), .null, .null, .null, .int 0, .int 0, .int 0]), .inl (cA .int, 100, .inl (fun _ => 0)), .inl (cA .int, 100, .inl (fun _ => 0)), .inl (cA .long, 100, .inr (.inl (fun _ => 0)))]) H locs := hw
  refine lv_aload_n hx hb dX1_init_28 rfl (lv_at hl 0 rfl) ?_
  refine lv_bipush (v := (100 : Int32)) hx hb dX1_init_29 (by decide) ?_
  refine p_newa C hw hn (i := 4) rfl (atype := .int) (ty := .int) rfl gw1_69 (by simp) (fun _ h => h) (a0 := (100, .inl (fun _ => 0))) (fun _ => rfl) (by decide) (by decide) (by decide) (Nat.le_of_ble_eq_true rfl) (Nat.le_of_ble_eq_true rfl) dX1_init_31 (fun H locs hw => ?_)
  have hw : WP D base s (es ++ [.inr (1, [.ref (base + (n + 1)), .ref (base + (n + 2)), .ref (base + (n + 3)), .null, .null, .null, .int 0, .int 0, .int 0]), .inl (cA .int, 100, .inl (fun _ => 0)), .inl (cA .int, 100, .inl (fun _ => 0)), .inl (cA .long, 100, .inr (.inl (fun _ => 0))), .inl (cA .int, 100, .inl (fun _ => 0))]) H locs := hw
  refine p_putF C hw hn 0 (k := 3) (ty0 := tyX1) rfl vc_1 inX1 tyX1_ok nmX1 (by decide) gw2_2 rfl hin rfl rfl rfl (Nat.le_of_ble_eq_true rfl) dX1_init_33 (fun H locs hw => ?_)
  have hw : WP D base s (es ++ [.inr (1, [.ref (base + (n + 1)), .ref (base + (n + 2)), .ref (base + (n + 3)), .ref (base + (n + 4)), .null, .null, .int 0, .int 0, .int 0]), .inl (cA .int, 100, .inl (fun _ => 0)), .inl (cA .int, 100, .inl (fun _ => 0)), .inl (cA .long, 100, .inr (.inl (fun _ => 0))), .inl (cA .int, 100, .inl (fun _ => 0))]) H locs := hw
  refine lv_aload_n hx hb dX1_init_36 rfl (lv_at hl 0 rfl) ?_
  refine lv_bipush (v := (100 : Int32)) hx hb dX1_init_37 (by decide) ?_
  refine p_newa C hw hn (i := 5) rfl (atype := .int) (ty := .int) rfl gw1_69 (by simp) (fun _ h => h) (a0 := (100, .inl (fun _ => 0))) (fun _ => rfl) (by decide) (by decide) (by decide) (Nat.le_of_ble_eq_true rfl) (Nat.le_of_ble_eq_true rfl) dX1_init_39 (fun H locs hw => ?_)
  have hw : WP D base s (es ++ [.inr (1, [.ref (base + (n + 1)), .ref (base + (n + 2)), .ref (base + (n + 3)), .ref (base + (n + 4)), .null, .null, .int 0, .int 0, .int 0]), .inl (cA .int, 100, .inl (fun _ => 0)), .inl (cA .int, 100, .inl (fun _ => 0)), .inl (cA .long, 100, .inr (.inl (fun _ => 0))), .inl (cA .int, 100, .inl (fun _ => 0)), .inl (cA .int, 100, .inl (fun _ => 0))]) H locs := hw
  refine p_putF C hw hn 0 (k := 4) (ty0 := tyX1) rfl vc_1 inX1 tyX1_ok nmX1 (by decide) gw2_3 rfl hin rfl rfl rfl (Nat.le_of_ble_eq_true rfl) dX1_init_41 (fun H locs hw => ?_)
  have hw : WP D base s (es ++ [.inr (1, [.ref (base + (n + 1)), .ref (base + (n + 2)), .ref (base + (n + 3)), .ref (base + (n + 4)), .ref (base + (n + 5)), .null, .int 0, .int 0, .int 0]), .inl (cA .int, 100, .inl (fun _ => 0)), .inl (cA .int, 100, .inl (fun _ => 0)), .inl (cA .long, 100, .inr (.inl (fun _ => 0))), .inl (cA .int, 100, .inl (fun _ => 0)), .inl (cA .int, 100, .inl (fun _ => 0))]) H locs := hw
  refine lv_aload_n hx hb dX1_init_44 rfl (lv_at hl 0 rfl) ?_
  refine lv_sipush (v := (1000 : Int32)) hx hb dX1_init_45 (by decide) ?_
  refine p_newa C hw hn (i := 6) rfl (atype := .int) (ty := .int) rfl gw1_69 (by simp) (fun _ h => h) (a0 := (1000, .inl (fun _ => 0))) (fun _ => rfl) (by decide) (by decide) (by decide) (Nat.le_of_ble_eq_true rfl) (Nat.le_of_ble_eq_true rfl) dX1_init_48 (fun H locs hw => ?_)
  have hw : WP D base s (es ++ [.inr (1, [.ref (base + (n + 1)), .ref (base + (n + 2)), .ref (base + (n + 3)), .ref (base + (n + 4)), .ref (base + (n + 5)), .null, .int 0, .int 0, .int 0]), .inl (cA .int, 100, .inl (fun _ => 0)), .inl (cA .int, 100, .inl (fun _ => 0)), .inl (cA .long, 100, .inr (.inl (fun _ => 0))), .inl (cA .int, 100, .inl (fun _ => 0)), .inl (cA .int, 100, .inl (fun _ => 0)), .inl (cA .int, 1000, .inl (fun _ => 0))]) H locs := hw
  refine p_putF C hw hn 0 (k := 5) (ty0 := tyX1) rfl vc_1 inX1 tyX1_ok nmX1 (by decide) gw2_4 rfl hin rfl rfl rfl (Nat.le_of_ble_eq_true rfl) dX1_init_50 (fun H locs hw => ?_)
  have hw : WP D base s (es ++ [.inr (1, [.ref (base + (n + 1)), .ref (base + (n + 2)), .ref (base + (n + 3)), .ref (base + (n + 4)), .ref (base + (n + 5)), .ref (base + (n + 6)), .int 0, .int 0, .int 0]), .inl (cA .int, 100, .inl (fun _ => 0)), .inl (cA .int, 100, .inl (fun _ => 0)), .inl (cA .long, 100, .inr (.inl (fun _ => 0))), .inl (cA .int, 100, .inl (fun _ => 0)), .inl (cA .int, 100, .inl (fun _ => 0)), .inl (cA .int, 1000, .inl (fun _ => 0))]) H locs := hw
  refine lv_aload_n hx hb dX1_init_53 rfl (lv_at hl 0 rfl) ?_
  refine lv_iconst (v := (0 : Int32)) hx hb dX1_init_54 (by decide) ?_
  refine p_put C hw hn 0 (k := 6) (ty0 := tyX1) rfl vc_1 inX1 tyX1_ok nmX1 (by decide) gw2_5 rfl rfl rfl rfl (Nat.le_of_ble_eq_true rfl) dX1_init_55 (fun H locs hw => ?_)
  have hw : WP D base s (es ++ [.inr (1, [.ref (base + (n + 1)), .ref (base + (n + 2)), .ref (base + (n + 3)), .ref (base + (n + 4)), .ref (base + (n + 5)), .ref (base + (n + 6)), .int 0, .int 0, .int 0]), .inl (cA .int, 100, .inl (fun _ => 0)), .inl (cA .int, 100, .inl (fun _ => 0)), .inl (cA .long, 100, .inr (.inl (fun _ => 0))), .inl (cA .int, 100, .inl (fun _ => 0)), .inl (cA .int, 100, .inl (fun _ => 0)), .inl (cA .int, 1000, .inl (fun _ => 0))]) H locs := hw
  refine lv_aload_n hx hb dX1_init_58 rfl (lv_at hl 0 rfl) ?_
  refine lv_iconst (v := (0 : Int32)) hx hb dX1_init_59 (by decide) ?_
  refine p_put C hw hn 0 (k := 7) (ty0 := tyX1) rfl vc_1 inX1 tyX1_ok nmX1 (by decide) gw2_6 rfl rfl rfl rfl (Nat.le_of_ble_eq_true rfl) dX1_init_60 (fun H locs hw => ?_)
  have hw : WP D base s (es ++ [.inr (1, [.ref (base + (n + 1)), .ref (base + (n + 2)), .ref (base + (n + 3)), .ref (base + (n + 4)), .ref (base + (n + 5)), .ref (base + (n + 6)), .int 0, .int 0, .int 0]), .inl (cA .int, 100, .inl (fun _ => 0)), .inl (cA .int, 100, .inl (fun _ => 0)), .inl (cA .long, 100, .inr (.inl (fun _ => 0))), .inl (cA .int, 100, .inl (fun _ => 0)), .inl (cA .int, 100, .inl (fun _ => 0)), .inl (cA .int, 1000, .inl (fun _ => 0))]) H locs := hw
  refine lv_aload_n hx hb dX1_init_63 rfl (lv_at hl 0 rfl) ?_
  refine lv_iconst (v := (0 : Int32)) hx hb dX1_init_64 (by decide) ?_
  refine p_put C hw hn 0 (k := 8) (ty0 := tyX1) rfl vc_1 inX1 tyX1_ok nmX1 (by decide) gw2_7 rfl rfl rfl rfl (Nat.le_of_ble_eq_true rfl) dX1_init_65 (fun H locs hw => ?_)
  have hw : WP D base s (es ++ [.inr (1, [.ref (base + (n + 1)), .ref (base + (n + 2)), .ref (base + (n + 3)), .ref (base + (n + 4)), .ref (base + (n + 5)), .ref (base + (n + 6)), .int 0, .int 0, .int 0]), .inl (cA .int, 100, .inl (fun _ => 0)), .inl (cA .int, 100, .inl (fun _ => 0)), .inl (cA .long, 100, .inr (.inl (fun _ => 0))), .inl (cA .int, 100, .inl (fun _ => 0)), .inl (cA .int, 100, .inl (fun _ => 0)), .inl (cA .int, 1000, .inl (fun _ => 0))]) H locs := hw
  refine W.widen (k := 6) (n := 1500) (Nat.le_of_ble_eq_true rfl) (Nat.le_of_ble_eq_true rfl) ?_
  exact p_vret C hw hr hlocks dX1_init_68
def ri_X2 : Room := { frames := 1, cells := 8, slots := 1384, locals := 20 }
set_option maxHeartbeats 4000000 in
set_option maxRecDepth 100000 in
theorem i_X2 (l : Launch) (D : va_G) (cA : FieldType → ClassId) (base : Nat) (es : List va_E) (n : Nat) (hn : es.length = n) : Met l yX2_init (GC yX2_init cX2_init 1 none) ri_X2 (va_Pc [.ref (base + n)] (wp D cA base (es ++ [.inr (2, [.null, .null, .null, .null, .null, .null, .null, .null, .int 0, .int 0])]))) (QP D cA base (es ++ [.inr (2, [.ref (base + (n + 1)), .ref (base + (n + 2)), .ref (base + (n + 3)), .ref (base + (n + 4)), .ref (base + (n + 5)), .ref (base + (n + 6)), .ref (base + (n + 7)), .ref (base + (n + 8)), .int 0, .int 0]), .inl (cA .int, 4, .inl (fun _ => 0)), .inl (cA .int, 4, .inl (fun _ => 0)), .inl (cA .int, 4, .inl (fun _ => 0)), .inl (cA .int, 4, .inl (fun _ => 0)), .inl (cA .int, 160, .inl (fun _ => 0)), .inl (cA .int, 4, .inl (fun _ => 0)), .inl (cA .int, 1200, .inl (fun _ => 0)), .inl (cA .int, 4, .inl (fun _ => 0))])) 8 1384 (aB base) := by
  refine Met.ofW (cc := cX2_init) (maxL := 1) (ret := none) (by decide) rfl ?_
  intro p e s m args below meth c s₁ B hml hv
  obtain ⟨hargs, hwd⟩ := hv
  have hr := B.returns
  have hlocks := B.notSynchronized
  have hin : meth.name = "<init>" := (name_of_methodNamed B.named B.method).1
  obtain ⟨C, hw⟩ := CX.ofP (own := RX2) rfl B hml hwd
  have hx := C.1
  have hb := C.2.1
  have hl := lv_entry ([.ref (base + n)]) (n := 1) (Nat.le_of_ble_eq_true rfl)
  rw [show entryFrame m args 1 = entryFrame m ([.ref (base + n)] : List Value).toArray 1 from by rw [hargs], lg_entry_eq]
  generalize (lg_sl ([.ref (base + n)]) ++ List.replicate (1 - (lg_sl ([.ref (base + n)])).length) Slot.unset).toArray = ls at hl ⊢
  have hl : lv_has ls 1 [(0, .ref (base + n))] := hl
  show W p l e ri_X2 s m args below meth c s.heap [] 0 0 _ _
  refine lv_aload_n hx hb dX2_init_0 rfl (lv_at hl 0 rfl) ?_
  refine p_obj C hl.1 gw2_38 dX2_init_1 (Nat.le_of_ble_eq_true rfl) (Nat.le_of_ble_eq_true rfl) ?_
  refine lv_aload_n hx hb dX2_init_4 rfl (lv_at hl 0 rfl) ?_
  refine lv_iconst (v := (4 : Int32)) hx hb dX2_init_5 (by decide) ?_
  refine p_newa C hw hn (i := 1) rfl (atype := .int) (ty := .int) rfl gw1_69 (by simp) (fun _ h => h) (a0 := (4, .inl (fun _ => 0))) (fun _ => rfl) (by decide) (by decide) (by decide) (Nat.le_of_ble_eq_true rfl) (Nat.le_of_ble_eq_true rfl) dX2_init_6 (fun H locs hw => ?_)
  have hw : WP D base s (es ++ [.inr (2, [.null, .null, .null, .null, .null, .null, .null, .null, .int 0, .int 0]), .inl (cA .int, 4, .inl (fun _ => 0))]) H locs := hw
  refine p_putF C hw hn 0 (k := 0) (ty0 := tyX2) rfl vc_2 inX2 tyX2_ok nmX2 (by decide) gw2_39 rfl hin rfl rfl rfl (Nat.le_of_ble_eq_true rfl) dX2_init_8 (fun H locs hw => ?_)
  have hw : WP D base s (es ++ [.inr (2, [.ref (base + (n + 1)), .null, .null, .null, .null, .null, .null, .null, .int 0, .int 0]), .inl (cA .int, 4, .inl (fun _ => 0))]) H locs := hw
  refine lv_aload_n hx hb dX2_init_11 rfl (lv_at hl 0 rfl) ?_
  refine lv_iconst (v := (4 : Int32)) hx hb dX2_init_12 (by decide) ?_
  refine p_newa C hw hn (i := 2) rfl (atype := .int) (ty := .int) rfl gw1_69 (by simp) (fun _ h => h) (a0 := (4, .inl (fun _ => 0))) (fun _ => rfl) (by decide) (by decide) (by decide) (Nat.le_of_ble_eq_true rfl) (Nat.le_of_ble_eq_true rfl) dX2_init_13 (fun H locs hw => ?_)
  have hw : WP D base s (es ++ [.inr (2, [.ref (base + (n + 1)), .null, .null, .null, .null, .null, .null, .null, .int 0, .int 0]), .inl (cA .int, 4, .inl (fun _ => 0)), .inl (cA .int, 4, .inl (fun _ => 0))]) H locs := hw
  refine p_putF C hw hn 0 (k := 1) (ty0 := tyX2) rfl vc_2 inX2 tyX2_ok nmX2 (by decide) gw2_40 rfl hin rfl rfl rfl (Nat.le_of_ble_eq_true rfl) dX2_init_15 (fun H locs hw => ?_)
  have hw : WP D base s (es ++ [.inr (2, [.ref (base + (n + 1)), .ref (base + (n + 2)), .null, .null, .null, .null, .null, .null, .int 0, .int 0]), .inl (cA .int, 4, .inl (fun _ => 0)), .inl (cA .int, 4, .inl (fun _ => 0))]) H locs := hw
  refine lv_aload_n hx hb dX2_init_18 rfl (lv_at hl 0 rfl) ?_
  refine lv_iconst (v := (4 : Int32)) hx hb dX2_init_19 (by decide) ?_
  refine p_newa C hw hn (i := 3) rfl (atype := .int) (ty := .int) rfl gw1_69 (by simp) (fun _ h => h) (a0 := (4, .inl (fun _ => 0))) (fun _ => rfl) (by decide) (by decide) (by decide) (Nat.le_of_ble_eq_true rfl) (Nat.le_of_ble_eq_true rfl) dX2_init_20 (fun H locs hw => ?_)
  have hw : WP D base s (es ++ [.inr (2, [.ref (base + (n + 1)), .ref (base + (n + 2)), .null, .null, .null, .null, .null, .null, .int 0, .int 0]), .inl (cA .int, 4, .inl (fun _ => 0)), .inl (cA .int, 4, .inl (fun _ => 0)), .inl (cA .int, 4, .inl (fun _ => 0))]) H locs := hw
  refine p_putF C hw hn 0 (k := 2) (ty0 := tyX2) rfl vc_2 inX2 tyX2_ok nmX2 (by decide) gw2_41 rfl hin rfl rfl rfl (Nat.le_of_ble_eq_true rfl) dX2_init_22 (fun H locs hw => ?_)
  have hw : WP D base s (es ++ [.inr (2, [.ref (base + (n + 1)), .ref (base + (n + 2)), .ref (base + (n + 3)), .null, .null, .null, .null, .null, .int 0, .int 0]), .inl (cA .int, 4, .inl (fun _ => 0)), .inl (cA .int, 4, .inl (fun _ => 0)), .inl (cA .int, 4, .inl (fun _ => 0))]) H locs := hw
  refine lv_aload_n hx hb dX2_init_25 rfl (lv_at hl 0 rfl) ?_
  refine lv_iconst (v := (4 : Int32)) hx hb dX2_init_26 (by decide) ?_
  refine p_newa C hw hn (i := 4) rfl (atype := .int) (ty := .int) rfl gw1_69 (by simp) (fun _ h => h) (a0 := (4, .inl (fun _ => 0))) (fun _ => rfl) (by decide) (by decide) (by decide) (Nat.le_of_ble_eq_true rfl) (Nat.le_of_ble_eq_true rfl) dX2_init_27 (fun H locs hw => ?_)
  have hw : WP D base s (es ++ [.inr (2, [.ref (base + (n + 1)), .ref (base + (n + 2)), .ref (base + (n + 3)), .null, .null, .null, .null, .null, .int 0, .int 0]), .inl (cA .int, 4, .inl (fun _ => 0)), .inl (cA .int, 4, .inl (fun _ => 0)), .inl (cA .int, 4, .inl (fun _ => 0)), .inl (cA .int, 4, .inl (fun _ => 0))]) H locs := hw
  refine p_putF C hw hn 0 (k := 3) (ty0 := tyX2) rfl vc_2 inX2 tyX2_ok nmX2 (by decide) gw2_42 rfl hin rfl rfl rfl (Nat.le_of_ble_eq_true rfl) dX2_init_29 (fun H locs hw => ?_)
  have hw : WP D base s (es ++ [.inr (2, [.ref (base + (n + 1)), .ref (base + (n + 2)), .ref (base + (n + 3)), .ref (base + (n + 4)), .null, .null, .null, .null, .int 0, .int 0]), .inl (cA .int, 4, .inl (fun _ => 0)), .inl (cA .int, 4, .inl (fun _ => 0)), .inl (cA .int, 4, .inl (fun _ => 0)), .inl (cA .int, 4, .inl (fun _ => 0))]) H locs := hw
  refine lv_aload_n hx hb dX2_init_32 rfl (lv_at hl 0 rfl) ?_
  refine lv_sipush (v := (160 : Int32)) hx hb dX2_init_33 (by decide) ?_
  refine p_newa C hw hn (i := 5) rfl (atype := .int) (ty := .int) rfl gw1_69 (by simp) (fun _ h => h) (a0 := (160, .inl (fun _ => 0))) (fun _ => rfl) (by decide) (by decide) (by decide) (Nat.le_of_ble_eq_true rfl) (Nat.le_of_ble_eq_true rfl) dX2_init_36 (fun H locs hw => ?_)
  have hw : WP D base s (es ++ [.inr (2, [.ref (base + (n + 1)), .ref (base + (n + 2)), .ref (base + (n + 3)), .ref (base + (n + 4)), .null, .null, .null, .null, .int 0, .int 0]), .inl (cA .int, 4, .inl (fun _ => 0)), .inl (cA .int, 4, .inl (fun _ => 0)), .inl (cA .int, 4, .inl (fun _ => 0)), .inl (cA .int, 4, .inl (fun _ => 0)), .inl (cA .int, 160, .inl (fun _ => 0))]) H locs := hw
  refine p_putF C hw hn 0 (k := 4) (ty0 := tyX2) rfl vc_2 inX2 tyX2_ok nmX2 (by decide) gw2_43 rfl hin rfl rfl rfl (Nat.le_of_ble_eq_true rfl) dX2_init_38 (fun H locs hw => ?_)
  have hw : WP D base s (es ++ [.inr (2, [.ref (base + (n + 1)), .ref (base + (n + 2)), .ref (base + (n + 3)), .ref (base + (n + 4)), .ref (base + (n + 5)), .null, .null, .null, .int 0, .int 0]), .inl (cA .int, 4, .inl (fun _ => 0)), .inl (cA .int, 4, .inl (fun _ => 0)), .inl (cA .int, 4, .inl (fun _ => 0)), .inl (cA .int, 4, .inl (fun _ => 0)), .inl (cA .int, 160, .inl (fun _ => 0))]) H locs := hw
  refine lv_aload_n hx hb dX2_init_41 rfl (lv_at hl 0 rfl) ?_
  refine lv_iconst (v := (4 : Int32)) hx hb dX2_init_42 (by decide) ?_
  refine p_newa C hw hn (i := 6) rfl (atype := .int) (ty := .int) rfl gw1_69 (by simp) (fun _ h => h) (a0 := (4, .inl (fun _ => 0))) (fun _ => rfl) (by decide) (by decide) (by decide) (Nat.le_of_ble_eq_true rfl) (Nat.le_of_ble_eq_true rfl) dX2_init_43 (fun H locs hw => ?_)
  have hw : WP D base s (es ++ [.inr (2, [.ref (base + (n + 1)), .ref (base + (n + 2)), .ref (base + (n + 3)), .ref (base + (n + 4)), .ref (base + (n + 5)), .null, .null, .null, .int 0, .int 0]), .inl (cA .int, 4, .inl (fun _ => 0)), .inl (cA .int, 4, .inl (fun _ => 0)), .inl (cA .int, 4, .inl (fun _ => 0)), .inl (cA .int, 4, .inl (fun _ => 0)), .inl (cA .int, 160, .inl (fun _ => 0)), .inl (cA .int, 4, .inl (fun _ => 0))]) H locs := hw
  refine p_putF C hw hn 0 (k := 5) (ty0 := tyX2) rfl vc_2 inX2 tyX2_ok nmX2 (by decide) gw2_44 rfl hin rfl rfl rfl (Nat.le_of_ble_eq_true rfl) dX2_init_45 (fun H locs hw => ?_)
  have hw : WP D base s (es ++ [.inr (2, [.ref (base + (n + 1)), .ref (base + (n + 2)), .ref (base + (n + 3)), .ref (base + (n + 4)), .ref (base + (n + 5)), .ref (base + (n + 6)), .null, .null, .int 0, .int 0]), .inl (cA .int, 4, .inl (fun _ => 0)), .inl (cA .int, 4, .inl (fun _ => 0)), .inl (cA .int, 4, .inl (fun _ => 0)), .inl (cA .int, 4, .inl (fun _ => 0)), .inl (cA .int, 160, .inl (fun _ => 0)), .inl (cA .int, 4, .inl (fun _ => 0))]) H locs := hw
  refine lv_aload_n hx hb dX2_init_48 rfl (lv_at hl 0 rfl) ?_
  refine lv_sipush (v := (1200 : Int32)) hx hb dX2_init_49 (by decide) ?_
  refine p_newa C hw hn (i := 7) rfl (atype := .int) (ty := .int) rfl gw1_69 (by simp) (fun _ h => h) (a0 := (1200, .inl (fun _ => 0))) (fun _ => rfl) (by decide) (by decide) (by decide) (Nat.le_of_ble_eq_true rfl) (Nat.le_of_ble_eq_true rfl) dX2_init_52 (fun H locs hw => ?_)
  have hw : WP D base s (es ++ [.inr (2, [.ref (base + (n + 1)), .ref (base + (n + 2)), .ref (base + (n + 3)), .ref (base + (n + 4)), .ref (base + (n + 5)), .ref (base + (n + 6)), .null, .null, .int 0, .int 0]), .inl (cA .int, 4, .inl (fun _ => 0)), .inl (cA .int, 4, .inl (fun _ => 0)), .inl (cA .int, 4, .inl (fun _ => 0)), .inl (cA .int, 4, .inl (fun _ => 0)), .inl (cA .int, 160, .inl (fun _ => 0)), .inl (cA .int, 4, .inl (fun _ => 0)), .inl (cA .int, 1200, .inl (fun _ => 0))]) H locs := hw
  refine p_putF C hw hn 0 (k := 6) (ty0 := tyX2) rfl vc_2 inX2 tyX2_ok nmX2 (by decide) gw2_45 rfl hin rfl rfl rfl (Nat.le_of_ble_eq_true rfl) dX2_init_54 (fun H locs hw => ?_)
  have hw : WP D base s (es ++ [.inr (2, [.ref (base + (n + 1)), .ref (base + (n + 2)), .ref (base + (n + 3)), .ref (base + (n + 4)), .ref (base + (n + 5)), .ref (base + (n + 6)), .ref (base + (n + 7)), .null, .int 0, .int 0]), .inl (cA .int, 4, .inl (fun _ => 0)), .inl (cA .int, 4, .inl (fun _ => 0)), .inl (cA .int, 4, .inl (fun _ => 0)), .inl (cA .int, 4, .inl (fun _ => 0)), .inl (cA .int, 160, .inl (fun _ => 0)), .inl (cA .int, 4, .inl (fun _ => 0)), .inl (cA .int, 1200, .inl (fun _ => 0))]) H locs := hw
  refine lv_aload_n hx hb dX2_init_57 rfl (lv_at hl 0 rfl) ?_
  refine lv_iconst (v := (4 : Int32)) hx hb dX2_init_58 (by decide) ?_
  refine p_newa C hw hn (i := 8) rfl (atype := .int) (ty := .int) rfl gw1_69 (by simp) (fun _ h => h) (a0 := (4, .inl (fun _ => 0))) (fun _ => rfl) (by decide) (by decide) (by decide) (Nat.le_of_ble_eq_true rfl) (Nat.le_of_ble_eq_true rfl) dX2_init_59 (fun H locs hw => ?_)
  have hw : WP D base s (es ++ [.inr (2, [.ref (base + (n + 1)), .ref (base + (n + 2)), .ref (base + (n + 3)), .ref (base + (n + 4)), .ref (base + (n + 5)), .ref (base + (n + 6)), .ref (base + (n + 7)), .null, .int 0, .int 0]), .inl (cA .int, 4, .inl (fun _ => 0)), .inl (cA .int, 4, .inl (fun _ => 0)), .inl (cA .int, 4, .inl (fun _ => 0)), .inl (cA .int, 4, .inl (fun _ => 0)), .inl (cA .int, 160, .inl (fun _ => 0)), .inl (cA .int, 4, .inl (fun _ => 0)), .inl (cA .int, 1200, .inl (fun _ => 0)), .inl (cA .int, 4, .inl (fun _ => 0))]) H locs := hw
  refine p_putF C hw hn 0 (k := 7) (ty0 := tyX2) rfl vc_2 inX2 tyX2_ok nmX2 (by decide) gw2_46 rfl hin rfl rfl rfl (Nat.le_of_ble_eq_true rfl) dX2_init_61 (fun H locs hw => ?_)
  have hw : WP D base s (es ++ [.inr (2, [.ref (base + (n + 1)), .ref (base + (n + 2)), .ref (base + (n + 3)), .ref (base + (n + 4)), .ref (base + (n + 5)), .ref (base + (n + 6)), .ref (base + (n + 7)), .ref (base + (n + 8)), .int 0, .int 0]), .inl (cA .int, 4, .inl (fun _ => 0)), .inl (cA .int, 4, .inl (fun _ => 0)), .inl (cA .int, 4, .inl (fun _ => 0)), .inl (cA .int, 4, .inl (fun _ => 0)), .inl (cA .int, 160, .inl (fun _ => 0)), .inl (cA .int, 4, .inl (fun _ => 0)), .inl (cA .int, 1200, .inl (fun _ => 0)), .inl (cA .int, 4, .inl (fun _ => 0))]) H locs := hw
  refine lv_aload_n hx hb dX2_init_64 rfl (lv_at hl 0 rfl) ?_
  refine lv_iconst (v := (0 : Int32)) hx hb dX2_init_65 (by decide) ?_
  refine p_put C hw hn 0 (k := 8) (ty0 := tyX2) rfl vc_2 inX2 tyX2_ok nmX2 (by decide) gw2_47 rfl rfl rfl rfl (Nat.le_of_ble_eq_true rfl) dX2_init_66 (fun H locs hw => ?_)
  have hw : WP D base s (es ++ [.inr (2, [.ref (base + (n + 1)), .ref (base + (n + 2)), .ref (base + (n + 3)), .ref (base + (n + 4)), .ref (base + (n + 5)), .ref (base + (n + 6)), .ref (base + (n + 7)), .ref (base + (n + 8)), .int 0, .int 0]), .inl (cA .int, 4, .inl (fun _ => 0)), .inl (cA .int, 4, .inl (fun _ => 0)), .inl (cA .int, 4, .inl (fun _ => 0)), .inl (cA .int, 4, .inl (fun _ => 0)), .inl (cA .int, 160, .inl (fun _ => 0)), .inl (cA .int, 4, .inl (fun _ => 0)), .inl (cA .int, 1200, .inl (fun _ => 0)), .inl (cA .int, 4, .inl (fun _ => 0))]) H locs := hw
  refine lv_aload_n hx hb dX2_init_69 rfl (lv_at hl 0 rfl) ?_
  refine lv_iconst (v := (0 : Int32)) hx hb dX2_init_70 (by decide) ?_
  refine p_put C hw hn 0 (k := 9) (ty0 := tyX2) rfl vc_2 inX2 tyX2_ok nmX2 (by decide) gw2_48 rfl rfl rfl rfl (Nat.le_of_ble_eq_true rfl) dX2_init_71 (fun H locs hw => ?_)
  have hw : WP D base s (es ++ [.inr (2, [.ref (base + (n + 1)), .ref (base + (n + 2)), .ref (base + (n + 3)), .ref (base + (n + 4)), .ref (base + (n + 5)), .ref (base + (n + 6)), .ref (base + (n + 7)), .ref (base + (n + 8)), .int 0, .int 0]), .inl (cA .int, 4, .inl (fun _ => 0)), .inl (cA .int, 4, .inl (fun _ => 0)), .inl (cA .int, 4, .inl (fun _ => 0)), .inl (cA .int, 4, .inl (fun _ => 0)), .inl (cA .int, 160, .inl (fun _ => 0)), .inl (cA .int, 4, .inl (fun _ => 0)), .inl (cA .int, 1200, .inl (fun _ => 0)), .inl (cA .int, 4, .inl (fun _ => 0))]) H locs := hw
  refine W.widen (k := 8) (n := 1384) (Nat.le_of_ble_eq_true rfl) (Nat.le_of_ble_eq_true rfl) ?_
  exact p_vret C hw hr hlocks dX2_init_74
def ri_X10 : Room := { frames := 1, cells := 7, slots := 774, locals := 20 }
set_option maxHeartbeats 4000000 in
set_option maxRecDepth 100000 in
theorem i_X10 (l : Launch) (D : va_G) (cA : FieldType → ClassId) (base : Nat) (es : List va_E) (n : Nat) (hn : es.length = n) (a1 : Nat) : Met l yX10_init (GC yX10_init cX10_init 2 none) ri_X10 (va_Pc [.ref (base + n), .ref a1] (wp D cA base (es ++ [.inr (10, [.null, .null, .null, .int 0, .null, .null, .null, .null, .null, .int 0])]))) (QP D cA base (es ++ [.inr (10, [.ref a1, .ref (base + (n + 1)), .ref (base + (n + 2)), .int 0, .ref (base + (n + 3)), .ref (base + (n + 4)), .ref (base + (n + 5)), .ref (base + (n + 6)), .ref (base + (n + 7)), .int 0]), .inl (cA .int, 12, .inl (fun _ => 0)), .inl (cA .int, 12, .inl (fun _ => 0)), .inl (cA .int, 150, .inl (fun _ => 0)), .inl (cA .int, 150, .inl (fun _ => 0)), .inl (cA .int, 150, .inl (fun _ => 0)), .inl (cA .int, 150, .inl (fun _ => 0)), .inl (cA .int, 150, .inl (fun _ => 0))])) 7 774 (aB base) := by
  refine Met.ofW (cc := cX10_init) (maxL := 2) (ret := none) (by decide) rfl ?_
  intro p e s m args below meth c s₁ B hml hv
  obtain ⟨hargs, hwd⟩ := hv
  have hr := B.returns
  have hlocks := B.notSynchronized
  have hin : meth.name = "<init>" := (name_of_methodNamed B.named B.method).1
  obtain ⟨C, hw⟩ := CX.ofP (own := RX10) rfl B hml hwd
  have hx := C.1
  have hb := C.2.1
  have hl := lv_entry ([.ref (base + n), .ref a1]) (n := 2) (Nat.le_of_ble_eq_true rfl)
  rw [show entryFrame m args 2 = entryFrame m ([.ref (base + n), .ref a1] : List Value).toArray 2 from by rw [hargs], lg_entry_eq]
  generalize (lg_sl ([.ref (base + n), .ref a1]) ++ List.replicate (2 - (lg_sl ([.ref (base + n), .ref a1])).length) Slot.unset).toArray = ls at hl ⊢
  have hl : lv_has ls 2 [(0, .ref (base + n)), (1, .ref a1)] := hl
  show W p l e ri_X10 s m args below meth c s.heap [] 0 0 _ _
  refine lv_aload_n hx hb dX10_init_0 rfl (lv_at hl 0 rfl) ?_
  refine p_obj C hl.1 gw1_92 dX10_init_1 (Nat.le_of_ble_eq_true rfl) (Nat.le_of_ble_eq_true rfl) ?_
  refine lv_aload_n hx hb dX10_init_4 rfl (lv_at hl 0 rfl) ?_
  refine lv_aload_n hx hb dX10_init_5 rfl (lv_at hl 1 rfl) ?_
  refine p_putF C hw hn 0 (k := 0) (ty0 := tyX10) rfl vc_10 inX10 tyX10_ok nmX10 (by decide) gw1_93 rfl hin rfl rfl rfl (Nat.le_of_ble_eq_true rfl) dX10_init_6 (fun H locs hw => ?_)
  have hw : WP D base s (es ++ [.inr (10, [.ref a1, .null, .null, .int 0, .null, .null, .null, .null, .null, .int 0])]) H locs := hw
  refine lv_aload_n hx hb dX10_init_9 rfl (lv_at hl 0 rfl) ?_
  refine lv_bipush (v := (12 : Int32)) hx hb dX10_init_10 (by decide) ?_
  refine p_newa C hw hn (i := 1) rfl (atype := .int) (ty := .int) rfl gw1_69 (by simp) (fun _ h => h) (a0 := (12, .inl (fun _ => 0))) (fun _ => rfl) (by decide) (by decide) (by decide) (Nat.le_of_ble_eq_true rfl) (Nat.le_of_ble_eq_true rfl) dX10_init_12 (fun H locs hw => ?_)
  have hw : WP D base s (es ++ [.inr (10, [.ref a1, .null, .null, .int 0, .null, .null, .null, .null, .null, .int 0]), .inl (cA .int, 12, .inl (fun _ => 0))]) H locs := hw
  refine p_putF C hw hn 0 (k := 1) (ty0 := tyX10) rfl vc_10 inX10 tyX10_ok nmX10 (by decide) gw1_94 rfl hin rfl rfl rfl (Nat.le_of_ble_eq_true rfl) dX10_init_14 (fun H locs hw => ?_)
  have hw : WP D base s (es ++ [.inr (10, [.ref a1, .ref (base + (n + 1)), .null, .int 0, .null, .null, .null, .null, .null, .int 0]), .inl (cA .int, 12, .inl (fun _ => 0))]) H locs := hw
  refine lv_aload_n hx hb dX10_init_17 rfl (lv_at hl 0 rfl) ?_
  refine lv_bipush (v := (12 : Int32)) hx hb dX10_init_18 (by decide) ?_
  refine p_newa C hw hn (i := 2) rfl (atype := .int) (ty := .int) rfl gw1_69 (by simp) (fun _ h => h) (a0 := (12, .inl (fun _ => 0))) (fun _ => rfl) (by decide) (by decide) (by decide) (Nat.le_of_ble_eq_true rfl) (Nat.le_of_ble_eq_true rfl) dX10_init_20 (fun H locs hw => ?_)
  have hw : WP D base s (es ++ [.inr (10, [.ref a1, .ref (base + (n + 1)), .null, .int 0, .null, .null, .null, .null, .null, .int 0]), .inl (cA .int, 12, .inl (fun _ => 0)), .inl (cA .int, 12, .inl (fun _ => 0))]) H locs := hw
  refine p_putF C hw hn 0 (k := 2) (ty0 := tyX10) rfl vc_10 inX10 tyX10_ok nmX10 (by decide) gw1_95 rfl hin rfl rfl rfl (Nat.le_of_ble_eq_true rfl) dX10_init_22 (fun H locs hw => ?_)
  have hw : WP D base s (es ++ [.inr (10, [.ref a1, .ref (base + (n + 1)), .ref (base + (n + 2)), .int 0, .null, .null, .null, .null, .null, .int 0]), .inl (cA .int, 12, .inl (fun _ => 0)), .inl (cA .int, 12, .inl (fun _ => 0))]) H locs := hw
  refine lv_aload_n hx hb dX10_init_25 rfl (lv_at hl 0 rfl) ?_
  refine lv_iconst (v := (0 : Int32)) hx hb dX10_init_26 (by decide) ?_
  refine p_put C hw hn 0 (k := 3) (ty0 := tyX10) rfl vc_10 inX10 tyX10_ok nmX10 (by decide) gw1_96 rfl rfl rfl rfl (Nat.le_of_ble_eq_true rfl) dX10_init_27 (fun H locs hw => ?_)
  have hw : WP D base s (es ++ [.inr (10, [.ref a1, .ref (base + (n + 1)), .ref (base + (n + 2)), .int 0, .null, .null, .null, .null, .null, .int 0]), .inl (cA .int, 12, .inl (fun _ => 0)), .inl (cA .int, 12, .inl (fun _ => 0))]) H locs := hw
  refine lv_aload_n hx hb dX10_init_30 rfl (lv_at hl 0 rfl) ?_
  refine lv_sipush (v := (150 : Int32)) hx hb dX10_init_31 (by decide) ?_
  refine p_newa C hw hn (i := 3) rfl (atype := .int) (ty := .int) rfl gw1_69 (by simp) (fun _ h => h) (a0 := (150, .inl (fun _ => 0))) (fun _ => rfl) (by decide) (by decide) (by decide) (Nat.le_of_ble_eq_true rfl) (Nat.le_of_ble_eq_true rfl) dX10_init_34 (fun H locs hw => ?_)
  have hw : WP D base s (es ++ [.inr (10, [.ref a1, .ref (base + (n + 1)), .ref (base + (n + 2)), .int 0, .null, .null, .null, .null, .null, .int 0]), .inl (cA .int, 12, .inl (fun _ => 0)), .inl (cA .int, 12, .inl (fun _ => 0)), .inl (cA .int, 150, .inl (fun _ => 0))]) H locs := hw
  refine p_putF C hw hn 0 (k := 4) (ty0 := tyX10) rfl vc_10 inX10 tyX10_ok nmX10 (by decide) gw1_97 rfl hin rfl rfl rfl (Nat.le_of_ble_eq_true rfl) dX10_init_36 (fun H locs hw => ?_)
  have hw : WP D base s (es ++ [.inr (10, [.ref a1, .ref (base + (n + 1)), .ref (base + (n + 2)), .int 0, .ref (base + (n + 3)), .null, .null, .null, .null, .int 0]), .inl (cA .int, 12, .inl (fun _ => 0)), .inl (cA .int, 12, .inl (fun _ => 0)), .inl (cA .int, 150, .inl (fun _ => 0))]) H locs := hw
  refine lv_aload_n hx hb dX10_init_39 rfl (lv_at hl 0 rfl) ?_
  refine lv_sipush (v := (150 : Int32)) hx hb dX10_init_40 (by decide) ?_
  refine p_newa C hw hn (i := 4) rfl (atype := .int) (ty := .int) rfl gw1_69 (by simp) (fun _ h => h) (a0 := (150, .inl (fun _ => 0))) (fun _ => rfl) (by decide) (by decide) (by decide) (Nat.le_of_ble_eq_true rfl) (Nat.le_of_ble_eq_true rfl) dX10_init_43 (fun H locs hw => ?_)
  have hw : WP D base s (es ++ [.inr (10, [.ref a1, .ref (base + (n + 1)), .ref (base + (n + 2)), .int 0, .ref (base + (n + 3)), .null, .null, .null, .null, .int 0]), .inl (cA .int, 12, .inl (fun _ => 0)), .inl (cA .int, 12, .inl (fun _ => 0)), .inl (cA .int, 150, .inl (fun _ => 0)), .inl (cA .int, 150, .inl (fun _ => 0))]) H locs := hw
  refine p_putF C hw hn 0 (k := 5) (ty0 := tyX10) rfl vc_10 inX10 tyX10_ok nmX10 (by decide) gw1_98 rfl hin rfl rfl rfl (Nat.le_of_ble_eq_true rfl) dX10_init_45 (fun H locs hw => ?_)
  have hw : WP D base s (es ++ [.inr (10, [.ref a1, .ref (base + (n + 1)), .ref (base + (n + 2)), .int 0, .ref (base + (n + 3)), .ref (base + (n + 4)), .null, .null, .null, .int 0]), .inl (cA .int, 12, .inl (fun _ => 0)), .inl (cA .int, 12, .inl (fun _ => 0)), .inl (cA .int, 150, .inl (fun _ => 0)), .inl (cA .int, 150, .inl (fun _ => 0))]) H locs := hw
  refine lv_aload_n hx hb dX10_init_48 rfl (lv_at hl 0 rfl) ?_
  refine lv_sipush (v := (150 : Int32)) hx hb dX10_init_49 (by decide) ?_
  refine p_newa C hw hn (i := 5) rfl (atype := .int) (ty := .int) rfl gw1_69 (by simp) (fun _ h => h) (a0 := (150, .inl (fun _ => 0))) (fun _ => rfl) (by decide) (by decide) (by decide) (Nat.le_of_ble_eq_true rfl) (Nat.le_of_ble_eq_true rfl) dX10_init_52 (fun H locs hw => ?_)
  have hw : WP D base s (es ++ [.inr (10, [.ref a1, .ref (base + (n + 1)), .ref (base + (n + 2)), .int 0, .ref (base + (n + 3)), .ref (base + (n + 4)), .null, .null, .null, .int 0]), .inl (cA .int, 12, .inl (fun _ => 0)), .inl (cA .int, 12, .inl (fun _ => 0)), .inl (cA .int, 150, .inl (fun _ => 0)), .inl (cA .int, 150, .inl (fun _ => 0)), .inl (cA .int, 150, .inl (fun _ => 0))]) H locs := hw
  refine p_putF C hw hn 0 (k := 6) (ty0 := tyX10) rfl vc_10 inX10 tyX10_ok nmX10 (by decide) gw1_99 rfl hin rfl rfl rfl (Nat.le_of_ble_eq_true rfl) dX10_init_54 (fun H locs hw => ?_)
  have hw : WP D base s (es ++ [.inr (10, [.ref a1, .ref (base + (n + 1)), .ref (base + (n + 2)), .int 0, .ref (base + (n + 3)), .ref (base + (n + 4)), .ref (base + (n + 5)), .null, .null, .int 0]), .inl (cA .int, 12, .inl (fun _ => 0)), .inl (cA .int, 12, .inl (fun _ => 0)), .inl (cA .int, 150, .inl (fun _ => 0)), .inl (cA .int, 150, .inl (fun _ => 0)), .inl (cA .int, 150, .inl (fun _ => 0))]) H locs := hw
  refine lv_aload_n hx hb dX10_init_57 rfl (lv_at hl 0 rfl) ?_
  refine lv_sipush (v := (150 : Int32)) hx hb dX10_init_58 (by decide) ?_
  refine p_newa C hw hn (i := 6) rfl (atype := .int) (ty := .int) rfl gw1_69 (by simp) (fun _ h => h) (a0 := (150, .inl (fun _ => 0))) (fun _ => rfl) (by decide) (by decide) (by decide) (Nat.le_of_ble_eq_true rfl) (Nat.le_of_ble_eq_true rfl) dX10_init_61 (fun H locs hw => ?_)
  have hw : WP D base s (es ++ [.inr (10, [.ref a1, .ref (base + (n + 1)), .ref (base + (n + 2)), .int 0, .ref (base + (n + 3)), .ref (base + (n + 4)), .ref (base + (n + 5)), .null, .null, .int 0]), .inl (cA .int, 12, .inl (fun _ => 0)), .inl (cA .int, 12, .inl (fun _ => 0)), .inl (cA .int, 150, .inl (fun _ => 0)), .inl (cA .int, 150, .inl (fun _ => 0)), .inl (cA .int, 150, .inl (fun _ => 0)), .inl (cA .int, 150, .inl (fun _ => 0))]) H locs := hw
  refine p_putF C hw hn 0 (k := 7) (ty0 := tyX10) rfl vc_10 inX10 tyX10_ok nmX10 (by decide) gw1_100 rfl hin rfl rfl rfl (Nat.le_of_ble_eq_true rfl) dX10_init_63 (fun H locs hw => ?_)
  have hw : WP D base s (es ++ [.inr (10, [.ref a1, .ref (base + (n + 1)), .ref (base + (n + 2)), .int 0, .ref (base + (n + 3)), .ref (base + (n + 4)), .ref (base + (n + 5)), .ref (base + (n + 6)), .null, .int 0]), .inl (cA .int, 12, .inl (fun _ => 0)), .inl (cA .int, 12, .inl (fun _ => 0)), .inl (cA .int, 150, .inl (fun _ => 0)), .inl (cA .int, 150, .inl (fun _ => 0)), .inl (cA .int, 150, .inl (fun _ => 0)), .inl (cA .int, 150, .inl (fun _ => 0))]) H locs := hw
  refine lv_aload_n hx hb dX10_init_66 rfl (lv_at hl 0 rfl) ?_
  refine lv_sipush (v := (150 : Int32)) hx hb dX10_init_67 (by decide) ?_
  refine p_newa C hw hn (i := 7) rfl (atype := .int) (ty := .int) rfl gw1_69 (by simp) (fun _ h => h) (a0 := (150, .inl (fun _ => 0))) (fun _ => rfl) (by decide) (by decide) (by decide) (Nat.le_of_ble_eq_true rfl) (Nat.le_of_ble_eq_true rfl) dX10_init_70 (fun H locs hw => ?_)
  have hw : WP D base s (es ++ [.inr (10, [.ref a1, .ref (base + (n + 1)), .ref (base + (n + 2)), .int 0, .ref (base + (n + 3)), .ref (base + (n + 4)), .ref (base + (n + 5)), .ref (base + (n + 6)), .null, .int 0]), .inl (cA .int, 12, .inl (fun _ => 0)), .inl (cA .int, 12, .inl (fun _ => 0)), .inl (cA .int, 150, .inl (fun _ => 0)), .inl (cA .int, 150, .inl (fun _ => 0)), .inl (cA .int, 150, .inl (fun _ => 0)), .inl (cA .int, 150, .inl (fun _ => 0)), .inl (cA .int, 150, .inl (fun _ => 0))]) H locs := hw
  refine p_putF C hw hn 0 (k := 8) (ty0 := tyX10) rfl vc_10 inX10 tyX10_ok nmX10 (by decide) gw1_101 rfl hin rfl rfl rfl (Nat.le_of_ble_eq_true rfl) dX10_init_72 (fun H locs hw => ?_)
  have hw : WP D base s (es ++ [.inr (10, [.ref a1, .ref (base + (n + 1)), .ref (base + (n + 2)), .int 0, .ref (base + (n + 3)), .ref (base + (n + 4)), .ref (base + (n + 5)), .ref (base + (n + 6)), .ref (base + (n + 7)), .int 0]), .inl (cA .int, 12, .inl (fun _ => 0)), .inl (cA .int, 12, .inl (fun _ => 0)), .inl (cA .int, 150, .inl (fun _ => 0)), .inl (cA .int, 150, .inl (fun _ => 0)), .inl (cA .int, 150, .inl (fun _ => 0)), .inl (cA .int, 150, .inl (fun _ => 0)), .inl (cA .int, 150, .inl (fun _ => 0))]) H locs := hw
  refine lv_aload_n hx hb dX10_init_75 rfl (lv_at hl 0 rfl) ?_
  refine lv_iconst (v := (0 : Int32)) hx hb dX10_init_76 (by decide) ?_
  refine p_put C hw hn 0 (k := 9) (ty0 := tyX10) rfl vc_10 inX10 tyX10_ok nmX10 (by decide) gw1_102 rfl rfl rfl rfl (Nat.le_of_ble_eq_true rfl) dX10_init_77 (fun H locs hw => ?_)
  have hw : WP D base s (es ++ [.inr (10, [.ref a1, .ref (base + (n + 1)), .ref (base + (n + 2)), .int 0, .ref (base + (n + 3)), .ref (base + (n + 4)), .ref (base + (n + 5)), .ref (base + (n + 6)), .ref (base + (n + 7)), .int 0]), .inl (cA .int, 12, .inl (fun _ => 0)), .inl (cA .int, 12, .inl (fun _ => 0)), .inl (cA .int, 150, .inl (fun _ => 0)), .inl (cA .int, 150, .inl (fun _ => 0)), .inl (cA .int, 150, .inl (fun _ => 0)), .inl (cA .int, 150, .inl (fun _ => 0)), .inl (cA .int, 150, .inl (fun _ => 0))]) H locs := hw
  refine W.widen (k := 7) (n := 774) (Nat.le_of_ble_eq_true rfl) (Nat.le_of_ble_eq_true rfl) ?_
  exact p_vret C hw hr hlocks dX10_init_80
def ri_X9 : Room := { frames := 2, cells := 4, slots := 1306, locals := 40 }
set_option maxHeartbeats 4000000 in
set_option maxRecDepth 100000 in
theorem i_X9 (l : Launch) (D : va_G) (cA : FieldType → ClassId) (base : Nat) (es : List va_E) (n : Nat) (hn : es.length = n) (a1 : Nat) : Met l yX9_init (GC yX9_init cX9_init 2 none) ri_X9 (va_Pc [.ref (base + n), .ref a1] (wp D cA base (es ++ [.inr (9, [.null, .null, .null, .null])]))) (QP D cA base (es ++ [.inr (9, [.ref a1, .ref (base + (n + 1)), .ref (base + (n + 3)), .ref (base + (n + 4))]), .inr (0, [.ref (base + (n + 2)), .int 0, .int 0]), .inl (cA .byte, 1000, .inl (fun _ => 0)), .inl (cA .int, 300, .inl (fun _ => 0)), .inl (cA .int, 3, .inl (fun _ => 0))])) 4 1306 (aB base) := by
  refine Met.ofW (cc := cX9_init) (maxL := 2) (ret := none) (by decide) rfl ?_
  intro p e s m args below meth c s₁ B hml hv
  obtain ⟨hargs, hwd⟩ := hv
  have hr := B.returns
  have hlocks := B.notSynchronized
  have hin : meth.name = "<init>" := (name_of_methodNamed B.named B.method).1
  obtain ⟨C, hw⟩ := CX.ofP (own := RX9) rfl B hml hwd
  have hx := C.1
  have hb := C.2.1
  have hl := lv_entry ([.ref (base + n), .ref a1]) (n := 2) (Nat.le_of_ble_eq_true rfl)
  rw [show entryFrame m args 2 = entryFrame m ([.ref (base + n), .ref a1] : List Value).toArray 2 from by rw [hargs], lg_entry_eq]
  generalize (lg_sl ([.ref (base + n), .ref a1]) ++ List.replicate (2 - (lg_sl ([.ref (base + n), .ref a1])).length) Slot.unset).toArray = ls at hl ⊢
  have hl : lv_has ls 2 [(0, .ref (base + n)), (1, .ref a1)] := hl
  show W p l e ri_X9 s m args below meth c s.heap [] 0 0 _ _
  refine lv_aload_n hx hb dX9_init_0 rfl (lv_at hl 0 rfl) ?_
  refine p_obj C hl.1 gw1_129 dX9_init_1 (Nat.le_of_ble_eq_true rfl) (Nat.le_of_ble_eq_true rfl) ?_
  refine lv_aload_n hx hb dX9_init_4 rfl (lv_at hl 0 rfl) ?_
  refine lv_aload_n hx hb dX9_init_5 rfl (lv_at hl 1 rfl) ?_
  refine p_putF C hw hn 0 (k := 0) (ty0 := tyX9) rfl vc_9 inX9 tyX9_ok nmX9 (by decide) gw1_132 rfl hin rfl rfl rfl (Nat.le_of_ble_eq_true rfl) dX9_init_6 (fun H locs hw => ?_)
  have hw : WP D base s (es ++ [.inr (9, [.ref a1, .null, .null, .null])]) H locs := hw
  refine lv_aload_n hx hb dX9_init_9 rfl (lv_at hl 0 rfl) ?_
  refine p_new C hw hn (i := 1) rfl (fs := [.null, .int 0, .int 0]) vc_0 inX0 tyX0_ok gw1_130 gw1_34 gw1_2 (by decide +kernel) (Nat.le_of_ble_eq_true rfl) (Nat.le_of_ble_eq_true rfl) dX9_init_10 (fun H locs hw => ?_)
  have hw : WP D base s (es ++ [.inr (9, [.ref a1, .null, .null, .null]), .inr (0, [.null, .int 0, .int 0])]) H locs := hw
  refine lv_dup hx hb dX9_init_13 rfl ?_
  have hw : WP D base s ((es ++ [.inr (9, [.ref a1, .null, .null, .null])]) ++ [.inr (0, [.null, .int 0, .int 0])]) H locs := by rw [List.append_assoc]; exact hw
  refine p_call (rest := [.ref (base + (n + 1)), .ref (base + n)]) (k := 0) C hw (i_X0 l D cA base (es ++ [.inr (9, [.ref a1, .null, .null, .null])]) (n + 1) (by simp [hn]) ) gw1_37 gw1_2 gw1_131 gw1_36 rfl (by decide +kernel) ⟨rfl, rfl, Nat.le_of_ble_eq_true rfl, Nat.le_of_ble_eq_true rfl⟩ rfl hl.1 rfl (Nat.le_of_ble_eq_true rfl) dX9_init_14 (Nat.le_of_ble_eq_true rfl) (Nat.le_of_ble_eq_true rfl) (fun H locs hw => ?_)
  have hw : WP D base s (es ++ [.inr (9, [.ref a1, .null, .null, .null]), .inr (0, [.ref (base + (n + 2)), .int 0, .int 0]), .inl (cA .byte, 1000, .inl (fun _ => 0))]) H locs := by rw [List.append_assoc] at hw; exact hw
  refine p_putF C hw hn 0 (k := 1) (ty0 := tyX9) rfl vc_9 inX9 tyX9_ok nmX9 (by decide) gw1_133 rfl hin rfl rfl rfl (Nat.le_of_ble_eq_true rfl) dX9_init_17 (fun H locs hw => ?_)
  have hw : WP D base s (es ++ [.inr (9, [.ref a1, .ref (base + (n + 1)), .null, .null]), .inr (0, [.ref (base + (n + 2)), .int 0, .int 0]), .inl (cA .byte, 1000, .inl (fun _ => 0))]) H locs := hw
  refine lv_aload_n hx hb dX9_init_20 rfl (lv_at hl 0 rfl) ?_
  refine lv_sipush (v := (300 : Int32)) hx hb dX9_init_21 (by decide) ?_
  refine p_newa C hw hn (i := 3) rfl (atype := .int) (ty := .int) rfl gw1_69 (by simp) (fun _ h => h) (a0 := (300, .inl (fun _ => 0))) (fun _ => rfl) (by decide) (by decide) (by decide) (Nat.le_of_ble_eq_true rfl) (Nat.le_of_ble_eq_true rfl) dX9_init_24 (fun H locs hw => ?_)
  have hw : WP D base s (es ++ [.inr (9, [.ref a1, .ref (base + (n + 1)), .null, .null]), .inr (0, [.ref (base + (n + 2)), .int 0, .int 0]), .inl (cA .byte, 1000, .inl (fun _ => 0)), .inl (cA .int, 300, .inl (fun _ => 0))]) H locs := hw
  refine p_putF C hw hn 0 (k := 2) (ty0 := tyX9) rfl vc_9 inX9 tyX9_ok nmX9 (by decide) gw1_134 rfl hin rfl rfl rfl (Nat.le_of_ble_eq_true rfl) dX9_init_26 (fun H locs hw => ?_)
  have hw : WP D base s (es ++ [.inr (9, [.ref a1, .ref (base + (n + 1)), .ref (base + (n + 3)), .null]), .inr (0, [.ref (base + (n + 2)), .int 0, .int 0]), .inl (cA .byte, 1000, .inl (fun _ => 0)), .inl (cA .int, 300, .inl (fun _ => 0))]) H locs := hw
  refine lv_aload_n hx hb dX9_init_29 rfl (lv_at hl 0 rfl) ?_
  refine lv_iconst (v := (3 : Int32)) hx hb dX9_init_30 (by decide) ?_
  refine p_newa C hw hn (i := 4) rfl (atype := .int) (ty := .int) rfl gw1_69 (by simp) (fun _ h => h) (a0 := (3, .inl (fun _ => 0))) (fun _ => rfl) (by decide) (by decide) (by decide) (Nat.le_of_ble_eq_true rfl) (Nat.le_of_ble_eq_true rfl) dX9_init_31 (fun H locs hw => ?_)
  have hw : WP D base s (es ++ [.inr (9, [.ref a1, .ref (base + (n + 1)), .ref (base + (n + 3)), .null]), .inr (0, [.ref (base + (n + 2)), .int 0, .int 0]), .inl (cA .byte, 1000, .inl (fun _ => 0)), .inl (cA .int, 300, .inl (fun _ => 0)), .inl (cA .int, 3, .inl (fun _ => 0))]) H locs := hw
  refine p_putF C hw hn 0 (k := 3) (ty0 := tyX9) rfl vc_9 inX9 tyX9_ok nmX9 (by decide) gw1_135 rfl hin rfl rfl rfl (Nat.le_of_ble_eq_true rfl) dX9_init_33 (fun H locs hw => ?_)
  have hw : WP D base s (es ++ [.inr (9, [.ref a1, .ref (base + (n + 1)), .ref (base + (n + 3)), .ref (base + (n + 4))]), .inr (0, [.ref (base + (n + 2)), .int 0, .int 0]), .inl (cA .byte, 1000, .inl (fun _ => 0)), .inl (cA .int, 300, .inl (fun _ => 0)), .inl (cA .int, 3, .inl (fun _ => 0))]) H locs := hw
  refine W.widen (k := 4) (n := 1306) (Nat.le_of_ble_eq_true rfl) (Nat.le_of_ble_eq_true rfl) ?_
  exact p_vret C hw hr hlocks dX9_init_36
def ri_X7 : Room := { frames := 1, cells := 2, slots := 24, locals := 20 }
set_option maxHeartbeats 4000000 in
set_option maxRecDepth 100000 in
theorem i_X7 (l : Launch) (D : va_G) (cA : FieldType → ClassId) (base : Nat) (es : List va_E) (n : Nat) (hn : es.length = n) (a1 : Nat) (a2 : Nat) : Met l yX7_init (GC yX7_init cX7_init 3 none) ri_X7 (va_Pc [.ref (base + n), .ref a1, .ref a2] (wp D cA base (es ++ [.inr (7, [.null, .null, .null, .null, .int 0])]))) (QP D cA base (es ++ [.inr (7, [.ref a1, .ref a2, .ref (base + (n + 1)), .ref (base + (n + 2)), .int 0]), .inl (cA .int, 12, .inl (fun _ => 0)), .inl (cA .int, 12, .inl (fun _ => 0))])) 2 24 (aB base) := by
  refine Met.ofW (cc := cX7_init) (maxL := 3) (ret := none) (by decide) rfl ?_
  intro p e s m args below meth c s₁ B hml hv
  obtain ⟨hargs, hwd⟩ := hv
  have hr := B.returns
  have hlocks := B.notSynchronized
  have hin : meth.name = "<init>" := (name_of_methodNamed B.named B.method).1
  obtain ⟨C, hw⟩ := CX.ofP (own := RX7) rfl B hml hwd
  have hx := C.1
  have hb := C.2.1
  have hl := lv_entry ([.ref (base + n), .ref a1, .ref a2]) (n := 3) (Nat.le_of_ble_eq_true rfl)
  rw [show entryFrame m args 3 = entryFrame m ([.ref (base + n), .ref a1, .ref a2] : List Value).toArray 3 from by rw [hargs], lg_entry_eq]
  generalize (lg_sl ([.ref (base + n), .ref a1, .ref a2]) ++ List.replicate (3 - (lg_sl ([.ref (base + n), .ref a1, .ref a2])).length) Slot.unset).toArray = ls at hl ⊢
  have hl : lv_has ls 3 [(0, .ref (base + n)), (1, .ref a1), (2, .ref a2)] := hl
  show W p l e ri_X7 s m args below meth c s.heap [] 0 0 _ _
  refine lv_aload_n hx hb dX7_init_0 rfl (lv_at hl 0 rfl) ?_
  refine p_obj C hl.1 gw1_150 dX7_init_1 (Nat.le_of_ble_eq_true rfl) (Nat.le_of_ble_eq_true rfl) ?_
  refine lv_aload_n hx hb dX7_init_4 rfl (lv_at hl 0 rfl) ?_
  refine lv_aload_n hx hb dX7_init_5 rfl (lv_at hl 1 rfl) ?_
  refine p_putF C hw hn 0 (k := 0) (ty0 := tyX7) rfl vc_7 inX7 tyX7_ok nmX7 (by decide) gw1_151 rfl hin rfl rfl rfl (Nat.le_of_ble_eq_true rfl) dX7_init_6 (fun H locs hw => ?_)
  have hw : WP D base s (es ++ [.inr (7, [.ref a1, .null, .null, .null, .int 0])]) H locs := hw
  refine lv_aload_n hx hb dX7_init_9 rfl (lv_at hl 0 rfl) ?_
  refine lv_aload_n hx hb dX7_init_10 rfl (lv_at hl 2 rfl) ?_
  refine p_putF C hw hn 0 (k := 1) (ty0 := tyX7) rfl vc_7 inX7 tyX7_ok nmX7 (by decide) gw1_152 rfl hin rfl rfl rfl (Nat.le_of_ble_eq_true rfl) dX7_init_11 (fun H locs hw => ?_)
  have hw : WP D base s (es ++ [.inr (7, [.ref a1, .ref a2, .null, .null, .int 0])]) H locs := hw
  refine lv_aload_n hx hb dX7_init_14 rfl (lv_at hl 0 rfl) ?_
  refine lv_bipush (v := (12 : Int32)) hx hb dX7_init_15 (by decide) ?_
  refine p_newa C hw hn (i := 1) rfl (atype := .int) (ty := .int) rfl gw1_69 (by simp) (fun _ h => h) (a0 := (12, .inl (fun _ => 0))) (fun _ => rfl) (by decide) (by decide) (by decide) (Nat.le_of_ble_eq_true rfl) (Nat.le_of_ble_eq_true rfl) dX7_init_17 (fun H locs hw => ?_)
  have hw : WP D base s (es ++ [.inr (7, [.ref a1, .ref a2, .null, .null, .int 0]), .inl (cA .int, 12, .inl (fun _ => 0))]) H locs := hw
  refine p_putF C hw hn 0 (k := 2) (ty0 := tyX7) rfl vc_7 inX7 tyX7_ok nmX7 (by decide) gw1_153 rfl hin rfl rfl rfl (Nat.le_of_ble_eq_true rfl) dX7_init_19 (fun H locs hw => ?_)
  have hw : WP D base s (es ++ [.inr (7, [.ref a1, .ref a2, .ref (base + (n + 1)), .null, .int 0]), .inl (cA .int, 12, .inl (fun _ => 0))]) H locs := hw
  refine lv_aload_n hx hb dX7_init_22 rfl (lv_at hl 0 rfl) ?_
  refine lv_bipush (v := (12 : Int32)) hx hb dX7_init_23 (by decide) ?_
  refine p_newa C hw hn (i := 2) rfl (atype := .int) (ty := .int) rfl gw1_69 (by simp) (fun _ h => h) (a0 := (12, .inl (fun _ => 0))) (fun _ => rfl) (by decide) (by decide) (by decide) (Nat.le_of_ble_eq_true rfl) (Nat.le_of_ble_eq_true rfl) dX7_init_25 (fun H locs hw => ?_)
  have hw : WP D base s (es ++ [.inr (7, [.ref a1, .ref a2, .ref (base + (n + 1)), .null, .int 0]), .inl (cA .int, 12, .inl (fun _ => 0)), .inl (cA .int, 12, .inl (fun _ => 0))]) H locs := hw
  refine p_putF C hw hn 0 (k := 3) (ty0 := tyX7) rfl vc_7 inX7 tyX7_ok nmX7 (by decide) gw1_154 rfl hin rfl rfl rfl (Nat.le_of_ble_eq_true rfl) dX7_init_27 (fun H locs hw => ?_)
  have hw : WP D base s (es ++ [.inr (7, [.ref a1, .ref a2, .ref (base + (n + 1)), .ref (base + (n + 2)), .int 0]), .inl (cA .int, 12, .inl (fun _ => 0)), .inl (cA .int, 12, .inl (fun _ => 0))]) H locs := hw
  refine lv_aload_n hx hb dX7_init_30 rfl (lv_at hl 0 rfl) ?_
  refine lv_iconst (v := (0 : Int32)) hx hb dX7_init_31 (by decide) ?_
  refine p_put C hw hn 0 (k := 4) (ty0 := tyX7) rfl vc_7 inX7 tyX7_ok nmX7 (by decide) gw1_155 rfl rfl rfl rfl (Nat.le_of_ble_eq_true rfl) dX7_init_32 (fun H locs hw => ?_)
  have hw : WP D base s (es ++ [.inr (7, [.ref a1, .ref a2, .ref (base + (n + 1)), .ref (base + (n + 2)), .int 0]), .inl (cA .int, 12, .inl (fun _ => 0)), .inl (cA .int, 12, .inl (fun _ => 0))]) H locs := hw
  refine W.widen (k := 2) (n := 24) (Nat.le_of_ble_eq_true rfl) (Nat.le_of_ble_eq_true rfl) ?_
  exact p_vret C hw hr hlocks dX7_init_35
def ri_X4 : Room := { frames := 2, cells := 9, slots := 471, locals := 40 }
set_option maxHeartbeats 4000000 in
set_option maxRecDepth 100000 in
theorem i_X4 (l : Launch) (D : va_G) (cA : FieldType → ClassId) (base : Nat) (es : List va_E) (n : Nat) (hn : es.length = n) (a1 : Nat) : Met l yX4_init (GC yX4_init cX4_init 2 none) ri_X4 (va_Pc [.ref (base + n), .ref a1] (wp D cA base (es ++ [.inr (4, [.null, .null, .null, .int 0, .int 0, .int 0, .int 0, .int 0, .int 0, .int 0])]))) (QP D cA base (es ++ [.inr (4, [.ref a1, .ref (base + (n + 1)), .ref (base + (n + 4)), .int 0, .int 0, .int 0, .int 0, .int 0, .int 0, .int 0]), .inr (8, [.ref (base + (n + 2)), .ref (base + (n + 3)), .int 0]), .inl (cA .long, 6, .inr (.inl (fun _ => 0))), .inl (cA .int, 6, .inl (fun _ => 0)), .inr (5, [.ref (base + (n + 5)), .ref (base + (n + 6)), .ref (base + (n + 7)), .ref (base + (n + 8)), .ref (base + (n + 9)), .int 0]), .inl (cA .int, 90, .inl (fun _ => 0)), .inl (cA .int, 90, .inl (fun _ => 0)), .inl (cA .int, 90, .inl (fun _ => 0)), .inl (cA .int, 90, .inl (fun _ => 0)), .inl (cA .int, 90, .inl (fun _ => 0))])) 9 471 (aB base) := by
  refine Met.ofW (cc := cX4_init) (maxL := 2) (ret := none) (by decide) rfl ?_
  intro p e s m args below meth c s₁ B hml hv
  obtain ⟨hargs, hwd⟩ := hv
  have hr := B.returns
  have hlocks := B.notSynchronized
  have hin : meth.name = "<init>" := (name_of_methodNamed B.named B.method).1
  obtain ⟨C, hw⟩ := CX.ofP (own := RX4) rfl B hml hwd
  have hx := C.1
  have hb := C.2.1
  have hl := lv_entry ([.ref (base + n), .ref a1]) (n := 2) (Nat.le_of_ble_eq_true rfl)
  rw [show entryFrame m args 2 = entryFrame m ([.ref (base + n), .ref a1] : List Value).toArray 2 from by rw [hargs], lg_entry_eq]
  generalize (lg_sl ([.ref (base + n), .ref a1]) ++ List.replicate (2 - (lg_sl ([.ref (base + n), .ref a1])).length) Slot.unset).toArray = ls at hl ⊢
  have hl : lv_has ls 2 [(0, .ref (base + n)), (1, .ref a1)] := hl
  show W p l e ri_X4 s m args below meth c s.heap [] 0 0 _ _
  refine lv_aload_n hx hb dX4_init_0 rfl (lv_at hl 0 rfl) ?_
  refine p_obj C hl.1 gw1_172 dX4_init_1 (Nat.le_of_ble_eq_true rfl) (Nat.le_of_ble_eq_true rfl) ?_
  refine lv_aload_n hx hb dX4_init_4 rfl (lv_at hl 0 rfl) ?_
  refine lv_aload_n hx hb dX4_init_5 rfl (lv_at hl 1 rfl) ?_
  refine p_putF C hw hn 0 (k := 0) (ty0 := tyX4) rfl vc_4 inX4 tyX4_ok nmX4 (by decide) gw1_200 rfl hin rfl rfl rfl (Nat.le_of_ble_eq_true rfl) dX4_init_6 (fun H locs hw => ?_)
  have hw : WP D base s (es ++ [.inr (4, [.ref a1, .null, .null, .int 0, .int 0, .int 0, .int 0, .int 0, .int 0, .int 0])]) H locs := hw
  refine lv_aload_n hx hb dX4_init_9 rfl (lv_at hl 0 rfl) ?_
  refine p_new C hw hn (i := 1) rfl (fs := [.null, .null, .int 0]) vc_8 inX8 tyX8_ok gw1_173 gw1_72 gw1_4 (by decide +kernel) (Nat.le_of_ble_eq_true rfl) (Nat.le_of_ble_eq_true rfl) dX4_init_10 (fun H locs hw => ?_)
  have hw : WP D base s (es ++ [.inr (4, [.ref a1, .null, .null, .int 0, .int 0, .int 0, .int 0, .int 0, .int 0, .int 0]), .inr (8, [.null, .null, .int 0])]) H locs := hw
  refine lv_dup hx hb dX4_init_13 rfl ?_
  have hw : WP D base s ((es ++ [.inr (4, [.ref a1, .null, .null, .int 0, .int 0, .int 0, .int 0, .int 0, .int 0, .int 0])]) ++ [.inr (8, [.null, .null, .int 0])]) H locs := by rw [List.append_assoc]; exact hw
  refine p_call (rest := [.ref (base + (n + 1)), .ref (base + n)]) (k := 0) C hw (i_X8 l D cA base (es ++ [.inr (4, [.ref a1, .null, .null, .int 0, .int 0, .int 0, .int 0, .int 0, .int 0, .int 0])]) (n + 1) (by simp [hn]) ) gw1_75 gw1_4 gw1_174 gw1_74 rfl (by decide +kernel) ⟨rfl, rfl, Nat.le_of_ble_eq_true rfl, Nat.le_of_ble_eq_true rfl⟩ rfl hl.1 rfl (Nat.le_of_ble_eq_true rfl) dX4_init_14 (Nat.le_of_ble_eq_true rfl) (Nat.le_of_ble_eq_true rfl) (fun H locs hw => ?_)
  have hw : WP D base s (es ++ [.inr (4, [.ref a1, .null, .null, .int 0, .int 0, .int 0, .int 0, .int 0, .int 0, .int 0]), .inr (8, [.ref (base + (n + 2)), .ref (base + (n + 3)), .int 0]), .inl (cA .long, 6, .inr (.inl (fun _ => 0))), .inl (cA .int, 6, .inl (fun _ => 0))]) H locs := by rw [List.append_assoc] at hw; exact hw
  refine p_putF C hw hn 0 (k := 1) (ty0 := tyX4) rfl vc_4 inX4 tyX4_ok nmX4 (by decide) gw1_201 rfl hin rfl rfl rfl (Nat.le_of_ble_eq_true rfl) dX4_init_17 (fun H locs hw => ?_)
  have hw : WP D base s (es ++ [.inr (4, [.ref a1, .ref (base + (n + 1)), .null, .int 0, .int 0, .int 0, .int 0, .int 0, .int 0, .int 0]), .inr (8, [.ref (base + (n + 2)), .ref (base + (n + 3)), .int 0]), .inl (cA .long, 6, .inr (.inl (fun _ => 0))), .inl (cA .int, 6, .inl (fun _ => 0))]) H locs := hw
  refine lv_aload_n hx hb dX4_init_20 rfl (lv_at hl 0 rfl) ?_
  refine p_new C hw hn (i := 4) rfl (fs := [.null, .null, .null, .null, .null, .int 0]) vc_5 inX5 tyX5_ok gw1_175 gw1_176 gw1_9 (by decide +kernel) (Nat.le_of_ble_eq_true rfl) (Nat.le_of_ble_eq_true rfl) dX4_init_21 (fun H locs hw => ?_)
  have hw : WP D base s (es ++ [.inr (4, [.ref a1, .ref (base + (n + 1)), .null, .int 0, .int 0, .int 0, .int 0, .int 0, .int 0, .int 0]), .inr (8, [.ref (base + (n + 2)), .ref (base + (n + 3)), .int 0]), .inl (cA .long, 6, .inr (.inl (fun _ => 0))), .inl (cA .int, 6, .inl (fun _ => 0)), .inr (5, [.null, .null, .null, .null, .null, .int 0])]) H locs := hw
  refine lv_dup hx hb dX4_init_24 rfl ?_
  have hw : WP D base s ((es ++ [.inr (4, [.ref a1, .ref (base + (n + 1)), .null, .int 0, .int 0, .int 0, .int 0, .int 0, .int 0, .int 0]), .inr (8, [.ref (base + (n + 2)), .ref (base + (n + 3)), .int 0]), .inl (cA .long, 6, .inr (.inl (fun _ => 0))), .inl (cA .int, 6, .inl (fun _ => 0))]) ++ [.inr (5, [.null, .null, .null, .null, .null, .int 0])]) H locs := by rw [List.append_assoc]; exact hw
  refine p_call (rest := [.ref (base + (n + 4)), .ref (base + n)]) (k := 0) C hw (i_X5 l D cA base (es ++ [.inr (4, [.ref a1, .ref (base + (n + 1)), .null, .int 0, .int 0, .int 0, .int 0, .int 0, .int 0, .int 0]), .inr (8, [.ref (base + (n + 2)), .ref (base + (n + 3)), .int 0]), .inl (cA .long, 6, .inr (.inl (fun _ => 0))), .inl (cA .int, 6, .inl (fun _ => 0))]) (n + 4) (by simp [hn]) ) gw1_179 gw1_9 gw1_177 gw1_178 rfl (by decide +kernel) ⟨rfl, rfl, Nat.le_of_ble_eq_true rfl, Nat.le_of_ble_eq_true rfl⟩ rfl hl.1 rfl (Nat.le_of_ble_eq_true rfl) dX4_init_25 (Nat.le_of_ble_eq_true rfl) (Nat.le_of_ble_eq_true rfl) (fun H locs hw => ?_)
  have hw : WP D base s (es ++ [.inr (4, [.ref a1, .ref (base + (n + 1)), .null, .int 0, .int 0, .int 0, .int 0, .int 0, .int 0, .int 0]), .inr (8, [.ref (base + (n + 2)), .ref (base + (n + 3)), .int 0]), .inl (cA .long, 6, .inr (.inl (fun _ => 0))), .inl (cA .int, 6, .inl (fun _ => 0)), .inr (5, [.ref (base + (n + 5)), .ref (base + (n + 6)), .ref (base + (n + 7)), .ref (base + (n + 8)), .ref (base + (n + 9)), .int 0]), .inl (cA .int, 90, .inl (fun _ => 0)), .inl (cA .int, 90, .inl (fun _ => 0)), .inl (cA .int, 90, .inl (fun _ => 0)), .inl (cA .int, 90, .inl (fun _ => 0)), .inl (cA .int, 90, .inl (fun _ => 0))]) H locs := by rw [List.append_assoc] at hw; exact hw
  refine p_putF C hw hn 0 (k := 2) (ty0 := tyX4) rfl vc_4 inX4 tyX4_ok nmX4 (by decide) gw1_202 rfl hin rfl rfl rfl (Nat.le_of_ble_eq_true rfl) dX4_init_28 (fun H locs hw => ?_)
  have hw : WP D base s (es ++ [.inr (4, [.ref a1, .ref (base + (n + 1)), .ref (base + (n + 4)), .int 0, .int 0, .int 0, .int 0, .int 0, .int 0, .int 0]), .inr (8, [.ref (base + (n + 2)), .ref (base + (n + 3)), .int 0]), .inl (cA .long, 6, .inr (.inl (fun _ => 0))), .inl (cA .int, 6, .inl (fun _ => 0)), .inr (5, [.ref (base + (n + 5)), .ref (base + (n + 6)), .ref (base + (n + 7)), .ref (base + (n + 8)), .ref (base + (n + 9)), .int 0]), .inl (cA .int, 90, .inl (fun _ => 0)), .inl (cA .int, 90, .inl (fun _ => 0)), .inl (cA .int, 90, .inl (fun _ => 0)), .inl (cA .int, 90, .inl (fun _ => 0)), .inl (cA .int, 90, .inl (fun _ => 0))]) H locs := hw
  refine W.widen (k := 9) (n := 471) (Nat.le_of_ble_eq_true rfl) (Nat.le_of_ble_eq_true rfl) ?_
  exact p_vret C hw hr hlocks dX4_init_31
def ri_X6 : Room := { frames := 2, cells := 13, slots := 1428, locals := 40 }
set_option maxHeartbeats 4000000 in
set_option maxRecDepth 100000 in
theorem i_X6 (l : Launch) (D : va_G) (cA : FieldType → ClassId) (base : Nat) (es : List va_E) (n : Nat) (hn : es.length = n) (a1 : Nat) (a2 : Nat) : Met l yX6_init (GC yX6_init cX6_init 3 none) ri_X6 (va_Pc [.ref (base + n), .ref a1, .ref a2] (wp D cA base (es ++ [.inr (6, [.null, .null, .null, .null, .int 0, .int 0, .int 0, .int 0, .int 0, .int 0, .null, .int 0, .null, .null])]))) (QP D cA base (es ++ [.inr (6, [.ref a1, .ref a2, .ref (base + (n + 1)), .ref (base + (n + 10)), .int 0, .int 5, .int 0, .int 0, .int 0, .int 0, .ref (base + (n + 11)), .int 0, .ref (base + (n + 12)), .ref (base + (n + 13))]), .inr (2, [.ref (base + (n + 2)), .ref (base + (n + 3)), .ref (base + (n + 4)), .ref (base + (n + 5)), .ref (base + (n + 6)), .ref (base + (n + 7)), .ref (base + (n + 8)), .ref (base + (n + 9)), .int 0, .int 0]), .inl (cA .int, 4, .inl (fun _ => 0)), .inl (cA .int, 4, .inl (fun _ => 0)), .inl (cA .int, 4, .inl (fun _ => 0)), .inl (cA .int, 4, .inl (fun _ => 0)), .inl (cA .int, 160, .inl (fun _ => 0)), .inl (cA .int, 4, .inl (fun _ => 0)), .inl (cA .int, 1200, .inl (fun _ => 0)), .inl (cA .int, 4, .inl (fun _ => 0)), .inl (cA .int, 4, .inl (fun _ => 0)), .inl (cA .int, 10, .inl (fun _ => 0)), .inl (cA .int, 10, .inl (fun _ => 0)), .inl (cA .int, 10, .inl (fun _ => 0))])) 13 1428 (aB base) := by
  refine Met.ofW (cc := cX6_init) (maxL := 3) (ret := none) (by decide) rfl ?_
  intro p e s m args below meth c s₁ B hml hv
  obtain ⟨hargs, hwd⟩ := hv
  have hr := B.returns
  have hlocks := B.notSynchronized
  have hin : meth.name = "<init>" := (name_of_methodNamed B.named B.method).1
  obtain ⟨C, hw⟩ := CX.ofP (own := RX6) rfl B hml hwd
  have hx := C.1
  have hb := C.2.1
  have hl := lv_entry ([.ref (base + n), .ref a1, .ref a2]) (n := 3) (Nat.le_of_ble_eq_true rfl)
  rw [show entryFrame m args 3 = entryFrame m ([.ref (base + n), .ref a1, .ref a2] : List Value).toArray 3 from by rw [hargs], lg_entry_eq]
  generalize (lg_sl ([.ref (base + n), .ref a1, .ref a2]) ++ List.replicate (3 - (lg_sl ([.ref (base + n), .ref a1, .ref a2])).length) Slot.unset).toArray = ls at hl ⊢
  have hl : lv_has ls 3 [(0, .ref (base + n)), (1, .ref a1), (2, .ref a2)] := hl
  show W p l e ri_X6 s m args below meth c s.heap [] 0 0 _ _
  refine lv_aload_n hx hb dX6_init_0 rfl (lv_at hl 0 rfl) ?_
  refine p_obj C hl.1 gw2_32 dX6_init_1 (Nat.le_of_ble_eq_true rfl) (Nat.le_of_ble_eq_true rfl) ?_
  refine lv_aload_n hx hb dX6_init_4 rfl (lv_at hl 0 rfl) ?_
  refine lv_aload_n hx hb dX6_init_5 rfl (lv_at hl 1 rfl) ?_
  refine p_putF C hw hn 0 (k := 0) (ty0 := tyX6) rfl vc_6 inX6 tyX6_ok nmX6 (by decide) gw2_70 rfl hin rfl rfl rfl (Nat.le_of_ble_eq_true rfl) dX6_init_6 (fun H locs hw => ?_)
  have hw : WP D base s (es ++ [.inr (6, [.ref a1, .null, .null, .null, .int 0, .int 0, .int 0, .int 0, .int 0, .int 0, .null, .int 0, .null, .null])]) H locs := hw
  refine lv_aload_n hx hb dX6_init_9 rfl (lv_at hl 0 rfl) ?_
  refine lv_aload_n hx hb dX6_init_10 rfl (lv_at hl 2 rfl) ?_
  refine p_putF C hw hn 0 (k := 1) (ty0 := tyX6) rfl vc_6 inX6 tyX6_ok nmX6 (by decide) gw2_71 rfl hin rfl rfl rfl (Nat.le_of_ble_eq_true rfl) dX6_init_11 (fun H locs hw => ?_)
  have hw : WP D base s (es ++ [.inr (6, [.ref a1, .ref a2, .null, .null, .int 0, .int 0, .int 0, .int 0, .int 0, .int 0, .null, .int 0, .null, .null])]) H locs := hw
  refine lv_aload_n hx hb dX6_init_14 rfl (lv_at hl 0 rfl) ?_
  refine p_new C hw hn (i := 1) rfl (fs := [.null, .null, .null, .null, .null, .null, .null, .null, .int 0, .int 0]) vc_2 inX2 tyX2_ok gw2_33 gw2_34 gw1_12 (by decide +kernel) (Nat.le_of_ble_eq_true rfl) (Nat.le_of_ble_eq_true rfl) dX6_init_15 (fun H locs hw => ?_)
  have hw : WP D base s (es ++ [.inr (6, [.ref a1, .ref a2, .null, .null, .int 0, .int 0, .int 0, .int 0, .int 0, .int 0, .null, .int 0, .null, .null]), .inr (2, [.null, .null, .null, .null, .null, .null, .null, .null, .int 0, .int 0])]) H locs := hw
  refine lv_dup hx hb dX6_init_18 rfl ?_
  have hw : WP D base s ((es ++ [.inr (6, [.ref a1, .ref a2, .null, .null, .int 0, .int 0, .int 0, .int 0, .int 0, .int 0, .null, .int 0, .null, .null])]) ++ [.inr (2, [.null, .null, .null, .null, .null, .null, .null, .null, .int 0, .int 0])]) H locs := by rw [List.append_assoc]; exact hw
  refine p_call (rest := [.ref (base + (n + 1)), .ref (base + n)]) (k := 0) C hw (i_X2 l D cA base (es ++ [.inr (6, [.ref a1, .ref a2, .null, .null, .int 0, .int 0, .int 0, .int 0, .int 0, .int 0, .null, .int 0, .null, .null])]) (n + 1) (by simp [hn]) ) gw2_37 gw1_12 gw2_35 gw2_36 rfl (by decide +kernel) ⟨rfl, rfl, Nat.le_of_ble_eq_true rfl, Nat.le_of_ble_eq_true rfl⟩ rfl hl.1 rfl (Nat.le_of_ble_eq_true rfl) dX6_init_19 (Nat.le_of_ble_eq_true rfl) (Nat.le_of_ble_eq_true rfl) (fun H locs hw => ?_)
  have hw : WP D base s (es ++ [.inr (6, [.ref a1, .ref a2, .null, .null, .int 0, .int 0, .int 0, .int 0, .int 0, .int 0, .null, .int 0, .null, .null]), .inr (2, [.ref (base + (n + 2)), .ref (base + (n + 3)), .ref (base + (n + 4)), .ref (base + (n + 5)), .ref (base + (n + 6)), .ref (base + (n + 7)), .ref (base + (n + 8)), .ref (base + (n + 9)), .int 0, .int 0]), .inl (cA .int, 4, .inl (fun _ => 0)), .inl (cA .int, 4, .inl (fun _ => 0)), .inl (cA .int, 4, .inl (fun _ => 0)), .inl (cA .int, 4, .inl (fun _ => 0)), .inl (cA .int, 160, .inl (fun _ => 0)), .inl (cA .int, 4, .inl (fun _ => 0)), .inl (cA .int, 1200, .inl (fun _ => 0)), .inl (cA .int, 4, .inl (fun _ => 0))]) H locs := by rw [List.append_assoc] at hw; exact hw
  refine p_putF C hw hn 0 (k := 2) (ty0 := tyX6) rfl vc_6 inX6 tyX6_ok nmX6 (by decide) gw2_72 rfl hin rfl rfl rfl (Nat.le_of_ble_eq_true rfl) dX6_init_22 (fun H locs hw => ?_)
  have hw : WP D base s (es ++ [.inr (6, [.ref a1, .ref a2, .ref (base + (n + 1)), .null, .int 0, .int 0, .int 0, .int 0, .int 0, .int 0, .null, .int 0, .null, .null]), .inr (2, [.ref (base + (n + 2)), .ref (base + (n + 3)), .ref (base + (n + 4)), .ref (base + (n + 5)), .ref (base + (n + 6)), .ref (base + (n + 7)), .ref (base + (n + 8)), .ref (base + (n + 9)), .int 0, .int 0]), .inl (cA .int, 4, .inl (fun _ => 0)), .inl (cA .int, 4, .inl (fun _ => 0)), .inl (cA .int, 4, .inl (fun _ => 0)), .inl (cA .int, 4, .inl (fun _ => 0)), .inl (cA .int, 160, .inl (fun _ => 0)), .inl (cA .int, 4, .inl (fun _ => 0)), .inl (cA .int, 1200, .inl (fun _ => 0)), .inl (cA .int, 4, .inl (fun _ => 0))]) H locs := hw
  refine lv_aload_n hx hb dX6_init_25 rfl (lv_at hl 0 rfl) ?_
  refine lv_iconst (v := (4 : Int32)) hx hb dX6_init_26 (by decide) ?_
  refine p_newa C hw hn (i := 10) rfl (atype := .int) (ty := .int) rfl gw1_69 (by simp) (fun _ h => h) (a0 := (4, .inl (fun _ => 0))) (fun _ => rfl) (by decide) (by decide) (by decide) (Nat.le_of_ble_eq_true rfl) (Nat.le_of_ble_eq_true rfl) dX6_init_27 (fun H locs hw => ?_)
  have hw : WP D base s (es ++ [.inr (6, [.ref a1, .ref a2, .ref (base + (n + 1)), .null, .int 0, .int 0, .int 0, .int 0, .int 0, .int 0, .null, .int 0, .null, .null]), .inr (2, [.ref (base + (n + 2)), .ref (base + (n + 3)), .ref (base + (n + 4)), .ref (base + (n + 5)), .ref (base + (n + 6)), .ref (base + (n + 7)), .ref (base + (n + 8)), .ref (base + (n + 9)), .int 0, .int 0]), .inl (cA .int, 4, .inl (fun _ => 0)), .inl (cA .int, 4, .inl (fun _ => 0)), .inl (cA .int, 4, .inl (fun _ => 0)), .inl (cA .int, 4, .inl (fun _ => 0)), .inl (cA .int, 160, .inl (fun _ => 0)), .inl (cA .int, 4, .inl (fun _ => 0)), .inl (cA .int, 1200, .inl (fun _ => 0)), .inl (cA .int, 4, .inl (fun _ => 0)), .inl (cA .int, 4, .inl (fun _ => 0))]) H locs := hw
  refine p_putF C hw hn 0 (k := 3) (ty0 := tyX6) rfl vc_6 inX6 tyX6_ok nmX6 (by decide) gw2_73 rfl hin rfl rfl rfl (Nat.le_of_ble_eq_true rfl) dX6_init_29 (fun H locs hw => ?_)
  have hw : WP D base s (es ++ [.inr (6, [.ref a1, .ref a2, .ref (base + (n + 1)), .ref (base + (n + 10)), .int 0, .int 0, .int 0, .int 0, .int 0, .int 0, .null, .int 0, .null, .null]), .inr (2, [.ref (base + (n + 2)), .ref (base + (n + 3)), .ref (base + (n + 4)), .ref (base + (n + 5)), .ref (base + (n + 6)), .ref (base + (n + 7)), .ref (base + (n + 8)), .ref (base + (n + 9)), .int 0, .int 0]), .inl (cA .int, 4, .inl (fun _ => 0)), .inl (cA .int, 4, .inl (fun _ => 0)), .inl (cA .int, 4, .inl (fun _ => 0)), .inl (cA .int, 4, .inl (fun _ => 0)), .inl (cA .int, 160, .inl (fun _ => 0)), .inl (cA .int, 4, .inl (fun _ => 0)), .inl (cA .int, 1200, .inl (fun _ => 0)), .inl (cA .int, 4, .inl (fun _ => 0)), .inl (cA .int, 4, .inl (fun _ => 0))]) H locs := hw
  refine lv_aload_n hx hb dX6_init_32 rfl (lv_at hl 0 rfl) ?_
  refine lv_iconst (v := (0 : Int32)) hx hb dX6_init_33 (by decide) ?_
  refine p_put C hw hn 0 (k := 4) (ty0 := tyX6) rfl vc_6 inX6 tyX6_ok nmX6 (by decide) gw2_74 rfl rfl rfl rfl (Nat.le_of_ble_eq_true rfl) dX6_init_34 (fun H locs hw => ?_)
  have hw : WP D base s (es ++ [.inr (6, [.ref a1, .ref a2, .ref (base + (n + 1)), .ref (base + (n + 10)), .int 0, .int 0, .int 0, .int 0, .int 0, .int 0, .null, .int 0, .null, .null]), .inr (2, [.ref (base + (n + 2)), .ref (base + (n + 3)), .ref (base + (n + 4)), .ref (base + (n + 5)), .ref (base + (n + 6)), .ref (base + (n + 7)), .ref (base + (n + 8)), .ref (base + (n + 9)), .int 0, .int 0]), .inl (cA .int, 4, .inl (fun _ => 0)), .inl (cA .int, 4, .inl (fun _ => 0)), .inl (cA .int, 4, .inl (fun _ => 0)), .inl (cA .int, 4, .inl (fun _ => 0)), .inl (cA .int, 160, .inl (fun _ => 0)), .inl (cA .int, 4, .inl (fun _ => 0)), .inl (cA .int, 1200, .inl (fun _ => 0)), .inl (cA .int, 4, .inl (fun _ => 0)), .inl (cA .int, 4, .inl (fun _ => 0))]) H locs := hw
  refine lv_aload_n hx hb dX6_init_37 rfl (lv_at hl 0 rfl) ?_
  refine lv_iconst (v := (5 : Int32)) hx hb dX6_init_38 (by decide) ?_
  refine p_put C hw hn 0 (k := 5) (ty0 := tyX6) rfl vc_6 inX6 tyX6_ok nmX6 (by decide) gw2_75 rfl rfl rfl rfl (Nat.le_of_ble_eq_true rfl) dX6_init_39 (fun H locs hw => ?_)
  have hw : WP D base s (es ++ [.inr (6, [.ref a1, .ref a2, .ref (base + (n + 1)), .ref (base + (n + 10)), .int 0, .int 5, .int 0, .int 0, .int 0, .int 0, .null, .int 0, .null, .null]), .inr (2, [.ref (base + (n + 2)), .ref (base + (n + 3)), .ref (base + (n + 4)), .ref (base + (n + 5)), .ref (base + (n + 6)), .ref (base + (n + 7)), .ref (base + (n + 8)), .ref (base + (n + 9)), .int 0, .int 0]), .inl (cA .int, 4, .inl (fun _ => 0)), .inl (cA .int, 4, .inl (fun _ => 0)), .inl (cA .int, 4, .inl (fun _ => 0)), .inl (cA .int, 4, .inl (fun _ => 0)), .inl (cA .int, 160, .inl (fun _ => 0)), .inl (cA .int, 4, .inl (fun _ => 0)), .inl (cA .int, 1200, .inl (fun _ => 0)), .inl (cA .int, 4, .inl (fun _ => 0)), .inl (cA .int, 4, .inl (fun _ => 0))]) H locs := hw
  refine lv_aload_n hx hb dX6_init_42 rfl (lv_at hl 0 rfl) ?_
  refine lv_iconst (v := (0 : Int32)) hx hb dX6_init_43 (by decide) ?_
  refine p_put C hw hn 0 (k := 6) (ty0 := tyX6) rfl vc_6 inX6 tyX6_ok nmX6 (by decide) gw2_76 rfl rfl rfl rfl (Nat.le_of_ble_eq_true rfl) dX6_init_44 (fun H locs hw => ?_)
  have hw : WP D base s (es ++ [.inr (6, [.ref a1, .ref a2, .ref (base + (n + 1)), .ref (base + (n + 10)), .int 0, .int 5, .int 0, .int 0, .int 0, .int 0, .null, .int 0, .null, .null]), .inr (2, [.ref (base + (n + 2)), .ref (base + (n + 3)), .ref (base + (n + 4)), .ref (base + (n + 5)), .ref (base + (n + 6)), .ref (base + (n + 7)), .ref (base + (n + 8)), .ref (base + (n + 9)), .int 0, .int 0]), .inl (cA .int, 4, .inl (fun _ => 0)), .inl (cA .int, 4, .inl (fun _ => 0)), .inl (cA .int, 4, .inl (fun _ => 0)), .inl (cA .int, 4, .inl (fun _ => 0)), .inl (cA .int, 160, .inl (fun _ => 0)), .inl (cA .int, 4, .inl (fun _ => 0)), .inl (cA .int, 1200, .inl (fun _ => 0)), .inl (cA .int, 4, .inl (fun _ => 0)), .inl (cA .int, 4, .inl (fun _ => 0))]) H locs := hw
  refine lv_aload_n hx hb dX6_init_47 rfl (lv_at hl 0 rfl) ?_
  refine lv_iconst (v := (0 : Int32)) hx hb dX6_init_48 (by decide) ?_
  refine p_put C hw hn 0 (k := 7) (ty0 := tyX6) rfl vc_6 inX6 tyX6_ok nmX6 (by decide) gw2_77 rfl rfl rfl rfl (Nat.le_of_ble_eq_true rfl) dX6_init_49 (fun H locs hw => ?_)
  have hw : WP D base s (es ++ [.inr (6, [.ref a1, .ref a2, .ref (base + (n + 1)), .ref (base + (n + 10)), .int 0, .int 5, .int 0, .int 0, .int 0, .int 0, .null, .int 0, .null, .null]), .inr (2, [.ref (base + (n + 2)), .ref (base + (n + 3)), .ref (base + (n + 4)), .ref (base + (n + 5)), .ref (base + (n + 6)), .ref (base + (n + 7)), .ref (base + (n + 8)), .ref (base + (n + 9)), .int 0, .int 0]), .inl (cA .int, 4, .inl (fun _ => 0)), .inl (cA .int, 4, .inl (fun _ => 0)), .inl (cA .int, 4, .inl (fun _ => 0)), .inl (cA .int, 4, .inl (fun _ => 0)), .inl (cA .int, 160, .inl (fun _ => 0)), .inl (cA .int, 4, .inl (fun _ => 0)), .inl (cA .int, 1200, .inl (fun _ => 0)), .inl (cA .int, 4, .inl (fun _ => 0)), .inl (cA .int, 4, .inl (fun _ => 0))]) H locs := hw
  refine lv_aload_n hx hb dX6_init_52 rfl (lv_at hl 0 rfl) ?_
  refine lv_iconst (v := (0 : Int32)) hx hb dX6_init_53 (by decide) ?_
  refine p_put C hw hn 0 (k := 8) (ty0 := tyX6) rfl vc_6 inX6 tyX6_ok nmX6 (by decide) gw2_78 rfl rfl rfl rfl (Nat.le_of_ble_eq_true rfl) dX6_init_54 (fun H locs hw => ?_)
  have hw : WP D base s (es ++ [.inr (6, [.ref a1, .ref a2, .ref (base + (n + 1)), .ref (base + (n + 10)), .int 0, .int 5, .int 0, .int 0, .int 0, .int 0, .null, .int 0, .null, .null]), .inr (2, [.ref (base + (n + 2)), .ref (base + (n + 3)), .ref (base + (n + 4)), .ref (base + (n + 5)), .ref (base + (n + 6)), .ref (base + (n + 7)), .ref (base + (n + 8)), .ref (base + (n + 9)), .int 0, .int 0]), .inl (cA .int, 4, .inl (fun _ => 0)), .inl (cA .int, 4, .inl (fun _ => 0)), .inl (cA .int, 4, .inl (fun _ => 0)), .inl (cA .int, 4, .inl (fun _ => 0)), .inl (cA .int, 160, .inl (fun _ => 0)), .inl (cA .int, 4, .inl (fun _ => 0)), .inl (cA .int, 1200, .inl (fun _ => 0)), .inl (cA .int, 4, .inl (fun _ => 0)), .inl (cA .int, 4, .inl (fun _ => 0))]) H locs := hw
  refine lv_aload_n hx hb dX6_init_57 rfl (lv_at hl 0 rfl) ?_
  refine lv_iconst (v := (0 : Int32)) hx hb dX6_init_58 (by decide) ?_
  refine p_put C hw hn 0 (k := 9) (ty0 := tyX6) rfl vc_6 inX6 tyX6_ok nmX6 (by decide) gw2_79 rfl rfl rfl rfl (Nat.le_of_ble_eq_true rfl) dX6_init_59 (fun H locs hw => ?_)
  have hw : WP D base s (es ++ [.inr (6, [.ref a1, .ref a2, .ref (base + (n + 1)), .ref (base + (n + 10)), .int 0, .int 5, .int 0, .int 0, .int 0, .int 0, .null, .int 0, .null, .null]), .inr (2, [.ref (base + (n + 2)), .ref (base + (n + 3)), .ref (base + (n + 4)), .ref (base + (n + 5)), .ref (base + (n + 6)), .ref (base + (n + 7)), .ref (base + (n + 8)), .ref (base + (n + 9)), .int 0, .int 0]), .inl (cA .int, 4, .inl (fun _ => 0)), .inl (cA .int, 4, .inl (fun _ => 0)), .inl (cA .int, 4, .inl (fun _ => 0)), .inl (cA .int, 4, .inl (fun _ => 0)), .inl (cA .int, 160, .inl (fun _ => 0)), .inl (cA .int, 4, .inl (fun _ => 0)), .inl (cA .int, 1200, .inl (fun _ => 0)), .inl (cA .int, 4, .inl (fun _ => 0)), .inl (cA .int, 4, .inl (fun _ => 0))]) H locs := hw
  refine lv_aload_n hx hb dX6_init_62 rfl (lv_at hl 0 rfl) ?_
  refine lv_bipush (v := (10 : Int32)) hx hb dX6_init_63 (by decide) ?_
  refine p_newa C hw hn (i := 11) rfl (atype := .int) (ty := .int) rfl gw1_69 (by simp) (fun _ h => h) (a0 := (10, .inl (fun _ => 0))) (fun _ => rfl) (by decide) (by decide) (by decide) (Nat.le_of_ble_eq_true rfl) (Nat.le_of_ble_eq_true rfl) dX6_init_65 (fun H locs hw => ?_)
  have hw : WP D base s (es ++ [.inr (6, [.ref a1, .ref a2, .ref (base + (n + 1)), .ref (base + (n + 10)), .int 0, .int 5, .int 0, .int 0, .int 0, .int 0, .null, .int 0, .null, .null]), .inr (2, [.ref (base + (n + 2)), .ref (base + (n + 3)), .ref (base + (n + 4)), .ref (base + (n + 5)), .ref (base + (n + 6)), .ref (base + (n + 7)), .ref (base + (n + 8)), .ref (base + (n + 9)), .int 0, .int 0]), .inl (cA .int, 4, .inl (fun _ => 0)), .inl (cA .int, 4, .inl (fun _ => 0)), .inl (cA .int, 4, .inl (fun _ => 0)), .inl (cA .int, 4, .inl (fun _ => 0)), .inl (cA .int, 160, .inl (fun _ => 0)), .inl (cA .int, 4, .inl (fun _ => 0)), .inl (cA .int, 1200, .inl (fun _ => 0)), .inl (cA .int, 4, .inl (fun _ => 0)), .inl (cA .int, 4, .inl (fun _ => 0)), .inl (cA .int, 10, .inl (fun _ => 0))]) H locs := hw
  refine p_putF C hw hn 0 (k := 10) (ty0 := tyX6) rfl vc_6 inX6 tyX6_ok nmX6 (by decide) gw2_80 rfl hin rfl rfl rfl (Nat.le_of_ble_eq_true rfl) dX6_init_67 (fun H locs hw => ?_)
  have hw : WP D base s (es ++ [.inr (6, [.ref a1, .ref a2, .ref (base + (n + 1)), .ref (base + (n + 10)), .int 0, .int 5, .int 0, .int 0, .int 0, .int 0, .ref (base + (n + 11)), .int 0, .null, .null]), .inr (2, [.ref (base + (n + 2)), .ref (base + (n + 3)), .ref (base + (n + 4)), .ref (base + (n + 5)), .ref (base + (n + 6)), .ref (base + (n + 7)), .ref (base + (n + 8)), .ref (base + (n + 9)), .int 0, .int 0]), .inl (cA .int, 4, .inl (fun _ => 0)), .inl (cA .int, 4, .inl (fun _ => 0)), .inl (cA .int, 4, .inl (fun _ => 0)), .inl (cA .int, 4, .inl (fun _ => 0)), .inl (cA .int, 160, .inl (fun _ => 0)), .inl (cA .int, 4, .inl (fun _ => 0)), .inl (cA .int, 1200, .inl (fun _ => 0)), .inl (cA .int, 4, .inl (fun _ => 0)), .inl (cA .int, 4, .inl (fun _ => 0)), .inl (cA .int, 10, .inl (fun _ => 0))]) H locs := hw
  refine lv_aload_n hx hb dX6_init_70 rfl (lv_at hl 0 rfl) ?_
  refine lv_iconst (v := (0 : Int32)) hx hb dX6_init_71 (by decide) ?_
  refine p_put C hw hn 0 (k := 11) (ty0 := tyX6) rfl vc_6 inX6 tyX6_ok nmX6 (by decide) gw2_81 rfl rfl rfl rfl (Nat.le_of_ble_eq_true rfl) dX6_init_72 (fun H locs hw => ?_)
  have hw : WP D base s (es ++ [.inr (6, [.ref a1, .ref a2, .ref (base + (n + 1)), .ref (base + (n + 10)), .int 0, .int 5, .int 0, .int 0, .int 0, .int 0, .ref (base + (n + 11)), .int 0, .null, .null]), .inr (2, [.ref (base + (n + 2)), .ref (base + (n + 3)), .ref (base + (n + 4)), .ref (base + (n + 5)), .ref (base + (n + 6)), .ref (base + (n + 7)), .ref (base + (n + 8)), .ref (base + (n + 9)), .int 0, .int 0]), .inl (cA .int, 4, .inl (fun _ => 0)), .inl (cA .int, 4, .inl (fun _ => 0)), .inl (cA .int, 4, .inl (fun _ => 0)), .inl (cA .int, 4, .inl (fun _ => 0)), .inl (cA .int, 160, .inl (fun _ => 0)), .inl (cA .int, 4, .inl (fun _ => 0)), .inl (cA .int, 1200, .inl (fun _ => 0)), .inl (cA .int, 4, .inl (fun _ => 0)), .inl (cA .int, 4, .inl (fun _ => 0)), .inl (cA .int, 10, .inl (fun _ => 0))]) H locs := hw
  refine lv_aload_n hx hb dX6_init_75 rfl (lv_at hl 0 rfl) ?_
  refine lv_bipush (v := (10 : Int32)) hx hb dX6_init_76 (by decide) ?_
  refine p_newa C hw hn (i := 12) rfl (atype := .int) (ty := .int) rfl gw1_69 (by simp) (fun _ h => h) (a0 := (10, .inl (fun _ => 0))) (fun _ => rfl) (by decide) (by decide) (by decide) (Nat.le_of_ble_eq_true rfl) (Nat.le_of_ble_eq_true rfl) dX6_init_78 (fun H locs hw => ?_)
  have hw : WP D base s (es ++ [.inr (6, [.ref a1, .ref a2, .ref (base + (n + 1)), .ref (base + (n + 10)), .int 0, .int 5, .int 0, .int 0, .int 0, .int 0, .ref (base + (n + 11)), .int 0, .null, .null]), .inr (2, [.ref (base + (n + 2)), .ref (base + (n + 3)), .ref (base + (n + 4)), .ref (base + (n + 5)), .ref (base + (n + 6)), .ref (base + (n + 7)), .ref (base + (n + 8)), .ref (base + (n + 9)), .int 0, .int 0]), .inl (cA .int, 4, .inl (fun _ => 0)), .inl (cA .int, 4, .inl (fun _ => 0)), .inl (cA .int, 4, .inl (fun _ => 0)), .inl (cA .int, 4, .inl (fun _ => 0)), .inl (cA .int, 160, .inl (fun _ => 0)), .inl (cA .int, 4, .inl (fun _ => 0)), .inl (cA .int, 1200, .inl (fun _ => 0)), .inl (cA .int, 4, .inl (fun _ => 0)), .inl (cA .int, 4, .inl (fun _ => 0)), .inl (cA .int, 10, .inl (fun _ => 0)), .inl (cA .int, 10, .inl (fun _ => 0))]) H locs := hw
  refine p_putF C hw hn 0 (k := 12) (ty0 := tyX6) rfl vc_6 inX6 tyX6_ok nmX6 (by decide) gw2_82 rfl hin rfl rfl rfl (Nat.le_of_ble_eq_true rfl) dX6_init_80 (fun H locs hw => ?_)
  have hw : WP D base s (es ++ [.inr (6, [.ref a1, .ref a2, .ref (base + (n + 1)), .ref (base + (n + 10)), .int 0, .int 5, .int 0, .int 0, .int 0, .int 0, .ref (base + (n + 11)), .int 0, .ref (base + (n + 12)), .null]), .inr (2, [.ref (base + (n + 2)), .ref (base + (n + 3)), .ref (base + (n + 4)), .ref (base + (n + 5)), .ref (base + (n + 6)), .ref (base + (n + 7)), .ref (base + (n + 8)), .ref (base + (n + 9)), .int 0, .int 0]), .inl (cA .int, 4, .inl (fun _ => 0)), .inl (cA .int, 4, .inl (fun _ => 0)), .inl (cA .int, 4, .inl (fun _ => 0)), .inl (cA .int, 4, .inl (fun _ => 0)), .inl (cA .int, 160, .inl (fun _ => 0)), .inl (cA .int, 4, .inl (fun _ => 0)), .inl (cA .int, 1200, .inl (fun _ => 0)), .inl (cA .int, 4, .inl (fun _ => 0)), .inl (cA .int, 4, .inl (fun _ => 0)), .inl (cA .int, 10, .inl (fun _ => 0)), .inl (cA .int, 10, .inl (fun _ => 0))]) H locs := hw
  refine lv_aload_n hx hb dX6_init_83 rfl (lv_at hl 0 rfl) ?_
  refine lv_bipush (v := (10 : Int32)) hx hb dX6_init_84 (by decide) ?_
  refine p_newa C hw hn (i := 13) rfl (atype := .int) (ty := .int) rfl gw1_69 (by simp) (fun _ h => h) (a0 := (10, .inl (fun _ => 0))) (fun _ => rfl) (by decide) (by decide) (by decide) (Nat.le_of_ble_eq_true rfl) (Nat.le_of_ble_eq_true rfl) dX6_init_86 (fun H locs hw => ?_)
  have hw : WP D base s (es ++ [.inr (6, [.ref a1, .ref a2, .ref (base + (n + 1)), .ref (base + (n + 10)), .int 0, .int 5, .int 0, .int 0, .int 0, .int 0, .ref (base + (n + 11)), .int 0, .ref (base + (n + 12)), .null]), .inr (2, [.ref (base + (n + 2)), .ref (base + (n + 3)), .ref (base + (n + 4)), .ref (base + (n + 5)), .ref (base + (n + 6)), .ref (base + (n + 7)), .ref (base + (n + 8)), .ref (base + (n + 9)), .int 0, .int 0]), .inl (cA .int, 4, .inl (fun _ => 0)), .inl (cA .int, 4, .inl (fun _ => 0)), .inl (cA .int, 4, .inl (fun _ => 0)), .inl (cA .int, 4, .inl (fun _ => 0)), .inl (cA .int, 160, .inl (fun _ => 0)), .inl (cA .int, 4, .inl (fun _ => 0)), .inl (cA .int, 1200, .inl (fun _ => 0)), .inl (cA .int, 4, .inl (fun _ => 0)), .inl (cA .int, 4, .inl (fun _ => 0)), .inl (cA .int, 10, .inl (fun _ => 0)), .inl (cA .int, 10, .inl (fun _ => 0)), .inl (cA .int, 10, .inl (fun _ => 0))]) H locs := hw
  refine p_putF C hw hn 0 (k := 13) (ty0 := tyX6) rfl vc_6 inX6 tyX6_ok nmX6 (by decide) gw2_83 rfl hin rfl rfl rfl (Nat.le_of_ble_eq_true rfl) dX6_init_88 (fun H locs hw => ?_)
  have hw : WP D base s (es ++ [.inr (6, [.ref a1, .ref a2, .ref (base + (n + 1)), .ref (base + (n + 10)), .int 0, .int 5, .int 0, .int 0, .int 0, .int 0, .ref (base + (n + 11)), .int 0, .ref (base + (n + 12)), .ref (base + (n + 13))]), .inr (2, [.ref (base + (n + 2)), .ref (base + (n + 3)), .ref (base + (n + 4)), .ref (base + (n + 5)), .ref (base + (n + 6)), .ref (base + (n + 7)), .ref (base + (n + 8)), .ref (base + (n + 9)), .int 0, .int 0]), .inl (cA .int, 4, .inl (fun _ => 0)), .inl (cA .int, 4, .inl (fun _ => 0)), .inl (cA .int, 4, .inl (fun _ => 0)), .inl (cA .int, 4, .inl (fun _ => 0)), .inl (cA .int, 160, .inl (fun _ => 0)), .inl (cA .int, 4, .inl (fun _ => 0)), .inl (cA .int, 1200, .inl (fun _ => 0)), .inl (cA .int, 4, .inl (fun _ => 0)), .inl (cA .int, 4, .inl (fun _ => 0)), .inl (cA .int, 10, .inl (fun _ => 0)), .inl (cA .int, 10, .inl (fun _ => 0)), .inl (cA .int, 10, .inl (fun _ => 0))]) H locs := hw
  refine W.widen (k := 13) (n := 1428) (Nat.le_of_ble_eq_true rfl) (Nat.le_of_ble_eq_true rfl) ?_
  exact p_vret C hw hr hlocks dX6_init_91
