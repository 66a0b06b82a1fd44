noncomputable def fX12_drop_160 (fu : Nat) (k_42 : Int32 → Int32 → Int32 → Int32 → Int32 → St → Option (St × Int32)) (x1 : Int32) (x2 : Int32) (x3 : Int32) (x4 : Int32) (x5 : Int32) (S : St) : Option (St × Int32) :=
  k_42 x1 x2 x3 x4 (x5 + (1 : Int32)) S
noncomputable def fX12_drop_87 (fu : Nat) (k_42 : Int32 → Int32 → Int32 → Int32 → Int32 → St → Option (St × Int32)) (x1 : Int32) (x2 : Int32) (x3 : Int32) (x4 : Int32) (x5 : Int32) (S : St) : Option (St × Int32) :=
  gd (ck x5 150) <|
  gd (ck x4 150) <|
  sI 74 (x4).toNatClampNeg (S.1 74 (x5).toNatClampNeg) S fun S_100 =>
  gd (ck x5 150) <|
  gd (ck x4 150) <|
  sI 75 (x4).toNatClampNeg (S_100.1 75 (x5).toNatClampNeg) S_100 fun S_114 =>
  gd (ck x5 150) <|
  gd (ck x4 150) <|
  sI 76 (x4).toNatClampNeg (S_114.1 76 (x5).toNatClampNeg) S_114 fun S_128 =>
  gd (ck x5 150) <|
  gd (ck x4 150) <|
  sI 77 (x4).toNatClampNeg (S_128.1 77 (x5).toNatClampNeg) S_128 fun S_142 =>
  gd (ck x5 150) <|
  gd (ck x4 150) <|
  sI 78 (x4).toNatClampNeg (S_142.1 78 (x5).toNatClampNeg) S_142 fun S_156 =>
  fX12_drop_160 fu k_42 x1 x2 x3 (x4 + (1 : Int32)) x5 S_156
noncomputable def fX12_drop_42 (fu : Nat) (n : Nat) : Int32 → Int32 → Int32 → Int32 → Int32 → St → Option (St × Int32) :=
  Nat.rec (motive := fun _ => Int32 → Int32 → Int32 → Int32 → Int32 → St → Option (St × Int32)) (fun _ _ _ _ _ _ => none) (fun _ k_42 x1 x2 x3 x4 x5 S =>
    if (S.1 63 20) ≤ x5 then
      sI 63 20 x4 S fun S_178 =>
      some (S_178, ((S.1 63 20) - x4))
    else
      gd (ck x5 150) <|
      if (S.1 74 (x5).toNatClampNeg) = x1 then
        gd (ck x5 150) <|
        if (S.1 75 (x5).toNatClampNeg) = x2 then
          gd (ck x5 150) <|
          if (S.1 76 (x5).toNatClampNeg) = x3 then
            fX12_drop_160 fu k_42 x1 x2 x3 x4 x5 S
          else
            fX12_drop_87 fu k_42 x1 x2 x3 x4 x5 S
        else
          fX12_drop_87 fu k_42 x1 x2 x3 x4 x5 S
      else
        fX12_drop_87 fu k_42 x1 x2 x3 x4 x5 S) n
theorem fX12_drop_42_s (fu : Nat) (n : Nat) (x1 : Int32) (x2 : Int32) (x3 : Int32) (x4 : Int32) (x5 : Int32) (S : St) : fX12_drop_42 fu (n + 1) x1 x2 x3 x4 x5 S = (
    if (S.1 63 20) ≤ x5 then
      sI 63 20 x4 S fun S_178 =>
      some (S_178, ((S.1 63 20) - x4))
    else
      gd (ck x5 150) <|
      if (S.1 74 (x5).toNatClampNeg) = x1 then
        gd (ck x5 150) <|
        if (S.1 75 (x5).toNatClampNeg) = x2 then
          gd (ck x5 150) <|
          if (S.1 76 (x5).toNatClampNeg) = x3 then
            fX12_drop_160 fu (fX12_drop_42 fu n) x1 x2 x3 x4 x5 S
          else
            fX12_drop_87 fu (fX12_drop_42 fu n) x1 x2 x3 x4 x5 S
        else
          fX12_drop_87 fu (fX12_drop_42 fu n) x1 x2 x3 x4 x5 S
      else
        fX12_drop_87 fu (fX12_drop_42 fu n) x1 x2 x3 x4 x5 S) := rfl
noncomputable def fX12_drop_27 (fu : Nat) (x1 : Int32) (x2 : Int32) (x3 : Int32) (t0 : Int32) (S : St) : Option (St × Int32) :=
  bd (fX12_throwsIf fu t0 (1 : Int32) S) fun S_28 r_28 =>
  if r_28 = 0 then
    fX12_drop_42 fu fu x1 x2 x3 (0 : Int32) (0 : Int32) S_28
  else
    some (S_28, (0 : Int32))
noncomputable def fX12_drop_22 (fu : Nat) (x1 : Int32) (x2 : Int32) (x3 : Int32) (S : St) : Option (St × Int32) :=
  fX12_drop_27 fu x1 x2 x3 (1 : Int32) S
noncomputable def fX12_drop (fu : Nat) (x1 : Int32) (x2 : Int32) (x3 : Int32) (S : St) : Option (St × Int32) :=
  sI 63 0 (0 : Int32) S fun S_2 =>
  bd (fX12_noZone fu x1 S_2) fun S_8 r_8 =>
  if r_8 = 0 then
    bd (fX12_noName fu x2 S_8) fun S_16 r_16 =>
    if r_16 = 0 then
      fX12_drop_27 fu x1 x2 x3 (0 : Int32) S_16
    else
      fX12_drop_22 fu x1 x2 x3 S_16
  else
    fX12_drop_22 fu x1 x2 x3 S_8
theorem mvX12_drop : MV yX12_drop cX12_drop 6 (some .int) RX12 3 := ⟨gw8_15, gw8_13, gw8_14, gw1_13, by decide +kernel⟩
def rmX12_drop : Room := { frames := 1, cells := 0, slots := 0, locals := 22 }
set_option maxHeartbeats 4000000 in
set_option maxRecDepth 100000 in
theorem m_X12_drop (l : Launch) (D : va_G) (cA : FieldType → ClassId) (ad : Nat → Nat) (base : Nat) (fu : Nat) {S S' : St} {x1 : Int32} {x2 : Int32} {x3 : Int32} {r : Int32} (hf : fX12_drop fu x1 x2 x3 S = some (S', r)) : Met l yX12_drop (GC yX12_drop cX12_drop 6 (some .int)) rmX12_drop (va_Pc [.ref (ad 63), .int x1, .int x2, .int x3] (wd D cA ad base S)) (QI D cA ad base S' r) 0 0 (aB base) := by
  refine Met.ofW (cc := cX12_drop) (maxL := 6) (ret := (some .int)) (by decide) rfl ?_
  intro p e s m args below meth c s₁ B hml hv
  obtain ⟨hargs, hwd⟩ := hv
  have hr := B.returns
  have hlocks := B.notSynchronized
  obtain ⟨C, hw⟩ := CX.of (own := RX12) rfl B hml hwd
  have hx := C.1
  have hb := C.2.1
  have hl := lv_entry ([.ref (ad 63), .int x1, .int x2, .int x3]) (n := 6) (Nat.le_of_ble_eq_true rfl)
  rw [show entryFrame m args 6 = entryFrame m ([.ref (ad 63), .int x1, .int x2, .int x3] : List Value).toArray 6 from by rw [hargs], lg_entry_eq]
  generalize (lg_sl ([.ref (ad 63), .int x1, .int x2, .int x3]) ++ List.replicate (6 - (lg_sl ([.ref (ad 63), .int x1, .int x2, .int x3])).length) Slot.unset).toArray = ls at hl ⊢
  have hl : lv_has ls 6 [(0, .ref (ad 63)), (1, .int x1), (2, .int x2), (3, .int x3)] := hl
  have L_42 : ∀ (n_42 : Nat) (x1 : Int32) (x2 : Int32) (x3 : Int32) (x4 : Int32) (x5 : Int32) (S : St) (H : Heap) (locs : List Loc) (ls : Array Slot), fX12_drop_42 fu n_42 x1 x2 x3 x4 x5 S = some (S', r) → lv_has ls 6 [(0, .ref (ad 63)), (1, .int x1), (2, .int x2), (3, .int x3), (4, .int x4), (5, .int x5)] → WS D cA ad base s S H locs → W p l e rmX12_drop s m args below meth c H locs 0 0 (MQ below (QI D cA ad base S' r) args s 0 0 (aB base)) (F0 m 42 ls []) := by
    intro n_42
    induction n_42 with
    | zero =>
      intro x1 x2 x3 x4 x5 S H locs ls hf hl hw
      exact (no_none hf).elim
    | succ n_42 ih_42 =>
      have J_160 : ∀ (x1 : Int32) (x2 : Int32) (x3 : Int32) (x4 : Int32) (x5 : Int32) (S : St) (H : Heap) (locs : List Loc) (ls : Array Slot), fX12_drop_160 fu (fX12_drop_42 fu n_42) x1 x2 x3 x4 x5 S = some (S', r) → lv_has ls 6 [(0, .ref (ad 63)), (1, .int x1), (2, .int x2), (3, .int x3), (4, .int x4), (5, .int x5)] → WS D cA ad base s S H locs → W p l e rmX12_drop s m args below meth c H locs 0 0 (MQ below (QI D cA ad base S' r) args s 0 0 (aB base)) (F0 m 160 ls []) := by
        intro x1 x2 x3 x4 x5 S H locs ls hf hl hw
        refine lv_iinc (v := (x5 + (1 : Int32))) (lv' := [(5, .int (x5 + (1 : Int32))), (0, .ref (ad 63)), (1, .int x1), (2, .int x2), (3, .int x3), (4, .int x4)]) hx hb dX12_drop_160 hl (k := 5) rfl rfl (by decide) rfl (fun ls hl => ?_)
        refine lv_goto (tgt := 42) hx hb dX12_drop_163 (by decide) ?_
        exact ih_42 _ _ _ _ _ _ _ _ _ hf (lv_sub hl [1, 2, 3, 4, 5, 0] rfl) hw
      have J_87 : ∀ (x1 : Int32) (x2 : Int32) (x3 : Int32) (x4 : Int32) (x5 : Int32) (S : St) (H : Heap) (locs : List Loc) (ls : Array Slot), fX12_drop_87 fu (fX12_drop_42 fu n_42) x1 x2 x3 x4 x5 S = some (S', r) → lv_has ls 6 [(0, .ref (ad 63)), (1, .int x1), (2, .int x2), (3, .int x3), (4, .int x4), (5, .int x5)] → WS D cA ad base s S H locs → W p l e rmX12_drop s m args below meth c H locs 0 0 (MQ below (QI D cA ad base S' r) args s 0 0 (aB base)) (F0 m 87 ls []) := by
        intro x1 x2 x3 x4 x5 S H locs ls hf hl hw
        refine lv_aload_n hx hb dX12_drop_87 rfl (lv_at hl 0 rfl) ?_
        refine r_getR C hw (k := 15) (r := 74) dq_63 ln_63 rfl vc_12 inX12 (by decide) rfl gw6_196 dX12_drop_88 ?_
        refine lv_iload hx hb dX12_drop_91 (lv_at hl 4 rfl) ?_
        refine lv_aload_n hx hb dX12_drop_93 rfl (lv_at hl 0 rfl) ?_
        refine r_getR C hw (k := 15) (r := 74) dq_63 ln_63 rfl vc_12 inX12 (by decide) rfl gw6_196 dX12_drop_94 ?_
        refine lv_iload hx hb dX12_drop_97 (lv_at hl 5 rfl) ?_
        obtain ⟨z_99, hf⟩ := gd_some hf
        refine r_iald C hw (x := 74) dq_74 ln_74 z_99 dX12_drop_99 ?_
        obtain ⟨z_100, hf⟩ := gd_some hf
        obtain ⟨S_100, e_100, hf⟩ := sI_some hf
        refine r_iast C hw (x := 74) dq_74 ln_74 z_100 dX12_drop_100 e_100 (fun H locs hw => ?_)
        refine lv_aload_n hx hb dX12_drop_101 rfl (lv_at hl 0 rfl) ?_
        refine r_getR C hw (k := 16) (r := 75) dq_63 ln_63 rfl vc_12 inX12 (by decide) rfl gw6_197 dX12_drop_102 ?_
        refine lv_iload hx hb dX12_drop_105 (lv_at hl 4 rfl) ?_
        refine lv_aload_n hx hb dX12_drop_107 rfl (lv_at hl 0 rfl) ?_
        refine r_getR C hw (k := 16) (r := 75) dq_63 ln_63 rfl vc_12 inX12 (by decide) rfl gw6_197 dX12_drop_108 ?_
        refine lv_iload hx hb dX12_drop_111 (lv_at hl 5 rfl) ?_
        obtain ⟨z_113, hf⟩ := gd_some hf
        refine r_iald C hw (x := 75) dq_75 ln_75 z_113 dX12_drop_113 ?_
        obtain ⟨z_114, hf⟩ := gd_some hf
        obtain ⟨S_114, e_114, hf⟩ := sI_some hf
        refine r_iast C hw (x := 75) dq_75 ln_75 z_114 dX12_drop_114 e_114 (fun H locs hw => ?_)
        refine lv_aload_n hx hb dX12_drop_115 rfl (lv_at hl 0 rfl) ?_
        refine r_getR C hw (k := 17) (r := 76) dq_63 ln_63 rfl vc_12 inX12 (by decide) rfl gw6_198 dX12_drop_116 ?_
        refine lv_iload hx hb dX12_drop_119 (lv_at hl 4 rfl) ?_
        refine lv_aload_n hx hb dX12_drop_121 rfl (lv_at hl 0 rfl) ?_
        refine r_getR C hw (k := 17) (r := 76) dq_63 ln_63 rfl vc_12 inX12 (by decide) rfl gw6_198 dX12_drop_122 ?_
        refine lv_iload hx hb dX12_drop_125 (lv_at hl 5 rfl) ?_
        obtain ⟨z_127, hf⟩ := gd_some hf
        refine r_iald C hw (x := 76) dq_76 ln_76 z_127 dX12_drop_127 ?_
        obtain ⟨z_128, hf⟩ := gd_some hf
        obtain ⟨S_128, e_128, hf⟩ := sI_some hf
        refine r_iast C hw (x := 76) dq_76 ln_76 z_128 dX12_drop_128 e_128 (fun H locs hw => ?_)
        refine lv_aload_n hx hb dX12_drop_129 rfl (lv_at hl 0 rfl) ?_
        refine r_getR C hw (k := 18) (r := 77) dq_63 ln_63 rfl vc_12 inX12 (by decide) rfl gw6_199 dX12_drop_130 ?_
        refine lv_iload hx hb dX12_drop_133 (lv_at hl 4 rfl) ?_
        refine lv_aload_n hx hb dX12_drop_135 rfl (lv_at hl 0 rfl) ?_
        refine r_getR C hw (k := 18) (r := 77) dq_63 ln_63 rfl vc_12 inX12 (by decide) rfl gw6_199 dX12_drop_136 ?_
        refine lv_iload hx hb dX12_drop_139 (lv_at hl 5 rfl) ?_
        obtain ⟨z_141, hf⟩ := gd_some hf
        refine r_iald C hw (x := 77) dq_77 ln_77 z_141 dX12_drop_141 ?_
        obtain ⟨z_142, hf⟩ := gd_some hf
        obtain ⟨S_142, e_142, hf⟩ := sI_some hf
        refine r_iast C hw (x := 77) dq_77 ln_77 z_142 dX12_drop_142 e_142 (fun H locs hw => ?_)
        refine lv_aload_n hx hb dX12_drop_143 rfl (lv_at hl 0 rfl) ?_
        refine r_getR C hw (k := 19) (r := 78) dq_63 ln_63 rfl vc_12 inX12 (by decide) rfl gw6_200 dX12_drop_144 ?_
        refine lv_iload hx hb dX12_drop_147 (lv_at hl 4 rfl) ?_
        refine lv_aload_n hx hb dX12_drop_149 rfl (lv_at hl 0 rfl) ?_
        refine r_getR C hw (k := 19) (r := 78) dq_63 ln_63 rfl vc_12 inX12 (by decide) rfl gw6_200 dX12_drop_150 ?_
        refine lv_iload hx hb dX12_drop_153 (lv_at hl 5 rfl) ?_
        obtain ⟨z_155, hf⟩ := gd_some hf
        refine r_iald C hw (x := 78) dq_78 ln_78 z_155 dX12_drop_155 ?_
        obtain ⟨z_156, hf⟩ := gd_some hf
        obtain ⟨S_156, e_156, hf⟩ := sI_some hf
        refine r_iast C hw (x := 78) dq_78 ln_78 z_156 dX12_drop_156 e_156 (fun H locs hw => ?_)
        refine lv_iinc (v := (x4 + (1 : Int32))) (lv' := [(4, .int (x4 + (1 : Int32))), (0, .ref (ad 63)), (1, .int x1), (2, .int x2), (3, .int x3), (5, .int x5)]) hx hb dX12_drop_157 hl (k := 4) rfl rfl (by decide) rfl (fun ls hl => ?_)
        exact J_160 _ _ _ _ _ _ _ _ _ hf (lv_sub hl [1, 2, 3, 4, 0, 5] rfl) hw
      intro x1 x2 x3 x4 x5 S H locs ls hf hl hw
      rw [fX12_drop_42_s] at hf
      refine lv_iload hx hb dX12_drop_42 (lv_at hl 5 rfl) ?_
      refine lv_aload_n hx hb dX12_drop_44 rfl (lv_at hl 0 rfl) ?_
      refine r_getI C hw (k := 20) dq_63 ln_63 rfl vc_12 inX12 (by decide) rfl gw6_201 dX12_drop_45 ?_
      refine lv_icmp_ge (tgt := 166) hx hb dX12_drop_48 (by decide) (fun c_48 => ?_) (fun c_48 => ?_)
      · have hf := if_t hf c_48
        refine lv_aload_n hx hb dX12_drop_166 rfl (lv_at hl 0 rfl) ?_
        refine r_getI C hw (k := 20) dq_63 ln_63 rfl vc_12 inX12 (by decide) rfl gw6_201 dX12_drop_167 ?_
        refine lv_iload hx hb dX12_drop_170 (lv_at hl 4 rfl) ?_
        refine lv_isub hx hb dX12_drop_172 ?_
        refine lv_istore (lv' := [(5, .int ((S.1 63 20) - x4)), (0, .ref (ad 63)), (1, .int x1), (2, .int x2), (3, .int x3), (4, .int x4)]) hx hb dX12_drop_173 hl (by decide) rfl (fun ls hl => ?_)
        refine lv_aload_n hx hb dX12_drop_175 rfl (lv_at hl 1 rfl) ?_
        refine lv_iload hx hb dX12_drop_176 (lv_at hl 5 rfl) ?_
        obtain ⟨S_178, e_178, hf⟩ := sI_some hf
        refine r_putI C hw (k := 20) (ty0 := tyX12) dq_63 ln_63 rfl vc_12 inX12 tyX12_ok nmX12 (by decide) rfl rfl gw6_201 rfl rfl dX12_drop_178 e_178 (fun H locs hw => ?_)
        refine lv_iload hx hb dX12_drop_181 (lv_at hl 0 rfl) ?_
        exact r_iret C hw hr hlocks hf dX12_drop_183
      · have hf := if_f hf c_48
        refine lv_aload_n hx hb dX12_drop_51 rfl (lv_at hl 0 rfl) ?_
        refine r_getR C hw (k := 15) (r := 74) dq_63 ln_63 rfl vc_12 inX12 (by decide) rfl gw6_196 dX12_drop_52 ?_
        refine lv_iload hx hb dX12_drop_55 (lv_at hl 5 rfl) ?_
        obtain ⟨z_57, hf⟩ := gd_some hf
        refine r_iald C hw (x := 74) dq_74 ln_74 z_57 dX12_drop_57 ?_
        refine lv_iload_n hx hb dX12_drop_58 rfl (lv_at hl 1 rfl) ?_
        refine lv_icmp_ne (tgt := 87) hx hb dX12_drop_59 (by decide) (fun c_59 => ?_) (fun c_59 => ?_)
        · have hf := if_f hf c_59
          exact J_87 _ _ _ _ _ _ _ _ _ hf (lv_sub hl [0, 1, 2, 3, 4, 5] rfl) hw
        · have hf := if_t hf c_59
          refine lv_aload_n hx hb dX12_drop_62 rfl (lv_at hl 0 rfl) ?_
          refine r_getR C hw (k := 16) (r := 75) dq_63 ln_63 rfl vc_12 inX12 (by decide) rfl gw6_197 dX12_drop_63 ?_
          refine lv_iload hx hb dX12_drop_66 (lv_at hl 5 rfl) ?_
          obtain ⟨z_68, hf⟩ := gd_some hf
          refine r_iald C hw (x := 75) dq_75 ln_75 z_68 dX12_drop_68 ?_
          refine lv_iload_n hx hb dX12_drop_69 rfl (lv_at hl 2 rfl) ?_
          refine lv_icmp_ne (tgt := 87) hx hb dX12_drop_70 (by decide) (fun c_70 => ?_) (fun c_70 => ?_)
          · have hf := if_f hf c_70
            exact J_87 _ _ _ _ _ _ _ _ _ hf (lv_sub hl [0, 1, 2, 3, 4, 5] rfl) hw
          · have hf := if_t hf c_70
            refine lv_aload_n hx hb dX12_drop_73 rfl (lv_at hl 0 rfl) ?_
            refine r_getR C hw (k := 17) (r := 76) dq_63 ln_63 rfl vc_12 inX12 (by decide) rfl gw6_198 dX12_drop_74 ?_
            refine lv_iload hx hb dX12_drop_77 (lv_at hl 5 rfl) ?_
            obtain ⟨z_79, hf⟩ := gd_some hf
            refine r_iald C hw (x := 76) dq_76 ln_76 z_79 dX12_drop_79 ?_
            refine lv_iload_n hx hb dX12_drop_80 rfl (lv_at hl 3 rfl) ?_
            refine lv_icmp_ne (tgt := 87) hx hb dX12_drop_81 (by decide) (fun c_81 => ?_) (fun c_81 => ?_)
            · have hf := if_f hf c_81
              exact J_87 _ _ _ _ _ _ _ _ _ hf (lv_sub hl [0, 1, 2, 3, 4, 5] rfl) hw
            · have hf := if_t hf c_81
              refine lv_goto (tgt := 160) hx hb dX12_drop_84 (by decide) ?_
              exact J_160 _ _ _ _ _ _ _ _ _ hf (lv_sub hl [0, 1, 2, 3, 4, 5] rfl) hw
  have J_27 : ∀ (x1 : Int32) (x2 : Int32) (x3 : Int32) (t0 : Int32) (S : St) (H : Heap) (locs : List Loc) (ls : Array Slot), fX12_drop_27 fu x1 x2 x3 t0 S = some (S', r) → lv_has ls 6 [(0, .ref (ad 63)), (1, .int x1), (2, .int x2), (3, .int x3)] → WS D cA ad base s S H locs → W p l e rmX12_drop s m args below meth c H locs 0 0 (MQ below (QI D cA ad base S' r) args s 0 0 (aB base)) (F0 m 27 ls [.int t0, .ref (ad 63)]) := by
    intro x1 x2 x3 t0 S H locs ls hf hl hw
    refine lv_iconst (v := (1 : Int32)) hx hb dX12_drop_27 (by decide) ?_
    obtain ⟨S_28, r_28, h_28, hf⟩ := bd_some hf
    refine r_bi hw (r_runV (rest := []) C hw (m_X12_throwsIf l D cA ad base fu h_28) mvX12_throwsIf gw7_189 ⟨rfl, rfl, Nat.le_of_ble_eq_true rfl, Nat.le_of_ble_eq_true rfl⟩ dq_63 ln_63 vc_12 rfl hl.1 rfl (Nat.le_of_ble_eq_true rfl) dX12_drop_28 (Nat.zero_le _) (Nat.zero_le _)) (fun H locs hw => ?_)
    refine lv_if_eq (tgt := 36) hx hb dX12_drop_31 (by decide) (fun c_31 => ?_) (fun c_31 => ?_)
    · have hf := if_t hf c_31
      refine lv_iconst (v := (0 : Int32)) hx hb dX12_drop_36 (by decide) ?_
      refine lv_istore (lv' := [(4, .int (0 : Int32)), (0, .ref (ad 63)), (1, .int x1), (2, .int x2), (3, .int x3)]) hx hb dX12_drop_37 hl (by decide) rfl (fun ls hl => ?_)
      refine lv_iconst (v := (0 : Int32)) hx hb dX12_drop_39 (by decide) ?_
      refine lv_istore (lv' := [(5, .int (0 : Int32)), (4, .int (0 : Int32)), (0, .ref (ad 63)), (1, .int x1), (2, .int x2), (3, .int x3)]) hx hb dX12_drop_40 hl (by decide) rfl (fun ls hl => ?_)
      exact L_42 fu _ _ _ _ _ _ _ _ _ hf (lv_sub hl [2, 3, 4, 5, 1, 0] rfl) hw
    · have hf := if_f hf c_31
      refine lv_iconst (v := (0 : Int32)) hx hb dX12_drop_34 (by decide) ?_
      exact r_iret C hw hr hlocks hf dX12_drop_35
  have J_22 : ∀ (x1 : Int32) (x2 : Int32) (x3 : Int32) (S : St) (H : Heap) (locs : List Loc) (ls : Array Slot), fX12_drop_22 fu x1 x2 x3 S = some (S', r) → lv_has ls 6 [(0, .ref (ad 63)), (1, .int x1), (2, .int x2), (3, .int x3)] → WS D cA ad base s S H locs → W p l e rmX12_drop s m args below meth c H locs 0 0 (MQ below (QI D cA ad base S' r) args s 0 0 (aB base)) (F0 m 22 ls [.ref (ad 63)]) := by
    intro x1 x2 x3 S H locs ls hf hl hw
    refine lv_iconst (v := (1 : Int32)) hx hb dX12_drop_22 (by decide) ?_
    refine lv_goto (tgt := 27) hx hb dX12_drop_23 (by decide) ?_
    exact J_27 _ _ _ _ _ _ _ _ hf (lv_sub hl [0, 1, 2, 3] rfl) hw
  show W p l e rmX12_drop s m args below meth c s.heap [] 0 0 _ _
  refine lv_aload_n hx hb dX12_drop_0 rfl (lv_at hl 0 rfl) ?_
  refine lv_iconst (v := (0 : Int32)) hx hb dX12_drop_1 (by decide) ?_
  obtain ⟨S_2, e_2, hf⟩ := sI_some hf
  refine r_putI C hw (k := 0) (ty0 := tyX12) dq_63 ln_63 rfl vc_12 inX12 tyX12_ok nmX12 (by decide) rfl rfl gw6_181 rfl rfl dX12_drop_2 e_2 (fun H locs hw => ?_)
  refine lv_aload_n hx hb dX12_drop_5 rfl (lv_at hl 0 rfl) ?_
  refine lv_aload_n hx hb dX12_drop_6 rfl (lv_at hl 0 rfl) ?_
  refine lv_iload_n hx hb dX12_drop_7 rfl (lv_at hl 1 rfl) ?_
  obtain ⟨S_8, r_8, h_8, hf⟩ := bd_some hf
  refine r_bi hw (r_runV (rest := [.ref (ad 63)]) C hw (m_X12_noZone l D cA ad base fu h_8) mvX12_noZone gw7_237 ⟨rfl, rfl, Nat.le_of_ble_eq_true rfl, Nat.le_of_ble_eq_true rfl⟩ dq_63 ln_63 vc_12 rfl hl.1 rfl (Nat.le_of_ble_eq_true rfl) dX12_drop_8 (Nat.zero_le _) (Nat.zero_le _)) (fun H locs hw => ?_)
  refine lv_if_ne (tgt := 22) hx hb dX12_drop_11 (by decide) (fun c_11 => ?_) (fun c_11 => ?_)
  · have hf := if_f hf c_11
    exact J_22 _ _ _ _ _ _ _ hf (lv_sub hl [0, 1, 2, 3] rfl) hw
  · have hf := if_t hf c_11
    refine lv_aload_n hx hb dX12_drop_14 rfl (lv_at hl 0 rfl) ?_
    refine lv_iload_n hx hb dX12_drop_15 rfl (lv_at hl 2 rfl) ?_
    obtain ⟨S_16, r_16, h_16, hf⟩ := bd_some hf
    refine r_bi hw (r_runV (rest := [.ref (ad 63)]) C hw (m_X12_noName l D cA ad base fu h_16) mvX12_noName gw7_213 ⟨rfl, rfl, Nat.le_of_ble_eq_true rfl, Nat.le_of_ble_eq_true rfl⟩ dq_63 ln_63 vc_12 rfl hl.1 rfl (Nat.le_of_ble_eq_true rfl) dX12_drop_16 (Nat.zero_le _) (Nat.zero_le _)) (fun H locs hw => ?_)
    refine lv_if_eq (tgt := 26) hx hb dX12_drop_19 (by decide) (fun c_19 => ?_) (fun c_19 => ?_)
    · have hf := if_t hf c_19
      refine lv_iconst (v := (0 : Int32)) hx hb dX12_drop_26 (by decide) ?_
      exact J_27 _ _ _ _ _ _ _ _ hf (lv_sub hl [0, 1, 2, 3] rfl) hw
    · have hf := if_f hf c_19
      exact J_22 _ _ _ _ _ _ _ hf (lv_sub hl [0, 1, 2, 3] rfl) hw
noncomputable def fX12_serverOf_24 (fu : Nat) (k_4 : Int32 → Int32 → Int32 → St → Option (St × Int32)) (x1 : Int32) (x2 : Int32) (x3 : Int32) (S : St) : Option (St × Int32) :=
  k_4 x1 x2 (x3 + (1 : Int32)) S
noncomputable def fX12_serverOf_4 (fu : Nat) (n : Nat) : Int32 → Int32 → Int32 → St → Option (St × Int32) :=
  Nat.rec (motive := fun _ => Int32 → Int32 → Int32 → St → Option (St × Int32)) (fun _ _ _ _ => none) (fun _ k_4 x1 x2 x3 S =>
    if (S.1 63 23) ≤ x3 then
      some (S, x2)
    else
      gd (ck x3 12) <|
      if (S.1 79 (x3).toNatClampNeg) = x1 then
        fX12_serverOf_24 fu k_4 x1 x3 x3 S
      else
        fX12_serverOf_24 fu k_4 x1 x2 x3 S) n
theorem fX12_serverOf_4_s (fu : Nat) (n : Nat) (x1 : Int32) (x2 : Int32) (x3 : Int32) (S : St) : fX12_serverOf_4 fu (n + 1) x1 x2 x3 S = (
    if (S.1 63 23) ≤ x3 then
      some (S, x2)
    else
      gd (ck x3 12) <|
      if (S.1 79 (x3).toNatClampNeg) = x1 then
        fX12_serverOf_24 fu (fX12_serverOf_4 fu n) x1 x3 x3 S
      else
        fX12_serverOf_24 fu (fX12_serverOf_4 fu n) x1 x2 x3 S) := rfl
noncomputable def fX12_serverOf (fu : Nat) (x1 : Int32) (S : St) : Option (St × Int32) :=
  fX12_serverOf_4 fu fu x1 (-1 : Int32) (0 : Int32) S
theorem mvX12_serverOf : MV yX12_serverOf cX12_serverOf 4 (some .int) RX12 1 := ⟨gw8_23, gw8_22, gs_53, gw1_13, by decide +kernel⟩
def rmX12_serverOf : Room := { frames := 0, cells := 0, slots := 0, locals := 0 }
set_option maxHeartbeats 4000000 in
set_option maxRecDepth 100000 in
theorem m_X12_serverOf (l : Launch) (D : va_G) (cA : FieldType → ClassId) (ad : Nat → Nat) (base : Nat) (fu : Nat) {S S' : St} {x1 : Int32} {r : Int32} (hf : fX12_serverOf fu x1 S = some (S', r)) : Met l yX12_serverOf (GC yX12_serverOf cX12_serverOf 4 (some .int)) rmX12_serverOf (va_Pc [.ref (ad 63), .int x1] (wd D cA ad base S)) (QI D cA ad base S' r) 0 0 (aB base) := by
  refine Met.ofW (cc := cX12_serverOf) (maxL := 4) (ret := (some .int)) (by decide) rfl ?_
  intro p e s m args below meth c s₁ B hml hv
  obtain ⟨hargs, hwd⟩ := hv
  have hr := B.returns
  have hlocks := B.notSynchronized
  obtain ⟨C, hw⟩ := CX.of (own := RX12) rfl B hml hwd
  have hx := C.1
  have hb := C.2.1
  have hl := lv_entry ([.ref (ad 63), .int x1]) (n := 4) (Nat.le_of_ble_eq_true rfl)
  rw [show entryFrame m args 4 = entryFrame m ([.ref (ad 63), .int x1] : List Value).toArray 4 from by rw [hargs], lg_entry_eq]
  generalize (lg_sl ([.ref (ad 63), .int x1]) ++ List.replicate (4 - (lg_sl ([.ref (ad 63), .int x1])).length) Slot.unset).toArray = ls at hl ⊢
  have hl : lv_has ls 4 [(0, .ref (ad 63)), (1, .int x1)] := hl
  have L_4 : ∀ (n_4 : Nat) (x1 : Int32) (x2 : Int32) (x3 : Int32) (S : St) (H : Heap) (locs : List Loc) (ls : Array Slot), fX12_serverOf_4 fu n_4 x1 x2 x3 S = some (S', r) → lv_has ls 4 [(0, .ref (ad 63)), (1, .int x1), (2, .int x2), (3, .int x3)] → WS D cA ad base s S H locs → W p l e rmX12_serverOf s m args below meth c H locs 0 0 (MQ below (QI D cA ad base S' r) args s 0 0 (aB base)) (F0 m 4 ls []) := by
    intro n_4
    induction n_4 with
    | zero =>
      intro x1 x2 x3 S H locs ls hf hl hw
      exact (no_none hf).elim
    | succ n_4 ih_4 =>
      have J_24 : ∀ (x1 : Int32) (x2 : Int32) (x3 : Int32) (S : St) (H : Heap) (locs : List Loc) (ls : Array Slot), fX12_serverOf_24 fu (fX12_serverOf_4 fu n_4) x1 x2 x3 S = some (S', r) → lv_has ls 4 [(0, .ref (ad 63)), (1, .int x1), (2, .int x2), (3, .int x3)] → WS D cA ad base s S H locs → W p l e rmX12_serverOf s m args below meth c H locs 0 0 (MQ below (QI D cA ad base S' r) args s 0 0 (aB base)) (F0 m 24 ls []) := by
        intro x1 x2 x3 S H locs ls hf hl hw
        refine lv_iinc (v := (x3 + (1 : Int32))) (lv' := [(3, .int (x3 + (1 : Int32))), (0, .ref (ad 63)), (1, .int x1), (2, .int x2)]) hx hb dX12_serverOf_24 hl (k := 3) rfl rfl (by decide) rfl (fun ls hl => ?_)
        refine lv_goto (tgt := 4) hx hb dX12_serverOf_27 (by decide) ?_
        exact ih_4 _ _ _ _ _ _ _ hf (lv_sub hl [1, 2, 3, 0] rfl) hw
      intro x1 x2 x3 S H locs ls hf hl hw
      rw [fX12_serverOf_4_s] at hf
      refine lv_iload_n hx hb dX12_serverOf_4 rfl (lv_at hl 3 rfl) ?_
      refine lv_aload_n hx hb dX12_serverOf_5 rfl (lv_at hl 0 rfl) ?_
      refine r_getI C hw (k := 23) dq_63 ln_63 rfl vc_12 inX12 (by decide) rfl gw6_204 dX12_serverOf_6 ?_
      refine lv_icmp_ge (tgt := 30) hx hb dX12_serverOf_9 (by decide) (fun c_9 => ?_) (fun c_9 => ?_)
      · have hf := if_t hf c_9
        refine lv_iload_n hx hb dX12_serverOf_30 rfl (lv_at hl 2 rfl) ?_
        exact r_iret C hw hr hlocks hf dX12_serverOf_31
      · have hf := if_f hf c_9
        refine lv_aload_n hx hb dX12_serverOf_12 rfl (lv_at hl 0 rfl) ?_
        refine r_getR C hw (k := 21) (r := 79) dq_63 ln_63 rfl vc_12 inX12 (by decide) rfl gw6_202 dX12_serverOf_13 ?_
        refine lv_iload_n hx hb dX12_serverOf_16 rfl (lv_at hl 3 rfl) ?_
        obtain ⟨z_17, hf⟩ := gd_some hf
        refine r_iald C hw (x := 79) dq_79 ln_79 z_17 dX12_serverOf_17 ?_
        refine lv_iload_n hx hb dX12_serverOf_18 rfl (lv_at hl 1 rfl) ?_
        refine lv_icmp_ne (tgt := 24) hx hb dX12_serverOf_19 (by decide) (fun c_19 => ?_) (fun c_19 => ?_)
        · have hf := if_f hf c_19
          exact J_24 _ _ _ _ _ _ _ hf (lv_sub hl [0, 1, 2, 3] rfl) hw
        · have hf := if_t hf c_19
          refine lv_iload_n hx hb dX12_serverOf_22 rfl (lv_at hl 3 rfl) ?_
          refine lv_istore_n (lv' := [(2, .int x3), (0, .ref (ad 63)), (1, .int x1), (3, .int x3)]) hx hb dX12_serverOf_23 rfl hl (by decide) rfl (fun ls hl => ?_)
          exact J_24 _ _ _ _ _ _ _ hf (lv_sub hl [1, 2, 0, 3] rfl) hw
  show W p l e rmX12_serverOf s m args below meth c s.heap [] 0 0 _ _
  refine lv_iconst (v := (-1 : Int32)) hx hb dX12_serverOf_0 (by decide) ?_
  refine lv_istore_n (lv' := [(2, .int (-1 : Int32)), (0, .ref (ad 63)), (1, .int x1)]) hx hb dX12_serverOf_1 rfl hl (by decide) rfl (fun ls hl => ?_)
  refine lv_iconst (v := (0 : Int32)) hx hb dX12_serverOf_2 (by decide) ?_
  refine lv_istore_n (lv' := [(3, .int (0 : Int32)), (2, .int (-1 : Int32)), (0, .ref (ad 63)), (1, .int x1)]) hx hb dX12_serverOf_3 rfl hl (by decide) rfl (fun ls hl => ?_)
  exact L_4 fu _ _ _ _ _ _ _ hf (lv_sub hl [2, 3, 1, 0] rfl) hw
noncomputable def fX12_server_41 (fu : Nat) (x1 : Int32) (t0 : Int32) (S : St) : Option (St × Int32) :=
  bd (fX12_throwsIf fu t0 (2 : Int32) S) fun S_42 r_42 =>
  if r_42 = 0 then
    gd (ck (S_42.1 63 23) 12) <|
    sI 79 ((S_42.1 63 23)).toNatClampNeg x1 S_42 fun S_59 =>
    sI 63 23 ((S_59.1 63 23) + (1 : Int32)) S_59 fun S_67 =>
    some (S_67, ((S_67.1 63 23) - (1 : Int32)))
  else
    some (S_42, (0 : Int32))
noncomputable def fX12_server_19 (fu : Nat) (x1 : Int32) (t0 : Int32) (S : St) : Option (St × Int32) :=
  bd (fX12_throwsIf fu t0 (1 : Int32) S) fun S_20 r_20 =>
  if r_20 = 0 then
    if (S_20.1 63 23) = (12 : Int32) then
      fX12_server_41 fu x1 (1 : Int32) S_20
    else
      fX12_server_41 fu x1 (0 : Int32) S_20
  else
    some (S_20, (0 : Int32))
noncomputable def fX12_server (fu : Nat) (x1 : Int32) (S : St) : Option (St × Int32) :=
  sI 63 0 (0 : Int32) S fun S_2 =>
  bd (fX12_serverOf fu x1 S_2) fun S_8 r_8 =>
  if r_8 < 0 then
    fX12_server_19 fu x1 (0 : Int32) S_8
  else
    fX12_server_19 fu x1 (1 : Int32) S_8
theorem mvX12_server : MV yX12_server cX12_server 2 (some .int) RX12 1 := ⟨gw8_19, gw8_17, gw8_18, gw1_13, by decide +kernel⟩
def rmX12_server : Room := { frames := 1, cells := 0, slots := 0, locals := 23 }
set_option maxHeartbeats 4000000 in
set_option maxRecDepth 100000 in
theorem m_X12_server (l : Launch) (D : va_G) (cA : FieldType → ClassId) (ad : Nat → Nat) (base : Nat) (fu : Nat) {S S' : St} {x1 : Int32} {r : Int32} (hf : fX12_server fu x1 S = some (S', r)) : Met l yX12_server (GC yX12_server cX12_server 2 (some .int)) rmX12_server (va_Pc [.ref (ad 63), .int x1] (wd D cA ad base S)) (QI D cA ad base S' r) 0 0 (aB base) := by
  refine Met.ofW (cc := cX12_server) (maxL := 2) (ret := (some .int)) (by decide) rfl ?_
  intro p e s m args below meth c s₁ B hml hv
  obtain ⟨hargs, hwd⟩ := hv
  have hr := B.returns
  have hlocks := B.notSynchronized
  obtain ⟨C, hw⟩ := CX.of (own := RX12) rfl B hml hwd
  have hx := C.1
  have hb := C.2.1
  have hl := lv_entry ([.ref (ad 63), .int x1]) (n := 2) (Nat.le_of_ble_eq_true rfl)
  rw [show entryFrame m args 2 = entryFrame m ([.ref (ad 63), .int x1] : List Value).toArray 2 from by rw [hargs], lg_entry_eq]
  generalize (lg_sl ([.ref (ad 63), .int x1]) ++ List.replicate (2 - (lg_sl ([.ref (ad 63), .int x1])).length) Slot.unset).toArray = ls at hl ⊢
  have hl : lv_has ls 2 [(0, .ref (ad 63)), (1, .int x1)] := hl
  have J_41 : ∀ (x1 : Int32) (t0 : Int32) (S : St) (H : Heap) (locs : List Loc) (ls : Array Slot), fX12_server_41 fu x1 t0 S = some (S', r) → lv_has ls 2 [(0, .ref (ad 63)), (1, .int x1)] → WS D cA ad base s S H locs → W p l e rmX12_server s m args below meth c H locs 0 0 (MQ below (QI D cA ad base S' r) args s 0 0 (aB base)) (F0 m 41 ls [.int t0, .ref (ad 63)]) := by
    intro x1 t0 S H locs ls hf hl hw
    refine lv_iconst (v := (2 : Int32)) hx hb dX12_server_41 (by decide) ?_
    obtain ⟨S_42, r_42, h_42, hf⟩ := bd_some hf
    refine r_bi hw (r_runV (rest := []) C hw (m_X12_throwsIf l D cA ad base fu h_42) mvX12_throwsIf gw7_189 ⟨rfl, rfl, Nat.le_of_ble_eq_true rfl, Nat.le_of_ble_eq_true rfl⟩ dq_63 ln_63 vc_12 rfl hl.1 rfl (Nat.le_of_ble_eq_true rfl) dX12_server_42 (Nat.zero_le _) (Nat.zero_le _)) (fun H locs hw => ?_)
    refine lv_if_eq (tgt := 50) hx hb dX12_server_45 (by decide) (fun c_45 => ?_) (fun c_45 => ?_)
    · have hf := if_t hf c_45
      refine lv_aload_n hx hb dX12_server_50 rfl (lv_at hl 0 rfl) ?_
      refine r_getR C hw (k := 21) (r := 79) dq_63 ln_63 rfl vc_12 inX12 (by decide) rfl gw6_202 dX12_server_51 ?_
      refine lv_aload_n hx hb dX12_server_54 rfl (lv_at hl 0 rfl) ?_
      refine r_getI C hw (k := 23) dq_63 ln_63 rfl vc_12 inX12 (by decide) rfl gw6_204 dX12_server_55 ?_
      refine lv_iload_n hx hb dX12_server_58 rfl (lv_at hl 1 rfl) ?_
      obtain ⟨z_59, hf⟩ := gd_some hf
      obtain ⟨S_59, e_59, hf⟩ := sI_some hf
      refine r_iast C hw (x := 79) dq_79 ln_79 z_59 dX12_server_59 e_59 (fun H locs hw => ?_)
      refine lv_aload_n hx hb dX12_server_60 rfl (lv_at hl 0 rfl) ?_
      refine lv_dup hx hb dX12_server_61 rfl ?_
      refine r_getI C hw (k := 23) dq_63 ln_63 rfl vc_12 inX12 (by decide) rfl gw6_204 dX12_server_62 ?_
      refine lv_iconst (v := (1 : Int32)) hx hb dX12_server_65 (by decide) ?_
      refine lv_iadd hx hb dX12_server_66 ?_
      obtain ⟨S_67, e_67, hf⟩ := sI_some hf
      refine r_putI C hw (k := 23) (ty0 := tyX12) dq_63 ln_63 rfl vc_12 inX12 tyX12_ok nmX12 (by decide) rfl rfl gw6_204 rfl rfl dX12_server_67 e_67 (fun H locs hw => ?_)
      refine lv_aload_n hx hb dX12_server_70 rfl (lv_at hl 0 rfl) ?_
      refine r_getI C hw (k := 23) dq_63 ln_63 rfl vc_12 inX12 (by decide) rfl gw6_204 dX12_server_71 ?_
      refine lv_iconst (v := (1 : Int32)) hx hb dX12_server_74 (by decide) ?_
      refine lv_isub hx hb dX12_server_75 ?_
      exact r_iret C hw hr hlocks hf dX12_server_76
    · have hf := if_f hf c_45
      refine lv_iconst (v := (0 : Int32)) hx hb dX12_server_48 (by decide) ?_
      exact r_iret C hw hr hlocks hf dX12_server_49
  have J_19 : ∀ (x1 : Int32) (t0 : Int32) (S : St) (H : Heap) (locs : List Loc) (ls : Array Slot), fX12_server_19 fu x1 t0 S = some (S', r) → lv_has ls 2 [(0, .ref (ad 63)), (1, .int x1)] → WS D cA ad base s S H locs → W p l e rmX12_server s m args below meth c H locs 0 0 (MQ below (QI D cA ad base S' r) args s 0 0 (aB base)) (F0 m 19 ls [.int t0, .ref (ad 63)]) := by
    intro x1 t0 S H locs ls hf hl hw
    refine lv_iconst (v := (1 : Int32)) hx hb dX12_server_19 (by decide) ?_
    obtain ⟨S_20, r_20, h_20, hf⟩ := bd_some hf
    refine r_bi hw (r_runV (rest := []) C hw (m_X12_throwsIf l D cA ad base fu h_20) mvX12_throwsIf gw7_189 ⟨rfl, rfl, Nat.le_of_ble_eq_true rfl, Nat.le_of_ble_eq_true rfl⟩ dq_63 ln_63 vc_12 rfl hl.1 rfl (Nat.le_of_ble_eq_true rfl) dX12_server_20 (Nat.zero_le _) (Nat.zero_le _)) (fun H locs hw => ?_)
    refine lv_if_ne (tgt := 48) hx hb dX12_server_23 (by decide) (fun c_23 => ?_) (fun c_23 => ?_)
    · have hf := if_f hf c_23
      refine lv_iconst (v := (0 : Int32)) hx hb dX12_server_48 (by decide) ?_
      exact r_iret C hw hr hlocks hf dX12_server_49
    · have hf := if_t hf c_23
      refine lv_aload_n hx hb dX12_server_26 rfl (lv_at hl 0 rfl) ?_
      refine lv_aload_n hx hb dX12_server_27 rfl (lv_at hl 0 rfl) ?_
      refine r_getI C hw (k := 23) dq_63 ln_63 rfl vc_12 inX12 (by decide) rfl gw6_204 dX12_server_28 ?_
      refine lv_bipush (v := (12 : Int32)) hx hb dX12_server_31 (by decide) ?_
      refine lv_icmp_ne (tgt := 40) hx hb dX12_server_33 (by decide) (fun c_33 => ?_) (fun c_33 => ?_)
      · have hf := if_f hf c_33
        refine lv_iconst (v := (0 : Int32)) hx hb dX12_server_40 (by decide) ?_
        exact J_41 _ _ _ _ _ _ hf (lv_sub hl [0, 1] rfl) hw
      · have hf := if_t hf c_33
        refine lv_iconst (v := (1 : Int32)) hx hb dX12_server_36 (by decide) ?_
        refine lv_goto (tgt := 41) hx hb dX12_server_37 (by decide) ?_
        exact J_41 _ _ _ _ _ _ hf (lv_sub hl [0, 1] rfl) hw
  show W p l e rmX12_server s m args below meth c s.heap [] 0 0 _ _
  refine lv_aload_n hx hb dX12_server_0 rfl (lv_at hl 0 rfl) ?_
  refine lv_iconst (v := (0 : Int32)) hx hb dX12_server_1 (by decide) ?_
  obtain ⟨S_2, e_2, hf⟩ := sI_some hf
  refine r_putI C hw (k := 0) (ty0 := tyX12) dq_63 ln_63 rfl vc_12 inX12 tyX12_ok nmX12 (by decide) rfl rfl gw6_181 rfl rfl dX12_server_2 e_2 (fun H locs hw => ?_)
  refine lv_aload_n hx hb dX12_server_5 rfl (lv_at hl 0 rfl) ?_
  refine lv_aload_n hx hb dX12_server_6 rfl (lv_at hl 0 rfl) ?_
  refine lv_iload_n hx hb dX12_server_7 rfl (lv_at hl 1 rfl) ?_
  obtain ⟨S_8, r_8, h_8, hf⟩ := bd_some hf
  refine r_bi hw (r_runV (rest := [.ref (ad 63)]) C hw (m_X12_serverOf l D cA ad base fu h_8) mvX12_serverOf gw8_20 ⟨rfl, rfl, Nat.le_of_ble_eq_true rfl, Nat.le_of_ble_eq_true rfl⟩ dq_63 ln_63 vc_12 rfl hl.1 rfl (Nat.le_of_ble_eq_true rfl) dX12_server_8 (Nat.zero_le _) (Nat.zero_le _)) (fun H locs hw => ?_)
  refine lv_if_lt (tgt := 18) hx hb dX12_server_11 (by decide) (fun c_11 => ?_) (fun c_11 => ?_)
  · have hf := if_t hf c_11
    refine lv_iconst (v := (0 : Int32)) hx hb dX12_server_18 (by decide) ?_
    exact J_19 _ _ _ _ _ _ hf (lv_sub hl [0, 1] rfl) hw
  · have hf := if_f hf c_11
    refine lv_iconst (v := (1 : Int32)) hx hb dX12_server_14 (by decide) ?_
    refine lv_goto (tgt := 19) hx hb dX12_server_15 (by decide) ?_
    exact J_19 _ _ _ _ _ _ hf (lv_sub hl [0, 1] rfl) hw
noncomputable def fX12_serve_27 (fu : Nat) (x1 : Int32) (x2 : Int32) (x3 : Int32) (t0 : Int32) (S : St) : Option (St × Int32) :=
  bd (fX12_throwsIf fu t0 (1 : Int32) S) fun S_28 r_28 =>
  if r_28 = 0 then
    gd (ck (((12 : Int32) * x1) + x2) 144) <|
    gd (ck (((12 : Int32) * x1) + x2) 144) <|
    sI 80 ((((12 : Int32) * x1) + x2)).toNatClampNeg (vp_nar .boolean x3) S_28 fun S_60 =>
    if (S_28.1 80 ((((12 : Int32) * x1) + x2)).toNatClampNeg) = x3 then
      some (S_60, (0 : Int32))
    else
      some (S_60, (1 : Int32))
  else
    some (S_28, (0 : Int32))
noncomputable def fX12_serve_22 (fu : Nat) (x1 : Int32) (x2 : Int32) (x3 : Int32) (S : St) : Option (St × Int32) :=
  fX12_serve_27 fu x1 x2 x3 (1 : Int32) S
noncomputable def fX12_serve (fu : Nat) (x1 : Int32) (x2 : Int32) (x3 : Int32) (S : St) : Option (St × Int32) :=
  sI 63 0 (0 : Int32) S fun S_2 =>
  bd (fX12_noServer fu x1 S_2) fun S_8 r_8 =>
  if r_8 = 0 then
    bd (fX12_noZone fu x2 S_8) fun S_16 r_16 =>
    if r_16 = 0 then
      fX12_serve_27 fu x1 x2 x3 (0 : Int32) S_16
    else
      fX12_serve_22 fu x1 x2 x3 S_16
  else
    fX12_serve_22 fu x1 x2 x3 S_8
theorem mvX12_serve : MV yX12_serve cX12_serve 5 (some .boolean) RX12 3 := ⟨gw8_27, gw8_25, gw8_26, gw1_13, by decide +kernel⟩
def rmX12_serve : Room := { frames := 1, cells := 0, slots := 0, locals := 22 }
set_option maxHeartbeats 4000000 in
set_option maxRecDepth 100000 in
theorem m_X12_serve (l : Launch) (D : va_G) (cA : FieldType → ClassId) (ad : Nat → Nat) (base : Nat) (fu : Nat) {S S' : St} {x1 : Int32} {x2 : Int32} {x3 : Int32} {r : Int32} (hf : fX12_serve fu x1 x2 x3 S = some (S', r)) : Met l yX12_serve (GC yX12_serve cX12_serve 5 (some .boolean)) rmX12_serve (va_Pc [.ref (ad 63), .int x1, .int x2, .int x3] (wd D cA ad base S)) (QI D cA ad base S' r) 0 0 (aB base) := by
  refine Met.ofW (cc := cX12_serve) (maxL := 5) (ret := (some .boolean)) (by decide) rfl ?_
  intro p e s m args below meth c s₁ B hml hv
  obtain ⟨hargs, hwd⟩ := hv
  have hr := B.returns
  have hlocks := B.notSynchronized
  obtain ⟨C, hw⟩ := CX.of (own := RX12) rfl B hml hwd
  have hx := C.1
  have hb := C.2.1
  have hl := lv_entry ([.ref (ad 63), .int x1, .int x2, .int x3]) (n := 5) (Nat.le_of_ble_eq_true rfl)
  rw [show entryFrame m args 5 = entryFrame m ([.ref (ad 63), .int x1, .int x2, .int x3] : List Value).toArray 5 from by rw [hargs], lg_entry_eq]
  generalize (lg_sl ([.ref (ad 63), .int x1, .int x2, .int x3]) ++ List.replicate (5 - (lg_sl ([.ref (ad 63), .int x1, .int x2, .int x3])).length) Slot.unset).toArray = ls at hl ⊢
  have hl : lv_has ls 5 [(0, .ref (ad 63)), (1, .int x1), (2, .int x2), (3, .int x3)] := hl
  have J_27 : ∀ (x1 : Int32) (x2 : Int32) (x3 : Int32) (t0 : Int32) (S : St) (H : Heap) (locs : List Loc) (ls : Array Slot), fX12_serve_27 fu x1 x2 x3 t0 S = some (S', r) → lv_has ls 5 [(0, .ref (ad 63)), (1, .int x1), (2, .int x2), (3, .int x3)] → WS D cA ad base s S H locs → W p l e rmX12_serve s m args below meth c H locs 0 0 (MQ below (QI D cA ad base S' r) args s 0 0 (aB base)) (F0 m 27 ls [.int t0, .ref (ad 63)]) := by
    intro x1 x2 x3 t0 S H locs ls hf hl hw
    refine lv_iconst (v := (1 : Int32)) hx hb dX12_serve_27 (by decide) ?_
    obtain ⟨S_28, r_28, h_28, hf⟩ := bd_some hf
    refine r_bi hw (r_runV (rest := []) C hw (m_X12_throwsIf l D cA ad base fu h_28) mvX12_throwsIf gw7_189 ⟨rfl, rfl, Nat.le_of_ble_eq_true rfl, Nat.le_of_ble_eq_true rfl⟩ dq_63 ln_63 vc_12 rfl hl.1 rfl (Nat.le_of_ble_eq_true rfl) dX12_serve_28 (Nat.zero_le _) (Nat.zero_le _)) (fun H locs hw => ?_)
    refine lv_if_eq (tgt := 36) hx hb dX12_serve_31 (by decide) (fun c_31 => ?_) (fun c_31 => ?_)
    · have hf := if_t hf c_31
      refine lv_aload_n hx hb dX12_serve_36 rfl (lv_at hl 0 rfl) ?_
      refine r_getR C hw (k := 22) (r := 80) dq_63 ln_63 rfl vc_12 inX12 (by decide) rfl gw6_203 dX12_serve_37 ?_
      refine lv_bipush (v := (12 : Int32)) hx hb dX12_serve_40 (by decide) ?_
      refine lv_iload_n hx hb dX12_serve_42 rfl (lv_at hl 1 rfl) ?_
      refine lv_imul hx hb dX12_serve_43 ?_
      refine lv_iload_n hx hb dX12_serve_44 rfl (lv_at hl 2 rfl) ?_
      refine lv_iadd hx hb dX12_serve_45 ?_
      obtain ⟨z_46, hf⟩ := gd_some hf
      refine r_zald C hw (x := 80) dq_80 ln_80 z_46 dX12_serve_46 ?_
      refine lv_istore (lv' := [(4, .int (S_28.1 80 ((((12 : Int32) * x1) + x2)).toNatClampNeg)), (0, .ref (ad 63)), (1, .int x1), (2, .int x2), (3, .int x3)]) hx hb dX12_serve_47 hl (by decide) rfl (fun ls hl => ?_)
      refine lv_aload_n hx hb dX12_serve_49 rfl (lv_at hl 1 rfl) ?_
      refine r_getR C hw (k := 22) (r := 80) dq_63 ln_63 rfl vc_12 inX12 (by decide) rfl gw6_203 dX12_serve_50 ?_
      refine lv_bipush (v := (12 : Int32)) hx hb dX12_serve_53 (by decide) ?_
      refine lv_iload_n hx hb dX12_serve_55 rfl (lv_at hl 2 rfl) ?_
      refine lv_imul hx hb dX12_serve_56 ?_
      refine lv_iload_n hx hb dX12_serve_57 rfl (lv_at hl 3 rfl) ?_
      refine lv_iadd hx hb dX12_serve_58 ?_
      refine lv_iload_n hx hb dX12_serve_59 rfl (lv_at hl 4 rfl) ?_
      obtain ⟨z_60, hf⟩ := gd_some hf
      obtain ⟨S_60, e_60, hf⟩ := sI_some hf
      refine r_zast C hw (x := 80) dq_80 ln_80 z_60 dX12_serve_60 e_60 (fun H locs hw => ?_)
      refine lv_iload hx hb dX12_serve_61 (lv_at hl 0 rfl) ?_
      refine lv_iload_n hx hb dX12_serve_63 rfl (lv_at hl 4 rfl) ?_
      refine lv_icmp_eq (tgt := 71) hx hb dX12_serve_64 (by decide) (fun c_64 => ?_) (fun c_64 => ?_)
      · have hf := if_t hf c_64
        refine lv_iconst (v := (0 : Int32)) hx hb dX12_serve_71 (by decide) ?_
        exact r_zret C hw hr hlocks rfl hf dX12_serve_72
      · have hf := if_f hf c_64
        refine lv_iconst (v := (1 : Int32)) hx hb dX12_serve_67 (by decide) ?_
        refine lv_goto (tgt := 72) hx hb dX12_serve_68 (by decide) ?_
        exact r_zret C hw hr hlocks rfl hf dX12_serve_72
    · have hf := if_f hf c_31
      refine lv_iconst (v := (0 : Int32)) hx hb dX12_serve_34 (by decide) ?_
      exact r_zret C hw hr hlocks rfl hf dX12_serve_35
  have J_22 : ∀ (x1 : Int32) (x2 : Int32) (x3 : Int32) (S : St) (H : Heap) (locs : List Loc) (ls : Array Slot), fX12_serve_22 fu x1 x2 x3 S = some (S', r) → lv_has ls 5 [(0, .ref (ad 63)), (1, .int x1), (2, .int x2), (3, .int x3)] → WS D cA ad base s S H locs → W p l e rmX12_serve s m args below meth c H locs 0 0 (MQ below (QI D cA ad base S' r) args s 0 0 (aB base)) (F0 m 22 ls [.ref (ad 63)]) := by
    intro x1 x2 x3 S H locs ls hf hl hw
    refine lv_iconst (v := (1 : Int32)) hx hb dX12_serve_22 (by decide) ?_
    refine lv_goto (tgt := 27) hx hb dX12_serve_23 (by decide) ?_
    exact J_27 _ _ _ _ _ _ _ _ hf (lv_sub hl [0, 1, 2, 3] rfl) hw
  show W p l e rmX12_serve s m args below meth c s.heap [] 0 0 _ _
  refine lv_aload_n hx hb dX12_serve_0 rfl (lv_at hl 0 rfl) ?_
  refine lv_iconst (v := (0 : Int32)) hx hb dX12_serve_1 (by decide) ?_
  obtain ⟨S_2, e_2, hf⟩ := sI_some hf
  refine r_putI C hw (k := 0) (ty0 := tyX12) dq_63 ln_63 rfl vc_12 inX12 tyX12_ok nmX12 (by decide) rfl rfl gw6_181 rfl rfl dX12_serve_2 e_2 (fun H locs hw => ?_)
  refine lv_aload_n hx hb dX12_serve_5 rfl (lv_at hl 0 rfl) ?_
  refine lv_aload_n hx hb dX12_serve_6 rfl (lv_at hl 0 rfl) ?_
  refine lv_iload_n hx hb dX12_serve_7 rfl (lv_at hl 1 rfl) ?_
  obtain ⟨S_8, r_8, h_8, hf⟩ := bd_some hf
  refine r_bi hw (r_runV (rest := [.ref (ad 63)]) C hw (m_X12_noServer l D cA ad base fu h_8) mvX12_noServer gw8_28 ⟨rfl, rfl, Nat.le_of_ble_eq_true rfl, Nat.le_of_ble_eq_true rfl⟩ dq_63 ln_63 vc_12 rfl hl.1 rfl (Nat.le_of_ble_eq_true rfl) dX12_serve_8 (Nat.zero_le _) (Nat.zero_le _)) (fun H locs hw => ?_)
  refine lv_if_ne (tgt := 22) hx hb dX12_serve_11 (by decide) (fun c_11 => ?_) (fun c_11 => ?_)
  · have hf := if_f hf c_11
    exact J_22 _ _ _ _ _ _ _ hf (lv_sub hl [0, 1, 2, 3] rfl) hw
  · have hf := if_t hf c_11
    refine lv_aload_n hx hb dX12_serve_14 rfl (lv_at hl 0 rfl) ?_
    refine lv_iload_n hx hb dX12_serve_15 rfl (lv_at hl 2 rfl) ?_
    obtain ⟨S_16, r_16, h_16, hf⟩ := bd_some hf
    refine r_bi hw (r_runV (rest := [.ref (ad 63)]) C hw (m_X12_noZone l D cA ad base fu h_16) mvX12_noZone gw7_237 ⟨rfl, rfl, Nat.le_of_ble_eq_true rfl, Nat.le_of_ble_eq_true rfl⟩ dq_63 ln_63 vc_12 rfl hl.1 rfl (Nat.le_of_ble_eq_true rfl) dX12_serve_16 (Nat.zero_le _) (Nat.zero_le _)) (fun H locs hw => ?_)
    refine lv_if_eq (tgt := 26) hx hb dX12_serve_19 (by decide) (fun c_19 => ?_) (fun c_19 => ?_)
    · have hf := if_t hf c_19
      refine lv_iconst (v := (0 : Int32)) hx hb dX12_serve_26 (by decide) ?_
      exact J_27 _ _ _ _ _ _ _ _ hf (lv_sub hl [0, 1, 2, 3] rfl) hw
    · have hf := if_f hf c_19
      exact J_22 _ _ _ _ _ _ _ hf (lv_sub hl [0, 1, 2, 3] rfl) hw
noncomputable def fX12_hint (fu : Nat) (x1 : Int32) (S : St) : Option (St × Int32) :=
  sI 63 0 (0 : Int32) S fun S_2 =>
  if (S_2.1 63 25) = (4 : Int32) then
    some (S_2, (-1 : Int32))
  else
    gd (ck (S_2.1 63 25) 4) <|
    sI 81 ((S_2.1 63 25)).toNatClampNeg x1 S_2 fun S_24 =>
    sI 63 25 ((S_24.1 63 25) + (1 : Int32)) S_24 fun S_32 =>
    some (S_32, (S_32.1 63 25))
theorem mvX12_hint : MV yX12_hint cX12_hint 2 (some .int) RX12 1 := ⟨gw8_35, gw8_33, gw8_34, gw1_13, by decide +kernel⟩
def rmX12_hint : Room := { frames := 0, cells := 0, slots := 0, locals := 0 }
set_option maxHeartbeats 4000000 in
set_option maxRecDepth 100000 in
theorem m_X12_hint (l : Launch) (D : va_G) (cA : FieldType → ClassId) (ad : Nat → Nat) (base : Nat) (fu : Nat) {S S' : St} {x1 : Int32} {r : Int32} (hf : fX12_hint fu x1 S = some (S', r)) : Met l yX12_hint (GC yX12_hint cX12_hint 2 (some .int)) rmX12_hint (va_Pc [.ref (ad 63), .int x1] (wd D cA ad base S)) (QI D cA ad base S' r) 0 0 (aB base) := by
  refine Met.ofW (cc := cX12_hint) (maxL := 2) (ret := (some .int)) (by decide) rfl ?_
  intro p e s m args below meth c s₁ B hml hv
  obtain ⟨hargs, hwd⟩ := hv
  have hr := B.returns
  have hlocks := B.notSynchronized
  obtain ⟨C, hw⟩ := CX.of (own := RX12) rfl B hml hwd
  have hx := C.1
  have hb := C.2.1
  have hl := lv_entry ([.ref (ad 63), .int x1]) (n := 2) (Nat.le_of_ble_eq_true rfl)
  rw [show entryFrame m args 2 = entryFrame m ([.ref (ad 63), .int x1] : List Value).toArray 2 from by rw [hargs], lg_entry_eq]
  generalize (lg_sl ([.ref (ad 63), .int x1]) ++ List.replicate (2 - (lg_sl ([.ref (ad 63), .int x1])).length) Slot.unset).toArray = ls at hl ⊢
  have hl : lv_has ls 2 [(0, .ref (ad 63)), (1, .int x1)] := hl
  show W p l e rmX12_hint s m args below meth c s.heap [] 0 0 _ _
  refine lv_aload_n hx hb dX12_hint_0 rfl (lv_at hl 0 rfl) ?_
  refine lv_iconst (v := (0 : Int32)) hx hb dX12_hint_1 (by decide) ?_
  obtain ⟨S_2, e_2, hf⟩ := sI_some hf
  refine r_putI C hw (k := 0) (ty0 := tyX12) dq_63 ln_63 rfl vc_12 inX12 tyX12_ok nmX12 (by decide) rfl rfl gw6_181 rfl rfl dX12_hint_2 e_2 (fun H locs hw => ?_)
  refine lv_aload_n hx hb dX12_hint_5 rfl (lv_at hl 0 rfl) ?_
  refine r_getI C hw (k := 25) dq_63 ln_63 rfl vc_12 inX12 (by decide) rfl gw6_206 dX12_hint_6 ?_
  refine lv_iconst (v := (4 : Int32)) hx hb dX12_hint_9 (by decide) ?_
  refine lv_icmp_ne (tgt := 15) hx hb dX12_hint_10 (by decide) (fun c_10 => ?_) (fun c_10 => ?_)
  · have hf := if_f hf c_10
    refine lv_aload_n hx hb dX12_hint_15 rfl (lv_at hl 0 rfl) ?_
    refine r_getR C hw (k := 24) (r := 81) dq_63 ln_63 rfl vc_12 inX12 (by decide) rfl gw6_205 dX12_hint_16 ?_
    refine lv_aload_n hx hb dX12_hint_19 rfl (lv_at hl 0 rfl) ?_
    refine r_getI C hw (k := 25) dq_63 ln_63 rfl vc_12 inX12 (by decide) rfl gw6_206 dX12_hint_20 ?_
    refine lv_iload_n hx hb dX12_hint_23 rfl (lv_at hl 1 rfl) ?_
    obtain ⟨z_24, hf⟩ := gd_some hf
    obtain ⟨S_24, e_24, hf⟩ := sI_some hf
    refine r_iast C hw (x := 81) dq_81 ln_81 z_24 dX12_hint_24 e_24 (fun H locs hw => ?_)
    refine lv_aload_n hx hb dX12_hint_25 rfl (lv_at hl 0 rfl) ?_
    refine lv_dup hx hb dX12_hint_26 rfl ?_
    refine r_getI C hw (k := 25) dq_63 ln_63 rfl vc_12 inX12 (by decide) rfl gw6_206 dX12_hint_27 ?_
    refine lv_iconst (v := (1 : Int32)) hx hb dX12_hint_30 (by decide) ?_
    refine lv_iadd hx hb dX12_hint_31 ?_
    obtain ⟨S_32, e_32, hf⟩ := sI_some hf
    refine r_putI C hw (k := 25) (ty0 := tyX12) dq_63 ln_63 rfl vc_12 inX12 tyX12_ok nmX12 (by decide) rfl rfl gw6_206 rfl rfl dX12_hint_32 e_32 (fun H locs hw => ?_)
    refine lv_aload_n hx hb dX12_hint_35 rfl (lv_at hl 0 rfl) ?_
    refine r_getI C hw (k := 25) dq_63 ln_63 rfl vc_12 inX12 (by decide) rfl gw6_206 dX12_hint_36 ?_
    exact r_iret C hw hr hlocks hf dX12_hint_39
  · have hf := if_t hf c_10
    refine lv_iconst (v := (-1 : Int32)) hx hb dX12_hint_13 (by decide) ?_
    exact r_iret C hw hr hlocks hf dX12_hint_14
noncomputable def fX12_put_21 (fu : Nat) (S : St) : Option (St × Int32) :=
  sI 63 27 ((S.1 63 27) + (1 : Int32)) S fun S_28 =>
  some (S_28, (0 : Int32))
noncomputable def fX12_put (fu : Nat) (x1 : Int32) (S : St) : Option (St × Int32) :=
  if (1000 : Int32) ≤ (S.1 63 27) then
    fX12_put_21 fu S
  else
    gd (ck (S.1 63 27) 1000) <|
    sI 82 ((S.1 63 27)).toNatClampNeg (vp_nar .byte (x1).toInt8.toInt32) S fun S_20 =>
    fX12_put_21 fu S_20
theorem mvX12_put : MV yX12_put cX12_put 2 none RX12 1 := ⟨gw8_75, gw8_74, gs_63, gw1_13, by decide +kernel⟩
def rmX12_put : Room := { frames := 0, cells := 0, slots := 0, locals := 0 }
set_option maxHeartbeats 4000000 in
set_option maxRecDepth 100000 in
theorem m_X12_put (l : Launch) (D : va_G) (cA : FieldType → ClassId) (ad : Nat → Nat) (base : Nat) (fu : Nat) {S S' : St} {x1 : Int32} {r : Int32} (hf : fX12_put fu x1 S = some (S', r)) : Met l yX12_put (GC yX12_put cX12_put 2 none) rmX12_put (va_Pc [.ref (ad 63), .int x1] (wd D cA ad base S)) (QV D cA ad base S') 0 0 (aB base) := by
  refine Met.ofW (cc := cX12_put) (maxL := 2) (ret := none) (by decide) rfl ?_
  intro p e s m args below meth c s₁ B hml hv
  obtain ⟨hargs, hwd⟩ := hv
  have hr := B.returns
  have hlocks := B.notSynchronized
  obtain ⟨C, hw⟩ := CX.of (own := RX12) rfl B hml hwd
  have hx := C.1
  have hb := C.2.1
  have hl := lv_entry ([.ref (ad 63), .int x1]) (n := 2) (Nat.le_of_ble_eq_true rfl)
  rw [show entryFrame m args 2 = entryFrame m ([.ref (ad 63), .int x1] : List Value).toArray 2 from by rw [hargs], lg_entry_eq]
  generalize (lg_sl ([.ref (ad 63), .int x1]) ++ List.replicate (2 - (lg_sl ([.ref (ad 63), .int x1])).length) Slot.unset).toArray = ls at hl ⊢
  have hl : lv_has ls 2 [(0, .ref (ad 63)), (1, .int x1)] := hl
  have J_21 : ∀ (S : St) (H : Heap) (locs : List Loc) (ls : Array Slot), fX12_put_21 fu S = some (S', r) → lv_has ls 2 [(0, .ref (ad 63))] → WS D cA ad base s S H locs → W p l e rmX12_put s m args below meth c H locs 0 0 (MQ below (QV D cA ad base S') args s 0 0 (aB base)) (F0 m 21 ls []) := by
    intro  S H locs ls hf hl hw
    refine lv_aload_n hx hb dX12_put_21 rfl (lv_at hl 0 rfl) ?_
    refine lv_dup hx hb dX12_put_22 rfl ?_
    refine r_getI C hw (k := 27) dq_63 ln_63 rfl vc_12 inX12 (by decide) rfl gw6_208 dX12_put_23 ?_
    refine lv_iconst (v := (1 : Int32)) hx hb dX12_put_26 (by decide) ?_
    refine lv_iadd hx hb dX12_put_27 ?_
    obtain ⟨S_28, e_28, hf⟩ := sI_some hf
    refine r_putI C hw (k := 27) (ty0 := tyX12) dq_63 ln_63 rfl vc_12 inX12 tyX12_ok nmX12 (by decide) rfl rfl gw6_208 rfl rfl dX12_put_28 e_28 (fun H locs hw => ?_)
    exact r_vret C hw hr hlocks hf dX12_put_31
  show W p l e rmX12_put s m args below meth c s.heap [] 0 0 _ _
  refine lv_aload_n hx hb dX12_put_0 rfl (lv_at hl 0 rfl) ?_
  refine r_getI C hw (k := 27) dq_63 ln_63 rfl vc_12 inX12 (by decide) rfl gw6_208 dX12_put_1 ?_
  refine lv_sipush (v := (1000 : Int32)) hx hb dX12_put_4 (by decide) ?_
  refine lv_icmp_ge (tgt := 21) hx hb dX12_put_7 (by decide) (fun c_7 => ?_) (fun c_7 => ?_)
  · have hf := if_t hf c_7
    exact J_21 _ _ _ _ hf (lv_sub hl [0] rfl) hw
  · have hf := if_f hf c_7
    refine lv_aload_n hx hb dX12_put_10 rfl (lv_at hl 0 rfl) ?_
    refine r_getR C hw (k := 26) (r := 82) dq_63 ln_63 rfl vc_12 inX12 (by decide) rfl gw6_207 dX12_put_11 ?_
    refine lv_aload_n hx hb dX12_put_14 rfl (lv_at hl 0 rfl) ?_
    refine r_getI C hw (k := 27) dq_63 ln_63 rfl vc_12 inX12 (by decide) rfl gw6_208 dX12_put_15 ?_
    refine lv_iload_n hx hb dX12_put_18 rfl (lv_at hl 1 rfl) ?_
    refine lv_i2b hx hb dX12_put_19 rfl ?_
    obtain ⟨z_20, hf⟩ := gd_some hf
    obtain ⟨S_20, e_20, hf⟩ := sI_some hf
    refine r_bast C hw (x := 82) dq_82 ln_82 z_20 dX12_put_20 e_20 (fun H locs hw => ?_)
    exact J_21 _ _ _ _ hf (lv_sub hl [0] rfl) hw
noncomputable def fX12_put2 (fu : Nat) (x1 : Int32) (S : St) : Option (St × Int32) :=
  bd (fX12_put fu (x1 >>> ((8 : Int32) &&& 31)) S) fun S_5 _ =>
  bd (fX12_put fu x1 S_5) fun S_10 _ =>
  some (S_10, (0 : Int32))
theorem mvX12_put2 : MV yX12_put2 cX12_put2 2 none RX12 1 := ⟨gw8_71, gw8_70, gs_62, gw1_13, by decide +kernel⟩
def rmX12_put2 : Room := { frames := 1, cells := 0, slots := 0, locals := 21 }
set_option maxHeartbeats 4000000 in
set_option maxRecDepth 100000 in
theorem m_X12_put2 (l : Launch) (D : va_G) (cA : FieldType → ClassId) (ad : Nat → Nat) (base : Nat) (fu : Nat) {S S' : St} {x1 : Int32} {r : Int32} (hf : fX12_put2 fu x1 S = some (S', r)) : Met l yX12_put2 (GC yX12_put2 cX12_put2 2 none) rmX12_put2 (va_Pc [.ref (ad 63), .int x1] (wd D cA ad base S)) (QV D cA ad base S') 0 0 (aB base) := by
  refine Met.ofW (cc := cX12_put2) (maxL := 2) (ret := none) (by decide) rfl ?_
  intro p e s m args below meth c s₁ B hml hv
  obtain ⟨hargs, hwd⟩ := hv
  have hr := B.returns
  have hlocks := B.notSynchronized
  obtain ⟨C, hw⟩ := CX.of (own := RX12) rfl B hml hwd
  have hx := C.1
  have hb := C.2.1
  have hl := lv_entry ([.ref (ad 63), .int x1]) (n := 2) (Nat.le_of_ble_eq_true rfl)
  rw [show entryFrame m args 2 = entryFrame m ([.ref (ad 63), .int x1] : List Value).toArray 2 from by rw [hargs], lg_entry_eq]
  generalize (lg_sl ([.ref (ad 63), .int x1]) ++ List.replicate (2 - (lg_sl ([.ref (ad 63), .int x1])).length) Slot.unset).toArray = ls at hl ⊢
  have hl : lv_has ls 2 [(0, .ref (ad 63)), (1, .int x1)] := hl
  show W p l e rmX12_put2 s m args below meth c s.heap [] 0 0 _ _
  refine lv_aload_n hx hb dX12_put2_0 rfl (lv_at hl 0 rfl) ?_
  refine lv_iload_n hx hb dX12_put2_1 rfl (lv_at hl 1 rfl) ?_
  refine lv_bipush (v := (8 : Int32)) hx hb dX12_put2_2 (by decide) ?_
  refine lv_ishr hx hb dX12_put2_4 ?_
  obtain ⟨S_5, r_5, h_5, hf⟩ := bd_some hf
  refine r_bv hw (r_runV (rest := []) C hw (m_X12_put l D cA ad base fu h_5) mvX12_put gw8_72 ⟨rfl, rfl, Nat.le_of_ble_eq_true rfl, Nat.le_of_ble_eq_true rfl⟩ dq_63 ln_63 vc_12 rfl hl.1 rfl (Nat.le_of_ble_eq_true rfl) dX12_put2_5 (Nat.zero_le _) (Nat.zero_le _)) (fun H locs hw => ?_)
  refine lv_aload_n hx hb dX12_put2_8 rfl (lv_at hl 0 rfl) ?_
  refine lv_iload_n hx hb dX12_put2_9 rfl (lv_at hl 1 rfl) ?_
  obtain ⟨S_10, r_10, h_10, hf⟩ := bd_some hf
  refine r_bv hw (r_runV (rest := []) C hw (m_X12_put l D cA ad base fu h_10) mvX12_put gw8_72 ⟨rfl, rfl, Nat.le_of_ble_eq_true rfl, Nat.le_of_ble_eq_true rfl⟩ dq_63 ln_63 vc_12 rfl hl.1 rfl (Nat.le_of_ble_eq_true rfl) dX12_put2_10 (Nat.zero_le _) (Nat.zero_le _)) (fun H locs hw => ?_)
  exact r_vret C hw hr hlocks hf dX12_put2_13
noncomputable def fX12_put4 (fu : Nat) (x1 : Int32) (S : St) : Option (St × Int32) :=
  bd (fX12_put2 fu (x1 >>> ((16 : Int32) &&& 31)) S) fun S_5 _ =>
  bd (fX12_put2 fu x1 S_5) fun S_10 _ =>
  some (S_10, (0 : Int32))
theorem mvX12_put4 : MV yX12_put4 cX12_put4 2 none RX12 1 := ⟨gw8_97, gw8_96, gs_68, gw1_13, by decide +kernel⟩
def rmX12_put4 : Room := { frames := 2, cells := 0, slots := 0, locals := 42 }
set_option maxHeartbeats 4000000 in
set_option maxRecDepth 100000 in
theorem m_X12_put4 (l : Launch) (D : va_G) (cA : FieldType → ClassId) (ad : Nat → Nat) (base : Nat) (fu : Nat) {S S' : St} {x1 : Int32} {r : Int32} (hf : fX12_put4 fu x1 S = some (S', r)) : Met l yX12_put4 (GC yX12_put4 cX12_put4 2 none) rmX12_put4 (va_Pc [.ref (ad 63), .int x1] (wd D cA ad base S)) (QV D cA ad base S') 0 0 (aB base) := by
  refine Met.ofW (cc := cX12_put4) (maxL := 2) (ret := none) (by decide) rfl ?_
  intro p e s m args below meth c s₁ B hml hv
  obtain ⟨hargs, hwd⟩ := hv
  have hr := B.returns
  have hlocks := B.notSynchronized
  obtain ⟨C, hw⟩ := CX.of (own := RX12) rfl B hml hwd
  have hx := C.1
  have hb := C.2.1
  have hl := lv_entry ([.ref (ad 63), .int x1]) (n := 2) (Nat.le_of_ble_eq_true rfl)
  rw [show entryFrame m args 2 = entryFrame m ([.ref (ad 63), .int x1] : List Value).toArray 2 from by rw [hargs], lg_entry_eq]
  generalize (lg_sl ([.ref (ad 63), .int x1]) ++ List.replicate (2 - (lg_sl ([.ref (ad 63), .int x1])).length) Slot.unset).toArray = ls at hl ⊢
  have hl : lv_has ls 2 [(0, .ref (ad 63)), (1, .int x1)] := hl
  show W p l e rmX12_put4 s m args below meth c s.heap [] 0 0 _ _
  refine lv_aload_n hx hb dX12_put4_0 rfl (lv_at hl 0 rfl) ?_
  refine lv_iload_n hx hb dX12_put4_1 rfl (lv_at hl 1 rfl) ?_
  refine lv_bipush (v := (16 : Int32)) hx hb dX12_put4_2 (by decide) ?_
  refine lv_ishr hx hb dX12_put4_4 ?_
  obtain ⟨S_5, r_5, h_5, hf⟩ := bd_some hf
  refine r_bv hw (r_runV (rest := []) C hw (m_X12_put2 l D cA ad base fu h_5) mvX12_put2 gw8_68 ⟨rfl, rfl, Nat.le_of_ble_eq_true rfl, Nat.le_of_ble_eq_true rfl⟩ dq_63 ln_63 vc_12 rfl hl.1 rfl (Nat.le_of_ble_eq_true rfl) dX12_put4_5 (Nat.zero_le _) (Nat.zero_le _)) (fun H locs hw => ?_)
  refine lv_aload_n hx hb dX12_put4_8 rfl (lv_at hl 0 rfl) ?_
  refine lv_iload_n hx hb dX12_put4_9 rfl (lv_at hl 1 rfl) ?_
  obtain ⟨S_10, r_10, h_10, hf⟩ := bd_some hf
  refine r_bv hw (r_runV (rest := []) C hw (m_X12_put2 l D cA ad base fu h_10) mvX12_put2 gw8_68 ⟨rfl, rfl, Nat.le_of_ble_eq_true rfl, Nat.le_of_ble_eq_true rfl⟩ dq_63 ln_63 vc_12 rfl hl.1 rfl (Nat.le_of_ble_eq_true rfl) dX12_put4_10 (Nat.zero_le _) (Nat.zero_le _)) (fun H locs hw => ?_)
  exact r_vret C hw hr hlocks hf dX12_put4_13
noncomputable def fX12_putName_79 (fu : Nat) (x2 : Int32) (S : St) : Option (St × Int32) :=
  if x2 = 0 then
    bd (fX12_put fu (0 : Int32) S) fun S_85 _ =>
    some (S_85, (0 : Int32))
  else
    gd (ck x2 300) <|
    bd (fX12_put2 fu ((49152 : Int32) ||| (S.1 83 (x2).toNatClampNeg)) S) fun S_101 _ =>
    some (S_101, (0 : Int32))
noncomputable def fX12_putName_38 (fu : Nat) (k_2 : Int32 → St → Option (St × Int32)) (n : Nat) : Int32 → Int32 → St → Option (St × Int32) :=
  Nat.rec (motive := fun _ => Int32 → Int32 → St → Option (St × Int32)) (fun _ _ _ => none) (fun _ k_38 x2 x3 S =>
    gd (ck x2 300) <|
    if (S.1 66 (x2).toNatClampNeg) ≤ x3 then
      gd (ck x2 300) <|
      k_2 (S.1 64 (x2).toNatClampNeg) S
    else
      gd (ck (((10 : Int32) * x2) + x3) 3000) <|
      bd (fX12_put fu (S.1 65 ((((10 : Int32) * x2) + x3)).toNatClampNeg) S) fun S_60 _ =>
      k_38 x2 (x3 + (1 : Int32)) S_60) n
theorem fX12_putName_38_s (fu : Nat) (k_2 : Int32 → St → Option (St × Int32)) (n : Nat) (x2 : Int32) (x3 : Int32) (S : St) : fX12_putName_38 fu k_2 (n + 1) x2 x3 S = (
    gd (ck x2 300) <|
    if (S.1 66 (x2).toNatClampNeg) ≤ x3 then
      gd (ck x2 300) <|
      k_2 (S.1 64 (x2).toNatClampNeg) S
    else
      gd (ck (((10 : Int32) * x2) + x3) 3000) <|
      bd (fX12_put fu (S.1 65 ((((10 : Int32) * x2) + x3)).toNatClampNeg) S) fun S_60 _ =>
      (fX12_putName_38 fu k_2 n) x2 (x3 + (1 : Int32)) S_60) := rfl
noncomputable def fX12_putName_2 (fu : Nat) (n : Nat) : Int32 → St → Option (St × Int32) :=
  Nat.rec (motive := fun _ => Int32 → St → Option (St × Int32)) (fun _ _ => none) (fun _ k_2 x2 S =>
    if x2 ≤ 0 then
      fX12_putName_79 fu x2 S
    else
      gd (ck x2 300) <|
      if (S.1 83 (x2).toNatClampNeg) = (-1 : Int32) then
        gd (ck x2 300) <|
        sI 83 (x2).toNatClampNeg (S.1 63 27) S fun S_25 =>
        gd (ck x2 300) <|
        bd (fX12_put fu (S_25.1 66 (x2).toNatClampNeg) S_25) fun S_33 _ =>
        fX12_putName_38 fu k_2 fu x2 (0 : Int32) S_33
      else
        fX12_putName_79 fu x2 S) n
theorem fX12_putName_2_s (fu : Nat) (n : Nat) (x2 : Int32) (S : St) : fX12_putName_2 fu (n + 1) x2 S = (
    if x2 ≤ 0 then
      fX12_putName_79 fu x2 S
    else
      gd (ck x2 300) <|
      if (S.1 83 (x2).toNatClampNeg) = (-1 : Int32) then
        gd (ck x2 300) <|
        sI 83 (x2).toNatClampNeg (S.1 63 27) S fun S_25 =>
        gd (ck x2 300) <|
        bd (fX12_put fu (S_25.1 66 (x2).toNatClampNeg) S_25) fun S_33 _ =>
        fX12_putName_38 fu (fX12_putName_2 fu n) fu x2 (0 : Int32) S_33
      else
        fX12_putName_79 fu x2 S) := rfl
noncomputable def fX12_putName (fu : Nat) (x1 : Int32) (S : St) : Option (St × Int32) :=
  fX12_putName_2 fu fu x1 S
theorem mvX12_putName : MV yX12_putName cX12_putName 4 none RX12 1 := ⟨gw8_80, gw8_79, gs_64, gw1_13, by decide +kernel⟩
def rmX12_putName : Room := { frames := 2, cells := 0, slots := 0, locals := 42 }
set_option maxHeartbeats 4000000 in
set_option maxRecDepth 100000 in
theorem m_X12_putName (l : Launch) (D : va_G) (cA : FieldType → ClassId) (ad : Nat → Nat) (base : Nat) (fu : Nat) {S S' : St} {x1 : Int32} {r : Int32} (hf : fX12_putName fu x1 S = some (S', r)) : Met l yX12_putName (GC yX12_putName cX12_putName 4 none) rmX12_putName (va_Pc [.ref (ad 63), .int x1] (wd D cA ad base S)) (QV D cA ad base S') 0 0 (aB base) := by
  refine Met.ofW (cc := cX12_putName) (maxL := 4) (ret := none) (by decide) rfl ?_
  intro p e s m args below meth c s₁ B hml hv
  obtain ⟨hargs, hwd⟩ := hv
  have hr := B.returns
  have hlocks := B.notSynchronized
  obtain ⟨C, hw⟩ := CX.of (own := RX12) rfl B hml hwd
  have hx := C.1
  have hb := C.2.1
  have hl := lv_entry ([.ref (ad 63), .int x1]) (n := 4) (Nat.le_of_ble_eq_true rfl)
  rw [show entryFrame m args 4 = entryFrame m ([.ref (ad 63), .int x1] : List Value).toArray 4 from by rw [hargs], lg_entry_eq]
  generalize (lg_sl ([.ref (ad 63), .int x1]) ++ List.replicate (4 - (lg_sl ([.ref (ad 63), .int x1])).length) Slot.unset).toArray = ls at hl ⊢
  have hl : lv_has ls 4 [(0, .ref (ad 63)), (1, .int x1)] := hl
  have J_79 : ∀ (x2 : Int32) (S : St) (H : Heap) (locs : List Loc) (ls : Array Slot), fX12_putName_79 fu x2 S = some (S', r) → lv_has ls 4 [(0, .ref (ad 63)), (2, .int x2)] → WS D cA ad base s S H locs → W p l e rmX12_putName s m args below meth c H locs 0 0 (MQ below (QV D cA ad base S') args s 0 0 (aB base)) (F0 m 79 ls []) := by
    intro x2 S H locs ls hf hl hw
    refine lv_iload_n hx hb dX12_putName_79 rfl (lv_at hl 1 rfl) ?_
    refine lv_if_ne (tgt := 91) hx hb dX12_putName_80 (by decide) (fun c_80 => ?_) (fun c_80 => ?_)
    · have hf := if_f hf c_80
      refine lv_aload_n hx hb dX12_putName_91 rfl (lv_at hl 0 rfl) ?_
      refine lv_ldc hx hb C.2.2.2.1 (C.2.2.2.2.1 _ (gw_of gw8_81 rfl)) dX12_putName_92 ?_
      refine lv_aload_n hx hb dX12_putName_94 rfl (lv_at hl 0 rfl) ?_
      refine r_getR C hw (k := 28) (r := 83) dq_63 ln_63 rfl vc_12 inX12 (by decide) rfl gw6_209 dX12_putName_95 ?_
      refine lv_iload_n hx hb dX12_putName_98 rfl (lv_at hl 1 rfl) ?_
      obtain ⟨z_99, hf⟩ := gd_some hf
      refine r_iald C hw (x := 83) dq_83 ln_83 z_99 dX12_putName_99 ?_
      refine lv_ior hx hb dX12_putName_100 ?_
      obtain ⟨S_101, r_101, h_101, hf⟩ := bd_some hf
      refine r_bv hw (r_runV (rest := []) C hw (m_X12_put2 l D cA ad base fu h_101) mvX12_put2 gw8_68 ⟨rfl, rfl, Nat.le_of_ble_eq_true rfl, Nat.le_of_ble_eq_true rfl⟩ dq_63 ln_63 vc_12 rfl hl.1 rfl (Nat.le_of_ble_eq_true rfl) dX12_putName_101 (Nat.zero_le _) (Nat.zero_le _)) (fun H locs hw => ?_)
      exact r_vret C hw hr hlocks hf dX12_putName_104
    · have hf := if_t hf c_80
      refine lv_aload_n hx hb dX12_putName_83 rfl (lv_at hl 0 rfl) ?_
      refine lv_iconst (v := (0 : Int32)) hx hb dX12_putName_84 (by decide) ?_
      obtain ⟨S_85, r_85, h_85, hf⟩ := bd_some hf
      refine r_bv hw (r_runV (rest := []) C hw (m_X12_put l D cA ad base fu h_85) mvX12_put gw8_72 ⟨rfl, rfl, Nat.le_of_ble_eq_true rfl, Nat.le_of_ble_eq_true rfl⟩ dq_63 ln_63 vc_12 rfl hl.1 rfl (Nat.le_of_ble_eq_true rfl) dX12_putName_85 (Nat.zero_le _) (Nat.zero_le _)) (fun H locs hw => ?_)
      refine lv_goto (tgt := 104) hx hb dX12_putName_88 (by decide) ?_
      exact r_vret C hw hr hlocks hf dX12_putName_104
  have L_2 : ∀ (n_2 : Nat) (x2 : Int32) (S : St) (H : Heap) (locs : List Loc) (ls : Array Slot), fX12_putName_2 fu n_2 x2 S = some (S', r) → lv_has ls 4 [(0, .ref (ad 63)), (2, .int x2)] → WS D cA ad base s S H locs → W p l e rmX12_putName s m args below meth c H locs 0 0 (MQ below (QV D cA ad base S') args s 0 0 (aB base)) (F0 m 2 ls []) := by
    intro n_2
    induction n_2 with
    | zero =>
      intro x2 S H locs ls hf hl hw
      exact (no_none hf).elim
    | succ n_2 ih_2 =>
      have L_38 : ∀ (n_38 : Nat) (x2 : Int32) (x3 : Int32) (S : St) (H : Heap) (locs : List Loc) (ls : Array Slot), fX12_putName_38 fu (fX12_putName_2 fu n_2) n_38 x2 x3 S = some (S', r) → lv_has ls 4 [(0, .ref (ad 63)), (2, .int x2), (3, .int x3)] → WS D cA ad base s S H locs → W p l e rmX12_putName s m args below meth c H locs 0 0 (MQ below (QV D cA ad base S') args s 0 0 (aB base)) (F0 m 38 ls []) := by
        intro n_38
        induction n_38 with
        | zero =>
          intro x2 x3 S H locs ls hf hl hw
          exact (no_none hf).elim
        | succ n_38 ih_38 =>
          intro x2 x3 S H locs ls hf hl hw
          rw [fX12_putName_38_s] at hf
          refine lv_iload_n hx hb dX12_putName_38 rfl (lv_at hl 2 rfl) ?_
          refine lv_aload_n hx hb dX12_putName_39 rfl (lv_at hl 0 rfl) ?_
          refine r_getR C hw (k := 3) (r := 66) dq_63 ln_63 rfl vc_12 inX12 (by decide) rfl gw6_184 dX12_putName_40 ?_
          refine lv_iload_n hx hb dX12_putName_43 rfl (lv_at hl 1 rfl) ?_
          obtain ⟨z_44, hf⟩ := gd_some hf
          refine r_iald C hw (x := 66) dq_66 ln_66 z_44 dX12_putName_44 ?_
          refine lv_icmp_ge (tgt := 69) hx hb dX12_putName_45 (by decide) (fun c_45 => ?_) (fun c_45 => ?_)
          · have hf := if_t hf c_45
            refine lv_aload_n hx hb dX12_putName_69 rfl (lv_at hl 0 rfl) ?_
            refine r_getR C hw (k := 1) (r := 64) dq_63 ln_63 rfl vc_12 inX12 (by decide) rfl gw6_182 dX12_putName_70 ?_
            refine lv_iload_n hx hb dX12_putName_73 rfl (lv_at hl 1 rfl) ?_
            obtain ⟨z_74, hf⟩ := gd_some hf
            refine r_iald C hw (x := 64) dq_64 ln_64 z_74 dX12_putName_74 ?_
            refine lv_istore_n (lv' := [(2, .int (S.1 64 (x2).toNatClampNeg)), (0, .ref (ad 63)), (3, .int x3)]) hx hb dX12_putName_75 rfl hl (by decide) rfl (fun ls hl => ?_)
            refine lv_goto (tgt := 2) hx hb dX12_putName_76 (by decide) ?_
            exact ih_2 _ _ _ _ _ hf (lv_sub hl [1, 0] rfl) hw
          · have hf := if_f hf c_45
            refine lv_aload_n hx hb dX12_putName_48 rfl (lv_at hl 0 rfl) ?_
            refine lv_aload_n hx hb dX12_putName_49 rfl (lv_at hl 0 rfl) ?_
            refine r_getR C hw (k := 2) (r := 65) dq_63 ln_63 rfl vc_12 inX12 (by decide) rfl gw6_183 dX12_putName_50 ?_
            refine lv_bipush (v := (10 : Int32)) hx hb dX12_putName_53 (by decide) ?_
            refine lv_iload_n hx hb dX12_putName_55 rfl (lv_at hl 1 rfl) ?_
            refine lv_imul hx hb dX12_putName_56 ?_
            refine lv_iload_n hx hb dX12_putName_57 rfl (lv_at hl 2 rfl) ?_
            refine lv_iadd hx hb dX12_putName_58 ?_
            obtain ⟨z_59, hf⟩ := gd_some hf
            refine r_bald C hw (x := 65) dq_65 ln_65 z_59 dX12_putName_59 ?_
            obtain ⟨S_60, r_60, h_60, hf⟩ := bd_some hf
            refine r_bv hw (r_runV (rest := []) C hw (m_X12_put l D cA ad base fu h_60) mvX12_put gw8_72 ⟨rfl, rfl, Nat.le_of_ble_eq_true rfl, Nat.le_of_ble_eq_true rfl⟩ dq_63 ln_63 vc_12 rfl hl.1 rfl (Nat.le_of_ble_eq_true rfl) dX12_putName_60 (Nat.zero_le _) (Nat.zero_le _)) (fun H locs hw => ?_)
            refine lv_iinc (v := (x3 + (1 : Int32))) (lv' := [(3, .int (x3 + (1 : Int32))), (0, .ref (ad 63)), (2, .int x2)]) hx hb dX12_putName_63 hl (k := 2) rfl rfl (by decide) rfl (fun ls hl => ?_)
            refine lv_goto (tgt := 38) hx hb dX12_putName_66 (by decide) ?_
            exact ih_38 _ _ _ _ _ _ hf (lv_sub hl [1, 2, 0] rfl) hw
      intro x2 S H locs ls hf hl hw
      rw [fX12_putName_2_s] at hf
      refine lv_iload_n hx hb dX12_putName_2 rfl (lv_at hl 1 rfl) ?_
      refine lv_if_le (tgt := 79) hx hb dX12_putName_3 (by decide) (fun c_3 => ?_) (fun c_3 => ?_)
      · have hf := if_t hf c_3
        exact J_79 _ _ _ _ _ hf (lv_sub hl [0, 1] rfl) hw
      · have hf := if_f hf c_3
        refine lv_aload_n hx hb dX12_putName_6 rfl (lv_at hl 0 rfl) ?_
        refine r_getR C hw (k := 28) (r := 83) dq_63 ln_63 rfl vc_12 inX12 (by decide) rfl gw6_209 dX12_putName_7 ?_
        refine lv_iload_n hx hb dX12_putName_10 rfl (lv_at hl 1 rfl) ?_
        obtain ⟨z_11, hf⟩ := gd_some hf
        refine r_iald C hw (x := 83) dq_83 ln_83 z_11 dX12_putName_11 ?_
        refine lv_iconst (v := (-1 : Int32)) hx hb dX12_putName_12 (by decide) ?_
        refine lv_icmp_ne (tgt := 79) hx hb dX12_putName_13 (by decide) (fun c_13 => ?_) (fun c_13 => ?_)
        · have hf := if_f hf c_13
          exact J_79 _ _ _ _ _ hf (lv_sub hl [0, 1] rfl) hw
        · have hf := if_t hf c_13
          refine lv_aload_n hx hb dX12_putName_16 rfl (lv_at hl 0 rfl) ?_
          refine r_getR C hw (k := 28) (r := 83) dq_63 ln_63 rfl vc_12 inX12 (by decide) rfl gw6_209 dX12_putName_17 ?_
          refine lv_iload_n hx hb dX12_putName_20 rfl (lv_at hl 1 rfl) ?_
          refine lv_aload_n hx hb dX12_putName_21 rfl (lv_at hl 0 rfl) ?_
          refine r_getI C hw (k := 27) dq_63 ln_63 rfl vc_12 inX12 (by decide) rfl gw6_208 dX12_putName_22 ?_
          obtain ⟨z_25, hf⟩ := gd_some hf
          obtain ⟨S_25, e_25, hf⟩ := sI_some hf
          refine r_iast C hw (x := 83) dq_83 ln_83 z_25 dX12_putName_25 e_25 (fun H locs hw => ?_)
          refine lv_aload_n hx hb dX12_putName_26 rfl (lv_at hl 0 rfl) ?_
          refine lv_aload_n hx hb dX12_putName_27 rfl (lv_at hl 0 rfl) ?_
          refine r_getR C hw (k := 3) (r := 66) dq_63 ln_63 rfl vc_12 inX12 (by decide) rfl gw6_184 dX12_putName_28 ?_
          refine lv_iload_n hx hb dX12_putName_31 rfl (lv_at hl 1 rfl) ?_
          obtain ⟨z_32, hf⟩ := gd_some hf
          refine r_iald C hw (x := 66) dq_66 ln_66 z_32 dX12_putName_32 ?_
          obtain ⟨S_33, r_33, h_33, hf⟩ := bd_some hf
          refine r_bv hw (r_runV (rest := []) C hw (m_X12_put l D cA ad base fu h_33) mvX12_put gw8_72 ⟨rfl, rfl, Nat.le_of_ble_eq_true rfl, Nat.le_of_ble_eq_true rfl⟩ dq_63 ln_63 vc_12 rfl hl.1 rfl (Nat.le_of_ble_eq_true rfl) dX12_putName_33 (Nat.zero_le _) (Nat.zero_le _)) (fun H locs hw => ?_)
          refine lv_iconst (v := (0 : Int32)) hx hb dX12_putName_36 (by decide) ?_
          refine lv_istore_n (lv' := [(3, .int (0 : Int32)), (0, .ref (ad 63)), (2, .int x2)]) hx hb dX12_putName_37 rfl hl (by decide) rfl (fun ls hl => ?_)
          exact L_38 fu _ _ _ _ _ _ hf (lv_sub hl [1, 2, 0] rfl) hw
  show W p l e rmX12_putName s m args below meth c s.heap [] 0 0 _ _
  refine lv_iload_n hx hb dX12_putName_0 rfl (lv_at hl 1 rfl) ?_
  refine lv_istore_n (lv' := [(2, .int x1), (0, .ref (ad 63)), (1, .int x1)]) hx hb dX12_putName_1 rfl hl (by decide) rfl (fun ls hl => ?_)
  exact L_2 fu _ _ _ _ _ hf (lv_sub hl [1, 0] rfl) hw
noncomputable def fX12_putHead (fu : Nat) (x1 : Int32) (x2 : Int32) (x3 : Int32) (S : St) : Option (St × Int32) :=
  bd (fX12_putName fu x1 S) fun S_2 _ =>
  bd (fX12_put2 fu x2 S_2) fun S_7 _ =>
  bd (fX12_put2 fu (1 : Int32) S_7) fun S_12 _ =>
  bd (fX12_put4 fu x3 S_12) fun S_17 _ =>
  some (S_17, (0 : Int32))
theorem mvX12_putHead : MV yX12_putHead cX12_putHead 4 none RX12 3 := ⟨gw8_93, gw8_92, gs_67, gw1_13, by decide +kernel⟩
def rmX12_putHead : Room := { frames := 3, cells := 0, slots := 0, locals := 65 }
set_option maxHeartbeats 4000000 in
set_option maxRecDepth 100000 in
theorem m_X12_putHead (l : Launch) (D : va_G) (cA : FieldType → ClassId) (ad : Nat → Nat) (base : Nat) (fu : Nat) {S S' : St} {x1 : Int32} {x2 : Int32} {x3 : Int32} {r : Int32} (hf : fX12_putHead fu x1 x2 x3 S = some (S', r)) : Met l yX12_putHead (GC yX12_putHead cX12_putHead 4 none) rmX12_putHead (va_Pc [.ref (ad 63), .int x1, .int x2, .int x3] (wd D cA ad base S)) (QV D cA ad base S') 0 0 (aB base) := by
  refine Met.ofW (cc := cX12_putHead) (maxL := 4) (ret := none) (by decide) rfl ?_
  intro p e s m args below meth c s₁ B hml hv
  obtain ⟨hargs, hwd⟩ := hv
  have hr := B.returns
  have hlocks := B.notSynchronized
  obtain ⟨C, hw⟩ := CX.of (own := RX12) rfl B hml hwd
  have hx := C.1
  have hb := C.2.1
  have hl := lv_entry ([.ref (ad 63), .int x1, .int x2, .int x3]) (n := 4) (Nat.le_of_ble_eq_true rfl)
  rw [show entryFrame m args 4 = entryFrame m ([.ref (ad 63), .int x1, .int x2, .int x3] : List Value).toArray 4 from by rw [hargs], lg_entry_eq]
  generalize (lg_sl ([.ref (ad 63), .int x1, .int x2, .int x3]) ++ List.replicate (4 - (lg_sl ([.ref (ad 63), .int x1, .int x2, .int x3])).length) Slot.unset).toArray = ls at hl ⊢
  have hl : lv_has ls 4 [(0, .ref (ad 63)), (1, .int x1), (2, .int x2), (3, .int x3)] := hl
  show W p l e rmX12_putHead s m args below meth c s.heap [] 0 0 _ _
  refine lv_aload_n hx hb dX12_putHead_0 rfl (lv_at hl 0 rfl) ?_
  refine lv_iload_n hx hb dX12_putHead_1 rfl (lv_at hl 1 rfl) ?_
  obtain ⟨S_2, r_2, h_2, hf⟩ := bd_some hf
  refine r_bv hw (r_runV (rest := []) C hw (m_X12_putName l D cA ad base fu h_2) mvX12_putName gw8_77 ⟨rfl, rfl, Nat.le_of_ble_eq_true rfl, Nat.le_of_ble_eq_true rfl⟩ dq_63 ln_63 vc_12 rfl hl.1 rfl (Nat.le_of_ble_eq_true rfl) dX12_putHead_2 (Nat.zero_le _) (Nat.zero_le _)) (fun H locs hw => ?_)
  refine lv_aload_n hx hb dX12_putHead_5 rfl (lv_at hl 0 rfl) ?_
  refine lv_iload_n hx hb dX12_putHead_6 rfl (lv_at hl 2 rfl) ?_
  obtain ⟨S_7, r_7, h_7, hf⟩ := bd_some hf
  refine r_bv hw (r_runV (rest := []) C hw (m_X12_put2 l D cA ad base fu h_7) mvX12_put2 gw8_68 ⟨rfl, rfl, Nat.le_of_ble_eq_true rfl, Nat.le_of_ble_eq_true rfl⟩ dq_63 ln_63 vc_12 rfl hl.1 rfl (Nat.le_of_ble_eq_true rfl) dX12_putHead_7 (Nat.zero_le _) (Nat.zero_le _)) (fun H locs hw => ?_)
  refine lv_aload_n hx hb dX12_putHead_10 rfl (lv_at hl 0 rfl) ?_
  refine lv_iconst (v := (1 : Int32)) hx hb dX12_putHead_11 (by decide) ?_
  obtain ⟨S_12, r_12, h_12, hf⟩ := bd_some hf
  refine r_bv hw (r_runV (rest := []) C hw (m_X12_put2 l D cA ad base fu h_12) mvX12_put2 gw8_68 ⟨rfl, rfl, Nat.le_of_ble_eq_true rfl, Nat.le_of_ble_eq_true rfl⟩ dq_63 ln_63 vc_12 rfl hl.1 rfl (Nat.le_of_ble_eq_true rfl) dX12_putHead_12 (Nat.zero_le _) (Nat.zero_le _)) (fun H locs hw => ?_)
  refine lv_aload_n hx hb dX12_putHead_15 rfl (lv_at hl 0 rfl) ?_
  refine lv_iload_n hx hb dX12_putHead_16 rfl (lv_at hl 3 rfl) ?_
  obtain ⟨S_17, r_17, h_17, hf⟩ := bd_some hf
  refine r_bv hw (r_runV (rest := []) C hw (m_X12_put4 l D cA ad base fu h_17) mvX12_put4 gw8_94 ⟨rfl, rfl, Nat.le_of_ble_eq_true rfl, Nat.le_of_ble_eq_true rfl⟩ dq_63 ln_63 vc_12 rfl hl.1 rfl (Nat.le_of_ble_eq_true rfl) dX12_putHead_17 (Nat.zero_le _) (Nat.zero_le _)) (fun H locs hw => ?_)
  exact r_vret C hw hr hlocks hf dX12_putHead_20
noncomputable def fX12_putRecord_91 (fu : Nat) (x2 : Int32) (S : St) : Option (St × Int32) :=
  if (1000 : Int32) ≤ (x2 + (1 : Int32)) then
    some (S, (0 : Int32))
  else
    gd (ck (x2 + (1 : Int32)) 1000) <|
    sI 82 ((x2 + (1 : Int32))).toNatClampNeg (vp_nar .byte ((((S.1 63 27) - x2) - (2 : Int32))).toInt8.toInt32) S fun S_118 =>
    some (S_118, (0 : Int32))
noncomputable def fX12_putRecord_52 (fu : Nat) (x1 : Int32) (x2 : Int32) (S : St) : Option (St × Int32) :=
  gd (ck x1 150) <|
  bd (fX12_putName fu (S.1 77 (x1).toNatClampNeg) S) fun S_59 _ =>
  fX12_putRecord_91 fu x2 S_59
noncomputable def fX12_putRecord_81 (fu : Nat) (x1 : Int32) (x2 : Int32) (S : St) : Option (St × Int32) :=
  gd (ck x1 150) <|
  bd (fX12_put4 fu (S.1 77 (x1).toNatClampNeg) S) fun S_88 _ =>
  fX12_putRecord_91 fu x2 S_88
noncomputable def fX12_putRecord (fu : Nat) (x1 : Int32) (S : St) : Option (St × Int32) :=
  gd (ck x1 150) <|
  gd (ck x1 150) <|
  gd (ck x1 150) <|
  bd (fX12_putHead fu (S.1 75 (x1).toNatClampNeg) (S.1 76 (x1).toNatClampNeg) (S.1 78 (x1).toNatClampNeg) S) fun S_19 _ =>
  bd (fX12_put2 fu (0 : Int32) S_19) fun S_29 _ =>
  gd (ck x1 150) <|
  if (S_29.1 76 (x1).toNatClampNeg) = (2 : Int32) then
    fX12_putRecord_52 fu x1 (S_19.1 63 27) S_29
  else
    gd (ck x1 150) <|
    if (S_29.1 76 (x1).toNatClampNeg) = (5 : Int32) then
      fX12_putRecord_52 fu x1 (S_19.1 63 27) S_29
    else
      gd (ck x1 150) <|
      if (S_29.1 76 (x1).toNatClampNeg) = (16 : Int32) then
        bd (fX12_put fu (4 : Int32) S_29) fun S_78 _ =>
        fX12_putRecord_81 fu x1 (S_19.1 63 27) S_78
      else
        fX12_putRecord_81 fu x1 (S_19.1 63 27) S_29
theorem mvX12_putRecord : MV yX12_putRecord cX12_putRecord 4 none RX12 1 := ⟨gw8_89, gw8_88, gs_66, gw1_13, by decide +kernel⟩
def rmX12_putRecord : Room := { frames := 4, cells := 0, slots := 0, locals := 88 }
set_option maxHeartbeats 4000000 in
set_option maxRecDepth 100000 in
theorem m_X12_putRecord (l : Launch) (D : va_G) (cA : FieldType → ClassId) (ad : Nat → Nat) (base : Nat) (fu : Nat) {S S' : St} {x1 : Int32} {r : Int32} (hf : fX12_putRecord fu x1 S = some (S', r)) : Met l yX12_putRecord (GC yX12_putRecord cX12_putRecord 4 none) rmX12_putRecord (va_Pc [.ref (ad 63), .int x1] (wd D cA ad base S)) (QV D cA ad base S') 0 0 (aB base) := by
  refine Met.ofW (cc := cX12_putRecord) (maxL := 4) (ret := none) (by decide) rfl ?_
  intro p e s m args below meth c s₁ B hml hv
  obtain ⟨hargs, hwd⟩ := hv
  have hr := B.returns
  have hlocks := B.notSynchronized
  obtain ⟨C, hw⟩ := CX.of (own := RX12) rfl B hml hwd
  have hx := C.1
  have hb := C.2.1
  have hl := lv_entry ([.ref (ad 63), .int x1]) (n := 4) (Nat.le_of_ble_eq_true rfl)
  rw [show entryFrame m args 4 = entryFrame m ([.ref (ad 63), .int x1] : List Value).toArray 4 from by rw [hargs], lg_entry_eq]
  generalize (lg_sl ([.ref (ad 63), .int x1]) ++ List.replicate (4 - (lg_sl ([.ref (ad 63), .int x1])).length) Slot.unset).toArray = ls at hl ⊢
  have hl : lv_has ls 4 [(0, .ref (ad 63)), (1, .int x1)] := hl
  have J_91 : ∀ (x2 : Int32) (S : St) (H : Heap) (locs : List Loc) (ls : Array Slot), fX12_putRecord_91 fu x2 S = some (S', r) → lv_has ls 4 [(0, .ref (ad 63)), (2, .int x2)] → WS D cA ad base s S H locs → W p l e rmX12_putRecord s m args below meth c H locs 0 0 (MQ below (QV D cA ad base S') args s 0 0 (aB base)) (F0 m 91 ls []) := by
    intro x2 S H locs ls hf hl hw
    refine lv_aload_n hx hb dX12_putRecord_91 rfl (lv_at hl 0 rfl) ?_
    refine r_getI C hw (k := 27) dq_63 ln_63 rfl vc_12 inX12 (by decide) rfl gw6_208 dX12_putRecord_92 ?_
    refine lv_iload_n hx hb dX12_putRecord_95 rfl (lv_at hl 1 rfl) ?_
    refine lv_isub hx hb dX12_putRecord_96 ?_
    refine lv_iconst (v := (2 : Int32)) hx hb dX12_putRecord_97 (by decide) ?_
    refine lv_isub hx hb dX12_putRecord_98 ?_
    refine lv_istore_n (lv' := [(3, .int (((S.1 63 27) - x2) - (2 : Int32))), (0, .ref (ad 63)), (2, .int x2)]) hx hb dX12_putRecord_99 rfl hl (by decide) rfl (fun ls hl => ?_)
    refine lv_iload_n hx hb dX12_putRecord_100 rfl (lv_at hl 2 rfl) ?_
    refine lv_iconst (v := (1 : Int32)) hx hb dX12_putRecord_101 (by decide) ?_
    refine lv_iadd hx hb dX12_putRecord_102 ?_
    refine lv_sipush (v := (1000 : Int32)) hx hb dX12_putRecord_103 (by decide) ?_
    refine lv_icmp_ge (tgt := 119) hx hb dX12_putRecord_106 (by decide) (fun c_106 => ?_) (fun c_106 => ?_)
    · have hf := if_t hf c_106
      exact r_vret C hw hr hlocks hf dX12_putRecord_119
    · have hf := if_f hf c_106
      refine lv_aload_n hx hb dX12_putRecord_109 rfl (lv_at hl 1 rfl) ?_
      refine r_getR C hw (k := 26) (r := 82) dq_63 ln_63 rfl vc_12 inX12 (by decide) rfl gw6_207 dX12_putRecord_110 ?_
      refine lv_iload_n hx hb dX12_putRecord_113 rfl (lv_at hl 2 rfl) ?_
      refine lv_iconst (v := (1 : Int32)) hx hb dX12_putRecord_114 (by decide) ?_
      refine lv_iadd hx hb dX12_putRecord_115 ?_
      refine lv_iload_n hx hb dX12_putRecord_116 rfl (lv_at hl 0 rfl) ?_
      refine lv_i2b hx hb dX12_putRecord_117 rfl ?_
      obtain ⟨z_118, hf⟩ := gd_some hf
      obtain ⟨S_118, e_118, hf⟩ := sI_some hf
      refine r_bast C hw (x := 82) dq_82 ln_82 z_118 dX12_putRecord_118 e_118 (fun H locs hw => ?_)
      exact r_vret C hw hr hlocks hf dX12_putRecord_119
  have J_52 : ∀ (x1 : Int32) (x2 : Int32) (S : St) (H : Heap) (locs : List Loc) (ls : Array Slot), fX12_putRecord_52 fu x1 x2 S = some (S', r) → lv_has ls 4 [(0, .ref (ad 63)), (1, .int x1), (2, .int x2)] → WS D cA ad base s S H locs → W p l e rmX12_putRecord s m args below meth c H locs 0 0 (MQ below (QV D cA ad base S') args s 0 0 (aB base)) (F0 m 52 ls []) := by
    intro x1 x2 S H locs ls hf hl hw
    refine lv_aload_n hx hb dX12_putRecord_52 rfl (lv_at hl 0 rfl) ?_
    refine lv_aload_n hx hb dX12_putRecord_53 rfl (lv_at hl 0 rfl) ?_
    refine r_getR C hw (k := 18) (r := 77) dq_63 ln_63 rfl vc_12 inX12 (by decide) rfl gw6_199 dX12_putRecord_54 ?_
    refine lv_iload_n hx hb dX12_putRecord_57 rfl (lv_at hl 1 rfl) ?_
    obtain ⟨z_58, hf⟩ := gd_some hf
    refine r_iald C hw (x := 77) dq_77 ln_77 z_58 dX12_putRecord_58 ?_
    obtain ⟨S_59, r_59, h_59, hf⟩ := bd_some hf
    refine r_bv hw (r_runV (rest := []) C hw (m_X12_putName l D cA ad base fu h_59) mvX12_putName gw8_77 ⟨rfl, rfl, Nat.le_of_ble_eq_true rfl, Nat.le_of_ble_eq_true rfl⟩ dq_63 ln_63 vc_12 rfl hl.1 rfl (Nat.le_of_ble_eq_true rfl) dX12_putRecord_59 (Nat.zero_le _) (Nat.zero_le _)) (fun H locs hw => ?_)
    refine lv_goto (tgt := 91) hx hb dX12_putRecord_62 (by decide) ?_
    exact J_91 _ _ _ _ _ hf (lv_sub hl [0, 2] rfl) hw
  have J_81 : ∀ (x1 : Int32) (x2 : Int32) (S : St) (H : Heap) (locs : List Loc) (ls : Array Slot), fX12_putRecord_81 fu x1 x2 S = some (S', r) → lv_has ls 4 [(0, .ref (ad 63)), (1, .int x1), (2, .int x2)] → WS D cA ad base s S H locs → W p l e rmX12_putRecord s m args below meth c H locs 0 0 (MQ below (QV D cA ad base S') args s 0 0 (aB base)) (F0 m 81 ls []) := by
    intro x1 x2 S H locs ls hf hl hw
    refine lv_aload_n hx hb dX12_putRecord_81 rfl (lv_at hl 0 rfl) ?_
    refine lv_aload_n hx hb dX12_putRecord_82 rfl (lv_at hl 0 rfl) ?_
    refine r_getR C hw (k := 18) (r := 77) dq_63 ln_63 rfl vc_12 inX12 (by decide) rfl gw6_199 dX12_putRecord_83 ?_
    refine lv_iload_n hx hb dX12_putRecord_86 rfl (lv_at hl 1 rfl) ?_
    obtain ⟨z_87, hf⟩ := gd_some hf
    refine r_iald C hw (x := 77) dq_77 ln_77 z_87 dX12_putRecord_87 ?_
    obtain ⟨S_88, r_88, h_88, hf⟩ := bd_some hf
    refine r_bv hw (r_runV (rest := []) C hw (m_X12_put4 l D cA ad base fu h_88) mvX12_put4 gw8_94 ⟨rfl, rfl, Nat.le_of_ble_eq_true rfl, Nat.le_of_ble_eq_true rfl⟩ dq_63 ln_63 vc_12 rfl hl.1 rfl (Nat.le_of_ble_eq_true rfl) dX12_putRecord_88 (Nat.zero_le _) (Nat.zero_le _)) (fun H locs hw => ?_)
    exact J_91 _ _ _ _ _ hf (lv_sub hl [0, 2] rfl) hw
  show W p l e rmX12_putRecord s m args below meth c s.heap [] 0 0 _ _
  refine lv_aload_n hx hb dX12_putRecord_0 rfl (lv_at hl 0 rfl) ?_
  refine lv_aload_n hx hb dX12_putRecord_1 rfl (lv_at hl 0 rfl) ?_
  refine r_getR C hw (k := 16) (r := 75) dq_63 ln_63 rfl vc_12 inX12 (by decide) rfl gw6_197 dX12_putRecord_2 ?_
  refine lv_iload_n hx hb dX12_putRecord_5 rfl (lv_at hl 1 rfl) ?_
  obtain ⟨z_6, hf⟩ := gd_some hf
  refine r_iald C hw (x := 75) dq_75 ln_75 z_6 dX12_putRecord_6 ?_
  refine lv_aload_n hx hb dX12_putRecord_7 rfl (lv_at hl 0 rfl) ?_
  refine r_getR C hw (k := 17) (r := 76) dq_63 ln_63 rfl vc_12 inX12 (by decide) rfl gw6_198 dX12_putRecord_8 ?_
  refine lv_iload_n hx hb dX12_putRecord_11 rfl (lv_at hl 1 rfl) ?_
  obtain ⟨z_12, hf⟩ := gd_some hf
  refine r_iald C hw (x := 76) dq_76 ln_76 z_12 dX12_putRecord_12 ?_
  refine lv_aload_n hx hb dX12_putRecord_13 rfl (lv_at hl 0 rfl) ?_
  refine r_getR C hw (k := 19) (r := 78) dq_63 ln_63 rfl vc_12 inX12 (by decide) rfl gw6_200 dX12_putRecord_14 ?_
  refine lv_iload_n hx hb dX12_putRecord_17 rfl (lv_at hl 1 rfl) ?_
  obtain ⟨z_18, hf⟩ := gd_some hf
  refine r_iald C hw (x := 78) dq_78 ln_78 z_18 dX12_putRecord_18 ?_
  obtain ⟨S_19, r_19, h_19, hf⟩ := bd_some hf
  refine r_bv hw (r_runV (rest := []) C hw (m_X12_putHead l D cA ad base fu h_19) mvX12_putHead gw8_90 ⟨rfl, rfl, Nat.le_of_ble_eq_true rfl, Nat.le_of_ble_eq_true rfl⟩ dq_63 ln_63 vc_12 rfl hl.1 rfl (Nat.le_of_ble_eq_true rfl) dX12_putRecord_19 (Nat.zero_le _) (Nat.zero_le _)) (fun H locs hw => ?_)
  refine lv_aload_n hx hb dX12_putRecord_22 rfl (lv_at hl 0 rfl) ?_
  refine r_getI C hw (k := 27) dq_63 ln_63 rfl vc_12 inX12 (by decide) rfl gw6_208 dX12_putRecord_23 ?_
  refine lv_istore_n (lv' := [(2, .int (S_19.1 63 27)), (0, .ref (ad 63)), (1, .int x1)]) hx hb dX12_putRecord_26 rfl hl (by decide) rfl (fun ls hl => ?_)
  refine lv_aload_n hx hb dX12_putRecord_27 rfl (lv_at hl 1 rfl) ?_
  refine lv_iconst (v := (0 : Int32)) hx hb dX12_putRecord_28 (by decide) ?_
  obtain ⟨S_29, r_29, h_29, hf⟩ := bd_some hf
  refine r_bv hw (r_runV (rest := []) C hw (m_X12_put2 l D cA ad base fu h_29) mvX12_put2 gw8_68 ⟨rfl, rfl, Nat.le_of_ble_eq_true rfl, Nat.le_of_ble_eq_true rfl⟩ dq_63 ln_63 vc_12 rfl hl.1 rfl (Nat.le_of_ble_eq_true rfl) dX12_putRecord_29 (Nat.zero_le _) (Nat.zero_le _)) (fun H locs hw => ?_)
  refine lv_aload_n hx hb dX12_putRecord_32 rfl (lv_at hl 1 rfl) ?_
  refine r_getR C hw (k := 17) (r := 76) dq_63 ln_63 rfl vc_12 inX12 (by decide) rfl gw6_198 dX12_putRecord_33 ?_
  refine lv_iload_n hx hb dX12_putRecord_36 rfl (lv_at hl 2 rfl) ?_
  obtain ⟨z_37, hf⟩ := gd_some hf
  refine r_iald C hw (x := 76) dq_76 ln_76 z_37 dX12_putRecord_37 ?_
  refine lv_iconst (v := (2 : Int32)) hx hb dX12_putRecord_38 (by decide) ?_
  refine lv_icmp_eq (tgt := 52) hx hb dX12_putRecord_39 (by decide) (fun c_39 => ?_) (fun c_39 => ?_)
  · have hf := if_t hf c_39
    exact J_52 _ _ _ _ _ _ hf (lv_sub hl [1, 2, 0] rfl) hw
  · have hf := if_f hf c_39
    refine lv_aload_n hx hb dX12_putRecord_42 rfl (lv_at hl 1 rfl) ?_
    refine r_getR C hw (k := 17) (r := 76) dq_63 ln_63 rfl vc_12 inX12 (by decide) rfl gw6_198 dX12_putRecord_43 ?_
    refine lv_iload_n hx hb dX12_putRecord_46 rfl (lv_at hl 2 rfl) ?_
    obtain ⟨z_47, hf⟩ := gd_some hf
    refine r_iald C hw (x := 76) dq_76 ln_76 z_47 dX12_putRecord_47 ?_
    refine lv_iconst (v := (5 : Int32)) hx hb dX12_putRecord_48 (by decide) ?_
    refine lv_icmp_ne (tgt := 65) hx hb dX12_putRecord_49 (by decide) (fun c_49 => ?_) (fun c_49 => ?_)
    · have hf := if_f hf c_49
      refine lv_aload_n hx hb dX12_putRecord_65 rfl (lv_at hl 1 rfl) ?_
      refine r_getR C hw (k := 17) (r := 76) dq_63 ln_63 rfl vc_12 inX12 (by decide) rfl gw6_198 dX12_putRecord_66 ?_
      refine lv_iload_n hx hb dX12_putRecord_69 rfl (lv_at hl 2 rfl) ?_
      obtain ⟨z_70, hf⟩ := gd_some hf
      refine r_iald C hw (x := 76) dq_76 ln_76 z_70 dX12_putRecord_70 ?_
      refine lv_bipush (v := (16 : Int32)) hx hb dX12_putRecord_71 (by decide) ?_
      refine lv_icmp_ne (tgt := 81) hx hb dX12_putRecord_73 (by decide) (fun c_73 => ?_) (fun c_73 => ?_)
      · have hf := if_f hf c_73
        exact J_81 _ _ _ _ _ _ hf (lv_sub hl [1, 2, 0] rfl) hw
      · have hf := if_t hf c_73
        refine lv_aload_n hx hb dX12_putRecord_76 rfl (lv_at hl 1 rfl) ?_
        refine lv_iconst (v := (4 : Int32)) hx hb dX12_putRecord_77 (by decide) ?_
        obtain ⟨S_78, r_78, h_78, hf⟩ := bd_some hf
        refine r_bv hw (r_runV (rest := []) C hw (m_X12_put l D cA ad base fu h_78) mvX12_put gw8_72 ⟨rfl, rfl, Nat.le_of_ble_eq_true rfl, Nat.le_of_ble_eq_true rfl⟩ dq_63 ln_63 vc_12 rfl hl.1 rfl (Nat.le_of_ble_eq_true rfl) dX12_putRecord_78 (Nat.zero_le _) (Nat.zero_le _)) (fun H locs hw => ?_)
        exact J_81 _ _ _ _ _ _ hf (lv_sub hl [1, 2, 0] rfl) hw
    · have hf := if_t hf c_49
      exact J_52 _ _ _ _ _ _ hf (lv_sub hl [1, 2, 0] rfl) hw
noncomputable def fX12_putSoa (fu : Nat) (x1 : Int32) (S : St) : Option (St × Int32) :=
  gd (ck x1 12) <|
  gd (ck x1 12) <|
  bd (fX12_putHead fu (S.1 72 (x1).toNatClampNeg) (6 : Int32) (S.1 73 (x1).toNatClampNeg) S) fun S_15 _ =>
  bd (fX12_put2 fu (22 : Int32) S_15) fun S_21 _ =>
  bd (fX12_put2 fu (0 : Int32) S_21) fun S_26 _ =>
  bd (fX12_put4 fu (1 : Int32) S_26) fun S_31 _ =>
  bd (fX12_put4 fu (0 : Int32) S_31) fun S_36 _ =>
  bd (fX12_put4 fu (0 : Int32) S_36) fun S_41 _ =>
  bd (fX12_put4 fu (0 : Int32) S_41) fun S_46 _ =>
  gd (ck x1 12) <|
  bd (fX12_put4 fu (S_46.1 73 (x1).toNatClampNeg) S_46) fun S_56 _ =>
  some (S_56, (0 : Int32))
theorem mvX12_putSoa : MV yX12_putSoa cX12_putSoa 2 none RX12 1 := ⟨gw8_105, gw8_104, gs_70, gw1_13, by decide +kernel⟩
def rmX12_putSoa : Room := { frames := 4, cells := 0, slots := 0, locals := 88 }
set_option maxHeartbeats 4000000 in
set_option maxRecDepth 100000 in
theorem m_X12_putSoa (l : Launch) (D : va_G) (cA : FieldType → ClassId) (ad : Nat → Nat) (base : Nat) (fu : Nat) {S S' : St} {x1 : Int32} {r : Int32} (hf : fX12_putSoa fu x1 S = some (S', r)) : Met l yX12_putSoa (GC yX12_putSoa cX12_putSoa 2 none) rmX12_putSoa (va_Pc [.ref (ad 63), .int x1] (wd D cA ad base S)) (QV D cA ad base S') 0 0 (aB base) := by
  refine Met.ofW (cc := cX12_putSoa) (maxL := 2) (ret := none) (by decide) rfl ?_
  intro p e s m args below meth c s₁ B hml hv
  obtain ⟨hargs, hwd⟩ := hv
  have hr := B.returns
  have hlocks := B.notSynchronized
  obtain ⟨C, hw⟩ := CX.of (own := RX12) rfl B hml hwd
  have hx := C.1
  have hb := C.2.1
  have hl := lv_entry ([.ref (ad 63), .int x1]) (n := 2) (Nat.le_of_ble_eq_true rfl)
  rw [show entryFrame m args 2 = entryFrame m ([.ref (ad 63), .int x1] : List Value).toArray 2 from by rw [hargs], lg_entry_eq]
  generalize (lg_sl ([.ref (ad 63), .int x1]) ++ List.replicate (2 - (lg_sl ([.ref (ad 63), .int x1])).length) Slot.unset).toArray = ls at hl ⊢
  have hl : lv_has ls 2 [(0, .ref (ad 63)), (1, .int x1)] := hl
  show W p l e rmX12_putSoa s m args below meth c s.heap [] 0 0 _ _
  refine lv_aload_n hx hb dX12_putSoa_0 rfl (lv_at hl 0 rfl) ?_
  refine lv_aload_n hx hb dX12_putSoa_1 rfl (lv_at hl 0 rfl) ?_
  refine r_getR C hw (k := 12) (r := 72) dq_63 ln_63 rfl vc_12 inX12 (by decide) rfl gw6_193 dX12_putSoa_2 ?_
  refine lv_iload_n hx hb dX12_putSoa_5 rfl (lv_at hl 1 rfl) ?_
  obtain ⟨z_6, hf⟩ := gd_some hf
  refine r_iald C hw (x := 72) dq_72 ln_72 z_6 dX12_putSoa_6 ?_
  refine lv_bipush (v := (6 : Int32)) hx hb dX12_putSoa_7 (by decide) ?_
  refine lv_aload_n hx hb dX12_putSoa_9 rfl (lv_at hl 0 rfl) ?_
  refine r_getR C hw (k := 13) (r := 73) dq_63 ln_63 rfl vc_12 inX12 (by decide) rfl gw6_194 dX12_putSoa_10 ?_
  refine lv_iload_n hx hb dX12_putSoa_13 rfl (lv_at hl 1 rfl) ?_
  obtain ⟨z_14, hf⟩ := gd_some hf
  refine r_iald C hw (x := 73) dq_73 ln_73 z_14 dX12_putSoa_14 ?_
  obtain ⟨S_15, r_15, h_15, hf⟩ := bd_some hf
  refine r_bv hw (r_runV (rest := []) C hw (m_X12_putHead l D cA ad base fu h_15) mvX12_putHead gw8_90 ⟨rfl, rfl, Nat.le_of_ble_eq_true rfl, Nat.le_of_ble_eq_true rfl⟩ dq_63 ln_63 vc_12 rfl hl.1 rfl (Nat.le_of_ble_eq_true rfl) dX12_putSoa_15 (Nat.zero_le _) (Nat.zero_le _)) (fun H locs hw => ?_)
  refine lv_aload_n hx hb dX12_putSoa_18 rfl (lv_at hl 0 rfl) ?_
  refine lv_bipush (v := (22 : Int32)) hx hb dX12_putSoa_19 (by decide) ?_
  obtain ⟨S_21, r_21, h_21, hf⟩ := bd_some hf
  refine r_bv hw (r_runV (rest := []) C hw (m_X12_put2 l D cA ad base fu h_21) mvX12_put2 gw8_68 ⟨rfl, rfl, Nat.le_of_ble_eq_true rfl, Nat.le_of_ble_eq_true rfl⟩ dq_63 ln_63 vc_12 rfl hl.1 rfl (Nat.le_of_ble_eq_true rfl) dX12_putSoa_21 (Nat.zero_le _) (Nat.zero_le _)) (fun H locs hw => ?_)
  refine lv_aload_n hx hb dX12_putSoa_24 rfl (lv_at hl 0 rfl) ?_
  refine lv_iconst (v := (0 : Int32)) hx hb dX12_putSoa_25 (by decide) ?_
  obtain ⟨S_26, r_26, h_26, hf⟩ := bd_some hf
  refine r_bv hw (r_runV (rest := []) C hw (m_X12_put2 l D cA ad base fu h_26) mvX12_put2 gw8_68 ⟨rfl, rfl, Nat.le_of_ble_eq_true rfl, Nat.le_of_ble_eq_true rfl⟩ dq_63 ln_63 vc_12 rfl hl.1 rfl (Nat.le_of_ble_eq_true rfl) dX12_putSoa_26 (Nat.zero_le _) (Nat.zero_le _)) (fun H locs hw => ?_)
  refine lv_aload_n hx hb dX12_putSoa_29 rfl (lv_at hl 0 rfl) ?_
  refine lv_iconst (v := (1 : Int32)) hx hb dX12_putSoa_30 (by decide) ?_
  obtain ⟨S_31, r_31, h_31, hf⟩ := bd_some hf
  refine r_bv hw (r_runV (rest := []) C hw (m_X12_put4 l D cA ad base fu h_31) mvX12_put4 gw8_94 ⟨rfl, rfl, Nat.le_of_ble_eq_true rfl, Nat.le_of_ble_eq_true rfl⟩ dq_63 ln_63 vc_12 rfl hl.1 rfl (Nat.le_of_ble_eq_true rfl) dX12_putSoa_31 (Nat.zero_le _) (Nat.zero_le _)) (fun H locs hw => ?_)
  refine lv_aload_n hx hb dX12_putSoa_34 rfl (lv_at hl 0 rfl) ?_
  refine lv_iconst (v := (0 : Int32)) hx hb dX12_putSoa_35 (by decide) ?_
  obtain ⟨S_36, r_36, h_36, hf⟩ := bd_some hf
  refine r_bv hw (r_runV (rest := []) C hw (m_X12_put4 l D cA ad base fu h_36) mvX12_put4 gw8_94 ⟨rfl, rfl, Nat.le_of_ble_eq_true rfl, Nat.le_of_ble_eq_true rfl⟩ dq_63 ln_63 vc_12 rfl hl.1 rfl (Nat.le_of_ble_eq_true rfl) dX12_putSoa_36 (Nat.zero_le _) (Nat.zero_le _)) (fun H locs hw => ?_)
  refine lv_aload_n hx hb dX12_putSoa_39 rfl (lv_at hl 0 rfl) ?_
  refine lv_iconst (v := (0 : Int32)) hx hb dX12_putSoa_40 (by decide) ?_
  obtain ⟨S_41, r_41, h_41, hf⟩ := bd_some hf
  refine r_bv hw (r_runV (rest := []) C hw (m_X12_put4 l D cA ad base fu h_41) mvX12_put4 gw8_94 ⟨rfl, rfl, Nat.le_of_ble_eq_true rfl, Nat.le_of_ble_eq_true rfl⟩ dq_63 ln_63 vc_12 rfl hl.1 rfl (Nat.le_of_ble_eq_true rfl) dX12_putSoa_41 (Nat.zero_le _) (Nat.zero_le _)) (fun H locs hw => ?_)
  refine lv_aload_n hx hb dX12_putSoa_44 rfl (lv_at hl 0 rfl) ?_
  refine lv_iconst (v := (0 : Int32)) hx hb dX12_putSoa_45 (by decide) ?_
  obtain ⟨S_46, r_46, h_46, hf⟩ := bd_some hf
  refine r_bv hw (r_runV (rest := []) C hw (m_X12_put4 l D cA ad base fu h_46) mvX12_put4 gw8_94 ⟨rfl, rfl, Nat.le_of_ble_eq_true rfl, Nat.le_of_ble_eq_true rfl⟩ dq_63 ln_63 vc_12 rfl hl.1 rfl (Nat.le_of_ble_eq_true rfl) dX12_putSoa_46 (Nat.zero_le _) (Nat.zero_le _)) (fun H locs hw => ?_)
  refine lv_aload_n hx hb dX12_putSoa_49 rfl (lv_at hl 0 rfl) ?_
  refine lv_aload_n hx hb dX12_putSoa_50 rfl (lv_at hl 0 rfl) ?_
  refine r_getR C hw (k := 13) (r := 73) dq_63 ln_63 rfl vc_12 inX12 (by decide) rfl gw6_194 dX12_putSoa_51 ?_
  refine lv_iload_n hx hb dX12_putSoa_54 rfl (lv_at hl 1 rfl) ?_
  obtain ⟨z_55, hf⟩ := gd_some hf
  refine r_iald C hw (x := 73) dq_73 ln_73 z_55 dX12_putSoa_55 ?_
  obtain ⟨S_56, r_56, h_56, hf⟩ := bd_some hf
  refine r_bv hw (r_runV (rest := []) C hw (m_X12_put4 l D cA ad base fu h_56) mvX12_put4 gw8_94 ⟨rfl, rfl, Nat.le_of_ble_eq_true rfl, Nat.le_of_ble_eq_true rfl⟩ dq_63 ln_63 vc_12 rfl hl.1 rfl (Nat.le_of_ble_eq_true rfl) dX12_putSoa_56 (Nat.zero_le _) (Nat.zero_le _)) (fun H locs hw => ?_)
  exact r_vret C hw hr hlocks hf dX12_putSoa_59
noncomputable def fX12_zoneFor_77 (fu : Nat) (k_5 : Int32 → Int32 → Int32 → Int32 → St → Option (St × Int32)) (x1 : Int32) (x2 : Int32) (x3 : Int32) (x4 : Int32) (S : St) : Option (St × Int32) :=
  k_5 x1 x2 x3 (x4 + (1 : Int32)) S
noncomputable def fX12_zoneFor_74 (fu : Nat) (k_5 : Int32 → Int32 → Int32 → Int32 → St → Option (St × Int32)) (x1 : Int32) (x2 : Int32) (x4 : Int32) (S : St) : Option (St × Int32) :=
  fX12_zoneFor_77 fu k_5 x1 x2 x4 x4 S
noncomputable def fX12_zoneFor_5 (fu : Nat) (n : Nat) : Int32 → Int32 → Int32 → Int32 → St → Option (St × Int32) :=
  Nat.rec (motive := fun _ => Int32 → Int32 → Int32 → Int32 → St → Option (St × Int32)) (fun _ _ _ _ _ => none) (fun _ k_5 x1 x2 x3 x4 S =>
    if (S.1 63 14) ≤ x4 then
      some (S, x3)
    else
      gd (ck (((12 : Int32) * x1) + x4) 144) <|
      if (S.1 80 ((((12 : Int32) * x1) + x4)).toNatClampNeg) = 0 then
        fX12_zoneFor_77 fu k_5 x1 x2 x3 x4 S
      else
        gd (ck x4 12) <|
        bd (fX12_isIn fu x2 (S.1 72 (x4).toNatClampNeg) S) fun S_38 r_38 =>
        if r_38 = 0 then
          fX12_zoneFor_77 fu k_5 x1 x2 x3 x4 S_38
        else
          if x3 < 0 then
            fX12_zoneFor_74 fu k_5 x1 x2 x4 S_38
          else
            gd (ck x4 12) <|
            gd (ck (S_38.1 72 (x4).toNatClampNeg) 300) <|
            gd (ck x3 12) <|
            gd (ck (S_38.1 72 (x3).toNatClampNeg) 300) <|
            if (S_38.1 67 ((S_38.1 72 (x4).toNatClampNeg)).toNatClampNeg) ≤ (S_38.1 67 ((S_38.1 72 (x3).toNatClampNeg)).toNatClampNeg) then
              fX12_zoneFor_77 fu k_5 x1 x2 x3 x4 S_38
            else
              fX12_zoneFor_74 fu k_5 x1 x2 x4 S_38) n
theorem fX12_zoneFor_5_s (fu : Nat) (n : Nat) (x1 : Int32) (x2 : Int32) (x3 : Int32) (x4 : Int32) (S : St) : fX12_zoneFor_5 fu (n + 1) x1 x2 x3 x4 S = (
    if (S.1 63 14) ≤ x4 then
      some (S, x3)
    else
      gd (ck (((12 : Int32) * x1) + x4) 144) <|
      if (S.1 80 ((((12 : Int32) * x1) + x4)).toNatClampNeg) = 0 then
        fX12_zoneFor_77 fu (fX12_zoneFor_5 fu n) x1 x2 x3 x4 S
      else
        gd (ck x4 12) <|
        bd (fX12_isIn fu x2 (S.1 72 (x4).toNatClampNeg) S) fun S_38 r_38 =>
        if r_38 = 0 then
          fX12_zoneFor_77 fu (fX12_zoneFor_5 fu n) x1 x2 x3 x4 S_38
        else
          if x3 < 0 then
            fX12_zoneFor_74 fu (fX12_zoneFor_5 fu n) x1 x2 x4 S_38
          else
            gd (ck x4 12) <|
            gd (ck (S_38.1 72 (x4).toNatClampNeg) 300) <|
            gd (ck x3 12) <|
            gd (ck (S_38.1 72 (x3).toNatClampNeg) 300) <|
            if (S_38.1 67 ((S_38.1 72 (x4).toNatClampNeg)).toNatClampNeg) ≤ (S_38.1 67 ((S_38.1 72 (x3).toNatClampNeg)).toNatClampNeg) then
              fX12_zoneFor_77 fu (fX12_zoneFor_5 fu n) x1 x2 x3 x4 S_38
            else
              fX12_zoneFor_74 fu (fX12_zoneFor_5 fu n) x1 x2 x4 S_38) := rfl
noncomputable def fX12_zoneFor (fu : Nat) (x1 : Int32) (x2 : Int32) (S : St) : Option (St × Int32) :=
  fX12_zoneFor_5 fu fu x1 x2 (-1 : Int32) (0 : Int32) S
theorem mvX12_zoneFor : MV yX12_zoneFor cX12_zoneFor 5 (some .int) RX12 2 := ⟨gw8_47, gw8_46, gs_56, gw1_13, by decide +kernel⟩
def rmX12_zoneFor : Room := { frames := 1, cells := 0, slots := 0, locals := 23 }
set_option maxHeartbeats 4000000 in
set_option maxRecDepth 100000 in
theorem m_X12_zoneFor (l : Launch) (D : va_G) (cA : FieldType → ClassId) (ad : Nat → Nat) (base : Nat) (fu : Nat) {S S' : St} {x1 : Int32} {x2 : Int32} {r : Int32} (hf : fX12_zoneFor fu x1 x2 S = some (S', r)) : Met l yX12_zoneFor (GC yX12_zoneFor cX12_zoneFor 5 (some .int)) rmX12_zoneFor (va_Pc [.ref (ad 63), .int x1, .int x2] (wd D cA ad base S)) (QI D cA ad base S' r) 0 0 (aB base) := by
  refine Met.ofW (cc := cX12_zoneFor) (maxL := 5) (ret := (some .int)) (by decide) rfl ?_
  intro p e s m args below meth c s₁ B hml hv
  obtain ⟨hargs, hwd⟩ := hv
  have hr := B.returns
  have hlocks := B.notSynchronized
  obtain ⟨C, hw⟩ := CX.of (own := RX12) rfl B hml hwd
  have hx := C.1
  have hb := C.2.1
  have hl := lv_entry ([.ref (ad 63), .int x1, .int x2]) (n := 5) (Nat.le_of_ble_eq_true rfl)
  rw [show entryFrame m args 5 = entryFrame m ([.ref (ad 63), .int x1, .int x2] : List Value).toArray 5 from by rw [hargs], lg_entry_eq]
  generalize (lg_sl ([.ref (ad 63), .int x1, .int x2]) ++ List.replicate (5 - (lg_sl ([.ref (ad 63), .int x1, .int x2])).length) Slot.unset).toArray = ls at hl ⊢
  have hl : lv_has ls 5 [(0, .ref (ad 63)), (1, .int x1), (2, .int x2)] := hl
  have L_5 : ∀ (n_5 : Nat) (x1 : Int32) (x2 : Int32) (x3 : Int32) (x4 : Int32) (S : St) (H : Heap) (locs : List Loc) (ls : Array Slot), fX12_zoneFor_5 fu n_5 x1 x2 x3 x4 S = some (S', r) → lv_has ls 5 [(0, .ref (ad 63)), (1, .int x1), (2, .int x2), (3, .int x3), (4, .int x4)] → WS D cA ad base s S H locs → W p l e rmX12_zoneFor s m args below meth c H locs 0 0 (MQ below (QI D cA ad base S' r) args s 0 0 (aB base)) (F0 m 5 ls []) := by
    intro n_5
    induction n_5 with
    | zero =>
      intro x1 x2 x3 x4 S H locs ls hf hl hw
      exact (no_none hf).elim
    | succ n_5 ih_5 =>
      have J_77 : ∀ (x1 : Int32) (x2 : Int32) (x3 : Int32) (x4 : Int32) (S : St) (H : Heap) (locs : List Loc) (ls : Array Slot), fX12_zoneFor_77 fu (fX12_zoneFor_5 fu n_5) x1 x2 x3 x4 S = some (S', r) → lv_has ls 5 [(0, .ref (ad 63)), (1, .int x1), (2, .int x2), (3, .int x3), (4, .int x4)] → WS D cA ad base s S H locs → W p l e rmX12_zoneFor s m args below meth c H locs 0 0 (MQ below (QI D cA ad base S' r) args s 0 0 (aB base)) (F0 m 77 ls []) := by
        intro x1 x2 x3 x4 S H locs ls hf hl hw
        refine lv_iinc (v := (x4 + (1 : Int32))) (lv' := [(4, .int (x4 + (1 : Int32))), (0, .ref (ad 63)), (1, .int x1), (2, .int x2), (3, .int x3)]) hx hb dX12_zoneFor_77 hl (k := 4) rfl rfl (by decide) rfl (fun ls hl => ?_)
        refine lv_goto (tgt := 5) hx hb dX12_zoneFor_80 (by decide) ?_
        exact ih_5 _ _ _ _ _ _ _ _ hf (lv_sub hl [1, 2, 3, 4, 0] rfl) hw
      have J_74 : ∀ (x1 : Int32) (x2 : Int32) (x4 : Int32) (S : St) (H : Heap) (locs : List Loc) (ls : Array Slot), fX12_zoneFor_74 fu (fX12_zoneFor_5 fu n_5) x1 x2 x4 S = some (S', r) → lv_has ls 5 [(0, .ref (ad 63)), (1, .int x1), (2, .int x2), (4, .int x4)] → WS D cA ad base s S H locs → W p l e rmX12_zoneFor s m args below meth c H locs 0 0 (MQ below (QI D cA ad base S' r) args s 0 0 (aB base)) (F0 m 74 ls []) := by
        intro x1 x2 x4 S H locs ls hf hl hw
        refine lv_iload hx hb dX12_zoneFor_74 (lv_at hl 3 rfl) ?_
        refine lv_istore_n (lv' := [(3, .int x4), (0, .ref (ad 63)), (1, .int x1), (2, .int x2), (4, .int x4)]) hx hb dX12_zoneFor_76 rfl hl (by decide) rfl (fun ls hl => ?_)
        exact J_77 _ _ _ _ _ _ _ _ hf (lv_sub hl [1, 2, 3, 0, 4] rfl) hw
      intro x1 x2 x3 x4 S H locs ls hf hl hw
      rw [fX12_zoneFor_5_s] at hf
      refine lv_iload hx hb dX12_zoneFor_5 (lv_at hl 4 rfl) ?_
      refine lv_aload_n hx hb dX12_zoneFor_7 rfl (lv_at hl 0 rfl) ?_
      refine r_getI C hw (k := 14) dq_63 ln_63 rfl vc_12 inX12 (by decide) rfl gw6_195 dX12_zoneFor_8 ?_
      refine lv_icmp_ge (tgt := 83) hx hb dX12_zoneFor_11 (by decide) (fun c_11 => ?_) (fun c_11 => ?_)
      · have hf := if_t hf c_11
        refine lv_iload_n hx hb dX12_zoneFor_83 rfl (lv_at hl 3 rfl) ?_
        exact r_iret C hw hr hlocks hf dX12_zoneFor_84
      · have hf := if_f hf c_11
        refine lv_aload_n hx hb dX12_zoneFor_14 rfl (lv_at hl 0 rfl) ?_
        refine r_getR C hw (k := 22) (r := 80) dq_63 ln_63 rfl vc_12 inX12 (by decide) rfl gw6_203 dX12_zoneFor_15 ?_
        refine lv_bipush (v := (12 : Int32)) hx hb dX12_zoneFor_18 (by decide) ?_
        refine lv_iload_n hx hb dX12_zoneFor_20 rfl (lv_at hl 1 rfl) ?_
        refine lv_imul hx hb dX12_zoneFor_21 ?_
        refine lv_iload hx hb dX12_zoneFor_22 (lv_at hl 4 rfl) ?_
        refine lv_iadd hx hb dX12_zoneFor_24 ?_
        obtain ⟨z_25, hf⟩ := gd_some hf
        refine r_zald C hw (x := 80) dq_80 ln_80 z_25 dX12_zoneFor_25 ?_
        refine lv_if_eq (tgt := 77) hx hb dX12_zoneFor_26 (by decide) (fun c_26 => ?_) (fun c_26 => ?_)
        · have hf := if_t hf c_26
          exact J_77 _ _ _ _ _ _ _ _ hf (lv_sub hl [0, 1, 2, 3, 4] rfl) hw
        · have hf := if_f hf c_26
          refine lv_aload_n hx hb dX12_zoneFor_29 rfl (lv_at hl 0 rfl) ?_
          refine lv_iload_n hx hb dX12_zoneFor_30 rfl (lv_at hl 2 rfl) ?_
          refine lv_aload_n hx hb dX12_zoneFor_31 rfl (lv_at hl 0 rfl) ?_
          refine r_getR C hw (k := 12) (r := 72) dq_63 ln_63 rfl vc_12 inX12 (by decide) rfl gw6_193 dX12_zoneFor_32 ?_
          refine lv_iload hx hb dX12_zoneFor_35 (lv_at hl 4 rfl) ?_
          obtain ⟨z_37, hf⟩ := gd_some hf
          refine r_iald C hw (x := 72) dq_72 ln_72 z_37 dX12_zoneFor_37 ?_
          obtain ⟨S_38, r_38, h_38, hf⟩ := bd_some hf
          refine r_bi hw (r_runV (rest := []) C hw (m_X12_isIn l D cA ad base fu h_38) mvX12_isIn gw8_1 ⟨rfl, rfl, Nat.le_of_ble_eq_true rfl, Nat.le_of_ble_eq_true rfl⟩ dq_63 ln_63 vc_12 rfl hl.1 rfl (Nat.le_of_ble_eq_true rfl) dX12_zoneFor_38 (Nat.zero_le _) (Nat.zero_le _)) (fun H locs hw => ?_)
          refine lv_if_eq (tgt := 77) hx hb dX12_zoneFor_41 (by decide) (fun c_41 => ?_) (fun c_41 => ?_)
          · have hf := if_t hf c_41
            exact J_77 _ _ _ _ _ _ _ _ hf (lv_sub hl [0, 1, 2, 3, 4] rfl) hw
          · have hf := if_f hf c_41
            refine lv_iload_n hx hb dX12_zoneFor_44 rfl (lv_at hl 3 rfl) ?_
            refine lv_if_lt (tgt := 74) hx hb dX12_zoneFor_45 (by decide) (fun c_45 => ?_) (fun c_45 => ?_)
            · have hf := if_t hf c_45
              exact J_74 _ _ _ _ _ _ _ hf (lv_sub hl [0, 1, 2, 4] rfl) hw
            · have hf := if_f hf c_45
              refine lv_aload_n hx hb dX12_zoneFor_48 rfl (lv_at hl 0 rfl) ?_
              refine r_getR C hw (k := 4) (r := 67) dq_63 ln_63 rfl vc_12 inX12 (by decide) rfl gw6_185 dX12_zoneFor_49 ?_
              refine lv_aload_n hx hb dX12_zoneFor_52 rfl (lv_at hl 0 rfl) ?_
              refine r_getR C hw (k := 12) (r := 72) dq_63 ln_63 rfl vc_12 inX12 (by decide) rfl gw6_193 dX12_zoneFor_53 ?_
              refine lv_iload hx hb dX12_zoneFor_56 (lv_at hl 4 rfl) ?_
              obtain ⟨z_58, hf⟩ := gd_some hf
              refine r_iald C hw (x := 72) dq_72 ln_72 z_58 dX12_zoneFor_58 ?_
              obtain ⟨z_59, hf⟩ := gd_some hf
              refine r_iald C hw (x := 67) dq_67 ln_67 z_59 dX12_zoneFor_59 ?_
              refine lv_aload_n hx hb dX12_zoneFor_60 rfl (lv_at hl 0 rfl) ?_
              refine r_getR C hw (k := 4) (r := 67) dq_63 ln_63 rfl vc_12 inX12 (by decide) rfl gw6_185 dX12_zoneFor_61 ?_
              refine lv_aload_n hx hb dX12_zoneFor_64 rfl (lv_at hl 0 rfl) ?_
              refine r_getR C hw (k := 12) (r := 72) dq_63 ln_63 rfl vc_12 inX12 (by decide) rfl gw6_193 dX12_zoneFor_65 ?_
              refine lv_iload_n hx hb dX12_zoneFor_68 rfl (lv_at hl 3 rfl) ?_
              obtain ⟨z_69, hf⟩ := gd_some hf
              refine r_iald C hw (x := 72) dq_72 ln_72 z_69 dX12_zoneFor_69 ?_
              obtain ⟨z_70, hf⟩ := gd_some hf
              refine r_iald C hw (x := 67) dq_67 ln_67 z_70 dX12_zoneFor_70 ?_
              refine lv_icmp_le (tgt := 77) hx hb dX12_zoneFor_71 (by decide) (fun c_71 => ?_) (fun c_71 => ?_)
              · have hf := if_t hf c_71
                exact J_77 _ _ _ _ _ _ _ _ hf (lv_sub hl [0, 1, 2, 3, 4] rfl) hw
              · have hf := if_f hf c_71
                exact J_74 _ _ _ _ _ _ _ hf (lv_sub hl [0, 1, 2, 4] rfl) hw
  show W p l e rmX12_zoneFor s m args below meth c s.heap [] 0 0 _ _
  refine lv_iconst (v := (-1 : Int32)) hx hb dX12_zoneFor_0 (by decide) ?_
  refine lv_istore_n (lv' := [(3, .int (-1 : Int32)), (0, .ref (ad 63)), (1, .int x1), (2, .int x2)]) hx hb dX12_zoneFor_1 rfl hl (by decide) rfl (fun ls hl => ?_)
  refine lv_iconst (v := (0 : Int32)) hx hb dX12_zoneFor_2 (by decide) ?_
  refine lv_istore (lv' := [(4, .int (0 : Int32)), (3, .int (-1 : Int32)), (0, .ref (ad 63)), (1, .int x1), (2, .int x2)]) hx hb dX12_zoneFor_3 hl (by decide) rfl (fun ls hl => ?_)
  exact L_5 fu _ _ _ _ _ _ _ _ hf (lv_sub hl [2, 3, 4, 1, 0] rfl) hw
noncomputable def fX12_cutOf_103 (fu : Nat) (k_5 : Int32 → Int32 → Int32 → Int32 → St → Option (St × Int32)) (x1 : Int32) (x2 : Int32) (x3 : Int32) (x4 : Int32) (S : St) : Option (St × Int32) :=
  k_5 x1 x2 x3 (x4 + (1 : Int32)) S
noncomputable def fX12_cutOf_95 (fu : Nat) (k_5 : Int32 → Int32 → Int32 → Int32 → St → Option (St × Int32)) (x1 : Int32) (x2 : Int32) (x4 : Int32) (S : St) : Option (St × Int32) :=
  gd (ck x4 150) <|
  fX12_cutOf_103 fu k_5 x1 x2 (S.1 75 (x4).toNatClampNeg) x4 S
noncomputable def fX12_cutOf_5 (fu : Nat) (n : Nat) : Int32 → Int32 → Int32 → Int32 → St → Option (St × Int32) :=
  Nat.rec (motive := fun _ => Int32 → Int32 → Int32 → Int32 → St → Option (St × Int32)) (fun _ _ _ _ _ => none) (fun _ k_5 x1 x2 x3 x4 S =>
    if (S.1 63 20) ≤ x4 then
      some (S, x3)
    else
      gd (ck x4 150) <|
      if (S.1 74 (x4).toNatClampNeg) = x1 then
        gd (ck x4 150) <|
        if (S.1 76 (x4).toNatClampNeg) = (2 : Int32) then
          gd (ck x4 150) <|
          gd (ck x1 12) <|
          if (S.1 75 (x4).toNatClampNeg) = (S.1 72 (x1).toNatClampNeg) then
            fX12_cutOf_103 fu k_5 x1 x2 x3 x4 S
          else
            gd (ck x4 150) <|
            bd (fX12_isIn fu x2 (S.1 75 (x4).toNatClampNeg) S) fun S_61 r_61 =>
            if r_61 = 0 then
              fX12_cutOf_103 fu k_5 x1 x2 x3 x4 S_61
            else
              if x3 < 0 then
                fX12_cutOf_95 fu k_5 x1 x2 x4 S_61
              else
                gd (ck x4 150) <|
                gd (ck (S_61.1 75 (x4).toNatClampNeg) 300) <|
                gd (ck x3 300) <|
                if (S_61.1 67 (x3).toNatClampNeg) ≤ (S_61.1 67 ((S_61.1 75 (x4).toNatClampNeg)).toNatClampNeg) then
                  fX12_cutOf_103 fu k_5 x1 x2 x3 x4 S_61
                else
                  fX12_cutOf_95 fu k_5 x1 x2 x4 S_61
        else
          fX12_cutOf_103 fu k_5 x1 x2 x3 x4 S
      else
        fX12_cutOf_103 fu k_5 x1 x2 x3 x4 S) n
theorem fX12_cutOf_5_s (fu : Nat) (n : Nat) (x1 : Int32) (x2 : Int32) (x3 : Int32) (x4 : Int32) (S : St) : fX12_cutOf_5 fu (n + 1) x1 x2 x3 x4 S = (
    if (S.1 63 20) ≤ x4 then
      some (S, x3)
    else
      gd (ck x4 150) <|
      if (S.1 74 (x4).toNatClampNeg) = x1 then
        gd (ck x4 150) <|
        if (S.1 76 (x4).toNatClampNeg) = (2 : Int32) then
          gd (ck x4 150) <|
          gd (ck x1 12) <|
          if (S.1 75 (x4).toNatClampNeg) = (S.1 72 (x1).toNatClampNeg) then
            fX12_cutOf_103 fu (fX12_cutOf_5 fu n) x1 x2 x3 x4 S
          else
            gd (ck x4 150) <|
            bd (fX12_isIn fu x2 (S.1 75 (x4).toNatClampNeg) S) fun S_61 r_61 =>
            if r_61 = 0 then
              fX12_cutOf_103 fu (fX12_cutOf_5 fu n) x1 x2 x3 x4 S_61
            else
              if x3 < 0 then
                fX12_cutOf_95 fu (fX12_cutOf_5 fu n) x1 x2 x4 S_61
              else
                gd (ck x4 150) <|
                gd (ck (S_61.1 75 (x4).toNatClampNeg) 300) <|
                gd (ck x3 300) <|
                if (S_61.1 67 (x3).toNatClampNeg) ≤ (S_61.1 67 ((S_61.1 75 (x4).toNatClampNeg)).toNatClampNeg) then
                  fX12_cutOf_103 fu (fX12_cutOf_5 fu n) x1 x2 x3 x4 S_61
                else
                  fX12_cutOf_95 fu (fX12_cutOf_5 fu n) x1 x2 x4 S_61
        else
          fX12_cutOf_103 fu (fX12_cutOf_5 fu n) x1 x2 x3 x4 S
      else
        fX12_cutOf_103 fu (fX12_cutOf_5 fu n) x1 x2 x3 x4 S) := rfl
noncomputable def fX12_cutOf (fu : Nat) (x1 : Int32) (x2 : Int32) (S : St) : Option (St × Int32) :=
  fX12_cutOf_5 fu fu x1 x2 (-1 : Int32) (0 : Int32) S
theorem mvX12_cutOf : MV yX12_cutOf cX12_cutOf 5 (some .int) RX12 2 := ⟨gw8_51, gw8_50, gs_57, gw1_13, by decide +kernel⟩
def rmX12_cutOf : Room := { frames := 1, cells := 0, slots := 0, locals := 23 }
set_option maxHeartbeats 4000000 in
set_option maxRecDepth 100000 in
theorem m_X12_cutOf (l : Launch) (D : va_G) (cA : FieldType → ClassId) (ad : Nat → Nat) (base : Nat) (fu : Nat) {S S' : St} {x1 : Int32} {x2 : Int32} {r : Int32} (hf : fX12_cutOf fu x1 x2 S = some (S', r)) : Met l yX12_cutOf (GC yX12_cutOf cX12_cutOf 5 (some .int)) rmX12_cutOf (va_Pc [.ref (ad 63), .int x1, .int x2] (wd D cA ad base S)) (QI D cA ad base S' r) 0 0 (aB base) := by
  refine Met.ofW (cc := cX12_cutOf) (maxL := 5) (ret := (some .int)) (by decide) rfl ?_
  intro p e s m args below meth c s₁ B hml hv
  obtain ⟨hargs, hwd⟩ := hv
  have hr := B.returns
  have hlocks := B.notSynchronized
  obtain ⟨C, hw⟩ := CX.of (own := RX12) rfl B hml hwd
  have hx := C.1
  have hb := C.2.1
  have hl := lv_entry ([.ref (ad 63), .int x1, .int x2]) (n := 5) (Nat.le_of_ble_eq_true rfl)
  rw [show entryFrame m args 5 = entryFrame m ([.ref (ad 63), .int x1, .int x2] : List Value).toArray 5 from by rw [hargs], lg_entry_eq]
  generalize (lg_sl ([.ref (ad 63), .int x1, .int x2]) ++ List.replicate (5 - (lg_sl ([.ref (ad 63), .int x1, .int x2])).length) Slot.unset).toArray = ls at hl ⊢
  have hl : lv_has ls 5 [(0, .ref (ad 63)), (1, .int x1), (2, .int x2)] := hl
  have L_5 : ∀ (n_5 : Nat) (x1 : Int32) (x2 : Int32) (x3 : Int32) (x4 : Int32) (S : St) (H : Heap) (locs : List Loc) (ls : Array Slot), fX12_cutOf_5 fu n_5 x1 x2 x3 x4 S = some (S', r) → lv_has ls 5 [(0, .ref (ad 63)), (1, .int x1), (2, .int x2), (3, .int x3), (4, .int x4)] → WS D cA ad base s S H locs → W p l e rmX12_cutOf s m args below meth c H locs 0 0 (MQ below (QI D cA ad base S' r) args s 0 0 (aB base)) (F0 m 5 ls []) := by
    intro n_5
    induction n_5 with
    | zero =>
      intro x1 x2 x3 x4 S H locs ls hf hl hw
      exact (no_none hf).elim
    | succ n_5 ih_5 =>
      have J_103 : ∀ (x1 : Int32) (x2 : Int32) (x3 : Int32) (x4 : Int32) (S : St) (H : Heap) (locs : List Loc) (ls : Array Slot), fX12_cutOf_103 fu (fX12_cutOf_5 fu n_5) x1 x2 x3 x4 S = some (S', r) → lv_has ls 5 [(0, .ref (ad 63)), (1, .int x1), (2, .int x2), (3, .int x3), (4, .int x4)] → WS D cA ad base s S H locs → W p l e rmX12_cutOf s m args below meth c H locs 0 0 (MQ below (QI D cA ad base S' r) args s 0 0 (aB base)) (F0 m 103 ls []) := by
        intro x1 x2 x3 x4 S H locs ls hf hl hw
        refine lv_iinc (v := (x4 + (1 : Int32))) (lv' := [(4, .int (x4 + (1 : Int32))), (0, .ref (ad 63)), (1, .int x1), (2, .int x2), (3, .int x3)]) hx hb dX12_cutOf_103 hl (k := 4) rfl rfl (by decide) rfl (fun ls hl => ?_)
        refine lv_goto (tgt := 5) hx hb dX12_cutOf_106 (by decide) ?_
        exact ih_5 _ _ _ _ _ _ _ _ hf (lv_sub hl [1, 2, 3, 4, 0] rfl) hw
      have J_95 : ∀ (x1 : Int32) (x2 : Int32) (x4 : Int32) (S : St) (H : Heap) (locs : List Loc) (ls : Array Slot), fX12_cutOf_95 fu (fX12_cutOf_5 fu n_5) x1 x2 x4 S = some (S', r) → lv_has ls 5 [(0, .ref (ad 63)), (1, .int x1), (2, .int x2), (4, .int x4)] → WS D cA ad base s S H locs → W p l e rmX12_cutOf s m args below meth c H locs 0 0 (MQ below (QI D cA ad base S' r) args s 0 0 (aB base)) (F0 m 95 ls []) := by
        intro x1 x2 x4 S H locs ls hf hl hw
        refine lv_aload_n hx hb dX12_cutOf_95 rfl (lv_at hl 0 rfl) ?_
        refine r_getR C hw (k := 16) (r := 75) dq_63 ln_63 rfl vc_12 inX12 (by decide) rfl gw6_197 dX12_cutOf_96 ?_
        refine lv_iload hx hb dX12_cutOf_99 (lv_at hl 3 rfl) ?_
        obtain ⟨z_101, hf⟩ := gd_some hf
        refine r_iald C hw (x := 75) dq_75 ln_75 z_101 dX12_cutOf_101 ?_
        refine lv_istore_n (lv' := [(3, .int (S.1 75 (x4).toNatClampNeg)), (0, .ref (ad 63)), (1, .int x1), (2, .int x2), (4, .int x4)]) hx hb dX12_cutOf_102 rfl hl (by decide) rfl (fun ls hl => ?_)
        exact J_103 _ _ _ _ _ _ _ _ hf (lv_sub hl [1, 2, 3, 0, 4] rfl) hw
      intro x1 x2 x3 x4 S H locs ls hf hl hw
      rw [fX12_cutOf_5_s] at hf
      refine lv_iload hx hb dX12_cutOf_5 (lv_at hl 4 rfl) ?_
      refine lv_aload_n hx hb dX12_cutOf_7 rfl (lv_at hl 0 rfl) ?_
      refine r_getI C hw (k := 20) dq_63 ln_63 rfl vc_12 inX12 (by decide) rfl gw6_201 dX12_cutOf_8 ?_
      refine lv_icmp_ge (tgt := 109) hx hb dX12_cutOf_11 (by decide) (fun c_11 => ?_) (fun c_11 => ?_)
      · have hf := if_t hf c_11
        refine lv_iload_n hx hb dX12_cutOf_109 rfl (lv_at hl 3 rfl) ?_
        exact r_iret C hw hr hlocks hf dX12_cutOf_110
      · have hf := if_f hf c_11
        refine lv_aload_n hx hb dX12_cutOf_14 rfl (lv_at hl 0 rfl) ?_
        refine r_getR C hw (k := 15) (r := 74) dq_63 ln_63 rfl vc_12 inX12 (by decide) rfl gw6_196 dX12_cutOf_15 ?_
        refine lv_iload hx hb dX12_cutOf_18 (lv_at hl 4 rfl) ?_
        obtain ⟨z_20, hf⟩ := gd_some hf
        refine r_iald C hw (x := 74) dq_74 ln_74 z_20 dX12_cutOf_20 ?_
        refine lv_iload_n hx hb dX12_cutOf_21 rfl (lv_at hl 1 rfl) ?_
        refine lv_icmp_ne (tgt := 103) hx hb dX12_cutOf_22 (by decide) (fun c_22 => ?_) (fun c_22 => ?_)
        · have hf := if_f hf c_22
          exact J_103 _ _ _ _ _ _ _ _ hf (lv_sub hl [0, 1, 2, 3, 4] rfl) hw
        · have hf := if_t hf c_22
          refine lv_aload_n hx hb dX12_cutOf_25 rfl (lv_at hl 0 rfl) ?_
          refine r_getR C hw (k := 17) (r := 76) dq_63 ln_63 rfl vc_12 inX12 (by decide) rfl gw6_198 dX12_cutOf_26 ?_
          refine lv_iload hx hb dX12_cutOf_29 (lv_at hl 4 rfl) ?_
          obtain ⟨z_31, hf⟩ := gd_some hf
          refine r_iald C hw (x := 76) dq_76 ln_76 z_31 dX12_cutOf_31 ?_
          refine lv_iconst (v := (2 : Int32)) hx hb dX12_cutOf_32 (by decide) ?_
          refine lv_icmp_ne (tgt := 103) hx hb dX12_cutOf_33 (by decide) (fun c_33 => ?_) (fun c_33 => ?_)
          · have hf := if_f hf c_33
            exact J_103 _ _ _ _ _ _ _ _ hf (lv_sub hl [0, 1, 2, 3, 4] rfl) hw
          · have hf := if_t hf c_33
            refine lv_aload_n hx hb dX12_cutOf_36 rfl (lv_at hl 0 rfl) ?_
            refine r_getR C hw (k := 16) (r := 75) dq_63 ln_63 rfl vc_12 inX12 (by decide) rfl gw6_197 dX12_cutOf_37 ?_
            refine lv_iload hx hb dX12_cutOf_40 (lv_at hl 4 rfl) ?_
            obtain ⟨z_42, hf⟩ := gd_some hf
            refine r_iald C hw (x := 75) dq_75 ln_75 z_42 dX12_cutOf_42 ?_
            refine lv_aload_n hx hb dX12_cutOf_43 rfl (lv_at hl 0 rfl) ?_
            refine r_getR C hw (k := 12) (r := 72) dq_63 ln_63 rfl vc_12 inX12 (by decide) rfl gw6_193 dX12_cutOf_44 ?_
            refine lv_iload_n hx hb dX12_cutOf_47 rfl (lv_at hl 1 rfl) ?_
            obtain ⟨z_48, hf⟩ := gd_some hf
            refine r_iald C hw (x := 72) dq_72 ln_72 z_48 dX12_cutOf_48 ?_
            refine lv_icmp_eq (tgt := 103) hx hb dX12_cutOf_49 (by decide) (fun c_49 => ?_) (fun c_49 => ?_)
            · have hf := if_t hf c_49
              exact J_103 _ _ _ _ _ _ _ _ hf (lv_sub hl [0, 1, 2, 3, 4] rfl) hw
            · have hf := if_f hf c_49
              refine lv_aload_n hx hb dX12_cutOf_52 rfl (lv_at hl 0 rfl) ?_
              refine lv_iload_n hx hb dX12_cutOf_53 rfl (lv_at hl 2 rfl) ?_
              refine lv_aload_n hx hb dX12_cutOf_54 rfl (lv_at hl 0 rfl) ?_
              refine r_getR C hw (k := 16) (r := 75) dq_63 ln_63 rfl vc_12 inX12 (by decide) rfl gw6_197 dX12_cutOf_55 ?_
              refine lv_iload hx hb dX12_cutOf_58 (lv_at hl 4 rfl) ?_
              obtain ⟨z_60, hf⟩ := gd_some hf
              refine r_iald C hw (x := 75) dq_75 ln_75 z_60 dX12_cutOf_60 ?_
              obtain ⟨S_61, r_61, h_61, hf⟩ := bd_some hf
              refine r_bi hw (r_runV (rest := []) C hw (m_X12_isIn l D cA ad base fu h_61) mvX12_isIn gw8_1 ⟨rfl, rfl, Nat.le_of_ble_eq_true rfl, Nat.le_of_ble_eq_true rfl⟩ dq_63 ln_63 vc_12 rfl hl.1 rfl (Nat.le_of_ble_eq_true rfl) dX12_cutOf_61 (Nat.zero_le _) (Nat.zero_le _)) (fun H locs hw => ?_)
              refine lv_if_ne (tgt := 70) hx hb dX12_cutOf_64 (by decide) (fun c_64 => ?_) (fun c_64 => ?_)
              · have hf := if_f hf c_64
                refine lv_iload_n hx hb dX12_cutOf_70 rfl (lv_at hl 3 rfl) ?_
                refine lv_if_lt (tgt := 95) hx hb dX12_cutOf_71 (by decide) (fun c_71 => ?_) (fun c_71 => ?_)
                · have hf := if_t hf c_71
                  exact J_95 _ _ _ _ _ _ _ hf (lv_sub hl [0, 1, 2, 4] rfl) hw
                · have hf := if_f hf c_71
                  refine lv_aload_n hx hb dX12_cutOf_74 rfl (lv_at hl 0 rfl) ?_
                  refine r_getR C hw (k := 4) (r := 67) dq_63 ln_63 rfl vc_12 inX12 (by decide) rfl gw6_185 dX12_cutOf_75 ?_
                  refine lv_aload_n hx hb dX12_cutOf_78 rfl (lv_at hl 0 rfl) ?_
                  refine r_getR C hw (k := 16) (r := 75) dq_63 ln_63 rfl vc_12 inX12 (by decide) rfl gw6_197 dX12_cutOf_79 ?_
                  refine lv_iload hx hb dX12_cutOf_82 (lv_at hl 4 rfl) ?_
                  obtain ⟨z_84, hf⟩ := gd_some hf
                  refine r_iald C hw (x := 75) dq_75 ln_75 z_84 dX12_cutOf_84 ?_
                  obtain ⟨z_85, hf⟩ := gd_some hf
                  refine r_iald C hw (x := 67) dq_67 ln_67 z_85 dX12_cutOf_85 ?_
                  refine lv_aload_n hx hb dX12_cutOf_86 rfl (lv_at hl 0 rfl) ?_
                  refine r_getR C hw (k := 4) (r := 67) dq_63 ln_63 rfl vc_12 inX12 (by decide) rfl gw6_185 dX12_cutOf_87 ?_
                  refine lv_iload_n hx hb dX12_cutOf_90 rfl (lv_at hl 3 rfl) ?_
                  obtain ⟨z_91, hf⟩ := gd_some hf
                  refine r_iald C hw (x := 67) dq_67 ln_67 z_91 dX12_cutOf_91 ?_
                  refine lv_icmp_ge (tgt := 103) hx hb dX12_cutOf_92 (by decide) (fun c_92 => ?_) (fun c_92 => ?_)
                  · have hf := if_t hf c_92
                    exact J_103 _ _ _ _ _ _ _ _ hf (lv_sub hl [0, 1, 2, 3, 4] rfl) hw
                  · have hf := if_f hf c_92
                    exact J_95 _ _ _ _ _ _ _ hf (lv_sub hl [0, 1, 2, 4] rfl) hw
              · have hf := if_t hf c_64
                refine lv_goto (tgt := 103) hx hb dX12_cutOf_67 (by decide) ?_
                exact J_103 _ _ _ _ _ _ _ _ hf (lv_sub hl [0, 1, 2, 3, 4] rfl) hw
  show W p l e rmX12_cutOf s m args below meth c s.heap [] 0 0 _ _
  refine lv_iconst (v := (-1 : Int32)) hx hb dX12_cutOf_0 (by decide) ?_
  refine lv_istore_n (lv' := [(3, .int (-1 : Int32)), (0, .ref (ad 63)), (1, .int x1), (2, .int x2)]) hx hb dX12_cutOf_1 rfl hl (by decide) rfl (fun ls hl => ?_)
  refine lv_iconst (v := (0 : Int32)) hx hb dX12_cutOf_2 (by decide) ?_
  refine lv_istore (lv' := [(4, .int (0 : Int32)), (3, .int (-1 : Int32)), (0, .ref (ad 63)), (1, .int x1), (2, .int x2)]) hx hb dX12_cutOf_3 hl (by decide) rfl (fun ls hl => ?_)
  exact L_5 fu _ _ _ _ _ _ _ _ hf (lv_sub hl [2, 3, 4, 1, 0] rfl) hw
noncomputable def fX12_hasBelow_63 (fu : Nat) (k_19 : Int32 → Int32 → Int32 → Int32 → St → Option (St × Int32)) (x1 : Int32) (x2 : Int32) (x4 : Int32) (t0 : Int32) (S : St) : Option (St × Int32) :=
  k_19 x1 x2 t0 (x4 + (1 : Int32)) S
noncomputable def fX12_hasBelow_58 (fu : Nat) (k_19 : Int32 → Int32 → Int32 → Int32 → St → Option (St × Int32)) (x1 : Int32) (x2 : Int32) (x4 : Int32) (S : St) : Option (St × Int32) :=
  fX12_hasBelow_63 fu k_19 x1 x2 x4 (1 : Int32) S
noncomputable def fX12_hasBelow_62 (fu : Nat) (k_19 : Int32 → Int32 → Int32 → Int32 → St → Option (St × Int32)) (x1 : Int32) (x2 : Int32) (x4 : Int32) (S : St) : Option (St × Int32) :=
  fX12_hasBelow_63 fu k_19 x1 x2 x4 (0 : Int32) S
noncomputable def fX12_hasBelow_19 (fu : Nat) (n : Nat) : Int32 → Int32 → Int32 → Int32 → St → Option (St × Int32) :=
  Nat.rec (motive := fun _ => Int32 → Int32 → Int32 → Int32 → St → Option (St × Int32)) (fun _ _ _ _ _ => none) (fun _ k_19 x1 x2 x3 x4 S =>
    if (S.1 63 20) ≤ x4 then
      gd (isB x3) <|
      some (S, x3)
    else
      if x3 = 0 then
        gd (ck x4 150) <|
        if (S.1 74 (x4).toNatClampNeg) = x1 then
          gd (ck x4 150) <|
          bd (fX12_isIn fu (S.1 75 (x4).toNatClampNeg) x2 S) fun S_52 r_52 =>
          if r_52 = 0 then
            fX12_hasBelow_62 fu k_19 x1 x2 x4 S_52
          else
            fX12_hasBelow_58 fu k_19 x1 x2 x4 S_52
        else
          fX12_hasBelow_62 fu k_19 x1 x2 x4 S
      else
        fX12_hasBelow_58 fu k_19 x1 x2 x4 S) n
theorem fX12_hasBelow_19_s (fu : Nat) (n : Nat) (x1 : Int32) (x2 : Int32) (x3 : Int32) (x4 : Int32) (S : St) : fX12_hasBelow_19 fu (n + 1) x1 x2 x3 x4 S = (
    if (S.1 63 20) ≤ x4 then
      gd (isB x3) <|
      some (S, x3)
    else
      if x3 = 0 then
        gd (ck x4 150) <|
        if (S.1 74 (x4).toNatClampNeg) = x1 then
          gd (ck x4 150) <|
          bd (fX12_isIn fu (S.1 75 (x4).toNatClampNeg) x2 S) fun S_52 r_52 =>
          if r_52 = 0 then
            fX12_hasBelow_62 fu (fX12_hasBelow_19 fu n) x1 x2 x4 S_52
          else
            fX12_hasBelow_58 fu (fX12_hasBelow_19 fu n) x1 x2 x4 S_52
        else
          fX12_hasBelow_62 fu (fX12_hasBelow_19 fu n) x1 x2 x4 S
      else
        fX12_hasBelow_58 fu (fX12_hasBelow_19 fu n) x1 x2 x4 S) := rfl
noncomputable def fX12_hasBelow_15 (fu : Nat) (x1 : Int32) (x2 : Int32) (t0 : Int32) (S : St) : Option (St × Int32) :=
  fX12_hasBelow_19 fu fu x1 x2 t0 (0 : Int32) S
noncomputable def fX12_hasBelow (fu : Nat) (x1 : Int32) (x2 : Int32) (S : St) : Option (St × Int32) :=
  gd (ck x1 12) <|
  if (S.1 72 (x1).toNatClampNeg) = x2 then
    fX12_hasBelow_15 fu x1 x2 (1 : Int32) S
  else
    fX12_hasBelow_15 fu x1 x2 (0 : Int32) S
theorem mvX12_hasBelow : MV yX12_hasBelow cX12_hasBelow 5 (some .boolean) RX12 2 := ⟨gw8_101, gw8_100, gs_69, gw1_13, by decide +kernel⟩
def rmX12_hasBelow : Room := { frames := 1, cells := 0, slots := 0, locals := 23 }
set_option maxHeartbeats 4000000 in
set_option maxRecDepth 100000 in
theorem m_X12_hasBelow (l : Launch) (D : va_G) (cA : FieldType → ClassId) (ad : Nat → Nat) (base : Nat) (fu : Nat) {S S' : St} {x1 : Int32} {x2 : Int32} {r : Int32} (hf : fX12_hasBelow fu x1 x2 S = some (S', r)) : Met l yX12_hasBelow (GC yX12_hasBelow cX12_hasBelow 5 (some .boolean)) rmX12_hasBelow (va_Pc [.ref (ad 63), .int x1, .int x2] (wd D cA ad base S)) (QI D cA ad base S' r) 0 0 (aB base) := by
  refine Met.ofW (cc := cX12_hasBelow) (maxL := 5) (ret := (some .boolean)) (by decide) rfl ?_
  intro p e s m args below meth c s₁ B hml hv
  obtain ⟨hargs, hwd⟩ := hv
  have hr := B.returns
  have hlocks := B.notSynchronized
  obtain ⟨C, hw⟩ := CX.of (own := RX12) rfl B hml hwd
  have hx := C.1
  have hb := C.2.1
  have hl := lv_entry ([.ref (ad 63), .int x1, .int x2]) (n := 5) (Nat.le_of_ble_eq_true rfl)
  rw [show entryFrame m args 5 = entryFrame m ([.ref (ad 63), .int x1, .int x2] : List Value).toArray 5 from by rw [hargs], lg_entry_eq]
  generalize (lg_sl ([.ref (ad 63), .int x1, .int x2]) ++ List.replicate (5 - (lg_sl ([.ref (ad 63), .int x1, .int x2])).length) Slot.unset).toArray = ls at hl ⊢
  have hl : lv_has ls 5 [(0, .ref (ad 63)), (1, .int x1), (2, .int x2)] := hl
  have L_19 : ∀ (n_19 : Nat) (x1 : Int32) (x2 : Int32) (x3 : Int32) (x4 : Int32) (S : St) (H : Heap) (locs : List Loc) (ls : Array Slot), fX12_hasBelow_19 fu n_19 x1 x2 x3 x4 S = some (S', r) → lv_has ls 5 [(0, .ref (ad 63)), (1, .int x1), (2, .int x2), (3, .int x3), (4, .int x4)] → WS D cA ad base s S H locs → W p l e rmX12_hasBelow s m args below meth c H locs 0 0 (MQ below (QI D cA ad base S' r) args s 0 0 (aB base)) (F0 m 19 ls []) := by
    intro n_19
    induction n_19 with
    | zero =>
      intro x1 x2 x3 x4 S H locs ls hf hl hw
      exact (no_none hf).elim
    | succ n_19 ih_19 =>
      have J_63 : ∀ (x1 : Int32) (x2 : Int32) (x4 : Int32) (t0 : Int32) (S : St) (H : Heap) (locs : List Loc) (ls : Array Slot), fX12_hasBelow_63 fu (fX12_hasBelow_19 fu n_19) x1 x2 x4 t0 S = some (S', r) → lv_has ls 5 [(0, .ref (ad 63)), (1, .int x1), (2, .int x2), (4, .int x4)] → WS D cA ad base s S H locs → W p l e rmX12_hasBelow s m args below meth c H locs 0 0 (MQ below (QI D cA ad base S' r) args s 0 0 (aB base)) (F0 m 63 ls [.int t0]) := by
        intro x1 x2 x4 t0 S H locs ls hf hl hw
        refine lv_istore_n (lv' := [(3, .int t0), (0, .ref (ad 63)), (1, .int x1), (2, .int x2), (4, .int x4)]) hx hb dX12_hasBelow_63 rfl hl (by decide) rfl (fun ls hl => ?_)
        refine lv_iinc (v := (x4 + (1 : Int32))) (lv' := [(4, .int (x4 + (1 : Int32))), (3, .int t0), (0, .ref (ad 63)), (1, .int x1), (2, .int x2)]) hx hb dX12_hasBelow_64 hl (k := 4) rfl rfl (by decide) rfl (fun ls hl => ?_)
        refine lv_goto (tgt := 19) hx hb dX12_hasBelow_67 (by decide) ?_
        exact ih_19 _ _ _ _ _ _ _ _ hf (lv_sub hl [2, 3, 4, 1, 0] rfl) hw
      have J_58 : ∀ (x1 : Int32) (x2 : Int32) (x4 : Int32) (S : St) (H : Heap) (locs : List Loc) (ls : Array Slot), fX12_hasBelow_58 fu (fX12_hasBelow_19 fu n_19) x1 x2 x4 S = some (S', r) → lv_has ls 5 [(0, .ref (ad 63)), (1, .int x1), (2, .int x2), (4, .int x4)] → WS D cA ad base s S H locs → W p l e rmX12_hasBelow s m args below meth c H locs 0 0 (MQ below (QI D cA ad base S' r) args s 0 0 (aB base)) (F0 m 58 ls []) := by
        intro x1 x2 x4 S H locs ls hf hl hw
        refine lv_iconst (v := (1 : Int32)) hx hb dX12_hasBelow_58 (by decide) ?_
        refine lv_goto (tgt := 63) hx hb dX12_hasBelow_59 (by decide) ?_
        exact J_63 _ _ _ _ _ _ _ _ hf (lv_sub hl [0, 1, 2, 3] rfl) hw
      have J_62 : ∀ (x1 : Int32) (x2 : Int32) (x4 : Int32) (S : St) (H : Heap) (locs : List Loc) (ls : Array Slot), fX12_hasBelow_62 fu (fX12_hasBelow_19 fu n_19) x1 x2 x4 S = some (S', r) → lv_has ls 5 [(0, .ref (ad 63)), (1, .int x1), (2, .int x2), (4, .int x4)] → WS D cA ad base s S H locs → W p l e rmX12_hasBelow s m args below meth c H locs 0 0 (MQ below (QI D cA ad base S' r) args s 0 0 (aB base)) (F0 m 62 ls []) := by
        intro x1 x2 x4 S H locs ls hf hl hw
        refine lv_iconst (v := (0 : Int32)) hx hb dX12_hasBelow_62 (by decide) ?_
        exact J_63 _ _ _ _ _ _ _ _ hf (lv_sub hl [0, 1, 2, 3] rfl) hw
      intro x1 x2 x3 x4 S H locs ls hf hl hw
      rw [fX12_hasBelow_19_s] at hf
      refine lv_iload hx hb dX12_hasBelow_19 (lv_at hl 4 rfl) ?_
      refine lv_aload_n hx hb dX12_hasBelow_21 rfl (lv_at hl 0 rfl) ?_
      refine r_getI C hw (k := 20) dq_63 ln_63 rfl vc_12 inX12 (by decide) rfl gw6_201 dX12_hasBelow_22 ?_
      refine lv_icmp_ge (tgt := 70) hx hb dX12_hasBelow_25 (by decide) (fun c_25 => ?_) (fun c_25 => ?_)
      · have hf := if_t hf c_25
        refine lv_iload_n hx hb dX12_hasBelow_70 rfl (lv_at hl 3 rfl) ?_
        obtain ⟨z_71, hf⟩ := gd_some hf
        exact r_zret C hw hr hlocks z_71 hf dX12_hasBelow_71
      · have hf := if_f hf c_25
        refine lv_iload_n hx hb dX12_hasBelow_28 rfl (lv_at hl 3 rfl) ?_
        refine lv_if_ne (tgt := 58) hx hb dX12_hasBelow_29 (by decide) (fun c_29 => ?_) (fun c_29 => ?_)
        · have hf := if_f hf c_29
          exact J_58 _ _ _ _ _ _ _ hf (lv_sub hl [0, 1, 2, 4] rfl) hw
        · have hf := if_t hf c_29
          refine lv_aload_n hx hb dX12_hasBelow_32 rfl (lv_at hl 0 rfl) ?_
          refine r_getR C hw (k := 15) (r := 74) dq_63 ln_63 rfl vc_12 inX12 (by decide) rfl gw6_196 dX12_hasBelow_33 ?_
          refine lv_iload hx hb dX12_hasBelow_36 (lv_at hl 4 rfl) ?_
          obtain ⟨z_38, hf⟩ := gd_some hf
          refine r_iald C hw (x := 74) dq_74 ln_74 z_38 dX12_hasBelow_38 ?_
          refine lv_iload_n hx hb dX12_hasBelow_39 rfl (lv_at hl 1 rfl) ?_
          refine lv_icmp_ne (tgt := 62) hx hb dX12_hasBelow_40 (by decide) (fun c_40 => ?_) (fun c_40 => ?_)
          · have hf := if_f hf c_40
            exact J_62 _ _ _ _ _ _ _ hf (lv_sub hl [0, 1, 2, 4] rfl) hw
          · have hf := if_t hf c_40
            refine lv_aload_n hx hb dX12_hasBelow_43 rfl (lv_at hl 0 rfl) ?_
            refine lv_aload_n hx hb dX12_hasBelow_44 rfl (lv_at hl 0 rfl) ?_
            refine r_getR C hw (k := 16) (r := 75) dq_63 ln_63 rfl vc_12 inX12 (by decide) rfl gw6_197 dX12_hasBelow_45 ?_
            refine lv_iload hx hb dX12_hasBelow_48 (lv_at hl 4 rfl) ?_
            obtain ⟨z_50, hf⟩ := gd_some hf
            refine r_iald C hw (x := 75) dq_75 ln_75 z_50 dX12_hasBelow_50 ?_
            refine lv_iload_n hx hb dX12_hasBelow_51 rfl (lv_at hl 2 rfl) ?_
            obtain ⟨S_52, r_52, h_52, hf⟩ := bd_some hf
            refine r_bi hw (r_runV (rest := []) C hw (m_X12_isIn l D cA ad base fu h_52) mvX12_isIn gw8_1 ⟨rfl, rfl, Nat.le_of_ble_eq_true rfl, Nat.le_of_ble_eq_true rfl⟩ dq_63 ln_63 vc_12 rfl hl.1 rfl (Nat.le_of_ble_eq_true rfl) dX12_hasBelow_52 (Nat.zero_le _) (Nat.zero_le _)) (fun H locs hw => ?_)
            refine lv_if_eq (tgt := 62) hx hb dX12_hasBelow_55 (by decide) (fun c_55 => ?_) (fun c_55 => ?_)
            · have hf := if_t hf c_55
              exact J_62 _ _ _ _ _ _ _ hf (lv_sub hl [0, 1, 2, 4] rfl) hw
            · have hf := if_f hf c_55
              exact J_58 _ _ _ _ _ _ _ hf (lv_sub hl [0, 1, 2, 4] rfl) hw
  have J_15 : ∀ (x1 : Int32) (x2 : Int32) (t0 : Int32) (S : St) (H : Heap) (locs : List Loc) (ls : Array Slot), fX12_hasBelow_15 fu x1 x2 t0 S = some (S', r) → lv_has ls 5 [(0, .ref (ad 63)), (1, .int x1), (2, .int x2)] → WS D cA ad base s S H locs → W p l e rmX12_hasBelow s m args below meth c H locs 0 0 (MQ below (QI D cA ad base S' r) args s 0 0 (aB base)) (F0 m 15 ls [.int t0]) := by
    intro x1 x2 t0 S H locs ls hf hl hw
    refine lv_istore_n (lv' := [(3, .int t0), (0, .ref (ad 63)), (1, .int x1), (2, .int x2)]) hx hb dX12_hasBelow_15 rfl hl (by decide) rfl (fun ls hl => ?_)
    refine lv_iconst (v := (0 : Int32)) hx hb dX12_hasBelow_16 (by decide) ?_
    refine lv_istore (lv' := [(4, .int (0 : Int32)), (3, .int t0), (0, .ref (ad 63)), (1, .int x1), (2, .int x2)]) hx hb dX12_hasBelow_17 hl (by decide) rfl (fun ls hl => ?_)
    exact L_19 fu _ _ _ _ _ _ _ _ hf (lv_sub hl [2, 3, 4, 1, 0] rfl) hw
  show W p l e rmX12_hasBelow s m args below meth c s.heap [] 0 0 _ _
  refine lv_aload_n hx hb dX12_hasBelow_0 rfl (lv_at hl 0 rfl) ?_
  refine r_getR C hw (k := 12) (r := 72) dq_63 ln_63 rfl vc_12 inX12 (by decide) rfl gw6_193 dX12_hasBelow_1 ?_
  refine lv_iload_n hx hb dX12_hasBelow_4 rfl (lv_at hl 1 rfl) ?_
  obtain ⟨z_5, hf⟩ := gd_some hf
  refine r_iald C hw (x := 72) dq_72 ln_72 z_5 dX12_hasBelow_5 ?_
  refine lv_iload_n hx hb dX12_hasBelow_6 rfl (lv_at hl 2 rfl) ?_
  refine lv_icmp_ne (tgt := 14) hx hb dX12_hasBelow_7 (by decide) (fun c_7 => ?_) (fun c_7 => ?_)
  · have hf := if_f hf c_7
    refine lv_iconst (v := (0 : Int32)) hx hb dX12_hasBelow_14 (by decide) ?_
    exact J_15 _ _ _ _ _ _ _ hf (lv_sub hl [0, 1, 2] rfl) hw
  · have hf := if_t hf c_7
    refine lv_iconst (v := (1 : Int32)) hx hb dX12_hasBelow_10 (by decide) ?_
    refine lv_goto (tgt := 15) hx hb dX12_hasBelow_11 (by decide) ?_
    exact J_15 _ _ _ _ _ _ _ hf (lv_sub hl [0, 1, 2] rfl) hw
noncomputable def fX12_tells_87 (fu : Nat) (k_6 : Int32 → Int32 → Int32 → Int32 → Int32 → Int32 → St → Option (St × Int32)) (x1 : Int32) (x2 : Int32) (x3 : Int32) (x4 : Int32) (x6 : Int32) (t0 : Int32) (t1 : Int32) (S : St) : Option (St × Int32) :=
  k_6 x1 x2 x3 x4 (t1 + t0) (x6 + (1 : Int32)) S
noncomputable def fX12_tells_69 (fu : Nat) (k_6 : Int32 → Int32 → Int32 → Int32 → Int32 → Int32 → St → Option (St × Int32)) (x1 : Int32) (x2 : Int32) (x3 : Int32) (x4 : Int32) (x5 : Int32) (x6 : Int32) (t0 : Int32) (t1 : Int32) (S : St) : Option (St × Int32) :=
  gd (ck t1 150) <|
  sI 84 (t1).toNatClampNeg (vp_nar .boolean t0) S fun S_69 =>
  gd (ck x6 150) <|
  if (S_69.1 84 (x6).toNatClampNeg) = 0 then
    fX12_tells_87 fu k_6 x1 x2 x3 x4 x6 (0 : Int32) x5 S_69
  else
    fX12_tells_87 fu k_6 x1 x2 x3 x4 x6 (1 : Int32) x5 S_69
noncomputable def fX12_tells_68 (fu : Nat) (k_6 : Int32 → Int32 → Int32 → Int32 → Int32 → Int32 → St → Option (St × Int32)) (x1 : Int32) (x2 : Int32) (x3 : Int32) (x4 : Int32) (x5 : Int32) (x6 : Int32) (t0 : Int32) (S : St) : Option (St × Int32) :=
  fX12_tells_69 fu k_6 x1 x2 x3 x4 x5 x6 (0 : Int32) t0 S
noncomputable def fX12_tells_64 (fu : Nat) (k_6 : Int32 → Int32 → Int32 → Int32 → Int32 → Int32 → St → Option (St × Int32)) (x1 : Int32) (x2 : Int32) (x3 : Int32) (x4 : Int32) (x5 : Int32) (x6 : Int32) (t0 : Int32) (S : St) : Option (St × Int32) :=
  fX12_tells_69 fu k_6 x1 x2 x3 x4 x5 x6 (1 : Int32) t0 S
noncomputable def fX12_tells_6 (fu : Nat) (n : Nat) : Int32 → Int32 → Int32 → Int32 → Int32 → Int32 → St → Option (St × Int32) :=
  Nat.rec (motive := fun _ => Int32 → Int32 → Int32 → Int32 → Int32 → Int32 → St → Option (St × Int32)) (fun _ _ _ _ _ _ _ => none) (fun _ k_6 x1 x2 x3 x4 x5 x6 S =>
    if (S.1 63 20) ≤ x6 then
      some (S, x5)
    else
      gd (ck x6 150) <|
      if (S.1 74 (x6).toNatClampNeg) = x1 then
        gd (ck x6 150) <|
        if (S.1 75 (x6).toNatClampNeg) = x2 then
          gd (ck x6 150) <|
          if (S.1 76 (x6).toNatClampNeg) = x3 then
            if x5 = 0 then
              fX12_tells_64 fu k_6 x1 x2 x3 x4 x5 x6 x6 S
            else
              if x4 = 0 then
                fX12_tells_64 fu k_6 x1 x2 x3 x4 x5 x6 x6 S
              else
                fX12_tells_68 fu k_6 x1 x2 x3 x4 x5 x6 x6 S
          else
            fX12_tells_68 fu k_6 x1 x2 x3 x4 x5 x6 x6 S
        else
          fX12_tells_68 fu k_6 x1 x2 x3 x4 x5 x6 x6 S
      else
        fX12_tells_68 fu k_6 x1 x2 x3 x4 x5 x6 x6 S) n
theorem fX12_tells_6_s (fu : Nat) (n : Nat) (x1 : Int32) (x2 : Int32) (x3 : Int32) (x4 : Int32) (x5 : Int32) (x6 : Int32) (S : St) : fX12_tells_6 fu (n + 1) x1 x2 x3 x4 x5 x6 S = (
    if (S.1 63 20) ≤ x6 then
      some (S, x5)
    else
      gd (ck x6 150) <|
      if (S.1 74 (x6).toNatClampNeg) = x1 then
        gd (ck x6 150) <|
        if (S.1 75 (x6).toNatClampNeg) = x2 then
          gd (ck x6 150) <|
          if (S.1 76 (x6).toNatClampNeg) = x3 then
            if x5 = 0 then
              fX12_tells_64 fu (fX12_tells_6 fu n) x1 x2 x3 x4 x5 x6 x6 S
            else
              if x4 = 0 then
                fX12_tells_64 fu (fX12_tells_6 fu n) x1 x2 x3 x4 x5 x6 x6 S
              else
                fX12_tells_68 fu (fX12_tells_6 fu n) x1 x2 x3 x4 x5 x6 x6 S
          else
            fX12_tells_68 fu (fX12_tells_6 fu n) x1 x2 x3 x4 x5 x6 x6 S
        else
          fX12_tells_68 fu (fX12_tells_6 fu n) x1 x2 x3 x4 x5 x6 x6 S
      else
        fX12_tells_68 fu (fX12_tells_6 fu n) x1 x2 x3 x4 x5 x6 x6 S) := rfl
noncomputable def fX12_tells (fu : Nat) (x1 : Int32) (x2 : Int32) (x3 : Int32) (x4 : Int32) (S : St) : Option (St × Int32) :=
  fX12_tells_6 fu fu x1 x2 x3 x4 (0 : Int32) (0 : Int32) S
theorem mvX12_tells : MV yX12_tells cX12_tells 7 (some .int) RX12 4 := ⟨gw8_63, gw8_62, gs_60, gw1_13, by decide +kernel⟩
def rmX12_tells : Room := { frames := 0, cells := 0, slots := 0, locals := 0 }
set_option maxHeartbeats 4000000 in
set_option maxRecDepth 100000 in
theorem m_X12_tells (l : Launch) (D : va_G) (cA : FieldType → ClassId) (ad : Nat → Nat) (base : Nat) (fu : Nat) {S S' : St} {x1 : Int32} {x2 : Int32} {x3 : Int32} {x4 : Int32} {r : Int32} (hf : fX12_tells fu x1 x2 x3 x4 S = some (S', r)) : Met l yX12_tells (GC yX12_tells cX12_tells 7 (some .int)) rmX12_tells (va_Pc [.ref (ad 63), .int x1, .int x2, .int x3, .int x4] (wd D cA ad base S)) (QI D cA ad base S' r) 0 0 (aB base) := by
  refine Met.ofW (cc := cX12_tells) (maxL := 7) (ret := (some .int)) (by decide) rfl ?_
  intro p e s m args below meth c s₁ B hml hv
  obtain ⟨hargs, hwd⟩ := hv
  have hr := B.returns
  have hlocks := B.notSynchronized
  obtain ⟨C, hw⟩ := CX.of (own := RX12) rfl B hml hwd
  have hx := C.1
  have hb := C.2.1
  have hl := lv_entry ([.ref (ad 63), .int x1, .int x2, .int x3, .int x4]) (n := 7) (Nat.le_of_ble_eq_true rfl)
  rw [show entryFrame m args 7 = entryFrame m ([.ref (ad 63), .int x1, .int x2, .int x3, .int x4] : List Value).toArray 7 from by rw [hargs], lg_entry_eq]
  generalize (lg_sl ([.ref (ad 63), .int x1, .int x2, .int x3, .int x4]) ++ List.replicate (7 - (lg_sl ([.ref (ad 63), .int x1, .int x2, .int x3, .int x4])).length) Slot.unset).toArray = ls at hl ⊢
  have hl : lv_has ls 7 [(0, .ref (ad 63)), (1, .int x1), (2, .int x2), (3, .int x3), (4, .int x4)] := hl
  have L_6 : ∀ (n_6 : Nat) (x1 : Int32) (x2 : Int32) (x3 : Int32) (x4 : Int32) (x5 : Int32) (x6 : Int32) (S : St) (H : Heap) (locs : List Loc) (ls : Array Slot), fX12_tells_6 fu n_6 x1 x2 x3 x4 x5 x6 S = some (S', r) → lv_has ls 7 [(0, .ref (ad 63)), (1, .int x1), (2, .int x2), (3, .int x3), (4, .int x4), (5, .int x5), (6, .int x6)] → WS D cA ad base s S H locs → W p l e rmX12_tells s m args below meth c H locs 0 0 (MQ below (QI D cA ad base S' r) args s 0 0 (aB base)) (F0 m 6 ls []) := by
    intro n_6
    induction n_6 with
    | zero =>
      intro x1 x2 x3 x4 x5 x6 S H locs ls hf hl hw
      exact (no_none hf).elim
    | succ n_6 ih_6 =>
      have J_87 : ∀ (x1 : Int32) (x2 : Int32) (x3 : Int32) (x4 : Int32) (x6 : Int32) (t0 : Int32) (t1 : Int32) (S : St) (H : Heap) (locs : List Loc) (ls : Array Slot), fX12_tells_87 fu (fX12_tells_6 fu n_6) x1 x2 x3 x4 x6 t0 t1 S = some (S', r) → lv_has ls 7 [(0, .ref (ad 63)), (1, .int x1), (2, .int x2), (3, .int x3), (4, .int x4), (6, .int x6)] → WS D cA ad base s S H locs → W p l e rmX12_tells s m args below meth c H locs 0 0 (MQ below (QI D cA ad base S' r) args s 0 0 (aB base)) (F0 m 87 ls [.int t0, .int t1]) := by
        intro x1 x2 x3 x4 x6 t0 t1 S H locs ls hf hl hw
        refine lv_iadd hx hb dX12_tells_87 ?_
        refine lv_istore (lv' := [(5, .int (t1 + t0)), (0, .ref (ad 63)), (1, .int x1), (2, .int x2), (3, .int x3), (4, .int x4), (6, .int x6)]) hx hb dX12_tells_88 hl (by decide) rfl (fun ls hl => ?_)
        refine lv_iinc (v := (x6 + (1 : Int32))) (lv' := [(6, .int (x6 + (1 : Int32))), (5, .int (t1 + t0)), (0, .ref (ad 63)), (1, .int x1), (2, .int x2), (3, .int x3), (4, .int x4)]) hx hb dX12_tells_90 hl (k := 6) rfl rfl (by decide) rfl (fun ls hl => ?_)
        refine lv_goto (tgt := 6) hx hb dX12_tells_93 (by decide) ?_
        exact ih_6 _ _ _ _ _ _ _ _ _ _ hf (lv_sub hl [2, 3, 4, 5, 6, 1, 0] rfl) hw
      have J_69 : ∀ (x1 : Int32) (x2 : Int32) (x3 : Int32) (x4 : Int32) (x5 : Int32) (x6 : Int32) (t0 : Int32) (t1 : Int32) (S : St) (H : Heap) (locs : List Loc) (ls : Array Slot), fX12_tells_69 fu (fX12_tells_6 fu n_6) x1 x2 x3 x4 x5 x6 t0 t1 S = some (S', r) → lv_has ls 7 [(0, .ref (ad 63)), (1, .int x1), (2, .int x2), (3, .int x3), (4, .int x4), (5, .int x5), (6, .int x6)] → WS D cA ad base s S H locs → W p l e rmX12_tells s m args below meth c H locs 0 0 (MQ below (QI D cA ad base S' r) args s 0 0 (aB base)) (F0 m 69 ls [.int t0, .int t1, .ref (ad 84)]) := by
        intro x1 x2 x3 x4 x5 x6 t0 t1 S H locs ls hf hl hw
        obtain ⟨z_69, hf⟩ := gd_some hf
        obtain ⟨S_69, e_69, hf⟩ := sI_some hf
        refine r_zast C hw (x := 84) dq_84 ln_84 z_69 dX12_tells_69 e_69 (fun H locs hw => ?_)
        refine lv_iload hx hb dX12_tells_70 (lv_at hl 5 rfl) ?_
        refine lv_aload_n hx hb dX12_tells_72 rfl (lv_at hl 0 rfl) ?_
        refine r_getR C hw (k := 29) (r := 84) dq_63 ln_63 rfl vc_12 inX12 (by decide) rfl gw6_210 dX12_tells_73 ?_
        refine lv_iload hx hb dX12_tells_76 (lv_at hl 6 rfl) ?_
        obtain ⟨z_78, hf⟩ := gd_some hf
        refine r_zald C hw (x := 84) dq_84 ln_84 z_78 dX12_tells_78 ?_
        refine lv_if_eq (tgt := 86) hx hb dX12_tells_79 (by decide) (fun c_79 => ?_) (fun c_79 => ?_)
        · have hf := if_t hf c_79
          refine lv_iconst (v := (0 : Int32)) hx hb dX12_tells_86 (by decide) ?_
          exact J_87 _ _ _ _ _ _ _ _ _ _ _ hf (lv_sub hl [0, 1, 2, 3, 4, 6] rfl) hw
        · have hf := if_f hf c_79
          refine lv_iconst (v := (1 : Int32)) hx hb dX12_tells_82 (by decide) ?_
          refine lv_goto (tgt := 87) hx hb dX12_tells_83 (by decide) ?_
          exact J_87 _ _ _ _ _ _ _ _ _ _ _ hf (lv_sub hl [0, 1, 2, 3, 4, 6] rfl) hw
      have J_68 : ∀ (x1 : Int32) (x2 : Int32) (x3 : Int32) (x4 : Int32) (x5 : Int32) (x6 : Int32) (t0 : Int32) (S : St) (H : Heap) (locs : List Loc) (ls : Array Slot), fX12_tells_68 fu (fX12_tells_6 fu n_6) x1 x2 x3 x4 x5 x6 t0 S = some (S', r) → lv_has ls 7 [(0, .ref (ad 63)), (1, .int x1), (2, .int x2), (3, .int x3), (4, .int x4), (5, .int x5), (6, .int x6)] → WS D cA ad base s S H locs → W p l e rmX12_tells s m args below meth c H locs 0 0 (MQ below (QI D cA ad base S' r) args s 0 0 (aB base)) (F0 m 68 ls [.int t0, .ref (ad 84)]) := by
        intro x1 x2 x3 x4 x5 x6 t0 S H locs ls hf hl hw
        refine lv_iconst (v := (0 : Int32)) hx hb dX12_tells_68 (by decide) ?_
        exact J_69 _ _ _ _ _ _ _ _ _ _ _ _ hf (lv_sub hl [0, 1, 2, 3, 4, 5, 6] rfl) hw
      have J_64 : ∀ (x1 : Int32) (x2 : Int32) (x3 : Int32) (x4 : Int32) (x5 : Int32) (x6 : Int32) (t0 : Int32) (S : St) (H : Heap) (locs : List Loc) (ls : Array Slot), fX12_tells_64 fu (fX12_tells_6 fu n_6) x1 x2 x3 x4 x5 x6 t0 S = some (S', r) → lv_has ls 7 [(0, .ref (ad 63)), (1, .int x1), (2, .int x2), (3, .int x3), (4, .int x4), (5, .int x5), (6, .int x6)] → WS D cA ad base s S H locs → W p l e rmX12_tells s m args below meth c H locs 0 0 (MQ below (QI D cA ad base S' r) args s 0 0 (aB base)) (F0 m 64 ls [.int t0, .ref (ad 84)]) := by
        intro x1 x2 x3 x4 x5 x6 t0 S H locs ls hf hl hw
        refine lv_iconst (v := (1 : Int32)) hx hb dX12_tells_64 (by decide) ?_
        refine lv_goto (tgt := 69) hx hb dX12_tells_65 (by decide) ?_
        exact J_69 _ _ _ _ _ _ _ _ _ _ _ _ hf (lv_sub hl [0, 1, 2, 3, 4, 5, 6] rfl) hw
      intro x1 x2 x3 x4 x5 x6 S H locs ls hf hl hw
      rw [fX12_tells_6_s] at hf
      refine lv_iload hx hb dX12_tells_6 (lv_at hl 6 rfl) ?_
      refine lv_aload_n hx hb dX12_tells_8 rfl (lv_at hl 0 rfl) ?_
      refine r_getI C hw (k := 20) dq_63 ln_63 rfl vc_12 inX12 (by decide) rfl gw6_201 dX12_tells_9 ?_
      refine lv_icmp_ge (tgt := 96) hx hb dX12_tells_12 (by decide) (fun c_12 => ?_) (fun c_12 => ?_)
      · have hf := if_t hf c_12
        refine lv_iload hx hb dX12_tells_96 (lv_at hl 5 rfl) ?_
        exact r_iret C hw hr hlocks hf dX12_tells_98
      · have hf := if_f hf c_12
        refine lv_aload_n hx hb dX12_tells_15 rfl (lv_at hl 0 rfl) ?_
        refine r_getR C hw (k := 29) (r := 84) dq_63 ln_63 rfl vc_12 inX12 (by decide) rfl gw6_210 dX12_tells_16 ?_
        refine lv_iload hx hb dX12_tells_19 (lv_at hl 6 rfl) ?_
        refine lv_aload_n hx hb dX12_tells_21 rfl (lv_at hl 0 rfl) ?_
        refine r_getR C hw (k := 15) (r := 74) dq_63 ln_63 rfl vc_12 inX12 (by decide) rfl gw6_196 dX12_tells_22 ?_
        refine lv_iload hx hb dX12_tells_25 (lv_at hl 6 rfl) ?_
        obtain ⟨z_27, hf⟩ := gd_some hf
        refine r_iald C hw (x := 74) dq_74 ln_74 z_27 dX12_tells_27 ?_
        refine lv_iload_n hx hb dX12_tells_28 rfl (lv_at hl 1 rfl) ?_
        refine lv_icmp_ne (tgt := 68) hx hb dX12_tells_29 (by decide) (fun c_29 => ?_) (fun c_29 => ?_)
        · have hf := if_f hf c_29
          exact J_68 _ _ _ _ _ _ _ _ _ _ _ hf (lv_sub hl [0, 1, 2, 3, 4, 5, 6] rfl) hw
        · have hf := if_t hf c_29
          refine lv_aload_n hx hb dX12_tells_32 rfl (lv_at hl 0 rfl) ?_
          refine r_getR C hw (k := 16) (r := 75) dq_63 ln_63 rfl vc_12 inX12 (by decide) rfl gw6_197 dX12_tells_33 ?_
          refine lv_iload hx hb dX12_tells_36 (lv_at hl 6 rfl) ?_
          obtain ⟨z_38, hf⟩ := gd_some hf
          refine r_iald C hw (x := 75) dq_75 ln_75 z_38 dX12_tells_38 ?_
          refine lv_iload_n hx hb dX12_tells_39 rfl (lv_at hl 2 rfl) ?_
          refine lv_icmp_ne (tgt := 68) hx hb dX12_tells_40 (by decide) (fun c_40 => ?_) (fun c_40 => ?_)
          · have hf := if_f hf c_40
            exact J_68 _ _ _ _ _ _ _ _ _ _ _ hf (lv_sub hl [0, 1, 2, 3, 4, 5, 6] rfl) hw
          · have hf := if_t hf c_40
            refine lv_aload_n hx hb dX12_tells_43 rfl (lv_at hl 0 rfl) ?_
            refine r_getR C hw (k := 17) (r := 76) dq_63 ln_63 rfl vc_12 inX12 (by decide) rfl gw6_198 dX12_tells_44 ?_
            refine lv_iload hx hb dX12_tells_47 (lv_at hl 6 rfl) ?_
            obtain ⟨z_49, hf⟩ := gd_some hf
            refine r_iald C hw (x := 76) dq_76 ln_76 z_49 dX12_tells_49 ?_
            refine lv_iload_n hx hb dX12_tells_50 rfl (lv_at hl 3 rfl) ?_
            refine lv_icmp_ne (tgt := 68) hx hb dX12_tells_51 (by decide) (fun c_51 => ?_) (fun c_51 => ?_)
            · have hf := if_f hf c_51
              exact J_68 _ _ _ _ _ _ _ _ _ _ _ hf (lv_sub hl [0, 1, 2, 3, 4, 5, 6] rfl) hw
            · have hf := if_t hf c_51
              refine lv_iload hx hb dX12_tells_54 (lv_at hl 5 rfl) ?_
              refine lv_if_eq (tgt := 64) hx hb dX12_tells_56 (by decide) (fun c_56 => ?_) (fun c_56 => ?_)
              · have hf := if_t hf c_56
                exact J_64 _ _ _ _ _ _ _ _ _ _ _ hf (lv_sub hl [0, 1, 2, 3, 4, 5, 6] rfl) hw
              · have hf := if_f hf c_56
                refine lv_iload hx hb dX12_tells_59 (lv_at hl 4 rfl) ?_
                refine lv_if_ne (tgt := 68) hx hb dX12_tells_61 (by decide) (fun c_61 => ?_) (fun c_61 => ?_)
                · have hf := if_f hf c_61
                  exact J_68 _ _ _ _ _ _ _ _ _ _ _ hf (lv_sub hl [0, 1, 2, 3, 4, 5, 6] rfl) hw
                · have hf := if_t hf c_61
                  exact J_64 _ _ _ _ _ _ _ _ _ _ _ hf (lv_sub hl [0, 1, 2, 3, 4, 5, 6] rfl) hw
  show W p l e rmX12_tells s m args below meth c s.heap [] 0 0 _ _
  refine lv_iconst (v := (0 : Int32)) hx hb dX12_tells_0 (by decide) ?_
  refine lv_istore (lv' := [(5, .int (0 : Int32)), (0, .ref (ad 63)), (1, .int x1), (2, .int x2), (3, .int x3), (4, .int x4)]) hx hb dX12_tells_1 hl (by decide) rfl (fun ls hl => ?_)
  refine lv_iconst (v := (0 : Int32)) hx hb dX12_tells_3 (by decide) ?_
  refine lv_istore (lv' := [(6, .int (0 : Int32)), (5, .int (0 : Int32)), (0, .ref (ad 63)), (1, .int x1), (2, .int x2), (3, .int x3), (4, .int x4)]) hx hb dX12_tells_4 hl (by decide) rfl (fun ls hl => ?_)
  exact L_6 fu _ _ _ _ _ _ _ _ _ _ hf (lv_sub hl [2, 3, 4, 5, 6, 1, 0] rfl) hw
noncomputable def fX12_putTold_24 (fu : Nat) (k_2 : Int32 → St → Option (St × Int32)) (x1 : Int32) (S : St) : Option (St × Int32) :=
  k_2 (x1 + (1 : Int32)) S
noncomputable def fX12_putTold_2 (fu : Nat) (n : Nat) : Int32 → St → Option (St × Int32) :=
  Nat.rec (motive := fun _ => Int32 → St → Option (St × Int32)) (fun _ _ => none) (fun _ k_2 x1 S =>
    if (S.1 63 20) ≤ x1 then
      some (S, (0 : Int32))
    else
      gd (ck x1 150) <|
      if (S.1 84 (x1).toNatClampNeg) = 0 then
        fX12_putTold_24 fu k_2 x1 S
      else
        bd (fX12_putRecord fu x1 S) fun S_21 _ =>
        fX12_putTold_24 fu k_2 x1 S_21) n
theorem fX12_putTold_2_s (fu : Nat) (n : Nat) (x1 : Int32) (S : St) : fX12_putTold_2 fu (n + 1) x1 S = (
    if (S.1 63 20) ≤ x1 then
      some (S, (0 : Int32))
    else
      gd (ck x1 150) <|
      if (S.1 84 (x1).toNatClampNeg) = 0 then
        fX12_putTold_24 fu (fX12_putTold_2 fu n) x1 S
      else
        bd (fX12_putRecord fu x1 S) fun S_21 _ =>
        fX12_putTold_24 fu (fX12_putTold_2 fu n) x1 S_21) := rfl
noncomputable def fX12_putTold (fu : Nat) (S : St) : Option (St × Int32) :=
  fX12_putTold_2 fu fu (0 : Int32) S
theorem mvX12_putTold : MV yX12_putTold cX12_putTold 2 none RX12 0 := ⟨gw8_85, gw8_84, gs_65, gw1_13, by decide +kernel⟩
def rmX12_putTold : Room := { frames := 5, cells := 0, slots := 0, locals := 111 }
set_option maxHeartbeats 4000000 in
set_option maxRecDepth 100000 in
theorem m_X12_putTold (l : Launch) (D : va_G) (cA : FieldType → ClassId) (ad : Nat → Nat) (base : Nat) (fu : Nat) {S S' : St} {r : Int32} (hf : fX12_putTold fu S = some (S', r)) : Met l yX12_putTold (GC yX12_putTold cX12_putTold 2 none) rmX12_putTold (va_Pc [.ref (ad 63)] (wd D cA ad base S)) (QV D cA ad base S') 0 0 (aB base) := by
  refine Met.ofW (cc := cX12_putTold) (maxL := 2) (ret := none) (by decide) rfl ?_
  intro p e s m args below meth c s₁ B hml hv
  obtain ⟨hargs, hwd⟩ := hv
  have hr := B.returns
  have hlocks := B.notSynchronized
  obtain ⟨C, hw⟩ := CX.of (own := RX12) rfl B hml hwd
  have hx := C.1
  have hb := C.2.1
  have hl := lv_entry ([.ref (ad 63)]) (n := 2) (Nat.le_of_ble_eq_true rfl)
  rw [show entryFrame m args 2 = entryFrame m ([.ref (ad 63)] : List Value).toArray 2 from by rw [hargs], lg_entry_eq]
  generalize (lg_sl ([.ref (ad 63)]) ++ List.replicate (2 - (lg_sl ([.ref (ad 63)])).length) Slot.unset).toArray = ls at hl ⊢
  have hl : lv_has ls 2 [(0, .ref (ad 63))] := hl
  have L_2 : ∀ (n_2 : Nat) (x1 : Int32) (S : St) (H : Heap) (locs : List Loc) (ls : Array Slot), fX12_putTold_2 fu n_2 x1 S = some (S', r) → lv_has ls 2 [(0, .ref (ad 63)), (1, .int x1)] → WS D cA ad base s S H locs → W p l e rmX12_putTold s m args below meth c H locs 0 0 (MQ below (QV D cA ad base S') args s 0 0 (aB base)) (F0 m 2 ls []) := by
    intro n_2
    induction n_2 with
    | zero =>
      intro x1 S H locs ls hf hl hw
      exact (no_none hf).elim
    | succ n_2 ih_2 =>
      have J_24 : ∀ (x1 : Int32) (S : St) (H : Heap) (locs : List Loc) (ls : Array Slot), fX12_putTold_24 fu (fX12_putTold_2 fu n_2) x1 S = some (S', r) → lv_has ls 2 [(0, .ref (ad 63)), (1, .int x1)] → WS D cA ad base s S H locs → W p l e rmX12_putTold s m args below meth c H locs 0 0 (MQ below (QV D cA ad base S') args s 0 0 (aB base)) (F0 m 24 ls []) := by
        intro x1 S H locs ls hf hl hw
        refine lv_iinc (v := (x1 + (1 : Int32))) (lv' := [(1, .int (x1 + (1 : Int32))), (0, .ref (ad 63))]) hx hb dX12_putTold_24 hl (k := 1) rfl rfl (by decide) rfl (fun ls hl => ?_)
        refine lv_goto (tgt := 2) hx hb dX12_putTold_27 (by decide) ?_
        exact ih_2 _ _ _ _ _ hf (lv_sub hl [1, 0] rfl) hw
      intro x1 S H locs ls hf hl hw
      rw [fX12_putTold_2_s] at hf
      refine lv_iload_n hx hb dX12_putTold_2 rfl (lv_at hl 1 rfl) ?_
      refine lv_aload_n hx hb dX12_putTold_3 rfl (lv_at hl 0 rfl) ?_
      refine r_getI C hw (k := 20) dq_63 ln_63 rfl vc_12 inX12 (by decide) rfl gw6_201 dX12_putTold_4 ?_
      refine lv_icmp_ge (tgt := 30) hx hb dX12_putTold_7 (by decide) (fun c_7 => ?_) (fun c_7 => ?_)
      · have hf := if_t hf c_7
        exact r_vret C hw hr hlocks hf dX12_putTold_30
      · have hf := if_f hf c_7
        refine lv_aload_n hx hb dX12_putTold_10 rfl (lv_at hl 0 rfl) ?_
        refine r_getR C hw (k := 29) (r := 84) dq_63 ln_63 rfl vc_12 inX12 (by decide) rfl gw6_210 dX12_putTold_11 ?_
        refine lv_iload_n hx hb dX12_putTold_14 rfl (lv_at hl 1 rfl) ?_
        obtain ⟨z_15, hf⟩ := gd_some hf
        refine r_zald C hw (x := 84) dq_84 ln_84 z_15 dX12_putTold_15 ?_
        refine lv_if_eq (tgt := 24) hx hb dX12_putTold_16 (by decide) (fun c_16 => ?_) (fun c_16 => ?_)
        · have hf := if_t hf c_16
          exact J_24 _ _ _ _ _ hf (lv_sub hl [0, 1] rfl) hw
        · have hf := if_f hf c_16
          refine lv_aload_n hx hb dX12_putTold_19 rfl (lv_at hl 0 rfl) ?_
          refine lv_iload_n hx hb dX12_putTold_20 rfl (lv_at hl 1 rfl) ?_
          obtain ⟨S_21, r_21, h_21, hf⟩ := bd_some hf
          refine r_bv hw (r_runV (rest := []) C hw (m_X12_putRecord l D cA ad base fu h_21) mvX12_putRecord gw8_86 ⟨rfl, rfl, Nat.le_of_ble_eq_true rfl, Nat.le_of_ble_eq_true rfl⟩ dq_63 ln_63 vc_12 rfl hl.1 rfl (Nat.le_of_ble_eq_true rfl) dX12_putTold_21 (Nat.zero_le _) (Nat.zero_le _)) (fun H locs hw => ?_)
          exact J_24 _ _ _ _ _ hf (lv_sub hl [0, 1] rfl) hw
  show W p l e rmX12_putTold s m args below meth c s.heap [] 0 0 _ _
  refine lv_iconst (v := (0 : Int32)) hx hb dX12_putTold_0 (by decide) ?_
  refine lv_istore_n (lv' := [(1, .int (0 : Int32)), (0, .ref (ad 63))]) hx hb dX12_putTold_1 rfl hl (by decide) rfl (fun ls hl => ?_)
  exact L_2 fu _ _ _ _ _ hf (lv_sub hl [1, 0] rfl) hw
noncomputable def fX12_putTop_8 (fu : Nat) (n : Nat) : Int32 → Int32 → Int32 → Int32 → Int32 → Int32 → Int32 → Int32 → St → Option (St × Int32) :=
  Nat.rec (motive := fun _ => Int32 → Int32 → Int32 → Int32 → Int32 → Int32 → Int32 → Int32 → St → Option (St × Int32)) (fun _ _ _ _ _ _ _ _ _ => none) (fun _ k_8 x1 x2 x3 x4 x5 x6 x7 x8 S =>
    if (S.1 63 5) ≤ x8 then
      bd (fX12_put2 fu x1 S) fun S_33 _ =>
      bd (fX12_put2 fu ((32768 : Int32) ||| x2) S_33) fun S_41 _ =>
      bd (fX12_put2 fu (1 : Int32) S_41) fun S_46 _ =>
      bd (fX12_put2 fu x3 S_46) fun S_51 _ =>
      bd (fX12_put2 fu x4 S_51) fun S_57 _ =>
      bd (fX12_put2 fu x5 S_57) fun S_63 _ =>
      bd (fX12_putName fu x6 S_63) fun S_69 _ =>
      bd (fX12_put2 fu x7 S_69) fun S_75 _ =>
      bd (fX12_put2 fu (1 : Int32) S_75) fun S_80 _ =>
      some (S_80, (0 : Int32))
    else
      gd (ck x8 300) <|
      sI 83 (x8).toNatClampNeg (-1 : Int32) S fun S_24 =>
      k_8 x1 x2 x3 x4 x5 x6 x7 (x8 + (1 : Int32)) S_24) n
theorem fX12_putTop_8_s (fu : Nat) (n : Nat) (x1 : Int32) (x2 : Int32) (x3 : Int32) (x4 : Int32) (x5 : Int32) (x6 : Int32) (x7 : Int32) (x8 : Int32) (S : St) : fX12_putTop_8 fu (n + 1) x1 x2 x3 x4 x5 x6 x7 x8 S = (
    if (S.1 63 5) ≤ x8 then
      bd (fX12_put2 fu x1 S) fun S_33 _ =>
      bd (fX12_put2 fu ((32768 : Int32) ||| x2) S_33) fun S_41 _ =>
      bd (fX12_put2 fu (1 : Int32) S_41) fun S_46 _ =>
      bd (fX12_put2 fu x3 S_46) fun S_51 _ =>
      bd (fX12_put2 fu x4 S_51) fun S_57 _ =>
      bd (fX12_put2 fu x5 S_57) fun S_63 _ =>
      bd (fX12_putName fu x6 S_63) fun S_69 _ =>
      bd (fX12_put2 fu x7 S_69) fun S_75 _ =>
      bd (fX12_put2 fu (1 : Int32) S_75) fun S_80 _ =>
      some (S_80, (0 : Int32))
    else
      gd (ck x8 300) <|
      sI 83 (x8).toNatClampNeg (-1 : Int32) S fun S_24 =>
      (fX12_putTop_8 fu n) x1 x2 x3 x4 x5 x6 x7 (x8 + (1 : Int32)) S_24) := rfl
noncomputable def fX12_putTop (fu : Nat) (x1 : Int32) (x2 : Int32) (x3 : Int32) (x4 : Int32) (x5 : Int32) (x6 : Int32) (x7 : Int32) (S : St) : Option (St × Int32) :=
  sI 63 27 (0 : Int32) S fun S_2 =>
  fX12_putTop_8 fu fu x1 x2 x3 x4 x5 x6 x7 (0 : Int32) S_2
theorem mvX12_putTop : MV yX12_putTop cX12_putTop 9 none RX12 7 := ⟨gw8_67, gw8_66, gs_61, gw1_13, by decide +kernel⟩
def rmX12_putTop : Room := { frames := 3, cells := 0, slots := 0, locals := 65 }
set_option maxHeartbeats 4000000 in
set_option maxRecDepth 100000 in
theorem m_X12_putTop (l : Launch) (D : va_G) (cA : FieldType → ClassId) (ad : Nat → Nat) (base : Nat) (fu : Nat) {S S' : St} {x1 : Int32} {x2 : Int32} {x3 : Int32} {x4 : Int32} {x5 : Int32} {x6 : Int32} {x7 : Int32} {r : Int32} (hf : fX12_putTop fu x1 x2 x3 x4 x5 x6 x7 S = some (S', r)) : Met l yX12_putTop (GC yX12_putTop cX12_putTop 9 none) rmX12_putTop (va_Pc [.ref (ad 63), .int x1, .int x2, .int x3, .int x4, .int x5, .int x6, .int x7] (wd D cA ad base S)) (QV D cA ad base S') 0 0 (aB base) := by
  refine Met.ofW (cc := cX12_putTop) (maxL := 9) (ret := none) (by decide) rfl ?_
  intro p e s m args below meth c s₁ B hml hv
  obtain ⟨hargs, hwd⟩ := hv
  have hr := B.returns
  have hlocks := B.notSynchronized
  obtain ⟨C, hw⟩ := CX.of (own := RX12) rfl B hml hwd
  have hx := C.1
  have hb := C.2.1
  have hl := lv_entry ([.ref (ad 63), .int x1, .int x2, .int x3, .int x4, .int x5, .int x6, .int x7]) (n := 9) (Nat.le_of_ble_eq_true rfl)
  rw [show entryFrame m args 9 = entryFrame m ([.ref (ad 63), .int x1, .int x2, .int x3, .int x4, .int x5, .int x6, .int x7] : List Value).toArray 9 from by rw [hargs], lg_entry_eq]
  generalize (lg_sl ([.ref (ad 63), .int x1, .int x2, .int x3, .int x4, .int x5, .int x6, .int x7]) ++ List.replicate (9 - (lg_sl ([.ref (ad 63), .int x1, .int x2, .int x3, .int x4, .int x5, .int x6, .int x7])).length) Slot.unset).toArray = ls at hl ⊢
  have hl : lv_has ls 9 [(0, .ref (ad 63)), (1, .int x1), (2, .int x2), (3, .int x3), (4, .int x4), (5, .int x5), (6, .int x6), (7, .int x7)] := hl
  have L_8 : ∀ (n_8 : Nat) (x1 : Int32) (x2 : Int32) (x3 : Int32) (x4 : Int32) (x5 : Int32) (x6 : Int32) (x7 : Int32) (x8 : Int32) (S : St) (H : Heap) (locs : List Loc) (ls : Array Slot), fX12_putTop_8 fu n_8 x1 x2 x3 x4 x5 x6 x7 x8 S = some (S', r) → lv_has ls 9 [(0, .ref (ad 63)), (1, .int x1), (2, .int x2), (3, .int x3), (4, .int x4), (5, .int x5), (6, .int x6), (7, .int x7), (8, .int x8)] → WS D cA ad base s S H locs → W p l e rmX12_putTop s m args below meth c H locs 0 0 (MQ below (QV D cA ad base S') args s 0 0 (aB base)) (F0 m 8 ls []) := by
    intro n_8
    induction n_8 with
    | zero =>
      intro x1 x2 x3 x4 x5 x6 x7 x8 S H locs ls hf hl hw
      exact (no_none hf).elim
    | succ n_8 ih_8 =>
      intro x1 x2 x3 x4 x5 x6 x7 x8 S H locs ls hf hl hw
      rw [fX12_putTop_8_s] at hf
      refine lv_iload hx hb dX12_putTop_8 (lv_at hl 8 rfl) ?_
      refine lv_aload_n hx hb dX12_putTop_10 rfl (lv_at hl 0 rfl) ?_
      refine r_getI C hw (k := 5) dq_63 ln_63 rfl vc_12 inX12 (by decide) rfl gw6_186 dX12_putTop_11 ?_
      refine lv_icmp_ge (tgt := 31) hx hb dX12_putTop_14 (by decide) (fun c_14 => ?_) (fun c_14 => ?_)
      · have hf := if_t hf c_14
        refine lv_aload_n hx hb dX12_putTop_31 rfl (lv_at hl 0 rfl) ?_
        refine lv_iload_n hx hb dX12_putTop_32 rfl (lv_at hl 1 rfl) ?_
        obtain ⟨S_33, r_33, h_33, hf⟩ := bd_some hf
        refine r_bv hw (r_runV (rest := []) C hw (m_X12_put2 l D cA ad base fu h_33) mvX12_put2 gw8_68 ⟨rfl, rfl, Nat.le_of_ble_eq_true rfl, Nat.le_of_ble_eq_true rfl⟩ dq_63 ln_63 vc_12 rfl hl.1 rfl (Nat.le_of_ble_eq_true rfl) dX12_putTop_33 (Nat.zero_le _) (Nat.zero_le _)) (fun H locs hw => ?_)
        refine lv_aload_n hx hb dX12_putTop_36 rfl (lv_at hl 0 rfl) ?_
        refine lv_ldc hx hb C.2.2.2.1 (C.2.2.2.2.1 _ (gw_of gw8_76 rfl)) dX12_putTop_37 ?_
        refine lv_iload_n hx hb dX12_putTop_39 rfl (lv_at hl 2 rfl) ?_
        refine lv_ior hx hb dX12_putTop_40 ?_
        obtain ⟨S_41, r_41, h_41, hf⟩ := bd_some hf
        refine r_bv hw (r_runV (rest := []) C hw (m_X12_put2 l D cA ad base fu h_41) mvX12_put2 gw8_68 ⟨rfl, rfl, Nat.le_of_ble_eq_true rfl, Nat.le_of_ble_eq_true rfl⟩ dq_63 ln_63 vc_12 rfl hl.1 rfl (Nat.le_of_ble_eq_true rfl) dX12_putTop_41 (Nat.zero_le _) (Nat.zero_le _)) (fun H locs hw => ?_)
        refine lv_aload_n hx hb dX12_putTop_44 rfl (lv_at hl 0 rfl) ?_
        refine lv_iconst (v := (1 : Int32)) hx hb dX12_putTop_45 (by decide) ?_
        obtain ⟨S_46, r_46, h_46, hf⟩ := bd_some hf
        refine r_bv hw (r_runV (rest := []) C hw (m_X12_put2 l D cA ad base fu h_46) mvX12_put2 gw8_68 ⟨rfl, rfl, Nat.le_of_ble_eq_true rfl, Nat.le_of_ble_eq_true rfl⟩ dq_63 ln_63 vc_12 rfl hl.1 rfl (Nat.le_of_ble_eq_true rfl) dX12_putTop_46 (Nat.zero_le _) (Nat.zero_le _)) (fun H locs hw => ?_)
        refine lv_aload_n hx hb dX12_putTop_49 rfl (lv_at hl 0 rfl) ?_
        refine lv_iload_n hx hb dX12_putTop_50 rfl (lv_at hl 3 rfl) ?_
        obtain ⟨S_51, r_51, h_51, hf⟩ := bd_some hf
        refine r_bv hw (r_runV (rest := []) C hw (m_X12_put2 l D cA ad base fu h_51) mvX12_put2 gw8_68 ⟨rfl, rfl, Nat.le_of_ble_eq_true rfl, Nat.le_of_ble_eq_true rfl⟩ dq_63 ln_63 vc_12 rfl hl.1 rfl (Nat.le_of_ble_eq_true rfl) dX12_putTop_51 (Nat.zero_le _) (Nat.zero_le _)) (fun H locs hw => ?_)
        refine lv_aload_n hx hb dX12_putTop_54 rfl (lv_at hl 0 rfl) ?_
        refine lv_iload hx hb dX12_putTop_55 (lv_at hl 4 rfl) ?_
        obtain ⟨S_57, r_57, h_57, hf⟩ := bd_some hf
        refine r_bv hw (r_runV (rest := []) C hw (m_X12_put2 l D cA ad base fu h_57) mvX12_put2 gw8_68 ⟨rfl, rfl, Nat.le_of_ble_eq_true rfl, Nat.le_of_ble_eq_true rfl⟩ dq_63 ln_63 vc_12 rfl hl.1 rfl (Nat.le_of_ble_eq_true rfl) dX12_putTop_57 (Nat.zero_le _) (Nat.zero_le _)) (fun H locs hw => ?_)
        refine lv_aload_n hx hb dX12_putTop_60 rfl (lv_at hl 0 rfl) ?_
        refine lv_iload hx hb dX12_putTop_61 (lv_at hl 5 rfl) ?_
        obtain ⟨S_63, r_63, h_63, hf⟩ := bd_some hf
        refine r_bv hw (r_runV (rest := []) C hw (m_X12_put2 l D cA ad base fu h_63) mvX12_put2 gw8_68 ⟨rfl, rfl, Nat.le_of_ble_eq_true rfl, Nat.le_of_ble_eq_true rfl⟩ dq_63 ln_63 vc_12 rfl hl.1 rfl (Nat.le_of_ble_eq_true rfl) dX12_putTop_63 (Nat.zero_le _) (Nat.zero_le _)) (fun H locs hw => ?_)
        refine lv_aload_n hx hb dX12_putTop_66 rfl (lv_at hl 0 rfl) ?_
        refine lv_iload hx hb dX12_putTop_67 (lv_at hl 6 rfl) ?_
        obtain ⟨S_69, r_69, h_69, hf⟩ := bd_some hf
        refine r_bv hw (r_runV (rest := []) C hw (m_X12_putName l D cA ad base fu h_69) mvX12_putName gw8_77 ⟨rfl, rfl, Nat.le_of_ble_eq_true rfl, Nat.le_of_ble_eq_true rfl⟩ dq_63 ln_63 vc_12 rfl hl.1 rfl (Nat.le_of_ble_eq_true rfl) dX12_putTop_69 (Nat.zero_le _) (Nat.zero_le _)) (fun H locs hw => ?_)
        refine lv_aload_n hx hb dX12_putTop_72 rfl (lv_at hl 0 rfl) ?_
        refine lv_iload hx hb dX12_putTop_73 (lv_at hl 7 rfl) ?_
        obtain ⟨S_75, r_75, h_75, hf⟩ := bd_some hf
        refine r_bv hw (r_runV (rest := []) C hw (m_X12_put2 l D cA ad base fu h_75) mvX12_put2 gw8_68 ⟨rfl, rfl, Nat.le_of_ble_eq_true rfl, Nat.le_of_ble_eq_true rfl⟩ dq_63 ln_63 vc_12 rfl hl.1 rfl (Nat.le_of_ble_eq_true rfl) dX12_putTop_75 (Nat.zero_le _) (Nat.zero_le _)) (fun H locs hw => ?_)
        refine lv_aload_n hx hb dX12_putTop_78 rfl (lv_at hl 0 rfl) ?_
        refine lv_iconst (v := (1 : Int32)) hx hb dX12_putTop_79 (by decide) ?_
        obtain ⟨S_80, r_80, h_80, hf⟩ := bd_some hf
        refine r_bv hw (r_runV (rest := []) C hw (m_X12_put2 l D cA ad base fu h_80) mvX12_put2 gw8_68 ⟨rfl, rfl, Nat.le_of_ble_eq_true rfl, Nat.le_of_ble_eq_true rfl⟩ dq_63 ln_63 vc_12 rfl hl.1 rfl (Nat.le_of_ble_eq_true rfl) dX12_putTop_80 (Nat.zero_le _) (Nat.zero_le _)) (fun H locs hw => ?_)
        exact r_vret C hw hr hlocks hf dX12_putTop_83
      · have hf := if_f hf c_14
        refine lv_aload_n hx hb dX12_putTop_17 rfl (lv_at hl 0 rfl) ?_
        refine r_getR C hw (k := 28) (r := 83) dq_63 ln_63 rfl vc_12 inX12 (by decide) rfl gw6_209 dX12_putTop_18 ?_
        refine lv_iload hx hb dX12_putTop_21 (lv_at hl 8 rfl) ?_
        refine lv_iconst (v := (-1 : Int32)) hx hb dX12_putTop_23 (by decide) ?_
        obtain ⟨z_24, hf⟩ := gd_some hf
        obtain ⟨S_24, e_24, hf⟩ := sI_some hf
        refine r_iast C hw (x := 83) dq_83 ln_83 z_24 dX12_putTop_24 e_24 (fun H locs hw => ?_)
        refine lv_iinc (v := (x8 + (1 : Int32))) (lv' := [(8, .int (x8 + (1 : Int32))), (0, .ref (ad 63)), (1, .int x1), (2, .int x2), (3, .int x3), (4, .int x4), (5, .int x5), (6, .int x6), (7, .int x7)]) hx hb dX12_putTop_25 hl (k := 8) rfl rfl (by decide) rfl (fun ls hl => ?_)
        refine lv_goto (tgt := 8) hx hb dX12_putTop_28 (by decide) ?_
        exact ih_8 _ _ _ _ _ _ _ _ _ _ _ _ hf (lv_sub hl [1, 2, 3, 4, 5, 6, 7, 8, 0] rfl) hw
  show W p l e rmX12_putTop s m args below meth c s.heap [] 0 0 _ _
  refine lv_aload_n hx hb dX12_putTop_0 rfl (lv_at hl 0 rfl) ?_
  refine lv_iconst (v := (0 : Int32)) hx hb dX12_putTop_1 (by decide) ?_
  obtain ⟨S_2, e_2, hf⟩ := sI_some hf
  refine r_putI C hw (k := 27) (ty0 := tyX12) dq_63 ln_63 rfl vc_12 inX12 tyX12_ok nmX12 (by decide) rfl rfl gw6_208 rfl rfl dX12_putTop_2 e_2 (fun H locs hw => ?_)
  refine lv_iconst (v := (0 : Int32)) hx hb dX12_putTop_5 (by decide) ?_
  refine lv_istore (lv' := [(8, .int (0 : Int32)), (0, .ref (ad 63)), (1, .int x1), (2, .int x2), (3, .int x3), (4, .int x4), (5, .int x5), (6, .int x6), (7, .int x7)]) hx hb dX12_putTop_6 hl (by decide) rfl (fun ls hl => ?_)
  exact L_8 fu _ _ _ _ _ _ _ _ _ _ _ _ hf (lv_sub hl [1, 2, 3, 4, 5, 6, 7, 8, 0] rfl) hw
noncomputable def fX12_isGlue_96 (fu : Nat) (k_28 : Int32 → Int32 → Int32 → Int32 → Int32 → St → Option (St × Int32)) (x1 : Int32) (x2 : Int32) (x3 : Int32) (x5 : Int32) (t0 : Int32) (S : St) : Option (St × Int32) :=
  k_28 x1 x2 x3 t0 (x5 + (1 : Int32)) S
noncomputable def fX12_isGlue_91 (fu : Nat) (k_28 : Int32 → Int32 → Int32 → Int32 → Int32 → St → Option (St × Int32)) (x1 : Int32) (x2 : Int32) (x3 : Int32) (x5 : Int32) (S : St) : Option (St × Int32) :=
  fX12_isGlue_96 fu k_28 x1 x2 x3 x5 (1 : Int32) S
noncomputable def fX12_isGlue_95 (fu : Nat) (k_28 : Int32 → Int32 → Int32 → Int32 → Int32 → St → Option (St × Int32)) (x1 : Int32) (x2 : Int32) (x3 : Int32) (x5 : Int32) (S : St) : Option (St × Int32) :=
  fX12_isGlue_96 fu k_28 x1 x2 x3 x5 (0 : Int32) S
noncomputable def fX12_isGlue_28 (fu : Nat) (n : Nat) : Int32 → Int32 → Int32 → Int32 → Int32 → St → Option (St × Int32) :=
  Nat.rec (motive := fun _ => Int32 → Int32 → Int32 → Int32 → Int32 → St → Option (St × Int32)) (fun _ _ _ _ _ _ => none) (fun _ k_28 x1 x2 x3 x4 x5 S =>
    if (S.1 63 20) ≤ x5 then
      gd (isB x4) <|
      some (S, x4)
    else
      if x4 = 0 then
        gd (ck x5 150) <|
        if (S.1 74 (x5).toNatClampNeg) = x1 then
          gd (ck x5 150) <|
          if (S.1 75 (x5).toNatClampNeg) = x2 then
            gd (ck x5 150) <|
            if (S.1 76 (x5).toNatClampNeg) = (2 : Int32) then
              gd (ck x5 150) <|
              gd (ck x3 150) <|
              if (S.1 77 (x5).toNatClampNeg) = (S.1 75 (x3).toNatClampNeg) then
                fX12_isGlue_91 fu k_28 x1 x2 x3 x5 S
              else
                fX12_isGlue_95 fu k_28 x1 x2 x3 x5 S
            else
              fX12_isGlue_95 fu k_28 x1 x2 x3 x5 S
          else
            fX12_isGlue_95 fu k_28 x1 x2 x3 x5 S
        else
          fX12_isGlue_95 fu k_28 x1 x2 x3 x5 S
      else
        fX12_isGlue_91 fu k_28 x1 x2 x3 x5 S) n
theorem fX12_isGlue_28_s (fu : Nat) (n : Nat) (x1 : Int32) (x2 : Int32) (x3 : Int32) (x4 : Int32) (x5 : Int32) (S : St) : fX12_isGlue_28 fu (n + 1) x1 x2 x3 x4 x5 S = (
    if (S.1 63 20) ≤ x5 then
      gd (isB x4) <|
      some (S, x4)
    else
      if x4 = 0 then
        gd (ck x5 150) <|
        if (S.1 74 (x5).toNatClampNeg) = x1 then
          gd (ck x5 150) <|
          if (S.1 75 (x5).toNatClampNeg) = x2 then
            gd (ck x5 150) <|
            if (S.1 76 (x5).toNatClampNeg) = (2 : Int32) then
              gd (ck x5 150) <|
              gd (ck x3 150) <|
              if (S.1 77 (x5).toNatClampNeg) = (S.1 75 (x3).toNatClampNeg) then
                fX12_isGlue_91 fu (fX12_isGlue_28 fu n) x1 x2 x3 x5 S
              else
                fX12_isGlue_95 fu (fX12_isGlue_28 fu n) x1 x2 x3 x5 S
            else
              fX12_isGlue_95 fu (fX12_isGlue_28 fu n) x1 x2 x3 x5 S
          else
            fX12_isGlue_95 fu (fX12_isGlue_28 fu n) x1 x2 x3 x5 S
        else
          fX12_isGlue_95 fu (fX12_isGlue_28 fu n) x1 x2 x3 x5 S
      else
        fX12_isGlue_91 fu (fX12_isGlue_28 fu n) x1 x2 x3 x5 S) := rfl
noncomputable def fX12_isGlue (fu : Nat) (x1 : Int32) (x2 : Int32) (x3 : Int32) (S : St) : Option (St × Int32) :=
  gd (ck x3 150) <|
  if (S.1 74 (x3).toNatClampNeg) = x1 then
    gd (ck x3 150) <|
    if (S.1 76 (x3).toNatClampNeg) = (1 : Int32) then
      fX12_isGlue_28 fu fu x1 x2 x3 (0 : Int32) (0 : Int32) S
    else
      some (S, (0 : Int32))
  else
    some (S, (0 : Int32))
theorem mvX12_isGlue : MV yX12_isGlue cX12_isGlue 6 (some .boolean) RX12 3 := ⟨gw8_59, gw8_58, gs_59, gw1_13, by decide +kernel⟩
def rmX12_isGlue : Room := { frames := 0, cells := 0, slots := 0, locals := 0 }
set_option maxHeartbeats 4000000 in
set_option maxRecDepth 100000 in
theorem m_X12_isGlue (l : Launch) (D : va_G) (cA : FieldType → ClassId) (ad : Nat → Nat) (base : Nat) (fu : Nat) {S S' : St} {x1 : Int32} {x2 : Int32} {x3 : Int32} {r : Int32} (hf : fX12_isGlue fu x1 x2 x3 S = some (S', r)) : Met l yX12_isGlue (GC yX12_isGlue cX12_isGlue 6 (some .boolean)) rmX12_isGlue (va_Pc [.ref (ad 63), .int x1, .int x2, .int x3] (wd D cA ad base S)) (QI D cA ad base S' r) 0 0 (aB base) := by
  refine Met.ofW (cc := cX12_isGlue) (maxL := 6) (ret := (some .boolean)) (by decide) rfl ?_
  intro p e s m args below meth c s₁ B hml hv
  obtain ⟨hargs, hwd⟩ := hv
  have hr := B.returns
  have hlocks := B.notSynchronized
  obtain ⟨C, hw⟩ := CX.of (own := RX12) rfl B hml hwd
  have hx := C.1
  have hb := C.2.1
  have hl := lv_entry ([.ref (ad 63), .int x1, .int x2, .int x3]) (n := 6) (Nat.le_of_ble_eq_true rfl)
  rw [show entryFrame m args 6 = entryFrame m ([.ref (ad 63), .int x1, .int x2, .int x3] : List Value).toArray 6 from by rw [hargs], lg_entry_eq]
  generalize (lg_sl ([.ref (ad 63), .int x1, .int x2, .int x3]) ++ List.replicate (6 - (lg_sl ([.ref (ad 63), .int x1, .int x2, .int x3])).length) Slot.unset).toArray = ls at hl ⊢
  have hl : lv_has ls 6 [(0, .ref (ad 63)), (1, .int x1), (2, .int x2), (3, .int x3)] := hl
  have L_28 : ∀ (n_28 : Nat) (x1 : Int32) (x2 : Int32) (x3 : Int32) (x4 : Int32) (x5 : Int32) (S : St) (H : Heap) (locs : List Loc) (ls : Array Slot), fX12_isGlue_28 fu n_28 x1 x2 x3 x4 x5 S = some (S', r) → lv_has ls 6 [(0, .ref (ad 63)), (1, .int x1), (2, .int x2), (3, .int x3), (4, .int x4), (5, .int x5)] → WS D cA ad base s S H locs → W p l e rmX12_isGlue s m args below meth c H locs 0 0 (MQ below (QI D cA ad base S' r) args s 0 0 (aB base)) (F0 m 28 ls []) := by
    intro n_28
    induction n_28 with
    | zero =>
      intro x1 x2 x3 x4 x5 S H locs ls hf hl hw
      exact (no_none hf).elim
    | succ n_28 ih_28 =>
      have J_96 : ∀ (x1 : Int32) (x2 : Int32) (x3 : Int32) (x5 : Int32) (t0 : Int32) (S : St) (H : Heap) (locs : List Loc) (ls : Array Slot), fX12_isGlue_96 fu (fX12_isGlue_28 fu n_28) x1 x2 x3 x5 t0 S = some (S', r) → lv_has ls 6 [(0, .ref (ad 63)), (1, .int x1), (2, .int x2), (3, .int x3), (5, .int x5)] → WS D cA ad base s S H locs → W p l e rmX12_isGlue s m args below meth c H locs 0 0 (MQ below (QI D cA ad base S' r) args s 0 0 (aB base)) (F0 m 96 ls [.int t0]) := by
        intro x1 x2 x3 x5 t0 S H locs ls hf hl hw
        refine lv_istore (lv' := [(4, .int t0), (0, .ref (ad 63)), (1, .int x1), (2, .int x2), (3, .int x3), (5, .int x5)]) hx hb dX12_isGlue_96 hl (by decide) rfl (fun ls hl => ?_)
        refine lv_iinc (v := (x5 + (1 : Int32))) (lv' := [(5, .int (x5 + (1 : Int32))), (4, .int t0), (0, .ref (ad 63)), (1, .int x1), (2, .int x2), (3, .int x3)]) hx hb dX12_isGlue_98 hl (k := 5) rfl rfl (by decide) rfl (fun ls hl => ?_)
        refine lv_goto (tgt := 28) hx hb dX12_isGlue_101 (by decide) ?_
        exact ih_28 _ _ _ _ _ _ _ _ _ hf (lv_sub hl [2, 3, 4, 5, 1, 0] rfl) hw
      have J_91 : ∀ (x1 : Int32) (x2 : Int32) (x3 : Int32) (x5 : Int32) (S : St) (H : Heap) (locs : List Loc) (ls : Array Slot), fX12_isGlue_91 fu (fX12_isGlue_28 fu n_28) x1 x2 x3 x5 S = some (S', r) → lv_has ls 6 [(0, .ref (ad 63)), (1, .int x1), (2, .int x2), (3, .int x3), (5, .int x5)] → WS D cA ad base s S H locs → W p l e rmX12_isGlue s m args below meth c H locs 0 0 (MQ below (QI D cA ad base S' r) args s 0 0 (aB base)) (F0 m 91 ls []) := by
        intro x1 x2 x3 x5 S H locs ls hf hl hw
        refine lv_iconst (v := (1 : Int32)) hx hb dX12_isGlue_91 (by decide) ?_
        refine lv_goto (tgt := 96) hx hb dX12_isGlue_92 (by decide) ?_
        exact J_96 _ _ _ _ _ _ _ _ _ hf (lv_sub hl [0, 1, 2, 3, 4] rfl) hw
      have J_95 : ∀ (x1 : Int32) (x2 : Int32) (x3 : Int32) (x5 : Int32) (S : St) (H : Heap) (locs : List Loc) (ls : Array Slot), fX12_isGlue_95 fu (fX12_isGlue_28 fu n_28) x1 x2 x3 x5 S = some (S', r) → lv_has ls 6 [(0, .ref (ad 63)), (1, .int x1), (2, .int x2), (3, .int x3), (5, .int x5)] → WS D cA ad base s S H locs → W p l e rmX12_isGlue s m args below meth c H locs 0 0 (MQ below (QI D cA ad base S' r) args s 0 0 (aB base)) (F0 m 95 ls []) := by
        intro x1 x2 x3 x5 S H locs ls hf hl hw
        refine lv_iconst (v := (0 : Int32)) hx hb dX12_isGlue_95 (by decide) ?_
        exact J_96 _ _ _ _ _ _ _ _ _ hf (lv_sub hl [0, 1, 2, 3, 4] rfl) hw
      intro x1 x2 x3 x4 x5 S H locs ls hf hl hw
      rw [fX12_isGlue_28_s] at hf
      refine lv_iload hx hb dX12_isGlue_28 (lv_at hl 5 rfl) ?_
      refine lv_aload_n hx hb dX12_isGlue_30 rfl (lv_at hl 0 rfl) ?_
      refine r_getI C hw (k := 20) dq_63 ln_63 rfl vc_12 inX12 (by decide) rfl gw6_201 dX12_isGlue_31 ?_
      refine lv_icmp_ge (tgt := 104) hx hb dX12_isGlue_34 (by decide) (fun c_34 => ?_) (fun c_34 => ?_)
      · have hf := if_t hf c_34
        refine lv_iload hx hb dX12_isGlue_104 (lv_at hl 4 rfl) ?_
        obtain ⟨z_106, hf⟩ := gd_some hf
        exact r_zret C hw hr hlocks z_106 hf dX12_isGlue_106
      · have hf := if_f hf c_34
        refine lv_iload hx hb dX12_isGlue_37 (lv_at hl 4 rfl) ?_
        refine lv_if_ne (tgt := 91) hx hb dX12_isGlue_39 (by decide) (fun c_39 => ?_) (fun c_39 => ?_)
        · have hf := if_f hf c_39
          exact J_91 _ _ _ _ _ _ _ _ hf (lv_sub hl [0, 1, 2, 3, 5] rfl) hw
        · have hf := if_t hf c_39
          refine lv_aload_n hx hb dX12_isGlue_42 rfl (lv_at hl 0 rfl) ?_
          refine r_getR C hw (k := 15) (r := 74) dq_63 ln_63 rfl vc_12 inX12 (by decide) rfl gw6_196 dX12_isGlue_43 ?_
          refine lv_iload hx hb dX12_isGlue_46 (lv_at hl 5 rfl) ?_
          obtain ⟨z_48, hf⟩ := gd_some hf
          refine r_iald C hw (x := 74) dq_74 ln_74 z_48 dX12_isGlue_48 ?_
          refine lv_iload_n hx hb dX12_isGlue_49 rfl (lv_at hl 1 rfl) ?_
          refine lv_icmp_ne (tgt := 95) hx hb dX12_isGlue_50 (by decide) (fun c_50 => ?_) (fun c_50 => ?_)
          · have hf := if_f hf c_50
            exact J_95 _ _ _ _ _ _ _ _ hf (lv_sub hl [0, 1, 2, 3, 5] rfl) hw
          · have hf := if_t hf c_50
            refine lv_aload_n hx hb dX12_isGlue_53 rfl (lv_at hl 0 rfl) ?_
            refine r_getR C hw (k := 16) (r := 75) dq_63 ln_63 rfl vc_12 inX12 (by decide) rfl gw6_197 dX12_isGlue_54 ?_
            refine lv_iload hx hb dX12_isGlue_57 (lv_at hl 5 rfl) ?_
            obtain ⟨z_59, hf⟩ := gd_some hf
            refine r_iald C hw (x := 75) dq_75 ln_75 z_59 dX12_isGlue_59 ?_
            refine lv_iload_n hx hb dX12_isGlue_60 rfl (lv_at hl 2 rfl) ?_
            refine lv_icmp_ne (tgt := 95) hx hb dX12_isGlue_61 (by decide) (fun c_61 => ?_) (fun c_61 => ?_)
            · have hf := if_f hf c_61
              exact J_95 _ _ _ _ _ _ _ _ hf (lv_sub hl [0, 1, 2, 3, 5] rfl) hw
            · have hf := if_t hf c_61
              refine lv_aload_n hx hb dX12_isGlue_64 rfl (lv_at hl 0 rfl) ?_
              refine r_getR C hw (k := 17) (r := 76) dq_63 ln_63 rfl vc_12 inX12 (by decide) rfl gw6_198 dX12_isGlue_65 ?_
              refine lv_iload hx hb dX12_isGlue_68 (lv_at hl 5 rfl) ?_
              obtain ⟨z_70, hf⟩ := gd_some hf
              refine r_iald C hw (x := 76) dq_76 ln_76 z_70 dX12_isGlue_70 ?_
              refine lv_iconst (v := (2 : Int32)) hx hb dX12_isGlue_71 (by decide) ?_
              refine lv_icmp_ne (tgt := 95) hx hb dX12_isGlue_72 (by decide) (fun c_72 => ?_) (fun c_72 => ?_)
              · have hf := if_f hf c_72
                exact J_95 _ _ _ _ _ _ _ _ hf (lv_sub hl [0, 1, 2, 3, 5] rfl) hw
              · have hf := if_t hf c_72
                refine lv_aload_n hx hb dX12_isGlue_75 rfl (lv_at hl 0 rfl) ?_
                refine r_getR C hw (k := 18) (r := 77) dq_63 ln_63 rfl vc_12 inX12 (by decide) rfl gw6_199 dX12_isGlue_76 ?_
                refine lv_iload hx hb dX12_isGlue_79 (lv_at hl 5 rfl) ?_
                obtain ⟨z_81, hf⟩ := gd_some hf
                refine r_iald C hw (x := 77) dq_77 ln_77 z_81 dX12_isGlue_81 ?_
                refine lv_aload_n hx hb dX12_isGlue_82 rfl (lv_at hl 0 rfl) ?_
                refine r_getR C hw (k := 16) (r := 75) dq_63 ln_63 rfl vc_12 inX12 (by decide) rfl gw6_197 dX12_isGlue_83 ?_
                refine lv_iload_n hx hb dX12_isGlue_86 rfl (lv_at hl 3 rfl) ?_
                obtain ⟨z_87, hf⟩ := gd_some hf
                refine r_iald C hw (x := 75) dq_75 ln_75 z_87 dX12_isGlue_87 ?_
                refine lv_icmp_ne (tgt := 95) hx hb dX12_isGlue_88 (by decide) (fun c_88 => ?_) (fun c_88 => ?_)
                · have hf := if_f hf c_88
                  exact J_95 _ _ _ _ _ _ _ _ hf (lv_sub hl [0, 1, 2, 3, 5] rfl) hw
                · have hf := if_t hf c_88
                  exact J_91 _ _ _ _ _ _ _ _ hf (lv_sub hl [0, 1, 2, 3, 5] rfl) hw
  show W p l e rmX12_isGlue s m args below meth c s.heap [] 0 0 _ _
  refine lv_aload_n hx hb dX12_isGlue_0 rfl (lv_at hl 0 rfl) ?_
  refine r_getR C hw (k := 15) (r := 74) dq_63 ln_63 rfl vc_12 inX12 (by decide) rfl gw6_196 dX12_isGlue_1 ?_
  refine lv_iload_n hx hb dX12_isGlue_4 rfl (lv_at hl 3 rfl) ?_
  obtain ⟨z_5, hf⟩ := gd_some hf
  refine r_iald C hw (x := 74) dq_74 ln_74 z_5 dX12_isGlue_5 ?_
  refine lv_iload_n hx hb dX12_isGlue_6 rfl (lv_at hl 1 rfl) ?_
  refine lv_icmp_ne (tgt := 20) hx hb dX12_isGlue_7 (by decide) (fun c_7 => ?_) (fun c_7 => ?_)
  · have hf := if_f hf c_7
    refine lv_iconst (v := (0 : Int32)) hx hb dX12_isGlue_20 (by decide) ?_
    exact r_zret C hw hr hlocks rfl hf dX12_isGlue_21
  · have hf := if_t hf c_7
    refine lv_aload_n hx hb dX12_isGlue_10 rfl (lv_at hl 0 rfl) ?_
    refine r_getR C hw (k := 17) (r := 76) dq_63 ln_63 rfl vc_12 inX12 (by decide) rfl gw6_198 dX12_isGlue_11 ?_
    refine lv_iload_n hx hb dX12_isGlue_14 rfl (lv_at hl 3 rfl) ?_
    obtain ⟨z_15, hf⟩ := gd_some hf
    refine r_iald C hw (x := 76) dq_76 ln_76 z_15 dX12_isGlue_15 ?_
    refine lv_iconst (v := (1 : Int32)) hx hb dX12_isGlue_16 (by decide) ?_
    refine lv_icmp_eq (tgt := 22) hx hb dX12_isGlue_17 (by decide) (fun c_17 => ?_) (fun c_17 => ?_)
    · have hf := if_t hf c_17
      refine lv_iconst (v := (0 : Int32)) hx hb dX12_isGlue_22 (by decide) ?_
      refine lv_istore (lv' := [(4, .int (0 : Int32)), (0, .ref (ad 63)), (1, .int x1), (2, .int x2), (3, .int x3)]) hx hb dX12_isGlue_23 hl (by decide) rfl (fun ls hl => ?_)
      refine lv_iconst (v := (0 : Int32)) hx hb dX12_isGlue_25 (by decide) ?_
      refine lv_istore (lv' := [(5, .int (0 : Int32)), (4, .int (0 : Int32)), (0, .ref (ad 63)), (1, .int x1), (2, .int x2), (3, .int x3)]) hx hb dX12_isGlue_26 hl (by decide) rfl (fun ls hl => ?_)
      exact L_28 fu _ _ _ _ _ _ _ _ _ hf (lv_sub hl [2, 3, 4, 5, 1, 0] rfl) hw
    · have hf := if_f hf c_17
      refine lv_iconst (v := (0 : Int32)) hx hb dX12_isGlue_20 (by decide) ?_
      exact r_zret C hw hr hlocks rfl hf dX12_isGlue_21
noncomputable def fX12_refers_100 (fu : Nat) (k_74 : Int32 → Int32 → Int32 → St → Option (St × Int32)) (x1 : Int32) (x2 : Int32) (x8 : Int32) (S : St) : Option (St × Int32) :=
  k_74 x1 x2 (x8 + (1 : Int32)) S
noncomputable def fX12_refers_74 (fu : Nat) (n : Nat) : Int32 → Int32 → Int32 → St → Option (St × Int32) :=
  Nat.rec (motive := fun _ => Int32 → Int32 → Int32 → St → Option (St × Int32)) (fun _ _ _ _ => none) (fun _ k_74 x1 x2 x8 S =>
    if (S.1 63 20) ≤ x8 then
      some (S, (0 : Int32))
    else
      bd (fX12_isGlue fu x1 x2 x8 S) fun S_88 r_88 =>
      if r_88 = 0 then
        fX12_refers_100 fu k_74 x1 x2 x8 S_88
      else
        bd (fX12_putRecord fu x8 S_88) fun S_97 _ =>
        fX12_refers_100 fu k_74 x1 x2 x8 S_97) n
theorem fX12_refers_74_s (fu : Nat) (n : Nat) (x1 : Int32) (x2 : Int32) (x8 : Int32) (S : St) : fX12_refers_74 fu (n + 1) x1 x2 x8 S = (
    if (S.1 63 20) ≤ x8 then
      some (S, (0 : Int32))
    else
      bd (fX12_isGlue fu x1 x2 x8 S) fun S_88 r_88 =>
      if r_88 = 0 then
        fX12_refers_100 fu (fX12_refers_74 fu n) x1 x2 x8 S_88
      else
        bd (fX12_putRecord fu x8 S_88) fun S_97 _ =>
        fX12_refers_100 fu (fX12_refers_74 fu n) x1 x2 x8 S_97) := rfl
noncomputable def fX12_refers_33 (fu : Nat) (k_6 : Int32 → Int32 → Int32 → Int32 → Int32 → Int32 → Int32 → St → Option (St × Int32)) (x1 : Int32) (x2 : Int32) (x3 : Int32) (x4 : Int32) (x5 : Int32) (x7 : Int32) (t0 : Int32) (t1 : Int32) (S : St) : Option (St × Int32) :=
  k_6 x1 x2 x3 x4 x5 (t1 + t0) (x7 + (1 : Int32)) S
noncomputable def fX12_refers_6 (fu : Nat) (n : Nat) : Int32 → Int32 → Int32 → Int32 → Int32 → Int32 → Int32 → St → Option (St × Int32) :=
  Nat.rec (motive := fun _ => Int32 → Int32 → Int32 → Int32 → Int32 → Int32 → Int32 → St → Option (St × Int32)) (fun _ _ _ _ _ _ _ _ => none) (fun _ k_6 x1 x2 x3 x4 x5 x6 x7 S =>
    if (S.1 63 20) ≤ x7 then
      bd (fX12_tells fu x1 x2 (2 : Int32) (0 : Int32) S) fun S_47 r_47 =>
      bd (fX12_putTop fu x3 (0 : Int32) (0 : Int32) r_47 x6 x4 x5 S_47) fun S_64 _ =>
      bd (fX12_putTold fu S_64) fun S_68 _ =>
      fX12_refers_74 fu fu x1 x2 (0 : Int32) S_68
    else
      bd (fX12_isGlue fu x1 x2 x7 S) fun S_22 r_22 =>
      if r_22 = 0 then
        fX12_refers_33 fu k_6 x1 x2 x3 x4 x5 x7 (0 : Int32) x6 S_22
      else
        fX12_refers_33 fu k_6 x1 x2 x3 x4 x5 x7 (1 : Int32) x6 S_22) n
theorem fX12_refers_6_s (fu : Nat) (n : Nat) (x1 : Int32) (x2 : Int32) (x3 : Int32) (x4 : Int32) (x5 : Int32) (x6 : Int32) (x7 : Int32) (S : St) : fX12_refers_6 fu (n + 1) x1 x2 x3 x4 x5 x6 x7 S = (
    if (S.1 63 20) ≤ x7 then
      bd (fX12_tells fu x1 x2 (2 : Int32) (0 : Int32) S) fun S_47 r_47 =>
      bd (fX12_putTop fu x3 (0 : Int32) (0 : Int32) r_47 x6 x4 x5 S_47) fun S_64 _ =>
      bd (fX12_putTold fu S_64) fun S_68 _ =>
      fX12_refers_74 fu fu x1 x2 (0 : Int32) S_68
    else
      bd (fX12_isGlue fu x1 x2 x7 S) fun S_22 r_22 =>
      if r_22 = 0 then
        fX12_refers_33 fu (fX12_refers_6 fu n) x1 x2 x3 x4 x5 x7 (0 : Int32) x6 S_22
      else
        fX12_refers_33 fu (fX12_refers_6 fu n) x1 x2 x3 x4 x5 x7 (1 : Int32) x6 S_22) := rfl
noncomputable def fX12_refers (fu : Nat) (x1 : Int32) (x2 : Int32) (x3 : Int32) (x4 : Int32) (x5 : Int32) (S : St) : Option (St × Int32) :=
  fX12_refers_6 fu fu x1 x2 x3 x4 x5 (0 : Int32) (0 : Int32) S
theorem mvX12_refers : MV yX12_refers cX12_refers 9 none RX12 5 := ⟨gw8_55, gw8_54, gs_58, gw1_13, by decide +kernel⟩
def rmX12_refers : Room := { frames := 6, cells := 0, slots := 0, locals := 132 }
set_option maxHeartbeats 4000000 in
set_option maxRecDepth 100000 in
theorem m_X12_refers (l : Launch) (D : va_G) (cA : FieldType → ClassId) (ad : Nat → Nat) (base : Nat) (fu : Nat) {S S' : St} {x1 : Int32} {x2 : Int32} {x3 : Int32} {x4 : Int32} {x5 : Int32} {r : Int32} (hf : fX12_refers fu x1 x2 x3 x4 x5 S = some (S', r)) : Met l yX12_refers (GC yX12_refers cX12_refers 9 none) rmX12_refers (va_Pc [.ref (ad 63), .int x1, .int x2, .int x3, .int x4, .int x5] (wd D cA ad base S)) (QV D cA ad base S') 0 0 (aB base) := by
  refine Met.ofW (cc := cX12_refers) (maxL := 9) (ret := none) (by decide) rfl ?_
  intro p e s m args below meth c s₁ B hml hv
  obtain ⟨hargs, hwd⟩ := hv
  have hr := B.returns
  have hlocks := B.notSynchronized
  obtain ⟨C, hw⟩ := CX.of (own := RX12) rfl B hml hwd
  have hx := C.1
  have hb := C.2.1
  have hl := lv_entry ([.ref (ad 63), .int x1, .int x2, .int x3, .int x4, .int x5]) (n := 9) (Nat.le_of_ble_eq_true rfl)
  rw [show entryFrame m args 9 = entryFrame m ([.ref (ad 63), .int x1, .int x2, .int x3, .int x4, .int x5] : List Value).toArray 9 from by rw [hargs], lg_entry_eq]
  generalize (lg_sl ([.ref (ad 63), .int x1, .int x2, .int x3, .int x4, .int x5]) ++ List.replicate (9 - (lg_sl ([.ref (ad 63), .int x1, .int x2, .int x3, .int x4, .int x5])).length) Slot.unset).toArray = ls at hl ⊢
  have hl : lv_has ls 9 [(0, .ref (ad 63)), (1, .int x1), (2, .int x2), (3, .int x3), (4, .int x4), (5, .int x5)] := hl
  have L_74 : ∀ (n_74 : Nat) (x1 : Int32) (x2 : Int32) (x8 : Int32) (S : St) (H : Heap) (locs : List Loc) (ls : Array Slot), fX12_refers_74 fu n_74 x1 x2 x8 S = some (S', r) → lv_has ls 9 [(0, .ref (ad 63)), (1, .int x1), (2, .int x2), (8, .int x8)] → WS D cA ad base s S H locs → W p l e rmX12_refers s m args below meth c H locs 0 0 (MQ below (QV D cA ad base S') args s 0 0 (aB base)) (F0 m 74 ls []) := by
    intro n_74
    induction n_74 with
    | zero =>
      intro x1 x2 x8 S H locs ls hf hl hw
      exact (no_none hf).elim
    | succ n_74 ih_74 =>
      have J_100 : ∀ (x1 : Int32) (x2 : Int32) (x8 : Int32) (S : St) (H : Heap) (locs : List Loc) (ls : Array Slot), fX12_refers_100 fu (fX12_refers_74 fu n_74) x1 x2 x8 S = some (S', r) → lv_has ls 9 [(0, .ref (ad 63)), (1, .int x1), (2, .int x2), (8, .int x8)] → WS D cA ad base s S H locs → W p l e rmX12_refers s m args below meth c H locs 0 0 (MQ below (QV D cA ad base S') args s 0 0 (aB base)) (F0 m 100 ls []) := by
        intro x1 x2 x8 S H locs ls hf hl hw
        refine lv_iinc (v := (x8 + (1 : Int32))) (lv' := [(8, .int (x8 + (1 : Int32))), (0, .ref (ad 63)), (1, .int x1), (2, .int x2)]) hx hb dX12_refers_100 hl (k := 3) rfl rfl (by decide) rfl (fun ls hl => ?_)
        refine lv_goto (tgt := 74) hx hb dX12_refers_103 (by decide) ?_
        exact ih_74 _ _ _ _ _ _ _ hf (lv_sub hl [1, 2, 3, 0] rfl) hw
      intro x1 x2 x8 S H locs ls hf hl hw
      rw [fX12_refers_74_s] at hf
      refine lv_iload hx hb dX12_refers_74 (lv_at hl 3 rfl) ?_
      refine lv_aload_n hx hb dX12_refers_76 rfl (lv_at hl 0 rfl) ?_
      refine r_getI C hw (k := 20) dq_63 ln_63 rfl vc_12 inX12 (by decide) rfl gw6_201 dX12_refers_77 ?_
      refine lv_icmp_ge (tgt := 106) hx hb dX12_refers_80 (by decide) (fun c_80 => ?_) (fun c_80 => ?_)
      · have hf := if_t hf c_80
        exact r_vret C hw hr hlocks hf dX12_refers_106
      · have hf := if_f hf c_80
        refine lv_aload_n hx hb dX12_refers_83 rfl (lv_at hl 0 rfl) ?_
        refine lv_iload_n hx hb dX12_refers_84 rfl (lv_at hl 1 rfl) ?_
        refine lv_iload_n hx hb dX12_refers_85 rfl (lv_at hl 2 rfl) ?_
        refine lv_iload hx hb dX12_refers_86 (lv_at hl 3 rfl) ?_
        obtain ⟨S_88, r_88, h_88, hf⟩ := bd_some hf
        refine r_bi hw (r_runV (rest := []) C hw (m_X12_isGlue l D cA ad base fu h_88) mvX12_isGlue gw8_56 ⟨rfl, rfl, Nat.le_of_ble_eq_true rfl, Nat.le_of_ble_eq_true rfl⟩ dq_63 ln_63 vc_12 rfl hl.1 rfl (Nat.le_of_ble_eq_true rfl) dX12_refers_88 (Nat.zero_le _) (Nat.zero_le _)) (fun H locs hw => ?_)
        refine lv_if_eq (tgt := 100) hx hb dX12_refers_91 (by decide) (fun c_91 => ?_) (fun c_91 => ?_)
        · have hf := if_t hf c_91
          exact J_100 _ _ _ _ _ _ _ hf (lv_sub hl [0, 1, 2, 3] rfl) hw
        · have hf := if_f hf c_91
          refine lv_aload_n hx hb dX12_refers_94 rfl (lv_at hl 0 rfl) ?_
          refine lv_iload hx hb dX12_refers_95 (lv_at hl 3 rfl) ?_
          obtain ⟨S_97, r_97, h_97, hf⟩ := bd_some hf
          refine r_bv hw (r_runV (rest := []) C hw (m_X12_putRecord l D cA ad base fu h_97) mvX12_putRecord gw8_86 ⟨rfl, rfl, Nat.le_of_ble_eq_true rfl, Nat.le_of_ble_eq_true rfl⟩ dq_63 ln_63 vc_12 rfl hl.1 rfl (Nat.le_of_ble_eq_true rfl) dX12_refers_97 (Nat.zero_le _) (Nat.zero_le _)) (fun H locs hw => ?_)
          exact J_100 _ _ _ _ _ _ _ hf (lv_sub hl [0, 1, 2, 3] rfl) hw
  have L_6 : ∀ (n_6 : Nat) (x1 : Int32) (x2 : Int32) (x3 : Int32) (x4 : Int32) (x5 : Int32) (x6 : Int32) (x7 : Int32) (S : St) (H : Heap) (locs : List Loc) (ls : Array Slot), fX12_refers_6 fu n_6 x1 x2 x3 x4 x5 x6 x7 S = some (S', r) → lv_has ls 9 [(0, .ref (ad 63)), (1, .int x1), (2, .int x2), (3, .int x3), (4, .int x4), (5, .int x5), (6, .int x6), (7, .int x7)] → WS D cA ad base s S H locs → W p l e rmX12_refers s m args below meth c H locs 0 0 (MQ below (QV D cA ad base S') args s 0 0 (aB base)) (F0 m 6 ls []) := by
    intro n_6
    induction n_6 with
    | zero =>
      intro x1 x2 x3 x4 x5 x6 x7 S H locs ls hf hl hw
      exact (no_none hf).elim
    | succ n_6 ih_6 =>
      have J_33 : ∀ (x1 : Int32) (x2 : Int32) (x3 : Int32) (x4 : Int32) (x5 : Int32) (x7 : Int32) (t0 : Int32) (t1 : Int32) (S : St) (H : Heap) (locs : List Loc) (ls : Array Slot), fX12_refers_33 fu (fX12_refers_6 fu n_6) x1 x2 x3 x4 x5 x7 t0 t1 S = some (S', r) → lv_has ls 9 [(0, .ref (ad 63)), (1, .int x1), (2, .int x2), (3, .int x3), (4, .int x4), (5, .int x5), (7, .int x7)] → WS D cA ad base s S H locs → W p l e rmX12_refers s m args below meth c H locs 0 0 (MQ below (QV D cA ad base S') args s 0 0 (aB base)) (F0 m 33 ls [.int t0, .int t1]) := by
        intro x1 x2 x3 x4 x5 x7 t0 t1 S H locs ls hf hl hw
        refine lv_iadd hx hb dX12_refers_33 ?_
        refine lv_istore (lv' := [(6, .int (t1 + t0)), (0, .ref (ad 63)), (1, .int x1), (2, .int x2), (3, .int x3), (4, .int x4), (5, .int x5), (7, .int x7)]) hx hb dX12_refers_34 hl (by decide) rfl (fun ls hl => ?_)
        refine lv_iinc (v := (x7 + (1 : Int32))) (lv' := [(7, .int (x7 + (1 : Int32))), (6, .int (t1 + t0)), (0, .ref (ad 63)), (1, .int x1), (2, .int x2), (3, .int x3), (4, .int x4), (5, .int x5)]) hx hb dX12_refers_36 hl (k := 7) rfl rfl (by decide) rfl (fun ls hl => ?_)
        refine lv_goto (tgt := 6) hx hb dX12_refers_39 (by decide) ?_
        exact ih_6 _ _ _ _ _ _ _ _ _ _ _ hf (lv_sub hl [2, 3, 4, 5, 6, 7, 1, 0] rfl) hw
      intro x1 x2 x3 x4 x5 x6 x7 S H locs ls hf hl hw
      rw [fX12_refers_6_s] at hf
      refine lv_iload hx hb dX12_refers_6 (lv_at hl 7 rfl) ?_
      refine lv_aload_n hx hb dX12_refers_8 rfl (lv_at hl 0 rfl) ?_
      refine r_getI C hw (k := 20) dq_63 ln_63 rfl vc_12 inX12 (by decide) rfl gw6_201 dX12_refers_9 ?_
      refine lv_icmp_ge (tgt := 42) hx hb dX12_refers_12 (by decide) (fun c_12 => ?_) (fun c_12 => ?_)
      · have hf := if_t hf c_12
        refine lv_aload_n hx hb dX12_refers_42 rfl (lv_at hl 0 rfl) ?_
        refine lv_iload_n hx hb dX12_refers_43 rfl (lv_at hl 1 rfl) ?_
        refine lv_iload_n hx hb dX12_refers_44 rfl (lv_at hl 2 rfl) ?_
        refine lv_iconst (v := (2 : Int32)) hx hb dX12_refers_45 (by decide) ?_
        refine lv_iconst (v := (0 : Int32)) hx hb dX12_refers_46 (by decide) ?_
        obtain ⟨S_47, r_47, h_47, hf⟩ := bd_some hf
        refine r_bi hw (r_runV (rest := []) C hw (m_X12_tells l D cA ad base fu h_47) mvX12_tells gw8_60 ⟨rfl, rfl, Nat.le_of_ble_eq_true rfl, Nat.le_of_ble_eq_true rfl⟩ dq_63 ln_63 vc_12 rfl hl.1 rfl (Nat.le_of_ble_eq_true rfl) dX12_refers_47 (Nat.zero_le _) (Nat.zero_le _)) (fun H locs hw => ?_)
        refine lv_istore (lv' := [(7, .int r_47), (0, .ref (ad 63)), (1, .int x1), (2, .int x2), (3, .int x3), (4, .int x4), (5, .int x5), (6, .int x6)]) hx hb dX12_refers_50 hl (by decide) rfl (fun ls hl => ?_)
        refine lv_aload_n hx hb dX12_refers_52 rfl (lv_at hl 1 rfl) ?_
        refine lv_iload_n hx hb dX12_refers_53 rfl (lv_at hl 4 rfl) ?_
        refine lv_iconst (v := (0 : Int32)) hx hb dX12_refers_54 (by decide) ?_
        refine lv_iconst (v := (0 : Int32)) hx hb dX12_refers_55 (by decide) ?_
        refine lv_iload hx hb dX12_refers_56 (lv_at hl 0 rfl) ?_
        refine lv_iload hx hb dX12_refers_58 (lv_at hl 7 rfl) ?_
        refine lv_iload hx hb dX12_refers_60 (lv_at hl 5 rfl) ?_
        refine lv_iload hx hb dX12_refers_62 (lv_at hl 6 rfl) ?_
        obtain ⟨S_64, r_64, h_64, hf⟩ := bd_some hf
        refine r_bv hw (r_runV (rest := []) C hw (m_X12_putTop l D cA ad base fu h_64) mvX12_putTop gw8_64 ⟨rfl, rfl, Nat.le_of_ble_eq_true rfl, Nat.le_of_ble_eq_true rfl⟩ dq_63 ln_63 vc_12 rfl hl.1 rfl (Nat.le_of_ble_eq_true rfl) dX12_refers_64 (Nat.zero_le _) (Nat.zero_le _)) (fun H locs hw => ?_)
        refine lv_aload_n hx hb dX12_refers_67 rfl (lv_at hl 1 rfl) ?_
        obtain ⟨S_68, r_68, h_68, hf⟩ := bd_some hf
        refine r_bv hw (r_runV (rest := []) C hw (m_X12_putTold l D cA ad base fu h_68) mvX12_putTold gw8_82 ⟨rfl, rfl, Nat.le_of_ble_eq_true rfl, Nat.le_of_ble_eq_true rfl⟩ dq_63 ln_63 vc_12 rfl hl.1 rfl (Nat.le_of_ble_eq_true rfl) dX12_refers_68 (Nat.zero_le _) (Nat.zero_le _)) (fun H locs hw => ?_)
        refine lv_iconst (v := (0 : Int32)) hx hb dX12_refers_71 (by decide) ?_
        refine lv_istore (lv' := [(8, .int (0 : Int32)), (7, .int r_47), (0, .ref (ad 63)), (1, .int x1), (2, .int x2), (3, .int x3), (4, .int x4), (5, .int x5), (6, .int x6)]) hx hb dX12_refers_72 hl (by decide) rfl (fun ls hl => ?_)
        exact L_74 fu _ _ _ _ _ _ _ hf (lv_sub hl [2, 3, 4, 0] rfl) hw
      · have hf := if_f hf c_12
        refine lv_iload hx hb dX12_refers_15 (lv_at hl 6 rfl) ?_
        refine lv_aload_n hx hb dX12_refers_17 rfl (lv_at hl 0 rfl) ?_
        refine lv_iload_n hx hb dX12_refers_18 rfl (lv_at hl 1 rfl) ?_
        refine lv_iload_n hx hb dX12_refers_19 rfl (lv_at hl 2 rfl) ?_
        refine lv_iload hx hb dX12_refers_20 (lv_at hl 7 rfl) ?_
        obtain ⟨S_22, r_22, h_22, hf⟩ := bd_some hf
        refine r_bi hw (r_runV (rest := [.int x6]) C hw (m_X12_isGlue l D cA ad base fu h_22) mvX12_isGlue gw8_56 ⟨rfl, rfl, Nat.le_of_ble_eq_true rfl, Nat.le_of_ble_eq_true rfl⟩ dq_63 ln_63 vc_12 rfl hl.1 rfl (Nat.le_of_ble_eq_true rfl) dX12_refers_22 (Nat.zero_le _) (Nat.zero_le _)) (fun H locs hw => ?_)
        refine lv_if_eq (tgt := 32) hx hb dX12_refers_25 (by decide) (fun c_25 => ?_) (fun c_25 => ?_)
        · have hf := if_t hf c_25
          refine lv_iconst (v := (0 : Int32)) hx hb dX12_refers_32 (by decide) ?_
          exact J_33 _ _ _ _ _ _ _ _ _ _ _ _ hf (lv_sub hl [0, 1, 2, 3, 4, 5, 7] rfl) hw
        · have hf := if_f hf c_25
          refine lv_iconst (v := (1 : Int32)) hx hb dX12_refers_28 (by decide) ?_
          refine lv_goto (tgt := 33) hx hb dX12_refers_29 (by decide) ?_
          exact J_33 _ _ _ _ _ _ _ _ _ _ _ _ hf (lv_sub hl [0, 1, 2, 3, 4, 5, 7] rfl) hw
  show W p l e rmX12_refers s m args below meth c s.heap [] 0 0 _ _
  refine lv_iconst (v := (0 : Int32)) hx hb dX12_refers_0 (by decide) ?_
  refine lv_istore (lv' := [(6, .int (0 : Int32)), (0, .ref (ad 63)), (1, .int x1), (2, .int x2), (3, .int x3), (4, .int x4), (5, .int x5)]) hx hb dX12_refers_1 hl (by decide) rfl (fun ls hl => ?_)
  refine lv_iconst (v := (0 : Int32)) hx hb dX12_refers_3 (by decide) ?_
  refine lv_istore (lv' := [(7, .int (0 : Int32)), (6, .int (0 : Int32)), (0, .ref (ad 63)), (1, .int x1), (2, .int x2), (3, .int x3), (4, .int x4), (5, .int x5)]) hx hb dX12_refers_4 hl (by decide) rfl (fun ls hl => ?_)
  exact L_6 fu _ _ _ _ _ _ _ _ _ _ _ hf (lv_sub hl [2, 3, 4, 5, 6, 7, 1, 0] rfl) hw
